section
-- ===== PART A: goes FIRST, ahead of the names: the tables' words, and 'selects' of the private methods out of them =====
/-- a private method of a class that the tables say can be made, by its rows of tables_1 -/
def lw_okq (q : MethodName × Nat) : Prop := (q.1.cls ≠ "java/lang/invoke/MethodHandle" ∧ q.1.cls ≠ "java/lang/invoke/VarHandle") ∧ Cond.instantiable q.1.cls q.2 ∈ tables_1 ∧ Cond.privateMethod q.1 ∈ tables_1 ∧ Cond.instanceMethod q.1 ∈ tables_1
theorem lw_p0 : lw_okq (⟨"FarSums", "pullOf", "(III)J"⟩, 6) := ⟨⟨by decide +kernel, by decide +kernel⟩, List.mem_of_getElem? (i := 11) (by decide +kernel), List.mem_of_getElem? (i := 309) (by decide +kernel), List.mem_of_getElem? (i := 310) (by decide +kernel)⟩
theorem lw_p1 : lw_okq (⟨"FarSums$Trail", "visit", "(III)V"⟩, 9) := ⟨⟨by decide +kernel, by decide +kernel⟩, List.mem_of_getElem? (i := 124) (by decide +kernel), List.mem_of_getElem? (i := 328) (by decide +kernel), List.mem_of_getElem? (i := 329) (by decide +kernel)⟩
theorem lw_p2 : lw_okq (⟨"FarSums$Trail", "isFar", "(III)Z"⟩, 9) := ⟨⟨by decide +kernel, by decide +kernel⟩, List.mem_of_getElem? (i := 124) (by decide +kernel), List.mem_of_getElem? (i := 336) (by decide +kernel), List.mem_of_getElem? (i := 337) (by decide +kernel)⟩
theorem lw_p3 : lw_okq (⟨"FarSums$Trail", "note", "(III)V"⟩, 9) := ⟨⟨by decide +kernel, by decide +kernel⟩, List.mem_of_getElem? (i := 124) (by decide +kernel), List.mem_of_getElem? (i := 350) (by decide +kernel), List.mem_of_getElem? (i := 351) (by decide +kernel)⟩
theorem lw_p4 : lw_okq (⟨"FarSums$Trail", "notePoints", "(III)V"⟩, 9) := ⟨⟨by decide +kernel, by decide +kernel⟩, List.mem_of_getElem? (i := 124) (by decide +kernel), List.mem_of_getElem? (i := 359) (by decide +kernel), List.mem_of_getElem? (i := 360) (by decide +kernel)⟩
theorem lw_p5 : lw_okq (⟨"FarSums", "about", "(III)J"⟩, 6) := ⟨⟨by decide +kernel, by decide +kernel⟩, List.mem_of_getElem? (i := 11) (by decide +kernel), List.mem_of_getElem? (i := 367) (by decide +kernel), List.mem_of_getElem? (i := 368) (by decide +kernel)⟩
theorem lw_p6 : lw_okq (⟨"FarSums", "termOf", "(IIII)J"⟩, 6) := ⟨⟨by decide +kernel, by decide +kernel⟩, List.mem_of_getElem? (i := 11) (by decide +kernel), List.mem_of_getElem? (i := 371) (by decide +kernel), List.mem_of_getElem? (i := 372) (by decide +kernel)⟩
theorem lw_p7 : lw_okq (⟨"FarSums$Boxes", "addMoments", "(III)V"⟩, 5) := ⟨⟨by decide +kernel, by decide +kernel⟩, List.mem_of_getElem? (i := 63) (by decide +kernel), List.mem_of_getElem? (i := 381) (by decide +kernel), List.mem_of_getElem? (i := 382) (by decide +kernel)⟩
theorem lw_p8 : lw_okq (⟨"FarSums$Series", "addTermParts", "(IIJ[JI)V"⟩, 2) := ⟨⟨by decide +kernel, by decide +kernel⟩, List.mem_of_getElem? (i := 107) (by decide +kernel), List.mem_of_getElem? (i := 396) (by decide +kernel), List.mem_of_getElem? (i := 397) (by decide +kernel)⟩
theorem lw_p9 : lw_okq (⟨"FarSums", "wholeEnd", "(III)J"⟩, 6) := ⟨⟨by decide +kernel, by decide +kernel⟩, List.mem_of_getElem? (i := 11) (by decide +kernel), List.mem_of_getElem? (i := 411) (by decide +kernel), List.mem_of_getElem? (i := 412) (by decide +kernel)⟩
theorem lw_p10 : lw_okq (⟨"FarSums", "endOf", "(IIII)J"⟩, 6) := ⟨⟨by decide +kernel, by decide +kernel⟩, List.mem_of_getElem? (i := 11) (by decide +kernel), List.mem_of_getElem? (i := 415) (by decide +kernel), List.mem_of_getElem? (i := 416) (by decide +kernel)⟩
theorem lw_p11 : lw_okq (⟨"FarSums$Series", "addEndParts", "(IIJII)V"⟩, 2) := ⟨⟨by decide +kernel, by decide +kernel⟩, List.mem_of_getElem? (i := 107) (by decide +kernel), List.mem_of_getElem? (i := 426) (by decide +kernel), List.mem_of_getElem? (i := 427) (by decide +kernel)⟩
theorem lw_p12 : lw_okq (⟨"FarSums$Points", "rankKey", "(III)I"⟩, 7) := ⟨⟨by decide +kernel, by decide +kernel⟩, List.mem_of_getElem? (i := 19) (by decide +kernel), List.mem_of_getElem? (i := 480) (by decide +kernel), List.mem_of_getElem? (i := 481) (by decide +kernel)⟩
theorem lw_p13 : lw_okq (⟨"FarSums$Motion", "findPushes", "()V"⟩, 6) := ⟨⟨by decide +kernel, by decide +kernel⟩, List.mem_of_getElem? (i := 162) (by decide +kernel), List.mem_of_getElem? (i := 492) (by decide +kernel), List.mem_of_getElem? (i := 493) (by decide +kernel)⟩
theorem lw_p14 : lw_okq (⟨"FarSums$Motion", "wholeSum", "(II)J"⟩, 6) := ⟨⟨by decide +kernel, by decide +kernel⟩, List.mem_of_getElem? (i := 162) (by decide +kernel), List.mem_of_getElem? (i := 498) (by decide +kernel), List.mem_of_getElem? (i := 499) (by decide +kernel)⟩
theorem lw_p15 : lw_okq (⟨"FarSums$Motion", "addPushes", "(I)V"⟩, 6) := ⟨⟨by decide +kernel, by decide +kernel⟩, List.mem_of_getElem? (i := 162) (by decide +kernel), List.mem_of_getElem? (i := 512) (by decide +kernel), List.mem_of_getElem? (i := 513) (by decide +kernel)⟩
def lw_privs_1 : List (MethodName × Nat) := [(⟨"FarSums", "pullOf", "(III)J"⟩, 6), (⟨"FarSums$Trail", "visit", "(III)V"⟩, 9), (⟨"FarSums$Trail", "isFar", "(III)Z"⟩, 9), (⟨"FarSums$Trail", "note", "(III)V"⟩, 9), (⟨"FarSums$Trail", "notePoints", "(III)V"⟩, 9), (⟨"FarSums", "about", "(III)J"⟩, 6), (⟨"FarSums", "termOf", "(IIII)J"⟩, 6), (⟨"FarSums$Boxes", "addMoments", "(III)V"⟩, 5), (⟨"FarSums$Series", "addTermParts", "(IIJ[JI)V"⟩, 2), (⟨"FarSums", "wholeEnd", "(III)J"⟩, 6), (⟨"FarSums", "endOf", "(IIII)J"⟩, 6), (⟨"FarSums$Series", "addEndParts", "(IIJII)V"⟩, 2), (⟨"FarSums$Points", "rankKey", "(III)I"⟩, 7), (⟨"FarSums$Motion", "findPushes", "()V"⟩, 6), (⟨"FarSums$Motion", "wholeSum", "(II)J"⟩, 6), (⟨"FarSums$Motion", "addPushes", "(I)V"⟩, 6)]
theorem lw_r1 : ∀ q ∈ lw_privs_1, lw_okq q := List.forall_mem_cons.mpr ⟨lw_p0, List.forall_mem_cons.mpr ⟨lw_p1, List.forall_mem_cons.mpr ⟨lw_p2, List.forall_mem_cons.mpr ⟨lw_p3, List.forall_mem_cons.mpr ⟨lw_p4, List.forall_mem_cons.mpr ⟨lw_p5, List.forall_mem_cons.mpr ⟨lw_p6, List.forall_mem_cons.mpr ⟨lw_p7, List.forall_mem_cons.mpr ⟨lw_p8, List.forall_mem_cons.mpr ⟨lw_p9, List.forall_mem_cons.mpr ⟨lw_p10, List.forall_mem_cons.mpr ⟨lw_p11, List.forall_mem_cons.mpr ⟨lw_p12, List.forall_mem_cons.mpr ⟨lw_p13, List.forall_mem_cons.mpr ⟨lw_p14, List.forall_mem_cons.mpr ⟨lw_p15, fun _ h => absurd h List.not_mem_nil⟩⟩⟩⟩⟩⟩⟩⟩⟩⟩⟩⟩⟩⟩⟩⟩
theorem lw_p16 : lw_okq (⟨"FarSums$Motion", "shiftPlaces", "(I)V"⟩, 6) := ⟨⟨by decide +kernel, by decide +kernel⟩, List.mem_of_getElem? (i := 162) (by decide +kernel), List.mem_of_getElem? (i := 517) (by decide +kernel), List.mem_of_getElem? (i := 518) (by decide +kernel)⟩
theorem lw_p17 : lw_okq (⟨"FarSums", "digestPoints", "(J)J"⟩, 6) := ⟨⟨by decide +kernel, by decide +kernel⟩, List.mem_of_getElem? (i := 11) (by decide +kernel), List.mem_of_getElem? (i := 555) (by decide +kernel), List.mem_of_getElem? (i := 556) (by decide +kernel)⟩
theorem lw_p18 : lw_okq (⟨"FarSums", "digestFactors", "(J)J"⟩, 6) := ⟨⟨by decide +kernel, by decide +kernel⟩, List.mem_of_getElem? (i := 11) (by decide +kernel), List.mem_of_getElem? (i := 559) (by decide +kernel), List.mem_of_getElem? (i := 560) (by decide +kernel)⟩
theorem lw_p19 : lw_okq (⟨"FarSums", "digestBoxes", "(J)J"⟩, 6) := ⟨⟨by decide +kernel, by decide +kernel⟩, List.mem_of_getElem? (i := 11) (by decide +kernel), List.mem_of_getElem? (i := 563) (by decide +kernel), List.mem_of_getElem? (i := 564) (by decide +kernel)⟩
theorem lw_p20 : lw_okq (⟨"FarSums", "digestMoments", "(JIII)J"⟩, 6) := ⟨⟨by decide +kernel, by decide +kernel⟩, List.mem_of_getElem? (i := 11) (by decide +kernel), List.mem_of_getElem? (i := 567) (by decide +kernel), List.mem_of_getElem? (i := 568) (by decide +kernel)⟩
theorem lw_p21 : lw_okq (⟨"FarSumsModel", "isPoint", "(I)Z"⟩, 20) := ⟨⟨by decide +kernel, by decide +kernel⟩, List.mem_of_getElem? (i := 571) (by decide +kernel), List.mem_of_getElem? (i := 655) (by decide +kernel), List.mem_of_getElem? (i := 656) (by decide +kernel)⟩
theorem lw_p22 : lw_okq (⟨"FarSumsModel", "many", "()I"⟩, 20) := ⟨⟨by decide +kernel, by decide +kernel⟩, List.mem_of_getElem? (i := 571) (by decide +kernel), List.mem_of_getElem? (i := 660) (by decide +kernel), List.mem_of_getElem? (i := 661) (by decide +kernel)⟩
theorem lw_p23 : lw_okq (⟨"FarSumsModel", "sumAt", "(II)J"⟩, 20) := ⟨⟨by decide +kernel, by decide +kernel⟩, List.mem_of_getElem? (i := 571) (by decide +kernel), List.mem_of_getElem? (i := 700) (by decide +kernel), List.mem_of_getElem? (i := 701) (by decide +kernel)⟩
theorem lw_p24 : lw_okq (⟨"FarSumsModel", "pull", "(III)J"⟩, 20) := ⟨⟨by decide +kernel, by decide +kernel⟩, List.mem_of_getElem? (i := 571) (by decide +kernel), List.mem_of_getElem? (i := 704) (by decide +kernel), List.mem_of_getElem? (i := 705) (by decide +kernel)⟩
theorem lw_p25 : lw_okq (⟨"FarSumsModel", "isBox", "(III)Z"⟩, 20) := ⟨⟨by decide +kernel, by decide +kernel⟩, List.mem_of_getElem? (i := 571) (by decide +kernel), List.mem_of_getElem? (i := 717) (by decide +kernel), List.mem_of_getElem? (i := 718) (by decide +kernel)⟩
theorem lw_p26 : lw_okq (⟨"FarSumsModel", "isSplit", "(III)Z"⟩, 20) := ⟨⟨by decide +kernel, by decide +kernel⟩, List.mem_of_getElem? (i := 571) (by decide +kernel), List.mem_of_getElem? (i := 722) (by decide +kernel), List.mem_of_getElem? (i := 723) (by decide +kernel)⟩
theorem lw_p27 : lw_okq (⟨"FarSumsModel", "pointsIn", "(III)I"⟩, 20) := ⟨⟨by decide +kernel, by decide +kernel⟩, List.mem_of_getElem? (i := 571) (by decide +kernel), List.mem_of_getElem? (i := 726) (by decide +kernel), List.mem_of_getElem? (i := 727) (by decide +kernel)⟩
theorem lw_p28 : lw_okq (⟨"FarSumsModel", "isIn", "(IIII)Z"⟩, 20) := ⟨⟨by decide +kernel, by decide +kernel⟩, List.mem_of_getElem? (i := 571) (by decide +kernel), List.mem_of_getElem? (i := 730) (by decide +kernel), List.mem_of_getElem? (i := 731) (by decide +kernel)⟩
theorem lw_p29 : lw_okq (⟨"FarSumsModel", "bulk", "(III)J"⟩, 20) := ⟨⟨by decide +kernel, by decide +kernel⟩, List.mem_of_getElem? (i := 571) (by decide +kernel), List.mem_of_getElem? (i := 735) (by decide +kernel), List.mem_of_getElem? (i := 736) (by decide +kernel)⟩
theorem lw_p30 : lw_okq (⟨"FarSumsModel", "momentOf", "(IIIII)J"⟩, 20) := ⟨⟨by decide +kernel, by decide +kernel⟩, List.mem_of_getElem? (i := 571) (by decide +kernel), List.mem_of_getElem? (i := 743) (by decide +kernel), List.mem_of_getElem? (i := 744) (by decide +kernel)⟩
theorem lw_p31 : lw_okq (⟨"FarSumsModel", "goAcross", "(IIII)V"⟩, 20) := ⟨⟨by decide +kernel, by decide +kernel⟩, List.mem_of_getElem? (i := 571) (by decide +kernel), List.mem_of_getElem? (i := 759) (by decide +kernel), List.mem_of_getElem? (i := 760) (by decide +kernel)⟩
def lw_privs_2 : List (MethodName × Nat) := [(⟨"FarSums$Motion", "shiftPlaces", "(I)V"⟩, 6), (⟨"FarSums", "digestPoints", "(J)J"⟩, 6), (⟨"FarSums", "digestFactors", "(J)J"⟩, 6), (⟨"FarSums", "digestBoxes", "(J)J"⟩, 6), (⟨"FarSums", "digestMoments", "(JIII)J"⟩, 6), (⟨"FarSumsModel", "isPoint", "(I)Z"⟩, 20), (⟨"FarSumsModel", "many", "()I"⟩, 20), (⟨"FarSumsModel", "sumAt", "(II)J"⟩, 20), (⟨"FarSumsModel", "pull", "(III)J"⟩, 20), (⟨"FarSumsModel", "isBox", "(III)Z"⟩, 20), (⟨"FarSumsModel", "isSplit", "(III)Z"⟩, 20), (⟨"FarSumsModel", "pointsIn", "(III)I"⟩, 20), (⟨"FarSumsModel", "isIn", "(IIII)Z"⟩, 20), (⟨"FarSumsModel", "bulk", "(III)J"⟩, 20), (⟨"FarSumsModel", "momentOf", "(IIIII)J"⟩, 20), (⟨"FarSumsModel", "goAcross", "(IIII)V"⟩, 20)]
theorem lw_r2 : ∀ q ∈ lw_privs_2, lw_okq q := List.forall_mem_cons.mpr ⟨lw_p16, List.forall_mem_cons.mpr ⟨lw_p17, List.forall_mem_cons.mpr ⟨lw_p18, List.forall_mem_cons.mpr ⟨lw_p19, List.forall_mem_cons.mpr ⟨lw_p20, List.forall_mem_cons.mpr ⟨lw_p21, List.forall_mem_cons.mpr ⟨lw_p22, List.forall_mem_cons.mpr ⟨lw_p23, List.forall_mem_cons.mpr ⟨lw_p24, List.forall_mem_cons.mpr ⟨lw_p25, List.forall_mem_cons.mpr ⟨lw_p26, List.forall_mem_cons.mpr ⟨lw_p27, List.forall_mem_cons.mpr ⟨lw_p28, List.forall_mem_cons.mpr ⟨lw_p29, List.forall_mem_cons.mpr ⟨lw_p30, List.forall_mem_cons.mpr ⟨lw_p31, fun _ h => absurd h List.not_mem_nil⟩⟩⟩⟩⟩⟩⟩⟩⟩⟩⟩⟩⟩⟩⟩⟩
theorem lw_p32 : lw_okq (⟨"FarSumsModel", "term", "(IIIIII)J"⟩, 20) := ⟨⟨by decide +kernel, by decide +kernel⟩, List.mem_of_getElem? (i := 571) (by decide +kernel), List.mem_of_getElem? (i := 766) (by decide +kernel), List.mem_of_getElem? (i := 767) (by decide +kernel)⟩
theorem lw_p33 : lw_okq (⟨"FarSumsModel", "endOf", "(IIIIII)J"⟩, 20) := ⟨⟨by decide +kernel, by decide +kernel⟩, List.mem_of_getElem? (i := 571) (by decide +kernel), List.mem_of_getElem? (i := 773) (by decide +kernel), List.mem_of_getElem? (i := 774) (by decide +kernel)⟩
theorem lw_p34 : lw_okq (⟨"FarSumsModel", "goes", "(III)V"⟩, 20) := ⟨⟨by decide +kernel, by decide +kernel⟩, List.mem_of_getElem? (i := 571) (by decide +kernel), List.mem_of_getElem? (i := 777) (by decide +kernel), List.mem_of_getElem? (i := 778) (by decide +kernel)⟩
theorem lw_p35 : lw_okq (⟨"FarSumsModel", "farOf", "(III)I"⟩, 20) := ⟨⟨by decide +kernel, by decide +kernel⟩, List.mem_of_getElem? (i := 571) (by decide +kernel), List.mem_of_getElem? (i := 793) (by decide +kernel), List.mem_of_getElem? (i := 794) (by decide +kernel)⟩
theorem lw_p36 : lw_okq (⟨"FarSumsModel", "goOn", "()V"⟩, 20) := ⟨⟨by decide +kernel, by decide +kernel⟩, List.mem_of_getElem? (i := 571) (by decide +kernel), List.mem_of_getElem? (i := 802) (by decide +kernel), List.mem_of_getElem? (i := 803) (by decide +kernel)⟩
theorem lw_p37 : lw_okq (⟨"FarSumsModel", "findPushes", "()V"⟩, 20) := ⟨⟨by decide +kernel, by decide +kernel⟩, List.mem_of_getElem? (i := 571) (by decide +kernel), List.mem_of_getElem? (i := 806) (by decide +kernel), List.mem_of_getElem? (i := 807) (by decide +kernel)⟩
theorem lw_p38 : lw_okq (⟨"FarSumsModel", "goBack", "()V"⟩, 20) := ⟨⟨by decide +kernel, by decide +kernel⟩, List.mem_of_getElem? (i := 571) (by decide +kernel), List.mem_of_getElem? (i := 817) (by decide +kernel), List.mem_of_getElem? (i := 818) (by decide +kernel)⟩
def lw_privs_3 : List (MethodName × Nat) := [(⟨"FarSumsModel", "term", "(IIIIII)J"⟩, 20), (⟨"FarSumsModel", "endOf", "(IIIIII)J"⟩, 20), (⟨"FarSumsModel", "goes", "(III)V"⟩, 20), (⟨"FarSumsModel", "farOf", "(III)I"⟩, 20), (⟨"FarSumsModel", "goOn", "()V"⟩, 20), (⟨"FarSumsModel", "findPushes", "()V"⟩, 20), (⟨"FarSumsModel", "goBack", "()V"⟩, 20)]
theorem lw_r3 : ∀ q ∈ lw_privs_3, lw_okq q := List.forall_mem_cons.mpr ⟨lw_p32, List.forall_mem_cons.mpr ⟨lw_p33, List.forall_mem_cons.mpr ⟨lw_p34, List.forall_mem_cons.mpr ⟨lw_p35, List.forall_mem_cons.mpr ⟨lw_p36, List.forall_mem_cons.mpr ⟨lw_p37, List.forall_mem_cons.mpr ⟨lw_p38, fun _ h => absurd h List.not_mem_nil⟩⟩⟩⟩⟩⟩⟩
def lw_privs : List (MethodName × Nat) := lw_privs_1 ++ (lw_privs_2 ++ (lw_privs_3))
def lw_tbl : List Cond := k2_sels lw_privs ++ tables_1
theorem lw_privs_ok : ∀ q ∈ lw_privs, lw_okq q := by
  show ∀ q ∈ lw_privs_1 ++ (lw_privs_2 ++ (lw_privs_3)), lw_okq q
  exact List.forall_mem_append.mpr ⟨lw_r1, List.forall_mem_append.mpr ⟨lw_r2, lw_r3⟩⟩
def RX0 : String := "FarSums$Boxes"
def TX0 : u_T := fun k => match k with
  | 0 => ("FarSums$Boxes", "points", "LFarSums$Points;", true)
  | 1 => ("FarSums$Boxes", "tally", "[I", true)
  | 2 => ("FarSums$Boxes", "room", "I", false)
  | 3 => ("FarSums$Boxes", "moments", "[J", true)
  | _ => ("FarSums$Boxes", "bulk", "I", false)
def tyX0 : Nat → FieldType := fun k => match k with
  | 0 => .object "FarSums$Points"
  | 1 => .array .int
  | 2 => .int
  | 3 => .array .long
  | _ => .int
abbrev wsX00 : List Cond := u_ws RX0 TX0 5
theorem nmX0 : ∀ a, a < 5 → ∀ b, b < 5 → a ≠ b → (TX0 a).2.1 ≠ (TX0 b).2.1 := by decide +kernel
theorem tyX0_ok : ∀ k, k < 5 → parseFieldDescriptor (TX0 k).2.2.1 = some (tyX0 k) := by decide +kernel
abbrev cX0_init : ByteArray := prog_2_method_1_code
def yX0_init : MethodName := ⟨RX0, "<init>", "(LFarSums$Points;)V"⟩
abbrev cX0_enter : ByteArray := prog_2_method_2_code
def yX0_enter : MethodName := ⟨RX0, "enter", "(II)V"⟩
abbrev cX0_leave : ByteArray := prog_2_method_3_code
def yX0_leave : MethodName := ⟨RX0, "leave", "(II)V"⟩
abbrev cX0_pointsIn : ByteArray := prog_2_method_4_code
def yX0_pointsIn : MethodName := ⟨RX0, "pointsIn", "(III)I"⟩
abbrev cX0_isThere : ByteArray := prog_2_method_5_code
def yX0_isThere : MethodName := ⟨RX0, "isThere", "(III)Z"⟩
abbrev cX0_isSplit : ByteArray := prog_2_method_6_code
def yX0_isSplit : MethodName := ⟨RX0, "isSplit", "(III)Z"⟩
abbrev cX0_splitBoxes : ByteArray := prog_2_method_7_code
def yX0_splitBoxes : MethodName := ⟨RX0, "splitBoxes", "()I"⟩
abbrev cX0_greatestLevel : ByteArray := prog_2_method_8_code
def yX0_greatestLevel : MethodName := ⟨RX0, "greatestLevel", "()I"⟩
abbrev cX0_leafLevel : ByteArray := prog_2_method_9_code
def yX0_leafLevel : MethodName := ⟨RX0, "leafLevel", "(II)I"⟩
abbrev cX0_holds : ByteArray := prog_2_method_10_code
def yX0_holds : MethodName := ⟨RX0, "holds", "(IIII)Z"⟩
abbrev cX0_gather : ByteArray := prog_2_method_11_code
def yX0_gather : MethodName := ⟨RX0, "gather", "(III)V"⟩
abbrev cX0_addMoments : ByteArray := prog_2_method_12_code
def yX0_addMoments : MethodName := ⟨RX0, "addMoments", "(III)V"⟩
abbrev cX0_numberAt : ByteArray := prog_2_method_13_code
def yX0_numberAt : MethodName := ⟨RX0, "numberAt", "(II)I"⟩
abbrev cX0_placeIndex : ByteArray := prog_2_method_14_code
def yX0_placeIndex : MethodName := ⟨RX0, "placeIndex", "(III)I"⟩
abbrev cX0_boxIndex : ByteArray := prog_2_method_15_code
def yX0_boxIndex : MethodName := ⟨RX0, "boxIndex", "(III)I"⟩
def RX1 : String := "FarSums$Motion"
def TX1 : u_T := fun k => match k with
  | 0 => ("FarSums$Motion", "points", "LFarSums$Points;", true)
  | 1 => ("FarSums$Motion", "boxes", "LFarSums$Boxes;", true)
  | 2 => ("FarSums$Motion", "series", "LFarSums$Series;", true)
  | 3 => ("FarSums$Motion", "pushX", "[I", true)
  | 4 => ("FarSums$Motion", "pushY", "[I", true)
  | _ => ("FarSums$Motion", "steps", "I", false)
def tyX1 : Nat → FieldType := fun k => match k with
  | 0 => .object "FarSums$Points"
  | 1 => .object "FarSums$Boxes"
  | 2 => .object "FarSums$Series"
  | 3 => .array .int
  | 4 => .array .int
  | _ => .int
abbrev wsX10 : List Cond := u_ws RX1 TX1 6
theorem nmX1 : ∀ a, a < 6 → ∀ b, b < 6 → a ≠ b → (TX1 a).2.1 ≠ (TX1 b).2.1 := by decide +kernel
theorem tyX1_ok : ∀ k, k < 6 → parseFieldDescriptor (TX1 k).2.2.1 = some (tyX1 k) := by decide +kernel
abbrev cX1_init : ByteArray := prog_3_method_1_code
def yX1_init : MethodName := ⟨RX1, "<init>", "(LFarSums$Points;LFarSums$Boxes;LFarSums$Series;)V"⟩
abbrev cX1_forth : ByteArray := prog_3_method_2_code
def yX1_forth : MethodName := ⟨RX1, "forth", "()V"⟩
abbrev cX1_back : ByteArray := prog_3_method_3_code
def yX1_back : MethodName := ⟨RX1, "back", "()V"⟩
abbrev cX1_findPushes : ByteArray := prog_3_method_4_code
def yX1_findPushes : MethodName := ⟨RX1, "findPushes", "()V"⟩
abbrev cX1_wholeSum : ByteArray := prog_3_method_5_code
def yX1_wholeSum : MethodName := ⟨RX1, "wholeSum", "(II)J"⟩
abbrev cX1_pushOf : ByteArray := prog_3_method_6_code
def yX1_pushOf : MethodName := ⟨RX1, "pushOf", "(J)I"⟩
abbrev cX1_addPushes : ByteArray := prog_3_method_7_code
def yX1_addPushes : MethodName := ⟨RX1, "addPushes", "(I)V"⟩
abbrev cX1_shiftPlaces : ByteArray := prog_3_method_8_code
def yX1_shiftPlaces : MethodName := ⟨RX1, "shiftPlaces", "(I)V"⟩
def RX2 : String := "FarSums$Points"
def TX2 : u_T := fun k => match k with
  | 0 => ("FarSums$Points", "here", "[Z", true)
  | 1 => ("FarSums$Points", "x", "[I", true)
  | 2 => ("FarSums$Points", "y", "[I", true)
  | 3 => ("FarSums$Points", "weight", "[I", true)
  | 4 => ("FarSums$Points", "paceX", "[I", true)
  | 5 => ("FarSums$Points", "paceY", "[I", true)
  | _ => ("FarSums$Points", "number", "I", false)
def tyX2 : Nat → FieldType := fun k => match k with
  | 0 => .array .boolean
  | 1 => .array .int
  | 2 => .array .int
  | 3 => .array .int
  | 4 => .array .int
  | 5 => .array .int
  | _ => .int
abbrev wsX20 : List Cond := u_ws RX2 TX2 7
theorem nmX2 : ∀ a, a < 7 → ∀ b, b < 7 → a ≠ b → (TX2 a).2.1 ≠ (TX2 b).2.1 := by decide +kernel
theorem tyX2_ok : ∀ k, k < 7 → parseFieldDescriptor (TX2 k).2.2.1 = some (tyX2 k) := by decide +kernel
abbrev cX2_init : ByteArray := prog_4_method_1_code
def yX2_init : MethodName := ⟨RX2, "<init>", "()V"⟩
abbrev cX2_has : ByteArray := prog_4_method_2_code
def yX2_has : MethodName := ⟨RX2, "has", "(I)Z"⟩
abbrev cX2_leastFree : ByteArray := prog_4_method_3_code
def yX2_leastFree : MethodName := ⟨RX2, "leastFree", "()I"⟩
abbrev cX2_add : ByteArray := prog_4_method_4_code
def yX2_add : MethodName := ⟨RX2, "add", "(IIII)V"⟩
abbrev cX2_remove : ByteArray := prog_4_method_5_code
def yX2_remove : MethodName := ⟨RX2, "remove", "(I)V"⟩
abbrev cX2_put : ByteArray := prog_4_method_6_code
def yX2_put : MethodName := ⟨RX2, "put", "(III)V"⟩
abbrev cX2_setPace : ByteArray := prog_4_method_7_code
def yX2_setPace : MethodName := ⟨RX2, "setPace", "(III)V"⟩
abbrev cX2_read : ByteArray := prog_4_method_8_code
def yX2_read : MethodName := ⟨RX2, "read", "(II)I"⟩
abbrev cX2_wholeBulk : ByteArray := prog_4_method_9_code
def yX2_wholeBulk : MethodName := ⟨RX2, "wholeBulk", "()I"⟩
abbrev cX2_nearerThan : ByteArray := prog_4_method_10_code
def yX2_nearerThan : MethodName := ⟨RX2, "nearerThan", "(III)I"⟩
abbrev cX2_rankKey : ByteArray := prog_4_method_11_code
def yX2_rankKey : MethodName := ⟨RX2, "rankKey", "(III)I"⟩
def RX3 : String := "FarSums$Polynomial"
def TX3 : u_T := fun k => match k with
  | _ => ("FarSums$Polynomial", "numbers", "[J", true)
def tyX3 : Nat → FieldType := fun k => match k with
  | _ => .array .long
abbrev wsX30 : List Cond := u_ws RX3 TX3 1
theorem nmX3 : ∀ a, a < 1 → ∀ b, b < 1 → a ≠ b → (TX3 a).2.1 ≠ (TX3 b).2.1 := by decide +kernel
theorem tyX3_ok : ∀ k, k < 1 → parseFieldDescriptor (TX3 k).2.2.1 = some (tyX3 k) := by decide +kernel
abbrev cX3_init : ByteArray := prog_5_method_1_code
def yX3_init : MethodName := ⟨RX3, "<init>", "()V"⟩
abbrev cX3_get : ByteArray := prog_5_method_2_code
def yX3_get : MethodName := ⟨RX3, "get", "(II)J"⟩
abbrev cX3_set : ByteArray := prog_5_method_3_code
def yX3_set : MethodName := ⟨RX3, "set", "(IIJ)V"⟩
abbrev cX3_add : ByteArray := prog_5_method_4_code
def yX3_add : MethodName := ⟨RX3, "add", "(IIJ)V"⟩
abbrev cX3_clear : ByteArray := prog_5_method_5_code
def yX3_clear : MethodName := ⟨RX3, "clear", "()V"⟩
abbrev cX3_valueAt : ByteArray := prog_5_method_6_code
def yX3_valueAt : MethodName := ⟨RX3, "valueAt", "(JJ)J"⟩
def RX4 : String := "FarSums$Series"
def TX4 : u_T := fun k => match k with
  | 0 => ("FarSums$Series", "factors", "LFarSums$Polynomial;", true)
  | _ => ("FarSums$Series", "result", "LFarSums$Polynomial;", true)
def tyX4 : Nat → FieldType := fun k => match k with
  | 0 => .object "FarSums$Polynomial"
  | _ => .object "FarSums$Polynomial"
abbrev wsX40 : List Cond := u_ws RX4 TX4 2
theorem nmX4 : ∀ a, a < 2 → ∀ b, b < 2 → a ≠ b → (TX4 a).2.1 ≠ (TX4 b).2.1 := by decide +kernel
theorem tyX4_ok : ∀ k, k < 2 → parseFieldDescriptor (TX4 k).2.2.1 = some (tyX4 k) := by decide +kernel
abbrev cX4_init : ByteArray := prog_6_method_1_code
def yX4_init : MethodName := ⟨RX4, "<init>", "(LFarSums$Polynomial;)V"⟩
abbrev cX4_expandTerm : ByteArray := prog_6_method_2_code
def yX4_expandTerm : MethodName := ⟨RX4, "expandTerm", "([JI)V"⟩
abbrev cX4_expandEnd : ByteArray := prog_6_method_3_code
def yX4_expandEnd : MethodName := ⟨RX4, "expandEnd", "(JII)V"⟩
abbrev cX4_addTermParts : ByteArray := prog_6_method_4_code
def yX4_addTermParts : MethodName := ⟨RX4, "addTermParts", "(IIJ[JI)V"⟩
abbrev cX4_addEndParts : ByteArray := prog_6_method_5_code
def yX4_addEndParts : MethodName := ⟨RX4, "addEndParts", "(IIJII)V"⟩
abbrev cX4_waysToChoose : ByteArray := prog_6_method_6_code
def yX4_waysToChoose : MethodName := ⟨RX4, "waysToChoose", "(IIII)J"⟩
abbrev cX4_power : ByteArray := prog_6_method_7_code
def yX4_power : MethodName := ⟨RX4, "power", "(JI)J"⟩
def RX5 : String := "FarSums$Trail"
def TX5 : u_T := fun k => match k with
  | 0 => ("FarSums$Trail", "points", "LFarSums$Points;", true)
  | 1 => ("FarSums$Trail", "boxes", "LFarSums$Boxes;", true)
  | 2 => ("FarSums$Trail", "level", "[I", true)
  | 3 => ("FarSums$Trail", "first", "[I", true)
  | 4 => ("FarSums$Trail", "second", "[I", true)
  | 5 => ("FarSums$Trail", "length", "I", false)
  | 6 => ("FarSums$Trail", "placeX", "I", false)
  | 7 => ("FarSums$Trail", "placeY", "I", false)
  | _ => ("FarSums$Trail", "distance", "I", false)
def tyX5 : Nat → FieldType := fun k => match k with
  | 0 => .object "FarSums$Points"
  | 1 => .object "FarSums$Boxes"
  | 2 => .array .int
  | 3 => .array .int
  | 4 => .array .int
  | 5 => .int
  | 6 => .int
  | 7 => .int
  | _ => .int
abbrev wsX50 : List Cond := u_ws RX5 TX5 9
theorem nmX5 : ∀ a, a < 9 → ∀ b, b < 9 → a ≠ b → (TX5 a).2.1 ≠ (TX5 b).2.1 := by decide +kernel
theorem tyX5_ok : ∀ k, k < 9 → parseFieldDescriptor (TX5 k).2.2.1 = some (tyX5 k) := by decide +kernel
abbrev cX5_init : ByteArray := prog_7_method_1_code
def yX5_init : MethodName := ⟨RX5, "<init>", "(LFarSums$Points;LFarSums$Boxes;)V"⟩
abbrev cX5_trace : ByteArray := prog_7_method_2_code
def yX5_trace : MethodName := ⟨RX5, "trace", "(III)V"⟩
abbrev cX5_read : ByteArray := prog_7_method_3_code
def yX5_read : MethodName := ⟨RX5, "read", "(II)I"⟩
abbrev cX5_visit : ByteArray := prog_7_method_4_code
def yX5_visit : MethodName := ⟨RX5, "visit", "(III)V"⟩
abbrev cX5_isFar : ByteArray := prog_7_method_5_code
def yX5_isFar : MethodName := ⟨RX5, "isFar", "(III)Z"⟩
abbrev cX5_notePoints : ByteArray := prog_7_method_6_code
def yX5_notePoints : MethodName := ⟨RX5, "notePoints", "(III)V"⟩
abbrev cX5_note : ByteArray := prog_7_method_7_code
def yX5_note : MethodName := ⟨RX5, "note", "(III)V"⟩
def RX6 : String := "FarSums"
def TX6 : u_T := fun k => match k with
  | 0 => ("FarSums", "points", "LFarSums$Points;", true)
  | 1 => ("FarSums", "boxes", "LFarSums$Boxes;", true)
  | 2 => ("FarSums", "factors", "LFarSums$Polynomial;", true)
  | 3 => ("FarSums", "series", "LFarSums$Series;", true)
  | 4 => ("FarSums", "trail", "LFarSums$Trail;", true)
  | _ => ("FarSums", "motion", "LFarSums$Motion;", true)
def tyX6 : Nat → FieldType := fun k => match k with
  | 0 => .object "FarSums$Points"
  | 1 => .object "FarSums$Boxes"
  | 2 => .object "FarSums$Polynomial"
  | 3 => .object "FarSums$Series"
  | 4 => .object "FarSums$Trail"
  | _ => .object "FarSums$Motion"
abbrev wsX60 : List Cond := u_ws RX6 TX6 6
theorem nmX6 : ∀ a, a < 6 → ∀ b, b < 6 → a ≠ b → (TX6 a).2.1 ≠ (TX6 b).2.1 := by decide +kernel
theorem tyX6_ok : ∀ k, k < 6 → parseFieldDescriptor (TX6 k).2.2.1 = some (tyX6 k) := by decide +kernel
abbrev cX6_init : ByteArray := prog_1_method_1_code
def yX6_init : MethodName := ⟨RX6, "<init>", "()V"⟩
abbrev cX6_point : ByteArray := prog_1_method_2_code
def yX6_point : MethodName := ⟨RX6, "point", "(III)I"⟩
abbrev cX6_take : ByteArray := prog_1_method_3_code
def yX6_take : MethodName := ⟨RX6, "take", "(I)I"⟩
abbrev cX6_move : ByteArray := prog_1_method_4_code
def yX6_move : MethodName := ⟨RX6, "move", "(III)I"⟩
abbrev cX6_weigh : ByteArray := prog_1_method_5_code
def yX6_weigh : MethodName := ⟨RX6, "weigh", "(II)I"⟩
abbrev cX6_pace : ByteArray := prog_1_method_6_code
def yX6_pace : MethodName := ⟨RX6, "pace", "(III)I"⟩
abbrev cX6_at : ByteArray := prog_1_method_7_code
def yX6_at : MethodName := ⟨RX6, "at", "(II)I"⟩
abbrev cX6_kernel : ByteArray := prog_1_method_8_code
def yX6_kernel : MethodName := ⟨RX6, "kernel", "(III)I"⟩
abbrev cX6_capacity : ByteArray := prog_1_method_9_code
def yX6_capacity : MethodName := ⟨RX6, "capacity", "(I)I"⟩
abbrev cX6_sum : ByteArray := prog_1_method_10_code
def yX6_sum : MethodName := ⟨RX6, "sum", "(II)J"⟩
abbrev cX6_across : ByteArray := prog_1_method_11_code
def yX6_across : MethodName := ⟨RX6, "across", "(IIIII)J"⟩
abbrev cX6_order : ByteArray := prog_1_method_12_code
def yX6_order : MethodName := ⟨RX6, "order", "(IIIJ)I"⟩
abbrev cX6_way : ByteArray := prog_1_method_13_code
def yX6_way : MethodName := ⟨RX6, "way", "(IIIII)I"⟩
abbrev cX6_box : ByteArray := prog_1_method_14_code
def yX6_box : MethodName := ⟨RX6, "box", "(IIII)I"⟩
abbrev cX6_moment : ByteArray := prog_1_method_15_code
def yX6_moment : MethodName := ⟨RX6, "moment", "(IIIII)J"⟩
abbrev cX6_leaf : ByteArray := prog_1_method_16_code
def yX6_leaf : MethodName := ⟨RX6, "leaf", "(II)I"⟩
abbrev cX6_nearest : ByteArray := prog_1_method_17_code
def yX6_nearest : MethodName := ⟨RX6, "nearest", "(III)I"⟩
abbrev cX6_step : ByteArray := prog_1_method_18_code
def yX6_step : MethodName := ⟨RX6, "step", "(I)I"⟩
abbrev cX6_count : ByteArray := prog_1_method_19_code
def yX6_count : MethodName := ⟨RX6, "count", "(I)I"⟩
abbrev cX6_digest : ByteArray := prog_1_method_20_code
def yX6_digest : MethodName := ⟨RX6, "digest", "()J"⟩
abbrev cX6_digestPoints : ByteArray := prog_1_method_21_code
def yX6_digestPoints : MethodName := ⟨RX6, "digestPoints", "(J)J"⟩
abbrev cX6_digestFactors : ByteArray := prog_1_method_22_code
def yX6_digestFactors : MethodName := ⟨RX6, "digestFactors", "(J)J"⟩
abbrev cX6_digestBoxes : ByteArray := prog_1_method_23_code
def yX6_digestBoxes : MethodName := ⟨RX6, "digestBoxes", "(J)J"⟩
abbrev cX6_digestMoments : ByteArray := prog_1_method_24_code
def yX6_digestMoments : MethodName := ⟨RX6, "digestMoments", "(JIII)J"⟩
abbrev cX6_pullOf : ByteArray := prog_1_method_25_code
def yX6_pullOf : MethodName := ⟨RX6, "pullOf", "(III)J"⟩
abbrev cX6_about : ByteArray := prog_1_method_26_code
def yX6_about : MethodName := ⟨RX6, "about", "(III)J"⟩
abbrev cX6_wholeEnd : ByteArray := prog_1_method_27_code
def yX6_wholeEnd : MethodName := ⟨RX6, "wholeEnd", "(III)J"⟩
abbrev cX6_termOf : ByteArray := prog_1_method_28_code
def yX6_termOf : MethodName := ⟨RX6, "termOf", "(IIII)J"⟩
abbrev cX6_endOf : ByteArray := prog_1_method_29_code
def yX6_endOf : MethodName := ⟨RX6, "endOf", "(IIII)J"⟩
abbrev cX6_isPlace : ByteArray := prog_1_method_30_code
def yX6_isPlace : MethodName := ⟨RX6, "isPlace", "(II)Z"⟩
abbrev cX6_isWeight : ByteArray := prog_1_method_31_code
def yX6_isWeight : MethodName := ⟨RX6, "isWeight", "(I)Z"⟩
abbrev cX6_isPaceNumber : ByteArray := prog_1_method_32_code
def yX6_isPaceNumber : MethodName := ⟨RX6, "isPaceNumber", "(I)Z"⟩
abbrev cX6_isDistance : ByteArray := prog_1_method_33_code
def yX6_isDistance : MethodName := ⟨RX6, "isDistance", "(I)Z"⟩
abbrev cX6_isPowers : ByteArray := prog_1_method_34_code
def yX6_isPowers : MethodName := ⟨RX6, "isPowers", "(II)Z"⟩
abbrev cX6_slot : ByteArray := prog_1_method_35_code
def yX6_slot : MethodName := ⟨RX6, "slot", "(II)I"⟩
abbrev cX6_sideOf : ByteArray := prog_1_method_36_code
def yX6_sideOf : MethodName := ⟨RX6, "sideOf", "(I)I"⟩
abbrev cX6_fromMiddle : ByteArray := prog_1_method_37_code
def yX6_fromMiddle : MethodName := ⟨RX6, "fromMiddle", "(III)I"⟩
abbrev cX6_wrapPace : ByteArray := prog_1_method_38_code
def yX6_wrapPace : MethodName := ⟨RX6, "wrapPace", "(J)I"⟩
abbrev cX6_wrapPlace : ByteArray := prog_1_method_39_code
def yX6_wrapPlace : MethodName := ⟨RX6, "wrapPlace", "(I)I"⟩
def RX7 : String := "FarSumsModel"
def TX7 : u_T := fun k => match k with
  | 0 => ("FarSumsModel", "there", "[Z", true)
  | 1 => ("FarSumsModel", "px", "[I", true)
  | 2 => ("FarSumsModel", "py", "[I", true)
  | 3 => ("FarSumsModel", "weight", "[I", true)
  | 4 => ("FarSumsModel", "vx", "[I", true)
  | 5 => ("FarSumsModel", "vy", "[I", true)
  | 6 => ("FarSumsModel", "kernel", "[I", true)
  | 7 => ("FarSumsModel", "most", "I", false)
  | 8 => ("FarSumsModel", "steps", "I", false)
  | 9 => ("FarSumsModel", "stackLevel", "[I", true)
  | 10 => ("FarSumsModel", "stackI", "[I", true)
  | 11 => ("FarSumsModel", "stackJ", "[I", true)
  | 12 => ("FarSumsModel", "wayLevel", "[I", true)
  | 13 => ("FarSumsModel", "wayI", "[I", true)
  | 14 => ("FarSumsModel", "wayJ", "[I", true)
  | 15 => ("FarSumsModel", "wayMany", "I", false)
  | 16 => ("FarSumsModel", "about", "J", false)
  | 17 => ("FarSumsModel", "end", "J", false)
  | 18 => ("FarSumsModel", "pushX", "[I", true)
  | _ => ("FarSumsModel", "pushY", "[I", true)
def tyX7 : Nat → FieldType := fun k => match k with
  | 0 => .array .boolean
  | 1 => .array .int
  | 2 => .array .int
  | 3 => .array .int
  | 4 => .array .int
  | 5 => .array .int
  | 6 => .array .int
  | 7 => .int
  | 8 => .int
  | 9 => .array .int
  | 10 => .array .int
  | 11 => .array .int
  | 12 => .array .int
  | 13 => .array .int
  | 14 => .array .int
  | 15 => .int
  | 16 => .long
  | 17 => .long
  | 18 => .array .int
  | _ => .array .int
abbrev wsX70 : List Cond := u_ws RX7 TX7 20
theorem nmX7 : ∀ a, a < 20 → ∀ b, b < 20 → a ≠ b → (TX7 a).2.1 ≠ (TX7 b).2.1 := by decide +kernel
theorem tyX7_ok : ∀ k, k < 20 → parseFieldDescriptor (TX7 k).2.2.1 = some (tyX7 k) := by decide +kernel
abbrev cX7_init : ByteArray := prog_9_method_1_code
def yX7_init : MethodName := ⟨RX7, "<init>", "()V"⟩
abbrev cX7_in : ByteArray := prog_9_method_3_code
def yX7_in : MethodName := ⟨RX7, "in", "(JJJ)Z"⟩
abbrev cX7_isPlace : ByteArray := prog_9_method_4_code
def yX7_isPlace : MethodName := ⟨RX7, "isPlace", "(II)Z"⟩
abbrev cX7_isPoint : ByteArray := prog_9_method_5_code
def yX7_isPoint : MethodName := ⟨RX7, "isPoint", "(I)Z"⟩
abbrev cX7_many : ByteArray := prog_9_method_6_code
def yX7_many : MethodName := ⟨RX7, "many", "()I"⟩
abbrev cX7_point : ByteArray := prog_9_method_7_code
def yX7_point : MethodName := ⟨RX7, "point", "(III)I"⟩
abbrev cX7_take : ByteArray := prog_9_method_8_code
def yX7_take : MethodName := ⟨RX7, "take", "(I)I"⟩
abbrev cX7_move : ByteArray := prog_9_method_9_code
def yX7_move : MethodName := ⟨RX7, "move", "(III)I"⟩
abbrev cX7_weigh : ByteArray := prog_9_method_10_code
def yX7_weigh : MethodName := ⟨RX7, "weigh", "(II)I"⟩
abbrev cX7_pace : ByteArray := prog_9_method_11_code
def yX7_pace : MethodName := ⟨RX7, "pace", "(III)I"⟩
abbrev cX7_at : ByteArray := prog_9_method_12_code
def yX7_at : MethodName := ⟨RX7, "at", "(II)I"⟩
abbrev cX7_isPair : ByteArray := prog_9_method_13_code
def yX7_isPair : MethodName := ⟨RX7, "isPair", "(II)Z"⟩
abbrev cX7_kernel : ByteArray := prog_9_method_14_code
def yX7_kernel : MethodName := ⟨RX7, "kernel", "(III)I"⟩
abbrev cX7_capacity : ByteArray := prog_9_method_15_code
def yX7_capacity : MethodName := ⟨RX7, "capacity", "(I)I"⟩
abbrev cX7_power : ByteArray := prog_9_method_16_code
def yX7_power : MethodName := ⟨RX7, "power", "(JI)J"⟩
abbrev cX7_pull : ByteArray := prog_9_method_17_code
def yX7_pull : MethodName := ⟨RX7, "pull", "(III)J"⟩
abbrev cX7_sumAt : ByteArray := prog_9_method_18_code
def yX7_sumAt : MethodName := ⟨RX7, "sumAt", "(II)J"⟩
abbrev cX7_sum : ByteArray := prog_9_method_19_code
def yX7_sum : MethodName := ⟨RX7, "sum", "(II)J"⟩
abbrev cX7_isIn : ByteArray := prog_9_method_20_code
def yX7_isIn : MethodName := ⟨RX7, "isIn", "(IIII)Z"⟩
abbrev cX7_pointsIn : ByteArray := prog_9_method_21_code
def yX7_pointsIn : MethodName := ⟨RX7, "pointsIn", "(III)I"⟩
abbrev cX7_bulk : ByteArray := prog_9_method_22_code
def yX7_bulk : MethodName := ⟨RX7, "bulk", "(III)J"⟩
abbrev cX7_isSplit : ByteArray := prog_9_method_23_code
def yX7_isSplit : MethodName := ⟨RX7, "isSplit", "(III)Z"⟩
abbrev cX7_isBox : ByteArray := prog_9_method_24_code
def yX7_isBox : MethodName := ⟨RX7, "isBox", "(III)Z"⟩
abbrev cX7_middle : ByteArray := prog_9_method_25_code
def yX7_middle : MethodName := ⟨RX7, "middle", "(II)I"⟩
abbrev cX7_momentOf : ByteArray := prog_9_method_26_code
def yX7_momentOf : MethodName := ⟨RX7, "momentOf", "(IIIII)J"⟩
abbrev cX7_box : ByteArray := prog_9_method_27_code
def yX7_box : MethodName := ⟨RX7, "box", "(IIII)I"⟩
abbrev cX7_moment : ByteArray := prog_9_method_28_code
def yX7_moment : MethodName := ⟨RX7, "moment", "(IIIII)J"⟩
abbrev cX7_leaf : ByteArray := prog_9_method_29_code
def yX7_leaf : MethodName := ⟨RX7, "leaf", "(II)I"⟩
abbrev cX7_choose : ByteArray := prog_9_method_30_code
def yX7_choose : MethodName := ⟨RX7, "choose", "(II)J"⟩
abbrev cX7_term : ByteArray := prog_9_method_31_code
def yX7_term : MethodName := ⟨RX7, "term", "(IIIIII)J"⟩
abbrev cX7_size : ByteArray := prog_9_method_32_code
def yX7_size : MethodName := ⟨RX7, "size", "(J)J"⟩
abbrev cX7_endOf : ByteArray := prog_9_method_33_code
def yX7_endOf : MethodName := ⟨RX7, "endOf", "(IIIIII)J"⟩
abbrev cX7_goes : ByteArray := prog_9_method_34_code
def yX7_goes : MethodName := ⟨RX7, "goes", "(III)V"⟩
abbrev cX7_goAcross : ByteArray := prog_9_method_35_code
def yX7_goAcross : MethodName := ⟨RX7, "goAcross", "(IIII)V"⟩
abbrev cX7_across : ByteArray := prog_9_method_36_code
def yX7_across : MethodName := ⟨RX7, "across", "(IIIII)J"⟩
abbrev cX7_order : ByteArray := prog_9_method_37_code
def yX7_order : MethodName := ⟨RX7, "order", "(IIIJ)I"⟩
abbrev cX7_way : ByteArray := prog_9_method_38_code
def yX7_way : MethodName := ⟨RX7, "way", "(IIIII)I"⟩
abbrev cX7_farOf : ByteArray := prog_9_method_39_code
def yX7_farOf : MethodName := ⟨RX7, "farOf", "(III)I"⟩
abbrev cX7_nearest : ByteArray := prog_9_method_40_code
def yX7_nearest : MethodName := ⟨RX7, "nearest", "(III)I"⟩
abbrev cX7_push : ByteArray := prog_9_method_41_code
def yX7_push : MethodName := ⟨RX7, "push", "(JJ)I"⟩
abbrev cX7_findPushes : ByteArray := prog_9_method_42_code
def yX7_findPushes : MethodName := ⟨RX7, "findPushes", "()V"⟩
abbrev cX7_brought : ByteArray := prog_9_method_43_code
def yX7_brought : MethodName := ⟨RX7, "brought", "(I)I"⟩
abbrev cX7_goOn : ByteArray := prog_9_method_44_code
def yX7_goOn : MethodName := ⟨RX7, "goOn", "()V"⟩
abbrev cX7_goBack : ByteArray := prog_9_method_45_code
def yX7_goBack : MethodName := ⟨RX7, "goBack", "()V"⟩
abbrev cX7_step : ByteArray := prog_9_method_46_code
def yX7_step : MethodName := ⟨RX7, "step", "(I)I"⟩
abbrev cX7_count : ByteArray := prog_9_method_47_code
def yX7_count : MethodName := ⟨RX7, "count", "(I)I"⟩
abbrev cX7_digest : ByteArray := prog_9_method_48_code
def yX7_digest : MethodName := ⟨RX7, "digest", "()J"⟩
def RJ9 : String := "java/lang/Math"
abbrev cJ9_abs_0f7a4 : ByteArray := prog_10_method_59_code
def yJ9_abs_0f7a4 : MethodName := ⟨RJ9, "abs", "(I)I"⟩
abbrev cJ9_abs_067f4 : ByteArray := prog_10_method_61_code
def yJ9_abs_067f4 : MethodName := ⟨RJ9, "abs", "(J)J"⟩
abbrev cJ9_max_7cf53 : ByteArray := prog_10_method_65_code
def yJ9_max_7cf53 : MethodName := ⟨RJ9, "max", "(II)I"⟩
def RL : String := "FarSumsLaw"
abbrev cL_law : ByteArray := code
def yL_law : MethodName := ⟨RL, "law", "([I)Z"⟩
abbrev vwCl : List vw_C := [(RX0, TX0, 5), (RX1, TX1, 6), (RX2, TX2, 7), (RX3, TX3, 1), (RX4, TX4, 2), (RX5, TX5, 9), (RX6, TX6, 6), (RX7, TX7, 20)]
end
section
theorem dX0_init_0 : decode cX0_init 0 = .ok (.aload_n 0, 1) := by decide +kernel
theorem dX0_init_1 : decode cX0_init 1 = .ok (.invokespecial 3, 3) := by decide +kernel
theorem dX0_init_4 : decode cX0_init 4 = .ok (.aload_n 0, 1) := by decide +kernel
theorem dX0_init_5 : decode cX0_init 5 = .ok (.sipush 1365, 3) := by decide +kernel
theorem dX0_init_8 : decode cX0_init 8 = .ok (.newarray .int, 2) := by decide +kernel
theorem dX0_init_10 : decode cX0_init 10 = .ok (.putfield 9, 3) := by decide +kernel
theorem dX0_init_13 : decode cX0_init 13 = .ok (.aload_n 0, 1) := by decide +kernel
theorem dX0_init_14 : decode cX0_init 14 = .ok (.iconst 2, 1) := by decide +kernel
theorem dX0_init_15 : decode cX0_init 15 = .ok (.putfield 15, 3) := by decide +kernel
theorem dX0_init_18 : decode cX0_init 18 = .ok (.aload_n 0, 1) := by decide +kernel
theorem dX0_init_19 : decode cX0_init 19 = .ok (.bipush 25, 2) := by decide +kernel
theorem dX0_init_21 : decode cX0_init 21 = .ok (.newarray .long, 2) := by decide +kernel
theorem dX0_init_23 : decode cX0_init 23 = .ok (.putfield 19, 3) := by decide +kernel
theorem dX0_init_26 : decode cX0_init 26 = .ok (.aload_n 0, 1) := by decide +kernel
theorem dX0_init_27 : decode cX0_init 27 = .ok (.iconst 0, 1) := by decide +kernel
theorem dX0_init_28 : decode cX0_init 28 = .ok (.putfield 23, 3) := by decide +kernel
theorem dX0_init_31 : decode cX0_init 31 = .ok (.aload_n 0, 1) := by decide +kernel
theorem dX0_init_32 : decode cX0_init 32 = .ok (.aload_n 1, 1) := by decide +kernel
theorem dX0_init_33 : decode cX0_init 33 = .ok (.putfield 26, 3) := by decide +kernel
theorem dX0_init_36 : decode cX0_init 36 = .ok (.return_, 1) := by decide +kernel
theorem dX0_enter_0 : decode cX0_enter 0 = .ok (.iconst 0, 1) := by decide +kernel
theorem dX0_enter_1 : decode cX0_enter 1 = .ok (.istore_n 3, 1) := by decide +kernel
theorem dX0_enter_2 : decode cX0_enter 2 = .ok (.iload_n 3, 1) := by decide +kernel
theorem dX0_enter_3 : decode cX0_enter 3 = .ok (.iconst 5, 1) := by decide +kernel
theorem dX0_enter_4 : decode cX0_enter 4 = .ok (.if_icmp .gt 24, 3) := by decide +kernel
theorem dX0_enter_7 : decode cX0_enter 7 = .ok (.aload_n 0, 1) := by decide +kernel
theorem dX0_enter_8 : decode cX0_enter 8 = .ok (.getfield 9, 3) := by decide +kernel
theorem dX0_enter_11 : decode cX0_enter 11 = .ok (.iload_n 3, 1) := by decide +kernel
theorem dX0_enter_12 : decode cX0_enter 12 = .ok (.iload_n 1, 1) := by decide +kernel
theorem dX0_enter_13 : decode cX0_enter 13 = .ok (.iload_n 2, 1) := by decide +kernel
theorem dX0_enter_14 : decode cX0_enter 14 = .ok (.invokestatic 30, 3) := by decide +kernel
theorem dX0_enter_17 : decode cX0_enter 17 = .ok (.dup2, 1) := by decide +kernel
theorem dX0_enter_18 : decode cX0_enter 18 = .ok (.iaload, 1) := by decide +kernel
theorem dX0_enter_19 : decode cX0_enter 19 = .ok (.iconst 1, 1) := by decide +kernel
theorem dX0_enter_20 : decode cX0_enter 20 = .ok (.iadd, 1) := by decide +kernel
theorem dX0_enter_21 : decode cX0_enter 21 = .ok (.iastore, 1) := by decide +kernel
theorem dX0_enter_22 : decode cX0_enter 22 = .ok (.iinc 3 1, 3) := by decide +kernel
theorem dX0_enter_25 : decode cX0_enter 25 = .ok (.goto (-23), 3) := by decide +kernel
theorem dX0_enter_28 : decode cX0_enter 28 = .ok (.return_, 1) := by decide +kernel
theorem dX0_leave_0 : decode cX0_leave 0 = .ok (.iconst 0, 1) := by decide +kernel
theorem dX0_leave_1 : decode cX0_leave 1 = .ok (.istore_n 3, 1) := by decide +kernel
theorem dX0_leave_2 : decode cX0_leave 2 = .ok (.iload_n 3, 1) := by decide +kernel
theorem dX0_leave_3 : decode cX0_leave 3 = .ok (.iconst 5, 1) := by decide +kernel
theorem dX0_leave_4 : decode cX0_leave 4 = .ok (.if_icmp .gt 24, 3) := by decide +kernel
theorem dX0_leave_7 : decode cX0_leave 7 = .ok (.aload_n 0, 1) := by decide +kernel
theorem dX0_leave_8 : decode cX0_leave 8 = .ok (.getfield 9, 3) := by decide +kernel
theorem dX0_leave_11 : decode cX0_leave 11 = .ok (.iload_n 3, 1) := by decide +kernel
theorem dX0_leave_12 : decode cX0_leave 12 = .ok (.iload_n 1, 1) := by decide +kernel
theorem dX0_leave_13 : decode cX0_leave 13 = .ok (.iload_n 2, 1) := by decide +kernel
theorem dX0_leave_14 : decode cX0_leave 14 = .ok (.invokestatic 30, 3) := by decide +kernel
theorem dX0_leave_17 : decode cX0_leave 17 = .ok (.dup2, 1) := by decide +kernel
theorem dX0_leave_18 : decode cX0_leave 18 = .ok (.iaload, 1) := by decide +kernel
theorem dX0_leave_19 : decode cX0_leave 19 = .ok (.iconst 1, 1) := by decide +kernel
theorem dX0_leave_20 : decode cX0_leave 20 = .ok (.isub, 1) := by decide +kernel
theorem dX0_leave_21 : decode cX0_leave 21 = .ok (.iastore, 1) := by decide +kernel
theorem dX0_leave_22 : decode cX0_leave 22 = .ok (.iinc 3 1, 3) := by decide +kernel
theorem dX0_leave_25 : decode cX0_leave 25 = .ok (.goto (-23), 3) := by decide +kernel
theorem dX0_leave_28 : decode cX0_leave 28 = .ok (.return_, 1) := by decide +kernel
theorem dX0_pointsIn_0 : decode cX0_pointsIn 0 = .ok (.aload_n 0, 1) := by decide +kernel
theorem dX0_pointsIn_1 : decode cX0_pointsIn 1 = .ok (.getfield 9, 3) := by decide +kernel
theorem dX0_pointsIn_4 : decode cX0_pointsIn 4 = .ok (.iload_n 1, 1) := by decide +kernel
theorem dX0_pointsIn_5 : decode cX0_pointsIn 5 = .ok (.iload_n 2, 1) := by decide +kernel
theorem dX0_pointsIn_6 : decode cX0_pointsIn 6 = .ok (.iload_n 3, 1) := by decide +kernel
theorem dX0_pointsIn_7 : decode cX0_pointsIn 7 = .ok (.invokestatic 34, 3) := by decide +kernel
theorem dX0_pointsIn_10 : decode cX0_pointsIn 10 = .ok (.iaload, 1) := by decide +kernel
theorem dX0_pointsIn_11 : decode cX0_pointsIn 11 = .ok (.ireturn, 1) := by decide +kernel
theorem dX0_isThere_0 : decode cX0_isThere 0 = .ok (.iload_n 1, 1) := by decide +kernel
theorem dX0_isThere_1 : decode cX0_isThere 1 = .ok (.ifCond .lt 8, 3) := by decide +kernel
theorem dX0_isThere_4 : decode cX0_isThere 4 = .ok (.iload_n 1, 1) := by decide +kernel
theorem dX0_isThere_5 : decode cX0_isThere 5 = .ok (.iconst 5, 1) := by decide +kernel
theorem dX0_isThere_6 : decode cX0_isThere 6 = .ok (.if_icmp .le 5, 3) := by decide +kernel
theorem dX0_isThere_9 : decode cX0_isThere 9 = .ok (.iconst 0, 1) := by decide +kernel
theorem dX0_isThere_10 : decode cX0_isThere 10 = .ok (.ireturn, 1) := by decide +kernel
theorem dX0_isThere_11 : decode cX0_isThere 11 = .ok (.iconst 1, 1) := by decide +kernel
theorem dX0_isThere_12 : decode cX0_isThere 12 = .ok (.iload_n 1, 1) := by decide +kernel
theorem dX0_isThere_13 : decode cX0_isThere 13 = .ok (.ishl, 1) := by decide +kernel
theorem dX0_isThere_14 : decode cX0_isThere 14 = .ok (.istore 4, 2) := by decide +kernel
theorem dX0_isThere_16 : decode cX0_isThere 16 = .ok (.iload_n 2, 1) := by decide +kernel
theorem dX0_isThere_17 : decode cX0_isThere 17 = .ok (.ifCond .lt 19, 3) := by decide +kernel
theorem dX0_isThere_20 : decode cX0_isThere 20 = .ok (.iload_n 2, 1) := by decide +kernel
theorem dX0_isThere_21 : decode cX0_isThere 21 = .ok (.iload 4, 2) := by decide +kernel
theorem dX0_isThere_23 : decode cX0_isThere 23 = .ok (.if_icmp .ge 13, 3) := by decide +kernel
theorem dX0_isThere_26 : decode cX0_isThere 26 = .ok (.iload_n 3, 1) := by decide +kernel
theorem dX0_isThere_27 : decode cX0_isThere 27 = .ok (.ifCond .lt 9, 3) := by decide +kernel
theorem dX0_isThere_30 : decode cX0_isThere 30 = .ok (.iload_n 3, 1) := by decide +kernel
theorem dX0_isThere_31 : decode cX0_isThere 31 = .ok (.iload 4, 2) := by decide +kernel
theorem dX0_isThere_33 : decode cX0_isThere 33 = .ok (.if_icmp .lt 5, 3) := by decide +kernel
theorem dX0_isThere_36 : decode cX0_isThere 36 = .ok (.iconst 0, 1) := by decide +kernel
theorem dX0_isThere_37 : decode cX0_isThere 37 = .ok (.ireturn, 1) := by decide +kernel
theorem dX0_isThere_38 : decode cX0_isThere 38 = .ok (.iload_n 1, 1) := by decide +kernel
theorem dX0_isThere_39 : decode cX0_isThere 39 = .ok (.ifCond .eq 23, 3) := by decide +kernel
theorem dX0_isThere_42 : decode cX0_isThere 42 = .ok (.aload_n 0, 1) := by decide +kernel
theorem dX0_isThere_43 : decode cX0_isThere 43 = .ok (.iload_n 1, 1) := by decide +kernel
theorem dX0_isThere_44 : decode cX0_isThere 44 = .ok (.iconst 1, 1) := by decide +kernel
theorem dX0_isThere_45 : decode cX0_isThere 45 = .ok (.isub, 1) := by decide +kernel
theorem dX0_isThere_46 : decode cX0_isThere 46 = .ok (.iload_n 2, 1) := by decide +kernel
theorem dX0_isThere_47 : decode cX0_isThere 47 = .ok (.iconst 1, 1) := by decide +kernel
theorem dX0_isThere_48 : decode cX0_isThere 48 = .ok (.ishr, 1) := by decide +kernel
theorem dX0_isThere_49 : decode cX0_isThere 49 = .ok (.iload_n 3, 1) := by decide +kernel
theorem dX0_isThere_50 : decode cX0_isThere 50 = .ok (.iconst 1, 1) := by decide +kernel
theorem dX0_isThere_51 : decode cX0_isThere 51 = .ok (.ishr, 1) := by decide +kernel
theorem dX0_isThere_52 : decode cX0_isThere 52 = .ok (.invokevirtual 37, 3) := by decide +kernel
theorem dX0_isThere_55 : decode cX0_isThere 55 = .ok (.aload_n 0, 1) := by decide +kernel
theorem dX0_isThere_56 : decode cX0_isThere 56 = .ok (.getfield 15, 3) := by decide +kernel
theorem dX0_isThere_59 : decode cX0_isThere 59 = .ok (.if_icmp .le 7, 3) := by decide +kernel
theorem dX0_isThere_62 : decode cX0_isThere 62 = .ok (.iconst 1, 1) := by decide +kernel
theorem dX0_isThere_63 : decode cX0_isThere 63 = .ok (.goto 4, 3) := by decide +kernel
theorem dX0_isThere_66 : decode cX0_isThere 66 = .ok (.iconst 0, 1) := by decide +kernel
theorem dX0_isThere_67 : decode cX0_isThere 67 = .ok (.ireturn, 1) := by decide +kernel
theorem dX0_isSplit_0 : decode cX0_isSplit 0 = .ok (.iload_n 1, 1) := by decide +kernel
theorem dX0_isSplit_1 : decode cX0_isSplit 1 = .ok (.iconst 5, 1) := by decide +kernel
theorem dX0_isSplit_2 : decode cX0_isSplit 2 = .ok (.if_icmp .ge 21, 3) := by decide +kernel
theorem dX0_isSplit_5 : decode cX0_isSplit 5 = .ok (.aload_n 0, 1) := by decide +kernel
theorem dX0_isSplit_6 : decode cX0_isSplit 6 = .ok (.iload_n 1, 1) := by decide +kernel
theorem dX0_isSplit_7 : decode cX0_isSplit 7 = .ok (.iload_n 2, 1) := by decide +kernel
theorem dX0_isSplit_8 : decode cX0_isSplit 8 = .ok (.iload_n 3, 1) := by decide +kernel
theorem dX0_isSplit_9 : decode cX0_isSplit 9 = .ok (.invokevirtual 37, 3) := by decide +kernel
theorem dX0_isSplit_12 : decode cX0_isSplit 12 = .ok (.aload_n 0, 1) := by decide +kernel
theorem dX0_isSplit_13 : decode cX0_isSplit 13 = .ok (.getfield 15, 3) := by decide +kernel
theorem dX0_isSplit_16 : decode cX0_isSplit 16 = .ok (.if_icmp .le 7, 3) := by decide +kernel
theorem dX0_isSplit_19 : decode cX0_isSplit 19 = .ok (.iconst 1, 1) := by decide +kernel
theorem dX0_isSplit_20 : decode cX0_isSplit 20 = .ok (.goto 4, 3) := by decide +kernel
theorem dX0_isSplit_23 : decode cX0_isSplit 23 = .ok (.iconst 0, 1) := by decide +kernel
theorem dX0_isSplit_24 : decode cX0_isSplit 24 = .ok (.ireturn, 1) := by decide +kernel
theorem dX0_splitBoxes_0 : decode cX0_splitBoxes 0 = .ok (.iconst 0, 1) := by decide +kernel
theorem dX0_splitBoxes_1 : decode cX0_splitBoxes 1 = .ok (.istore_n 1, 1) := by decide +kernel
theorem dX0_splitBoxes_2 : decode cX0_splitBoxes 2 = .ok (.iconst 0, 1) := by decide +kernel
theorem dX0_splitBoxes_3 : decode cX0_splitBoxes 3 = .ok (.istore_n 2, 1) := by decide +kernel
theorem dX0_splitBoxes_4 : decode cX0_splitBoxes 4 = .ok (.iload_n 2, 1) := by decide +kernel
theorem dX0_splitBoxes_5 : decode cX0_splitBoxes 5 = .ok (.getstatic 40, 3) := by decide +kernel
theorem dX0_splitBoxes_8 : decode cX0_splitBoxes 8 = .ok (.iconst 5, 1) := by decide +kernel
theorem dX0_splitBoxes_9 : decode cX0_splitBoxes 9 = .ok (.iaload, 1) := by decide +kernel
theorem dX0_splitBoxes_10 : decode cX0_splitBoxes 10 = .ok (.if_icmp .ge 25, 3) := by decide +kernel
theorem dX0_splitBoxes_13 : decode cX0_splitBoxes 13 = .ok (.aload_n 0, 1) := by decide +kernel
theorem dX0_splitBoxes_14 : decode cX0_splitBoxes 14 = .ok (.getfield 9, 3) := by decide +kernel
theorem dX0_splitBoxes_17 : decode cX0_splitBoxes 17 = .ok (.iload_n 2, 1) := by decide +kernel
theorem dX0_splitBoxes_18 : decode cX0_splitBoxes 18 = .ok (.iaload, 1) := by decide +kernel
theorem dX0_splitBoxes_19 : decode cX0_splitBoxes 19 = .ok (.aload_n 0, 1) := by decide +kernel
theorem dX0_splitBoxes_20 : decode cX0_splitBoxes 20 = .ok (.getfield 15, 3) := by decide +kernel
theorem dX0_splitBoxes_23 : decode cX0_splitBoxes 23 = .ok (.if_icmp .le 6, 3) := by decide +kernel
theorem dX0_splitBoxes_26 : decode cX0_splitBoxes 26 = .ok (.iinc 1 1, 3) := by decide +kernel
theorem dX0_splitBoxes_29 : decode cX0_splitBoxes 29 = .ok (.iinc 2 1, 3) := by decide +kernel
theorem dX0_splitBoxes_32 : decode cX0_splitBoxes 32 = .ok (.goto (-28), 3) := by decide +kernel
theorem dX0_splitBoxes_35 : decode cX0_splitBoxes 35 = .ok (.iload_n 1, 1) := by decide +kernel
theorem dX0_splitBoxes_36 : decode cX0_splitBoxes 36 = .ok (.ireturn, 1) := by decide +kernel
theorem dX0_greatestLevel_0 : decode cX0_greatestLevel 0 = .ok (.iconst 5, 1) := by decide +kernel
theorem dX0_greatestLevel_1 : decode cX0_greatestLevel 1 = .ok (.istore_n 1, 1) := by decide +kernel
theorem dX0_greatestLevel_2 : decode cX0_greatestLevel 2 = .ok (.iload_n 1, 1) := by decide +kernel
theorem dX0_greatestLevel_3 : decode cX0_greatestLevel 3 = .ok (.ifCond .le 47, 3) := by decide +kernel
theorem dX0_greatestLevel_6 : decode cX0_greatestLevel 6 = .ok (.getstatic 40, 3) := by decide +kernel
theorem dX0_greatestLevel_9 : decode cX0_greatestLevel 9 = .ok (.iload_n 1, 1) := by decide +kernel
theorem dX0_greatestLevel_10 : decode cX0_greatestLevel 10 = .ok (.iconst 1, 1) := by decide +kernel
theorem dX0_greatestLevel_11 : decode cX0_greatestLevel 11 = .ok (.isub, 1) := by decide +kernel
theorem dX0_greatestLevel_12 : decode cX0_greatestLevel 12 = .ok (.iaload, 1) := by decide +kernel
theorem dX0_greatestLevel_13 : decode cX0_greatestLevel 13 = .ok (.istore_n 2, 1) := by decide +kernel
theorem dX0_greatestLevel_14 : decode cX0_greatestLevel 14 = .ok (.iload_n 2, 1) := by decide +kernel
theorem dX0_greatestLevel_15 : decode cX0_greatestLevel 15 = .ok (.getstatic 40, 3) := by decide +kernel
theorem dX0_greatestLevel_18 : decode cX0_greatestLevel 18 = .ok (.iload_n 1, 1) := by decide +kernel
theorem dX0_greatestLevel_19 : decode cX0_greatestLevel 19 = .ok (.iaload, 1) := by decide +kernel
theorem dX0_greatestLevel_20 : decode cX0_greatestLevel 20 = .ok (.if_icmp .ge 24, 3) := by decide +kernel
theorem dX0_greatestLevel_23 : decode cX0_greatestLevel 23 = .ok (.aload_n 0, 1) := by decide +kernel
theorem dX0_greatestLevel_24 : decode cX0_greatestLevel 24 = .ok (.getfield 9, 3) := by decide +kernel
theorem dX0_greatestLevel_27 : decode cX0_greatestLevel 27 = .ok (.iload_n 2, 1) := by decide +kernel
theorem dX0_greatestLevel_28 : decode cX0_greatestLevel 28 = .ok (.iaload, 1) := by decide +kernel
theorem dX0_greatestLevel_29 : decode cX0_greatestLevel 29 = .ok (.aload_n 0, 1) := by decide +kernel
theorem dX0_greatestLevel_30 : decode cX0_greatestLevel 30 = .ok (.getfield 15, 3) := by decide +kernel
theorem dX0_greatestLevel_33 : decode cX0_greatestLevel 33 = .ok (.if_icmp .le 5, 3) := by decide +kernel
theorem dX0_greatestLevel_36 : decode cX0_greatestLevel 36 = .ok (.iload_n 1, 1) := by decide +kernel
theorem dX0_greatestLevel_37 : decode cX0_greatestLevel 37 = .ok (.ireturn, 1) := by decide +kernel
theorem dX0_greatestLevel_38 : decode cX0_greatestLevel 38 = .ok (.iinc 2 1, 3) := by decide +kernel
theorem dX0_greatestLevel_41 : decode cX0_greatestLevel 41 = .ok (.goto (-27), 3) := by decide +kernel
theorem dX0_greatestLevel_44 : decode cX0_greatestLevel 44 = .ok (.iinc 1 (-1), 3) := by decide +kernel
theorem dX0_greatestLevel_47 : decode cX0_greatestLevel 47 = .ok (.goto (-45), 3) := by decide +kernel
theorem dX0_greatestLevel_50 : decode cX0_greatestLevel 50 = .ok (.iconst 0, 1) := by decide +kernel
theorem dX0_greatestLevel_51 : decode cX0_greatestLevel 51 = .ok (.ireturn, 1) := by decide +kernel
theorem dX0_leafLevel_0 : decode cX0_leafLevel 0 = .ok (.iconst 0, 1) := by decide +kernel
theorem dX0_leafLevel_1 : decode cX0_leafLevel 1 = .ok (.istore_n 3, 1) := by decide +kernel
theorem dX0_leafLevel_2 : decode cX0_leafLevel 2 = .ok (.iload_n 3, 1) := by decide +kernel
theorem dX0_leafLevel_3 : decode cX0_leafLevel 3 = .ok (.iconst 5, 1) := by decide +kernel
theorem dX0_leafLevel_4 : decode cX0_leafLevel 4 = .ok (.if_icmp .ge 29, 3) := by decide +kernel
theorem dX0_leafLevel_7 : decode cX0_leafLevel 7 = .ok (.aload_n 0, 1) := by decide +kernel
theorem dX0_leafLevel_8 : decode cX0_leafLevel 8 = .ok (.getfield 9, 3) := by decide +kernel
theorem dX0_leafLevel_11 : decode cX0_leafLevel 11 = .ok (.iload_n 3, 1) := by decide +kernel
theorem dX0_leafLevel_12 : decode cX0_leafLevel 12 = .ok (.iload_n 1, 1) := by decide +kernel
theorem dX0_leafLevel_13 : decode cX0_leafLevel 13 = .ok (.iload_n 2, 1) := by decide +kernel
theorem dX0_leafLevel_14 : decode cX0_leafLevel 14 = .ok (.invokestatic 30, 3) := by decide +kernel
theorem dX0_leafLevel_17 : decode cX0_leafLevel 17 = .ok (.iaload, 1) := by decide +kernel
theorem dX0_leafLevel_18 : decode cX0_leafLevel 18 = .ok (.aload_n 0, 1) := by decide +kernel
theorem dX0_leafLevel_19 : decode cX0_leafLevel 19 = .ok (.getfield 15, 3) := by decide +kernel
theorem dX0_leafLevel_22 : decode cX0_leafLevel 22 = .ok (.if_icmp .gt 5, 3) := by decide +kernel
theorem dX0_leafLevel_25 : decode cX0_leafLevel 25 = .ok (.iload_n 3, 1) := by decide +kernel
theorem dX0_leafLevel_26 : decode cX0_leafLevel 26 = .ok (.ireturn, 1) := by decide +kernel
theorem dX0_leafLevel_27 : decode cX0_leafLevel 27 = .ok (.iinc 3 1, 3) := by decide +kernel
theorem dX0_leafLevel_30 : decode cX0_leafLevel 30 = .ok (.goto (-28), 3) := by decide +kernel
theorem dX0_leafLevel_33 : decode cX0_leafLevel 33 = .ok (.iconst 5, 1) := by decide +kernel
theorem dX0_leafLevel_34 : decode cX0_leafLevel 34 = .ok (.ireturn, 1) := by decide +kernel
theorem dX0_holds_0 : decode cX0_holds 0 = .ok (.aload_n 0, 1) := by decide +kernel
theorem dX0_holds_1 : decode cX0_holds 1 = .ok (.getfield 26, 3) := by decide +kernel
theorem dX0_holds_4 : decode cX0_holds 4 = .ok (.getfield 43, 3) := by decide +kernel
theorem dX0_holds_7 : decode cX0_holds 7 = .ok (.iload 4, 2) := by decide +kernel
theorem dX0_holds_9 : decode cX0_holds 9 = .ok (.baload, 1) := by decide +kernel
theorem dX0_holds_10 : decode cX0_holds 10 = .ok (.ifCond .eq 43, 3) := by decide +kernel
theorem dX0_holds_13 : decode cX0_holds 13 = .ok (.iload_n 1, 1) := by decide +kernel
theorem dX0_holds_14 : decode cX0_holds 14 = .ok (.aload_n 0, 1) := by decide +kernel
theorem dX0_holds_15 : decode cX0_holds 15 = .ok (.getfield 26, 3) := by decide +kernel
theorem dX0_holds_18 : decode cX0_holds 18 = .ok (.getfield 49, 3) := by decide +kernel
theorem dX0_holds_21 : decode cX0_holds 21 = .ok (.iload 4, 2) := by decide +kernel
theorem dX0_holds_23 : decode cX0_holds 23 = .ok (.iaload, 1) := by decide +kernel
theorem dX0_holds_24 : decode cX0_holds 24 = .ok (.invokestatic 52, 3) := by decide +kernel
theorem dX0_holds_27 : decode cX0_holds 27 = .ok (.iload_n 2, 1) := by decide +kernel
theorem dX0_holds_28 : decode cX0_holds 28 = .ok (.if_icmp .ne 25, 3) := by decide +kernel
theorem dX0_holds_31 : decode cX0_holds 31 = .ok (.iload_n 1, 1) := by decide +kernel
theorem dX0_holds_32 : decode cX0_holds 32 = .ok (.aload_n 0, 1) := by decide +kernel
theorem dX0_holds_33 : decode cX0_holds 33 = .ok (.getfield 26, 3) := by decide +kernel
theorem dX0_holds_36 : decode cX0_holds 36 = .ok (.getfield 56, 3) := by decide +kernel
theorem dX0_holds_39 : decode cX0_holds 39 = .ok (.iload 4, 2) := by decide +kernel
theorem dX0_holds_41 : decode cX0_holds 41 = .ok (.iaload, 1) := by decide +kernel
theorem dX0_holds_42 : decode cX0_holds 42 = .ok (.invokestatic 52, 3) := by decide +kernel
theorem dX0_holds_45 : decode cX0_holds 45 = .ok (.iload_n 3, 1) := by decide +kernel
theorem dX0_holds_46 : decode cX0_holds 46 = .ok (.if_icmp .ne 7, 3) := by decide +kernel
theorem dX0_holds_49 : decode cX0_holds 49 = .ok (.iconst 1, 1) := by decide +kernel
theorem dX0_holds_50 : decode cX0_holds 50 = .ok (.goto 4, 3) := by decide +kernel
theorem dX0_holds_53 : decode cX0_holds 53 = .ok (.iconst 0, 1) := by decide +kernel
theorem dX0_holds_54 : decode cX0_holds 54 = .ok (.ireturn, 1) := by decide +kernel
theorem dX0_gather_0 : decode cX0_gather 0 = .ok (.iconst 0, 1) := by decide +kernel
theorem dX0_gather_1 : decode cX0_gather 1 = .ok (.istore 4, 2) := by decide +kernel
theorem dX0_gather_3 : decode cX0_gather 3 = .ok (.iload 4, 2) := by decide +kernel
theorem dX0_gather_5 : decode cX0_gather 5 = .ok (.bipush 25, 2) := by decide +kernel
theorem dX0_gather_7 : decode cX0_gather 7 = .ok (.if_icmp .ge 17, 3) := by decide +kernel
theorem dX0_gather_10 : decode cX0_gather 10 = .ok (.aload_n 0, 1) := by decide +kernel
theorem dX0_gather_11 : decode cX0_gather 11 = .ok (.getfield 19, 3) := by decide +kernel
theorem dX0_gather_14 : decode cX0_gather 14 = .ok (.iload 4, 2) := by decide +kernel
theorem dX0_gather_16 : decode cX0_gather 16 = .ok (.lconst 0, 1) := by decide +kernel
theorem dX0_gather_17 : decode cX0_gather 17 = .ok (.lastore, 1) := by decide +kernel
theorem dX0_gather_18 : decode cX0_gather 18 = .ok (.iinc 4 1, 3) := by decide +kernel
theorem dX0_gather_21 : decode cX0_gather 21 = .ok (.goto (-18), 3) := by decide +kernel
theorem dX0_gather_24 : decode cX0_gather 24 = .ok (.aload_n 0, 1) := by decide +kernel
theorem dX0_gather_25 : decode cX0_gather 25 = .ok (.iconst 0, 1) := by decide +kernel
theorem dX0_gather_26 : decode cX0_gather 26 = .ok (.putfield 23, 3) := by decide +kernel
theorem dX0_gather_29 : decode cX0_gather 29 = .ok (.iconst 0, 1) := by decide +kernel
theorem dX0_gather_30 : decode cX0_gather 30 = .ok (.istore 4, 2) := by decide +kernel
theorem dX0_gather_32 : decode cX0_gather 32 = .ok (.iload 4, 2) := by decide +kernel
theorem dX0_gather_34 : decode cX0_gather 34 = .ok (.bipush 40, 2) := by decide +kernel
theorem dX0_gather_36 : decode cX0_gather 36 = .ok (.if_icmp .ge 87, 3) := by decide +kernel
theorem dX0_gather_39 : decode cX0_gather 39 = .ok (.aload_n 0, 1) := by decide +kernel
theorem dX0_gather_40 : decode cX0_gather 40 = .ok (.iload_n 1, 1) := by decide +kernel
theorem dX0_gather_41 : decode cX0_gather 41 = .ok (.iload_n 2, 1) := by decide +kernel
theorem dX0_gather_42 : decode cX0_gather 42 = .ok (.iload_n 3, 1) := by decide +kernel
theorem dX0_gather_43 : decode cX0_gather 43 = .ok (.iload 4, 2) := by decide +kernel
theorem dX0_gather_45 : decode cX0_gather 45 = .ok (.invokevirtual 59, 3) := by decide +kernel
theorem dX0_gather_48 : decode cX0_gather 48 = .ok (.ifCond .eq 69, 3) := by decide +kernel
theorem dX0_gather_51 : decode cX0_gather 51 = .ok (.aload_n 0, 1) := by decide +kernel
theorem dX0_gather_52 : decode cX0_gather 52 = .ok (.aload_n 0, 1) := by decide +kernel
theorem dX0_gather_53 : decode cX0_gather 53 = .ok (.getfield 26, 3) := by decide +kernel
theorem dX0_gather_56 : decode cX0_gather 56 = .ok (.getfield 63, 3) := by decide +kernel
theorem dX0_gather_59 : decode cX0_gather 59 = .ok (.iload 4, 2) := by decide +kernel
theorem dX0_gather_61 : decode cX0_gather 61 = .ok (.iaload, 1) := by decide +kernel
theorem dX0_gather_62 : decode cX0_gather 62 = .ok (.aload_n 0, 1) := by decide +kernel
theorem dX0_gather_63 : decode cX0_gather 63 = .ok (.getfield 26, 3) := by decide +kernel
theorem dX0_gather_66 : decode cX0_gather 66 = .ok (.getfield 49, 3) := by decide +kernel
theorem dX0_gather_69 : decode cX0_gather 69 = .ok (.iload 4, 2) := by decide +kernel
theorem dX0_gather_71 : decode cX0_gather 71 = .ok (.iaload, 1) := by decide +kernel
theorem dX0_gather_72 : decode cX0_gather 72 = .ok (.iload_n 1, 1) := by decide +kernel
theorem dX0_gather_73 : decode cX0_gather 73 = .ok (.iload_n 2, 1) := by decide +kernel
theorem dX0_gather_74 : decode cX0_gather 74 = .ok (.invokestatic 66, 3) := by decide +kernel
theorem dX0_gather_77 : decode cX0_gather 77 = .ok (.aload_n 0, 1) := by decide +kernel
theorem dX0_gather_78 : decode cX0_gather 78 = .ok (.getfield 26, 3) := by decide +kernel
theorem dX0_gather_81 : decode cX0_gather 81 = .ok (.getfield 56, 3) := by decide +kernel
theorem dX0_gather_84 : decode cX0_gather 84 = .ok (.iload 4, 2) := by decide +kernel
theorem dX0_gather_86 : decode cX0_gather 86 = .ok (.iaload, 1) := by decide +kernel
theorem dX0_gather_87 : decode cX0_gather 87 = .ok (.iload_n 1, 1) := by decide +kernel
theorem dX0_gather_88 : decode cX0_gather 88 = .ok (.iload_n 3, 1) := by decide +kernel
theorem dX0_gather_89 : decode cX0_gather 89 = .ok (.invokestatic 66, 3) := by decide +kernel
theorem dX0_gather_92 : decode cX0_gather 92 = .ok (.invokevirtual 69, 3) := by decide +kernel
theorem dX0_gather_95 : decode cX0_gather 95 = .ok (.aload_n 0, 1) := by decide +kernel
theorem dX0_gather_96 : decode cX0_gather 96 = .ok (.dup, 1) := by decide +kernel
theorem dX0_gather_97 : decode cX0_gather 97 = .ok (.getfield 23, 3) := by decide +kernel
theorem dX0_gather_100 : decode cX0_gather 100 = .ok (.aload_n 0, 1) := by decide +kernel
theorem dX0_gather_101 : decode cX0_gather 101 = .ok (.getfield 26, 3) := by decide +kernel
theorem dX0_gather_104 : decode cX0_gather 104 = .ok (.getfield 63, 3) := by decide +kernel
theorem dX0_gather_107 : decode cX0_gather 107 = .ok (.iload 4, 2) := by decide +kernel
theorem dX0_gather_109 : decode cX0_gather 109 = .ok (.iaload, 1) := by decide +kernel
theorem dX0_gather_110 : decode cX0_gather 110 = .ok (.invokestatic 73, 3) := by decide +kernel
theorem dX0_gather_113 : decode cX0_gather 113 = .ok (.iadd, 1) := by decide +kernel
theorem dX0_gather_114 : decode cX0_gather 114 = .ok (.putfield 23, 3) := by decide +kernel
theorem dX0_gather_117 : decode cX0_gather 117 = .ok (.iinc 4 1, 3) := by decide +kernel
theorem dX0_gather_120 : decode cX0_gather 120 = .ok (.goto (-88), 3) := by decide +kernel
theorem dX0_gather_123 : decode cX0_gather 123 = .ok (.return_, 1) := by decide +kernel
theorem dX0_addMoments_0 : decode cX0_addMoments 0 = .ok (.iload_n 1, 1) := by decide +kernel
theorem dX0_addMoments_1 : decode cX0_addMoments 1 = .ok (.i2l, 1) := by decide +kernel
theorem dX0_addMoments_2 : decode cX0_addMoments 2 = .ok (.lstore 4, 2) := by decide +kernel
theorem dX0_addMoments_4 : decode cX0_addMoments 4 = .ok (.iconst 0, 1) := by decide +kernel
theorem dX0_addMoments_5 : decode cX0_addMoments 5 = .ok (.istore 6, 2) := by decide +kernel
theorem dX0_addMoments_7 : decode cX0_addMoments 7 = .ok (.iload 6, 2) := by decide +kernel
theorem dX0_addMoments_9 : decode cX0_addMoments 9 = .ok (.iconst 4, 1) := by decide +kernel
theorem dX0_addMoments_10 : decode cX0_addMoments 10 = .ok (.if_icmp .gt 62, 3) := by decide +kernel
theorem dX0_addMoments_13 : decode cX0_addMoments 13 = .ok (.lload 4, 2) := by decide +kernel
theorem dX0_addMoments_15 : decode cX0_addMoments 15 = .ok (.lstore 7, 2) := by decide +kernel
theorem dX0_addMoments_17 : decode cX0_addMoments 17 = .ok (.iconst 0, 1) := by decide +kernel
theorem dX0_addMoments_18 : decode cX0_addMoments 18 = .ok (.istore 9, 2) := by decide +kernel
theorem dX0_addMoments_20 : decode cX0_addMoments 20 = .ok (.iload 6, 2) := by decide +kernel
theorem dX0_addMoments_22 : decode cX0_addMoments 22 = .ok (.iload 9, 2) := by decide +kernel
theorem dX0_addMoments_24 : decode cX0_addMoments 24 = .ok (.iadd, 1) := by decide +kernel
theorem dX0_addMoments_25 : decode cX0_addMoments 25 = .ok (.iconst 4, 1) := by decide +kernel
theorem dX0_addMoments_26 : decode cX0_addMoments 26 = .ok (.if_icmp .gt 33, 3) := by decide +kernel
theorem dX0_addMoments_29 : decode cX0_addMoments 29 = .ok (.aload_n 0, 1) := by decide +kernel
theorem dX0_addMoments_30 : decode cX0_addMoments 30 = .ok (.getfield 19, 3) := by decide +kernel
theorem dX0_addMoments_33 : decode cX0_addMoments 33 = .ok (.iload 6, 2) := by decide +kernel
theorem dX0_addMoments_35 : decode cX0_addMoments 35 = .ok (.iload 9, 2) := by decide +kernel
theorem dX0_addMoments_37 : decode cX0_addMoments 37 = .ok (.invokestatic 79, 3) := by decide +kernel
theorem dX0_addMoments_40 : decode cX0_addMoments 40 = .ok (.dup2, 1) := by decide +kernel
theorem dX0_addMoments_41 : decode cX0_addMoments 41 = .ok (.laload, 1) := by decide +kernel
theorem dX0_addMoments_42 : decode cX0_addMoments 42 = .ok (.lload 7, 2) := by decide +kernel
theorem dX0_addMoments_44 : decode cX0_addMoments 44 = .ok (.ladd, 1) := by decide +kernel
theorem dX0_addMoments_45 : decode cX0_addMoments 45 = .ok (.lastore, 1) := by decide +kernel
theorem dX0_addMoments_46 : decode cX0_addMoments 46 = .ok (.lload 7, 2) := by decide +kernel
theorem dX0_addMoments_48 : decode cX0_addMoments 48 = .ok (.iload_n 3, 1) := by decide +kernel
theorem dX0_addMoments_49 : decode cX0_addMoments 49 = .ok (.i2l, 1) := by decide +kernel
theorem dX0_addMoments_50 : decode cX0_addMoments 50 = .ok (.lmul, 1) := by decide +kernel
theorem dX0_addMoments_51 : decode cX0_addMoments 51 = .ok (.lstore 7, 2) := by decide +kernel
theorem dX0_addMoments_53 : decode cX0_addMoments 53 = .ok (.iinc 9 1, 3) := by decide +kernel
theorem dX0_addMoments_56 : decode cX0_addMoments 56 = .ok (.goto (-36), 3) := by decide +kernel
theorem dX0_addMoments_59 : decode cX0_addMoments 59 = .ok (.lload 4, 2) := by decide +kernel
theorem dX0_addMoments_61 : decode cX0_addMoments 61 = .ok (.iload_n 2, 1) := by decide +kernel
theorem dX0_addMoments_62 : decode cX0_addMoments 62 = .ok (.i2l, 1) := by decide +kernel
theorem dX0_addMoments_63 : decode cX0_addMoments 63 = .ok (.lmul, 1) := by decide +kernel
theorem dX0_addMoments_64 : decode cX0_addMoments 64 = .ok (.lstore 4, 2) := by decide +kernel
theorem dX0_addMoments_66 : decode cX0_addMoments 66 = .ok (.iinc 6 1, 3) := by decide +kernel
theorem dX0_addMoments_69 : decode cX0_addMoments 69 = .ok (.goto (-62), 3) := by decide +kernel
theorem dX0_addMoments_72 : decode cX0_addMoments 72 = .ok (.return_, 1) := by decide +kernel
theorem dX0_numberAt_0 : decode cX0_numberAt 0 = .ok (.iload_n 1, 1) := by decide +kernel
theorem dX0_numberAt_1 : decode cX0_numberAt 1 = .ok (.bipush 6, 2) := by decide +kernel
theorem dX0_numberAt_3 : decode cX0_numberAt 3 = .ok (.iload_n 0, 1) := by decide +kernel
theorem dX0_numberAt_4 : decode cX0_numberAt 4 = .ok (.isub, 1) := by decide +kernel
theorem dX0_numberAt_5 : decode cX0_numberAt 5 = .ok (.ishr, 1) := by decide +kernel
theorem dX0_numberAt_6 : decode cX0_numberAt 6 = .ok (.ireturn, 1) := by decide +kernel
theorem dX0_placeIndex_0 : decode cX0_placeIndex 0 = .ok (.iload_n 0, 1) := by decide +kernel
theorem dX0_placeIndex_1 : decode cX0_placeIndex 1 = .ok (.iload_n 0, 1) := by decide +kernel
theorem dX0_placeIndex_2 : decode cX0_placeIndex 2 = .ok (.iload_n 1, 1) := by decide +kernel
theorem dX0_placeIndex_3 : decode cX0_placeIndex 3 = .ok (.invokestatic 52, 3) := by decide +kernel
theorem dX0_placeIndex_6 : decode cX0_placeIndex 6 = .ok (.iload_n 0, 1) := by decide +kernel
theorem dX0_placeIndex_7 : decode cX0_placeIndex 7 = .ok (.iload_n 2, 1) := by decide +kernel
theorem dX0_placeIndex_8 : decode cX0_placeIndex 8 = .ok (.invokestatic 52, 3) := by decide +kernel
theorem dX0_placeIndex_11 : decode cX0_placeIndex 11 = .ok (.invokestatic 34, 3) := by decide +kernel
theorem dX0_placeIndex_14 : decode cX0_placeIndex 14 = .ok (.ireturn, 1) := by decide +kernel
theorem dX0_boxIndex_0 : decode cX0_boxIndex 0 = .ok (.getstatic 40, 3) := by decide +kernel
theorem dX0_boxIndex_3 : decode cX0_boxIndex 3 = .ok (.iload_n 0, 1) := by decide +kernel
theorem dX0_boxIndex_4 : decode cX0_boxIndex 4 = .ok (.iaload, 1) := by decide +kernel
theorem dX0_boxIndex_5 : decode cX0_boxIndex 5 = .ok (.iload_n 2, 1) := by decide +kernel
theorem dX0_boxIndex_6 : decode cX0_boxIndex 6 = .ok (.iload_n 0, 1) := by decide +kernel
theorem dX0_boxIndex_7 : decode cX0_boxIndex 7 = .ok (.ishl, 1) := by decide +kernel
theorem dX0_boxIndex_8 : decode cX0_boxIndex 8 = .ok (.iadd, 1) := by decide +kernel
theorem dX0_boxIndex_9 : decode cX0_boxIndex 9 = .ok (.iload_n 1, 1) := by decide +kernel
theorem dX0_boxIndex_10 : decode cX0_boxIndex 10 = .ok (.iadd, 1) := by decide +kernel
theorem dX0_boxIndex_11 : decode cX0_boxIndex 11 = .ok (.ireturn, 1) := by decide +kernel
theorem dX1_init_0 : decode cX1_init 0 = .ok (.aload_n 0, 1) := by decide +kernel
theorem dX1_init_1 : decode cX1_init 1 = .ok (.invokespecial 3, 3) := by decide +kernel
theorem dX1_init_4 : decode cX1_init 4 = .ok (.aload_n 0, 1) := by decide +kernel
theorem dX1_init_5 : decode cX1_init 5 = .ok (.bipush 40, 2) := by decide +kernel
theorem dX1_init_7 : decode cX1_init 7 = .ok (.newarray .int, 2) := by decide +kernel
theorem dX1_init_9 : decode cX1_init 9 = .ok (.putfield 9, 3) := by decide +kernel
theorem dX1_init_12 : decode cX1_init 12 = .ok (.aload_n 0, 1) := by decide +kernel
theorem dX1_init_13 : decode cX1_init 13 = .ok (.bipush 40, 2) := by decide +kernel
theorem dX1_init_15 : decode cX1_init 15 = .ok (.newarray .int, 2) := by decide +kernel
theorem dX1_init_17 : decode cX1_init 17 = .ok (.putfield 15, 3) := by decide +kernel
theorem dX1_init_20 : decode cX1_init 20 = .ok (.aload_n 0, 1) := by decide +kernel
theorem dX1_init_21 : decode cX1_init 21 = .ok (.iconst 0, 1) := by decide +kernel
theorem dX1_init_22 : decode cX1_init 22 = .ok (.putfield 18, 3) := by decide +kernel
theorem dX1_init_25 : decode cX1_init 25 = .ok (.aload_n 0, 1) := by decide +kernel
theorem dX1_init_26 : decode cX1_init 26 = .ok (.aload_n 1, 1) := by decide +kernel
theorem dX1_init_27 : decode cX1_init 27 = .ok (.putfield 22, 3) := by decide +kernel
theorem dX1_init_30 : decode cX1_init 30 = .ok (.aload_n 0, 1) := by decide +kernel
theorem dX1_init_31 : decode cX1_init 31 = .ok (.aload_n 2, 1) := by decide +kernel
theorem dX1_init_32 : decode cX1_init 32 = .ok (.putfield 26, 3) := by decide +kernel
theorem dX1_init_35 : decode cX1_init 35 = .ok (.aload_n 0, 1) := by decide +kernel
theorem dX1_init_36 : decode cX1_init 36 = .ok (.aload_n 3, 1) := by decide +kernel
theorem dX1_init_37 : decode cX1_init 37 = .ok (.putfield 30, 3) := by decide +kernel
theorem dX1_init_40 : decode cX1_init 40 = .ok (.return_, 1) := by decide +kernel
theorem dX1_forth_0 : decode cX1_forth 0 = .ok (.aload_n 0, 1) := by decide +kernel
theorem dX1_forth_1 : decode cX1_forth 1 = .ok (.invokevirtual 34, 3) := by decide +kernel
theorem dX1_forth_4 : decode cX1_forth 4 = .ok (.aload_n 0, 1) := by decide +kernel
theorem dX1_forth_5 : decode cX1_forth 5 = .ok (.iconst 1, 1) := by decide +kernel
theorem dX1_forth_6 : decode cX1_forth 6 = .ok (.invokevirtual 37, 3) := by decide +kernel
theorem dX1_forth_9 : decode cX1_forth 9 = .ok (.aload_n 0, 1) := by decide +kernel
theorem dX1_forth_10 : decode cX1_forth 10 = .ok (.iconst 1, 1) := by decide +kernel
theorem dX1_forth_11 : decode cX1_forth 11 = .ok (.invokevirtual 41, 3) := by decide +kernel
theorem dX1_forth_14 : decode cX1_forth 14 = .ok (.aload_n 0, 1) := by decide +kernel
theorem dX1_forth_15 : decode cX1_forth 15 = .ok (.dup, 1) := by decide +kernel
theorem dX1_forth_16 : decode cX1_forth 16 = .ok (.getfield 18, 3) := by decide +kernel
theorem dX1_forth_19 : decode cX1_forth 19 = .ok (.iconst 1, 1) := by decide +kernel
theorem dX1_forth_20 : decode cX1_forth 20 = .ok (.iadd, 1) := by decide +kernel
theorem dX1_forth_21 : decode cX1_forth 21 = .ok (.putfield 18, 3) := by decide +kernel
theorem dX1_forth_24 : decode cX1_forth 24 = .ok (.return_, 1) := by decide +kernel
theorem dX1_back_0 : decode cX1_back 0 = .ok (.aload_n 0, 1) := by decide +kernel
theorem dX1_back_1 : decode cX1_back 1 = .ok (.iconst (-1), 1) := by decide +kernel
theorem dX1_back_2 : decode cX1_back 2 = .ok (.invokevirtual 41, 3) := by decide +kernel
theorem dX1_back_5 : decode cX1_back 5 = .ok (.aload_n 0, 1) := by decide +kernel
theorem dX1_back_6 : decode cX1_back 6 = .ok (.invokevirtual 34, 3) := by decide +kernel
theorem dX1_back_9 : decode cX1_back 9 = .ok (.aload_n 0, 1) := by decide +kernel
theorem dX1_back_10 : decode cX1_back 10 = .ok (.iconst (-1), 1) := by decide +kernel
theorem dX1_back_11 : decode cX1_back 11 = .ok (.invokevirtual 37, 3) := by decide +kernel
theorem dX1_back_14 : decode cX1_back 14 = .ok (.aload_n 0, 1) := by decide +kernel
theorem dX1_back_15 : decode cX1_back 15 = .ok (.dup, 1) := by decide +kernel
theorem dX1_back_16 : decode cX1_back 16 = .ok (.getfield 18, 3) := by decide +kernel
theorem dX1_back_19 : decode cX1_back 19 = .ok (.iconst 1, 1) := by decide +kernel
theorem dX1_back_20 : decode cX1_back 20 = .ok (.isub, 1) := by decide +kernel
theorem dX1_back_21 : decode cX1_back 21 = .ok (.putfield 18, 3) := by decide +kernel
theorem dX1_back_24 : decode cX1_back 24 = .ok (.return_, 1) := by decide +kernel
theorem dX1_findPushes_0 : decode cX1_findPushes 0 = .ok (.aload_n 0, 1) := by decide +kernel
theorem dX1_findPushes_1 : decode cX1_findPushes 1 = .ok (.getfield 26, 3) := by decide +kernel
theorem dX1_findPushes_4 : decode cX1_findPushes 4 = .ok (.iconst 0, 1) := by decide +kernel
theorem dX1_findPushes_5 : decode cX1_findPushes 5 = .ok (.iconst 0, 1) := by decide +kernel
theorem dX1_findPushes_6 : decode cX1_findPushes 6 = .ok (.iconst 0, 1) := by decide +kernel
theorem dX1_findPushes_7 : decode cX1_findPushes 7 = .ok (.invokevirtual 44, 3) := by decide +kernel
theorem dX1_findPushes_10 : decode cX1_findPushes 10 = .ok (.aload_n 0, 1) := by decide +kernel
theorem dX1_findPushes_11 : decode cX1_findPushes 11 = .ok (.getfield 30, 3) := by decide +kernel
theorem dX1_findPushes_14 : decode cX1_findPushes 14 = .ok (.aload_n 0, 1) := by decide +kernel
theorem dX1_findPushes_15 : decode cX1_findPushes 15 = .ok (.getfield 26, 3) := by decide +kernel
theorem dX1_findPushes_18 : decode cX1_findPushes 18 = .ok (.getfield 50, 3) := by decide +kernel
theorem dX1_findPushes_21 : decode cX1_findPushes 21 = .ok (.iconst 4, 1) := by decide +kernel
theorem dX1_findPushes_22 : decode cX1_findPushes 22 = .ok (.invokevirtual 54, 3) := by decide +kernel
theorem dX1_findPushes_25 : decode cX1_findPushes 25 = .ok (.iconst 0, 1) := by decide +kernel
theorem dX1_findPushes_26 : decode cX1_findPushes 26 = .ok (.istore_n 1, 1) := by decide +kernel
theorem dX1_findPushes_27 : decode cX1_findPushes 27 = .ok (.iload_n 1, 1) := by decide +kernel
theorem dX1_findPushes_28 : decode cX1_findPushes 28 = .ok (.bipush 40, 2) := by decide +kernel
theorem dX1_findPushes_30 : decode cX1_findPushes 30 = .ok (.if_icmp .ge 93, 3) := by decide +kernel
theorem dX1_findPushes_33 : decode cX1_findPushes 33 = .ok (.aload_n 0, 1) := by decide +kernel
theorem dX1_findPushes_34 : decode cX1_findPushes 34 = .ok (.getfield 22, 3) := by decide +kernel
theorem dX1_findPushes_37 : decode cX1_findPushes 37 = .ok (.getfield 60, 3) := by decide +kernel
theorem dX1_findPushes_40 : decode cX1_findPushes 40 = .ok (.iload_n 1, 1) := by decide +kernel
theorem dX1_findPushes_41 : decode cX1_findPushes 41 = .ok (.baload, 1) := by decide +kernel
theorem dX1_findPushes_42 : decode cX1_findPushes 42 = .ok (.ifCond .eq 75, 3) := by decide +kernel
theorem dX1_findPushes_45 : decode cX1_findPushes 45 = .ok (.aload_n 0, 1) := by decide +kernel
theorem dX1_findPushes_46 : decode cX1_findPushes 46 = .ok (.getfield 22, 3) := by decide +kernel
theorem dX1_findPushes_49 : decode cX1_findPushes 49 = .ok (.getfield 66, 3) := by decide +kernel
theorem dX1_findPushes_52 : decode cX1_findPushes 52 = .ok (.iload_n 1, 1) := by decide +kernel
theorem dX1_findPushes_53 : decode cX1_findPushes 53 = .ok (.iaload, 1) := by decide +kernel
theorem dX1_findPushes_54 : decode cX1_findPushes 54 = .ok (.istore_n 2, 1) := by decide +kernel
theorem dX1_findPushes_55 : decode cX1_findPushes 55 = .ok (.aload_n 0, 1) := by decide +kernel
theorem dX1_findPushes_56 : decode cX1_findPushes 56 = .ok (.getfield 22, 3) := by decide +kernel
theorem dX1_findPushes_59 : decode cX1_findPushes 59 = .ok (.getfield 69, 3) := by decide +kernel
theorem dX1_findPushes_62 : decode cX1_findPushes 62 = .ok (.iload_n 1, 1) := by decide +kernel
theorem dX1_findPushes_63 : decode cX1_findPushes 63 = .ok (.iaload, 1) := by decide +kernel
theorem dX1_findPushes_64 : decode cX1_findPushes 64 = .ok (.istore_n 3, 1) := by decide +kernel
theorem dX1_findPushes_65 : decode cX1_findPushes 65 = .ok (.aload_n 0, 1) := by decide +kernel
theorem dX1_findPushes_66 : decode cX1_findPushes 66 = .ok (.getfield 9, 3) := by decide +kernel
theorem dX1_findPushes_69 : decode cX1_findPushes 69 = .ok (.iload_n 1, 1) := by decide +kernel
theorem dX1_findPushes_70 : decode cX1_findPushes 70 = .ok (.aload_n 0, 1) := by decide +kernel
theorem dX1_findPushes_71 : decode cX1_findPushes 71 = .ok (.iload_n 2, 1) := by decide +kernel
theorem dX1_findPushes_72 : decode cX1_findPushes 72 = .ok (.iconst 1, 1) := by decide +kernel
theorem dX1_findPushes_73 : decode cX1_findPushes 73 = .ok (.iadd, 1) := by decide +kernel
theorem dX1_findPushes_74 : decode cX1_findPushes 74 = .ok (.iload_n 3, 1) := by decide +kernel
theorem dX1_findPushes_75 : decode cX1_findPushes 75 = .ok (.invokevirtual 72, 3) := by decide +kernel
theorem dX1_findPushes_78 : decode cX1_findPushes 78 = .ok (.aload_n 0, 1) := by decide +kernel
theorem dX1_findPushes_79 : decode cX1_findPushes 79 = .ok (.iload_n 2, 1) := by decide +kernel
theorem dX1_findPushes_80 : decode cX1_findPushes 80 = .ok (.iconst 1, 1) := by decide +kernel
theorem dX1_findPushes_81 : decode cX1_findPushes 81 = .ok (.isub, 1) := by decide +kernel
theorem dX1_findPushes_82 : decode cX1_findPushes 82 = .ok (.iload_n 3, 1) := by decide +kernel
theorem dX1_findPushes_83 : decode cX1_findPushes 83 = .ok (.invokevirtual 72, 3) := by decide +kernel
theorem dX1_findPushes_86 : decode cX1_findPushes 86 = .ok (.lsub, 1) := by decide +kernel
theorem dX1_findPushes_87 : decode cX1_findPushes 87 = .ok (.invokestatic 76, 3) := by decide +kernel
theorem dX1_findPushes_90 : decode cX1_findPushes 90 = .ok (.iastore, 1) := by decide +kernel
theorem dX1_findPushes_91 : decode cX1_findPushes 91 = .ok (.aload_n 0, 1) := by decide +kernel
theorem dX1_findPushes_92 : decode cX1_findPushes 92 = .ok (.getfield 15, 3) := by decide +kernel
theorem dX1_findPushes_95 : decode cX1_findPushes 95 = .ok (.iload_n 1, 1) := by decide +kernel
theorem dX1_findPushes_96 : decode cX1_findPushes 96 = .ok (.aload_n 0, 1) := by decide +kernel
theorem dX1_findPushes_97 : decode cX1_findPushes 97 = .ok (.iload_n 2, 1) := by decide +kernel
theorem dX1_findPushes_98 : decode cX1_findPushes 98 = .ok (.iload_n 3, 1) := by decide +kernel
theorem dX1_findPushes_99 : decode cX1_findPushes 99 = .ok (.iconst 1, 1) := by decide +kernel
theorem dX1_findPushes_100 : decode cX1_findPushes 100 = .ok (.iadd, 1) := by decide +kernel
theorem dX1_findPushes_101 : decode cX1_findPushes 101 = .ok (.invokevirtual 72, 3) := by decide +kernel
theorem dX1_findPushes_104 : decode cX1_findPushes 104 = .ok (.aload_n 0, 1) := by decide +kernel
theorem dX1_findPushes_105 : decode cX1_findPushes 105 = .ok (.iload_n 2, 1) := by decide +kernel
theorem dX1_findPushes_106 : decode cX1_findPushes 106 = .ok (.iload_n 3, 1) := by decide +kernel
theorem dX1_findPushes_107 : decode cX1_findPushes 107 = .ok (.iconst 1, 1) := by decide +kernel
theorem dX1_findPushes_108 : decode cX1_findPushes 108 = .ok (.isub, 1) := by decide +kernel
theorem dX1_findPushes_109 : decode cX1_findPushes 109 = .ok (.invokevirtual 72, 3) := by decide +kernel
theorem dX1_findPushes_112 : decode cX1_findPushes 112 = .ok (.lsub, 1) := by decide +kernel
theorem dX1_findPushes_113 : decode cX1_findPushes 113 = .ok (.invokestatic 76, 3) := by decide +kernel
theorem dX1_findPushes_116 : decode cX1_findPushes 116 = .ok (.iastore, 1) := by decide +kernel
theorem dX1_findPushes_117 : decode cX1_findPushes 117 = .ok (.iinc 1 1, 3) := by decide +kernel
theorem dX1_findPushes_120 : decode cX1_findPushes 120 = .ok (.goto (-93), 3) := by decide +kernel
theorem dX1_findPushes_123 : decode cX1_findPushes 123 = .ok (.return_, 1) := by decide +kernel
theorem dX1_wholeSum_0 : decode cX1_wholeSum 0 = .ok (.aload_n 0, 1) := by decide +kernel
theorem dX1_wholeSum_1 : decode cX1_wholeSum 1 = .ok (.getfield 30, 3) := by decide +kernel
theorem dX1_wholeSum_4 : decode cX1_wholeSum 4 = .ok (.getfield 80, 3) := by decide +kernel
theorem dX1_wholeSum_7 : decode cX1_wholeSum 7 = .ok (.iload_n 1, 1) := by decide +kernel
theorem dX1_wholeSum_8 : decode cX1_wholeSum 8 = .ok (.iconst 0, 1) := by decide +kernel
theorem dX1_wholeSum_9 : decode cX1_wholeSum 9 = .ok (.iconst 0, 1) := by decide +kernel
theorem dX1_wholeSum_10 : decode cX1_wholeSum 10 = .ok (.invokestatic 84, 3) := by decide +kernel
theorem dX1_wholeSum_13 : decode cX1_wholeSum 13 = .ok (.i2l, 1) := by decide +kernel
theorem dX1_wholeSum_14 : decode cX1_wholeSum 14 = .ok (.iload_n 2, 1) := by decide +kernel
theorem dX1_wholeSum_15 : decode cX1_wholeSum 15 = .ok (.iconst 0, 1) := by decide +kernel
theorem dX1_wholeSum_16 : decode cX1_wholeSum 16 = .ok (.iconst 0, 1) := by decide +kernel
theorem dX1_wholeSum_17 : decode cX1_wholeSum 17 = .ok (.invokestatic 84, 3) := by decide +kernel
theorem dX1_wholeSum_20 : decode cX1_wholeSum 20 = .ok (.i2l, 1) := by decide +kernel
theorem dX1_wholeSum_21 : decode cX1_wholeSum 21 = .ok (.invokevirtual 88, 3) := by decide +kernel
theorem dX1_wholeSum_24 : decode cX1_wholeSum 24 = .ok (.lreturn, 1) := by decide +kernel
theorem dX1_pushOf_0 : decode cX1_pushOf 0 = .ok (.lload_n 0, 1) := by decide +kernel
theorem dX1_pushOf_1 : decode cX1_pushOf 1 = .ok (.bipush 12, 2) := by decide +kernel
theorem dX1_pushOf_3 : decode cX1_pushOf 3 = .ok (.lshr, 1) := by decide +kernel
theorem dX1_pushOf_4 : decode cX1_pushOf 4 = .ok (.invokestatic 94, 3) := by decide +kernel
theorem dX1_pushOf_7 : decode cX1_pushOf 7 = .ok (.ireturn, 1) := by decide +kernel
theorem dX1_addPushes_0 : decode cX1_addPushes 0 = .ok (.iconst 0, 1) := by decide +kernel
theorem dX1_addPushes_1 : decode cX1_addPushes 1 = .ok (.istore_n 2, 1) := by decide +kernel
theorem dX1_addPushes_2 : decode cX1_addPushes 2 = .ok (.iload_n 2, 1) := by decide +kernel
theorem dX1_addPushes_3 : decode cX1_addPushes 3 = .ok (.bipush 40, 2) := by decide +kernel
theorem dX1_addPushes_5 : decode cX1_addPushes 5 = .ok (.if_icmp .ge 73, 3) := by decide +kernel
theorem dX1_addPushes_8 : decode cX1_addPushes 8 = .ok (.aload_n 0, 1) := by decide +kernel
theorem dX1_addPushes_9 : decode cX1_addPushes 9 = .ok (.getfield 22, 3) := by decide +kernel
theorem dX1_addPushes_12 : decode cX1_addPushes 12 = .ok (.getfield 60, 3) := by decide +kernel
theorem dX1_addPushes_15 : decode cX1_addPushes 15 = .ok (.iload_n 2, 1) := by decide +kernel
theorem dX1_addPushes_16 : decode cX1_addPushes 16 = .ok (.baload, 1) := by decide +kernel
theorem dX1_addPushes_17 : decode cX1_addPushes 17 = .ok (.ifCond .eq 55, 3) := by decide +kernel
theorem dX1_addPushes_20 : decode cX1_addPushes 20 = .ok (.aload_n 0, 1) := by decide +kernel
theorem dX1_addPushes_21 : decode cX1_addPushes 21 = .ok (.getfield 22, 3) := by decide +kernel
theorem dX1_addPushes_24 : decode cX1_addPushes 24 = .ok (.iload_n 2, 1) := by decide +kernel
theorem dX1_addPushes_25 : decode cX1_addPushes 25 = .ok (.aload_n 0, 1) := by decide +kernel
theorem dX1_addPushes_26 : decode cX1_addPushes 26 = .ok (.getfield 22, 3) := by decide +kernel
theorem dX1_addPushes_29 : decode cX1_addPushes 29 = .ok (.getfield 97, 3) := by decide +kernel
theorem dX1_addPushes_32 : decode cX1_addPushes 32 = .ok (.iload_n 2, 1) := by decide +kernel
theorem dX1_addPushes_33 : decode cX1_addPushes 33 = .ok (.iaload, 1) := by decide +kernel
theorem dX1_addPushes_34 : decode cX1_addPushes 34 = .ok (.iload_n 1, 1) := by decide +kernel
theorem dX1_addPushes_35 : decode cX1_addPushes 35 = .ok (.aload_n 0, 1) := by decide +kernel
theorem dX1_addPushes_36 : decode cX1_addPushes 36 = .ok (.getfield 9, 3) := by decide +kernel
theorem dX1_addPushes_39 : decode cX1_addPushes 39 = .ok (.iload_n 2, 1) := by decide +kernel
theorem dX1_addPushes_40 : decode cX1_addPushes 40 = .ok (.iaload, 1) := by decide +kernel
theorem dX1_addPushes_41 : decode cX1_addPushes 41 = .ok (.imul, 1) := by decide +kernel
theorem dX1_addPushes_42 : decode cX1_addPushes 42 = .ok (.iadd, 1) := by decide +kernel
theorem dX1_addPushes_43 : decode cX1_addPushes 43 = .ok (.i2l, 1) := by decide +kernel
theorem dX1_addPushes_44 : decode cX1_addPushes 44 = .ok (.invokestatic 94, 3) := by decide +kernel
theorem dX1_addPushes_47 : decode cX1_addPushes 47 = .ok (.aload_n 0, 1) := by decide +kernel
theorem dX1_addPushes_48 : decode cX1_addPushes 48 = .ok (.getfield 22, 3) := by decide +kernel
theorem dX1_addPushes_51 : decode cX1_addPushes 51 = .ok (.getfield 100, 3) := by decide +kernel
theorem dX1_addPushes_54 : decode cX1_addPushes 54 = .ok (.iload_n 2, 1) := by decide +kernel
theorem dX1_addPushes_55 : decode cX1_addPushes 55 = .ok (.iaload, 1) := by decide +kernel
theorem dX1_addPushes_56 : decode cX1_addPushes 56 = .ok (.iload_n 1, 1) := by decide +kernel
theorem dX1_addPushes_57 : decode cX1_addPushes 57 = .ok (.aload_n 0, 1) := by decide +kernel
theorem dX1_addPushes_58 : decode cX1_addPushes 58 = .ok (.getfield 15, 3) := by decide +kernel
theorem dX1_addPushes_61 : decode cX1_addPushes 61 = .ok (.iload_n 2, 1) := by decide +kernel
theorem dX1_addPushes_62 : decode cX1_addPushes 62 = .ok (.iaload, 1) := by decide +kernel
theorem dX1_addPushes_63 : decode cX1_addPushes 63 = .ok (.imul, 1) := by decide +kernel
theorem dX1_addPushes_64 : decode cX1_addPushes 64 = .ok (.iadd, 1) := by decide +kernel
theorem dX1_addPushes_65 : decode cX1_addPushes 65 = .ok (.i2l, 1) := by decide +kernel
theorem dX1_addPushes_66 : decode cX1_addPushes 66 = .ok (.invokestatic 94, 3) := by decide +kernel
theorem dX1_addPushes_69 : decode cX1_addPushes 69 = .ok (.invokevirtual 103, 3) := by decide +kernel
theorem dX1_addPushes_72 : decode cX1_addPushes 72 = .ok (.iinc 2 1, 3) := by decide +kernel
theorem dX1_addPushes_75 : decode cX1_addPushes 75 = .ok (.goto (-73), 3) := by decide +kernel
theorem dX1_addPushes_78 : decode cX1_addPushes 78 = .ok (.return_, 1) := by decide +kernel
theorem dX1_shiftPlaces_0 : decode cX1_shiftPlaces 0 = .ok (.iconst 0, 1) := by decide +kernel
theorem dX1_shiftPlaces_1 : decode cX1_shiftPlaces 1 = .ok (.istore_n 2, 1) := by decide +kernel
theorem dX1_shiftPlaces_2 : decode cX1_shiftPlaces 2 = .ok (.iload_n 2, 1) := by decide +kernel
theorem dX1_shiftPlaces_3 : decode cX1_shiftPlaces 3 = .ok (.bipush 40, 2) := by decide +kernel
theorem dX1_shiftPlaces_5 : decode cX1_shiftPlaces 5 = .ok (.if_icmp .ge 127, 3) := by decide +kernel
theorem dX1_shiftPlaces_8 : decode cX1_shiftPlaces 8 = .ok (.aload_n 0, 1) := by decide +kernel
theorem dX1_shiftPlaces_9 : decode cX1_shiftPlaces 9 = .ok (.getfield 22, 3) := by decide +kernel
theorem dX1_shiftPlaces_12 : decode cX1_shiftPlaces 12 = .ok (.getfield 60, 3) := by decide +kernel
theorem dX1_shiftPlaces_15 : decode cX1_shiftPlaces 15 = .ok (.iload_n 2, 1) := by decide +kernel
theorem dX1_shiftPlaces_16 : decode cX1_shiftPlaces 16 = .ok (.baload, 1) := by decide +kernel
theorem dX1_shiftPlaces_17 : decode cX1_shiftPlaces 17 = .ok (.ifCond .eq 109, 3) := by decide +kernel
theorem dX1_shiftPlaces_20 : decode cX1_shiftPlaces 20 = .ok (.aload_n 0, 1) := by decide +kernel
theorem dX1_shiftPlaces_21 : decode cX1_shiftPlaces 21 = .ok (.getfield 26, 3) := by decide +kernel
theorem dX1_shiftPlaces_24 : decode cX1_shiftPlaces 24 = .ok (.aload_n 0, 1) := by decide +kernel
theorem dX1_shiftPlaces_25 : decode cX1_shiftPlaces 25 = .ok (.getfield 22, 3) := by decide +kernel
theorem dX1_shiftPlaces_28 : decode cX1_shiftPlaces 28 = .ok (.getfield 66, 3) := by decide +kernel
theorem dX1_shiftPlaces_31 : decode cX1_shiftPlaces 31 = .ok (.iload_n 2, 1) := by decide +kernel
theorem dX1_shiftPlaces_32 : decode cX1_shiftPlaces 32 = .ok (.iaload, 1) := by decide +kernel
theorem dX1_shiftPlaces_33 : decode cX1_shiftPlaces 33 = .ok (.aload_n 0, 1) := by decide +kernel
theorem dX1_shiftPlaces_34 : decode cX1_shiftPlaces 34 = .ok (.getfield 22, 3) := by decide +kernel
theorem dX1_shiftPlaces_37 : decode cX1_shiftPlaces 37 = .ok (.getfield 69, 3) := by decide +kernel
theorem dX1_shiftPlaces_40 : decode cX1_shiftPlaces 40 = .ok (.iload_n 2, 1) := by decide +kernel
theorem dX1_shiftPlaces_41 : decode cX1_shiftPlaces 41 = .ok (.iaload, 1) := by decide +kernel
theorem dX1_shiftPlaces_42 : decode cX1_shiftPlaces 42 = .ok (.invokevirtual 106, 3) := by decide +kernel
theorem dX1_shiftPlaces_45 : decode cX1_shiftPlaces 45 = .ok (.aload_n 0, 1) := by decide +kernel
theorem dX1_shiftPlaces_46 : decode cX1_shiftPlaces 46 = .ok (.getfield 22, 3) := by decide +kernel
theorem dX1_shiftPlaces_49 : decode cX1_shiftPlaces 49 = .ok (.iload_n 2, 1) := by decide +kernel
theorem dX1_shiftPlaces_50 : decode cX1_shiftPlaces 50 = .ok (.aload_n 0, 1) := by decide +kernel
theorem dX1_shiftPlaces_51 : decode cX1_shiftPlaces 51 = .ok (.getfield 22, 3) := by decide +kernel
theorem dX1_shiftPlaces_54 : decode cX1_shiftPlaces 54 = .ok (.getfield 66, 3) := by decide +kernel
theorem dX1_shiftPlaces_57 : decode cX1_shiftPlaces 57 = .ok (.iload_n 2, 1) := by decide +kernel
theorem dX1_shiftPlaces_58 : decode cX1_shiftPlaces 58 = .ok (.iaload, 1) := by decide +kernel
theorem dX1_shiftPlaces_59 : decode cX1_shiftPlaces 59 = .ok (.iload_n 1, 1) := by decide +kernel
theorem dX1_shiftPlaces_60 : decode cX1_shiftPlaces 60 = .ok (.aload_n 0, 1) := by decide +kernel
theorem dX1_shiftPlaces_61 : decode cX1_shiftPlaces 61 = .ok (.getfield 22, 3) := by decide +kernel
theorem dX1_shiftPlaces_64 : decode cX1_shiftPlaces 64 = .ok (.getfield 97, 3) := by decide +kernel
theorem dX1_shiftPlaces_67 : decode cX1_shiftPlaces 67 = .ok (.iload_n 2, 1) := by decide +kernel
theorem dX1_shiftPlaces_68 : decode cX1_shiftPlaces 68 = .ok (.iaload, 1) := by decide +kernel
theorem dX1_shiftPlaces_69 : decode cX1_shiftPlaces 69 = .ok (.imul, 1) := by decide +kernel
theorem dX1_shiftPlaces_70 : decode cX1_shiftPlaces 70 = .ok (.iadd, 1) := by decide +kernel
theorem dX1_shiftPlaces_71 : decode cX1_shiftPlaces 71 = .ok (.invokestatic 110, 3) := by decide +kernel
theorem dX1_shiftPlaces_74 : decode cX1_shiftPlaces 74 = .ok (.aload_n 0, 1) := by decide +kernel
theorem dX1_shiftPlaces_75 : decode cX1_shiftPlaces 75 = .ok (.getfield 22, 3) := by decide +kernel
theorem dX1_shiftPlaces_78 : decode cX1_shiftPlaces 78 = .ok (.getfield 69, 3) := by decide +kernel
theorem dX1_shiftPlaces_81 : decode cX1_shiftPlaces 81 = .ok (.iload_n 2, 1) := by decide +kernel
theorem dX1_shiftPlaces_82 : decode cX1_shiftPlaces 82 = .ok (.iaload, 1) := by decide +kernel
theorem dX1_shiftPlaces_83 : decode cX1_shiftPlaces 83 = .ok (.iload_n 1, 1) := by decide +kernel
theorem dX1_shiftPlaces_84 : decode cX1_shiftPlaces 84 = .ok (.aload_n 0, 1) := by decide +kernel
theorem dX1_shiftPlaces_85 : decode cX1_shiftPlaces 85 = .ok (.getfield 22, 3) := by decide +kernel
theorem dX1_shiftPlaces_88 : decode cX1_shiftPlaces 88 = .ok (.getfield 100, 3) := by decide +kernel
theorem dX1_shiftPlaces_91 : decode cX1_shiftPlaces 91 = .ok (.iload_n 2, 1) := by decide +kernel
theorem dX1_shiftPlaces_92 : decode cX1_shiftPlaces 92 = .ok (.iaload, 1) := by decide +kernel
theorem dX1_shiftPlaces_93 : decode cX1_shiftPlaces 93 = .ok (.imul, 1) := by decide +kernel
theorem dX1_shiftPlaces_94 : decode cX1_shiftPlaces 94 = .ok (.iadd, 1) := by decide +kernel
theorem dX1_shiftPlaces_95 : decode cX1_shiftPlaces 95 = .ok (.invokestatic 110, 3) := by decide +kernel
theorem dX1_shiftPlaces_98 : decode cX1_shiftPlaces 98 = .ok (.invokevirtual 114, 3) := by decide +kernel
theorem dX1_shiftPlaces_101 : decode cX1_shiftPlaces 101 = .ok (.aload_n 0, 1) := by decide +kernel
theorem dX1_shiftPlaces_102 : decode cX1_shiftPlaces 102 = .ok (.getfield 26, 3) := by decide +kernel
theorem dX1_shiftPlaces_105 : decode cX1_shiftPlaces 105 = .ok (.aload_n 0, 1) := by decide +kernel
theorem dX1_shiftPlaces_106 : decode cX1_shiftPlaces 106 = .ok (.getfield 22, 3) := by decide +kernel
theorem dX1_shiftPlaces_109 : decode cX1_shiftPlaces 109 = .ok (.getfield 66, 3) := by decide +kernel
theorem dX1_shiftPlaces_112 : decode cX1_shiftPlaces 112 = .ok (.iload_n 2, 1) := by decide +kernel
theorem dX1_shiftPlaces_113 : decode cX1_shiftPlaces 113 = .ok (.iaload, 1) := by decide +kernel
theorem dX1_shiftPlaces_114 : decode cX1_shiftPlaces 114 = .ok (.aload_n 0, 1) := by decide +kernel
theorem dX1_shiftPlaces_115 : decode cX1_shiftPlaces 115 = .ok (.getfield 22, 3) := by decide +kernel
theorem dX1_shiftPlaces_118 : decode cX1_shiftPlaces 118 = .ok (.getfield 69, 3) := by decide +kernel
theorem dX1_shiftPlaces_121 : decode cX1_shiftPlaces 121 = .ok (.iload_n 2, 1) := by decide +kernel
theorem dX1_shiftPlaces_122 : decode cX1_shiftPlaces 122 = .ok (.iaload, 1) := by decide +kernel
theorem dX1_shiftPlaces_123 : decode cX1_shiftPlaces 123 = .ok (.invokevirtual 117, 3) := by decide +kernel
theorem dX1_shiftPlaces_126 : decode cX1_shiftPlaces 126 = .ok (.iinc 2 1, 3) := by decide +kernel
theorem dX1_shiftPlaces_129 : decode cX1_shiftPlaces 129 = .ok (.goto (-127), 3) := by decide +kernel
theorem dX1_shiftPlaces_132 : decode cX1_shiftPlaces 132 = .ok (.return_, 1) := by decide +kernel
theorem dX2_init_0 : decode cX2_init 0 = .ok (.aload_n 0, 1) := by decide +kernel
theorem dX2_init_1 : decode cX2_init 1 = .ok (.invokespecial 3, 3) := by decide +kernel
theorem dX2_init_4 : decode cX2_init 4 = .ok (.aload_n 0, 1) := by decide +kernel
theorem dX2_init_5 : decode cX2_init 5 = .ok (.bipush 40, 2) := by decide +kernel
theorem dX2_init_7 : decode cX2_init 7 = .ok (.newarray .boolean, 2) := by decide +kernel
theorem dX2_init_9 : decode cX2_init 9 = .ok (.putfield 9, 3) := by decide +kernel
theorem dX2_init_12 : decode cX2_init 12 = .ok (.aload_n 0, 1) := by decide +kernel
theorem dX2_init_13 : decode cX2_init 13 = .ok (.bipush 40, 2) := by decide +kernel
theorem dX2_init_15 : decode cX2_init 15 = .ok (.newarray .int, 2) := by decide +kernel
theorem dX2_init_17 : decode cX2_init 17 = .ok (.putfield 15, 3) := by decide +kernel
theorem dX2_init_20 : decode cX2_init 20 = .ok (.aload_n 0, 1) := by decide +kernel
theorem dX2_init_21 : decode cX2_init 21 = .ok (.bipush 40, 2) := by decide +kernel
theorem dX2_init_23 : decode cX2_init 23 = .ok (.newarray .int, 2) := by decide +kernel
theorem dX2_init_25 : decode cX2_init 25 = .ok (.putfield 19, 3) := by decide +kernel
theorem dX2_init_28 : decode cX2_init 28 = .ok (.aload_n 0, 1) := by decide +kernel
theorem dX2_init_29 : decode cX2_init 29 = .ok (.bipush 40, 2) := by decide +kernel
theorem dX2_init_31 : decode cX2_init 31 = .ok (.newarray .int, 2) := by decide +kernel
theorem dX2_init_33 : decode cX2_init 33 = .ok (.putfield 22, 3) := by decide +kernel
theorem dX2_init_36 : decode cX2_init 36 = .ok (.aload_n 0, 1) := by decide +kernel
theorem dX2_init_37 : decode cX2_init 37 = .ok (.bipush 40, 2) := by decide +kernel
theorem dX2_init_39 : decode cX2_init 39 = .ok (.newarray .int, 2) := by decide +kernel
theorem dX2_init_41 : decode cX2_init 41 = .ok (.putfield 25, 3) := by decide +kernel
theorem dX2_init_44 : decode cX2_init 44 = .ok (.aload_n 0, 1) := by decide +kernel
theorem dX2_init_45 : decode cX2_init 45 = .ok (.bipush 40, 2) := by decide +kernel
theorem dX2_init_47 : decode cX2_init 47 = .ok (.newarray .int, 2) := by decide +kernel
theorem dX2_init_49 : decode cX2_init 49 = .ok (.putfield 28, 3) := by decide +kernel
theorem dX2_init_52 : decode cX2_init 52 = .ok (.aload_n 0, 1) := by decide +kernel
theorem dX2_init_53 : decode cX2_init 53 = .ok (.iconst 0, 1) := by decide +kernel
theorem dX2_init_54 : decode cX2_init 54 = .ok (.putfield 31, 3) := by decide +kernel
theorem dX2_init_57 : decode cX2_init 57 = .ok (.return_, 1) := by decide +kernel
theorem dX2_has_0 : decode cX2_has 0 = .ok (.iload_n 1, 1) := by decide +kernel
theorem dX2_has_1 : decode cX2_has 1 = .ok (.ifCond .lt 22, 3) := by decide +kernel
theorem dX2_has_4 : decode cX2_has 4 = .ok (.iload_n 1, 1) := by decide +kernel
theorem dX2_has_5 : decode cX2_has 5 = .ok (.bipush 40, 2) := by decide +kernel
theorem dX2_has_7 : decode cX2_has 7 = .ok (.if_icmp .ge 16, 3) := by decide +kernel
theorem dX2_has_10 : decode cX2_has 10 = .ok (.aload_n 0, 1) := by decide +kernel
theorem dX2_has_11 : decode cX2_has 11 = .ok (.getfield 9, 3) := by decide +kernel
theorem dX2_has_14 : decode cX2_has 14 = .ok (.iload_n 1, 1) := by decide +kernel
theorem dX2_has_15 : decode cX2_has 15 = .ok (.baload, 1) := by decide +kernel
theorem dX2_has_16 : decode cX2_has 16 = .ok (.ifCond .eq 7, 3) := by decide +kernel
theorem dX2_has_19 : decode cX2_has 19 = .ok (.iconst 1, 1) := by decide +kernel
theorem dX2_has_20 : decode cX2_has 20 = .ok (.goto 4, 3) := by decide +kernel
theorem dX2_has_23 : decode cX2_has 23 = .ok (.iconst 0, 1) := by decide +kernel
theorem dX2_has_24 : decode cX2_has 24 = .ok (.ireturn, 1) := by decide +kernel
theorem dX2_leastFree_0 : decode cX2_leastFree 0 = .ok (.iconst 0, 1) := by decide +kernel
theorem dX2_leastFree_1 : decode cX2_leastFree 1 = .ok (.istore_n 1, 1) := by decide +kernel
theorem dX2_leastFree_2 : decode cX2_leastFree 2 = .ok (.iload_n 1, 1) := by decide +kernel
theorem dX2_leastFree_3 : decode cX2_leastFree 3 = .ok (.bipush 40, 2) := by decide +kernel
theorem dX2_leastFree_5 : decode cX2_leastFree 5 = .ok (.if_icmp .ge 20, 3) := by decide +kernel
theorem dX2_leastFree_8 : decode cX2_leastFree 8 = .ok (.aload_n 0, 1) := by decide +kernel
theorem dX2_leastFree_9 : decode cX2_leastFree 9 = .ok (.getfield 9, 3) := by decide +kernel
theorem dX2_leastFree_12 : decode cX2_leastFree 12 = .ok (.iload_n 1, 1) := by decide +kernel
theorem dX2_leastFree_13 : decode cX2_leastFree 13 = .ok (.baload, 1) := by decide +kernel
theorem dX2_leastFree_14 : decode cX2_leastFree 14 = .ok (.ifCond .ne 5, 3) := by decide +kernel
theorem dX2_leastFree_17 : decode cX2_leastFree 17 = .ok (.iload_n 1, 1) := by decide +kernel
theorem dX2_leastFree_18 : decode cX2_leastFree 18 = .ok (.ireturn, 1) := by decide +kernel
theorem dX2_leastFree_19 : decode cX2_leastFree 19 = .ok (.iinc 1 1, 3) := by decide +kernel
theorem dX2_leastFree_22 : decode cX2_leastFree 22 = .ok (.goto (-20), 3) := by decide +kernel
theorem dX2_leastFree_25 : decode cX2_leastFree 25 = .ok (.iconst (-1), 1) := by decide +kernel
theorem dX2_leastFree_26 : decode cX2_leastFree 26 = .ok (.ireturn, 1) := by decide +kernel
theorem dX2_add_0 : decode cX2_add 0 = .ok (.aload_n 0, 1) := by decide +kernel
theorem dX2_add_1 : decode cX2_add 1 = .ok (.getfield 9, 3) := by decide +kernel
theorem dX2_add_4 : decode cX2_add 4 = .ok (.iload_n 1, 1) := by decide +kernel
theorem dX2_add_5 : decode cX2_add 5 = .ok (.iconst 1, 1) := by decide +kernel
theorem dX2_add_6 : decode cX2_add 6 = .ok (.bastore, 1) := by decide +kernel
theorem dX2_add_7 : decode cX2_add 7 = .ok (.aload_n 0, 1) := by decide +kernel
theorem dX2_add_8 : decode cX2_add 8 = .ok (.iload_n 1, 1) := by decide +kernel
theorem dX2_add_9 : decode cX2_add 9 = .ok (.iload_n 2, 1) := by decide +kernel
theorem dX2_add_10 : decode cX2_add 10 = .ok (.iload_n 3, 1) := by decide +kernel
theorem dX2_add_11 : decode cX2_add 11 = .ok (.invokevirtual 35, 3) := by decide +kernel
theorem dX2_add_14 : decode cX2_add 14 = .ok (.aload_n 0, 1) := by decide +kernel
theorem dX2_add_15 : decode cX2_add 15 = .ok (.getfield 22, 3) := by decide +kernel
theorem dX2_add_18 : decode cX2_add 18 = .ok (.iload_n 1, 1) := by decide +kernel
theorem dX2_add_19 : decode cX2_add 19 = .ok (.iload 4, 2) := by decide +kernel
theorem dX2_add_21 : decode cX2_add 21 = .ok (.iastore, 1) := by decide +kernel
theorem dX2_add_22 : decode cX2_add 22 = .ok (.aload_n 0, 1) := by decide +kernel
theorem dX2_add_23 : decode cX2_add 23 = .ok (.iload_n 1, 1) := by decide +kernel
theorem dX2_add_24 : decode cX2_add 24 = .ok (.iconst 0, 1) := by decide +kernel
theorem dX2_add_25 : decode cX2_add 25 = .ok (.iconst 0, 1) := by decide +kernel
theorem dX2_add_26 : decode cX2_add 26 = .ok (.invokevirtual 39, 3) := by decide +kernel
theorem dX2_add_29 : decode cX2_add 29 = .ok (.aload_n 0, 1) := by decide +kernel
theorem dX2_add_30 : decode cX2_add 30 = .ok (.dup, 1) := by decide +kernel
theorem dX2_add_31 : decode cX2_add 31 = .ok (.getfield 31, 3) := by decide +kernel
theorem dX2_add_34 : decode cX2_add 34 = .ok (.iconst 1, 1) := by decide +kernel
theorem dX2_add_35 : decode cX2_add 35 = .ok (.iadd, 1) := by decide +kernel
theorem dX2_add_36 : decode cX2_add 36 = .ok (.putfield 31, 3) := by decide +kernel
theorem dX2_add_39 : decode cX2_add 39 = .ok (.return_, 1) := by decide +kernel
theorem dX2_remove_0 : decode cX2_remove 0 = .ok (.aload_n 0, 1) := by decide +kernel
theorem dX2_remove_1 : decode cX2_remove 1 = .ok (.getfield 9, 3) := by decide +kernel
theorem dX2_remove_4 : decode cX2_remove 4 = .ok (.iload_n 1, 1) := by decide +kernel
theorem dX2_remove_5 : decode cX2_remove 5 = .ok (.iconst 0, 1) := by decide +kernel
theorem dX2_remove_6 : decode cX2_remove 6 = .ok (.bastore, 1) := by decide +kernel
theorem dX2_remove_7 : decode cX2_remove 7 = .ok (.aload_n 0, 1) := by decide +kernel
theorem dX2_remove_8 : decode cX2_remove 8 = .ok (.dup, 1) := by decide +kernel
theorem dX2_remove_9 : decode cX2_remove 9 = .ok (.getfield 31, 3) := by decide +kernel
theorem dX2_remove_12 : decode cX2_remove 12 = .ok (.iconst 1, 1) := by decide +kernel
theorem dX2_remove_13 : decode cX2_remove 13 = .ok (.isub, 1) := by decide +kernel
theorem dX2_remove_14 : decode cX2_remove 14 = .ok (.putfield 31, 3) := by decide +kernel
theorem dX2_remove_17 : decode cX2_remove 17 = .ok (.return_, 1) := by decide +kernel
theorem dX2_put_0 : decode cX2_put 0 = .ok (.aload_n 0, 1) := by decide +kernel
theorem dX2_put_1 : decode cX2_put 1 = .ok (.getfield 15, 3) := by decide +kernel
theorem dX2_put_4 : decode cX2_put 4 = .ok (.iload_n 1, 1) := by decide +kernel
theorem dX2_put_5 : decode cX2_put 5 = .ok (.iload_n 2, 1) := by decide +kernel
theorem dX2_put_6 : decode cX2_put 6 = .ok (.iastore, 1) := by decide +kernel
theorem dX2_put_7 : decode cX2_put 7 = .ok (.aload_n 0, 1) := by decide +kernel
theorem dX2_put_8 : decode cX2_put 8 = .ok (.getfield 19, 3) := by decide +kernel
theorem dX2_put_11 : decode cX2_put 11 = .ok (.iload_n 1, 1) := by decide +kernel
theorem dX2_put_12 : decode cX2_put 12 = .ok (.iload_n 3, 1) := by decide +kernel
theorem dX2_put_13 : decode cX2_put 13 = .ok (.iastore, 1) := by decide +kernel
theorem dX2_put_14 : decode cX2_put 14 = .ok (.return_, 1) := by decide +kernel
theorem dX2_setPace_0 : decode cX2_setPace 0 = .ok (.aload_n 0, 1) := by decide +kernel
theorem dX2_setPace_1 : decode cX2_setPace 1 = .ok (.getfield 25, 3) := by decide +kernel
theorem dX2_setPace_4 : decode cX2_setPace 4 = .ok (.iload_n 1, 1) := by decide +kernel
theorem dX2_setPace_5 : decode cX2_setPace 5 = .ok (.iload_n 2, 1) := by decide +kernel
theorem dX2_setPace_6 : decode cX2_setPace 6 = .ok (.iastore, 1) := by decide +kernel
theorem dX2_setPace_7 : decode cX2_setPace 7 = .ok (.aload_n 0, 1) := by decide +kernel
theorem dX2_setPace_8 : decode cX2_setPace 8 = .ok (.getfield 28, 3) := by decide +kernel
theorem dX2_setPace_11 : decode cX2_setPace 11 = .ok (.iload_n 1, 1) := by decide +kernel
theorem dX2_setPace_12 : decode cX2_setPace 12 = .ok (.iload_n 3, 1) := by decide +kernel
theorem dX2_setPace_13 : decode cX2_setPace 13 = .ok (.iastore, 1) := by decide +kernel
theorem dX2_setPace_14 : decode cX2_setPace 14 = .ok (.return_, 1) := by decide +kernel
theorem dX2_read_0 : decode cX2_read 0 = .ok (.iload_n 2, 1) := by decide +kernel
theorem dX2_read_1 : decode cX2_read 1 = .ok (.tableswitch 70 0 4 #[35, 42, 49, 56, 63], 35) := by decide +kernel
theorem dX2_read_36 : decode cX2_read 36 = .ok (.aload_n 0, 1) := by decide +kernel
theorem dX2_read_37 : decode cX2_read 37 = .ok (.getfield 15, 3) := by decide +kernel
theorem dX2_read_40 : decode cX2_read 40 = .ok (.iload_n 1, 1) := by decide +kernel
theorem dX2_read_41 : decode cX2_read 41 = .ok (.iaload, 1) := by decide +kernel
theorem dX2_read_42 : decode cX2_read 42 = .ok (.ireturn, 1) := by decide +kernel
theorem dX2_read_43 : decode cX2_read 43 = .ok (.aload_n 0, 1) := by decide +kernel
theorem dX2_read_44 : decode cX2_read 44 = .ok (.getfield 19, 3) := by decide +kernel
theorem dX2_read_47 : decode cX2_read 47 = .ok (.iload_n 1, 1) := by decide +kernel
theorem dX2_read_48 : decode cX2_read 48 = .ok (.iaload, 1) := by decide +kernel
theorem dX2_read_49 : decode cX2_read 49 = .ok (.ireturn, 1) := by decide +kernel
theorem dX2_read_50 : decode cX2_read 50 = .ok (.aload_n 0, 1) := by decide +kernel
theorem dX2_read_51 : decode cX2_read 51 = .ok (.getfield 22, 3) := by decide +kernel
theorem dX2_read_54 : decode cX2_read 54 = .ok (.iload_n 1, 1) := by decide +kernel
theorem dX2_read_55 : decode cX2_read 55 = .ok (.iaload, 1) := by decide +kernel
theorem dX2_read_56 : decode cX2_read 56 = .ok (.ireturn, 1) := by decide +kernel
theorem dX2_read_57 : decode cX2_read 57 = .ok (.aload_n 0, 1) := by decide +kernel
theorem dX2_read_58 : decode cX2_read 58 = .ok (.getfield 25, 3) := by decide +kernel
theorem dX2_read_61 : decode cX2_read 61 = .ok (.iload_n 1, 1) := by decide +kernel
theorem dX2_read_62 : decode cX2_read 62 = .ok (.iaload, 1) := by decide +kernel
theorem dX2_read_63 : decode cX2_read 63 = .ok (.ireturn, 1) := by decide +kernel
theorem dX2_read_64 : decode cX2_read 64 = .ok (.aload_n 0, 1) := by decide +kernel
theorem dX2_read_65 : decode cX2_read 65 = .ok (.getfield 28, 3) := by decide +kernel
theorem dX2_read_68 : decode cX2_read 68 = .ok (.iload_n 1, 1) := by decide +kernel
theorem dX2_read_69 : decode cX2_read 69 = .ok (.iaload, 1) := by decide +kernel
theorem dX2_read_70 : decode cX2_read 70 = .ok (.ireturn, 1) := by decide +kernel
theorem dX2_read_71 : decode cX2_read 71 = .ok (.sipush (-2000), 3) := by decide +kernel
theorem dX2_read_74 : decode cX2_read 74 = .ok (.ireturn, 1) := by decide +kernel
theorem dX2_wholeBulk_0 : decode cX2_wholeBulk 0 = .ok (.iconst 0, 1) := by decide +kernel
theorem dX2_wholeBulk_1 : decode cX2_wholeBulk 1 = .ok (.istore_n 1, 1) := by decide +kernel
theorem dX2_wholeBulk_2 : decode cX2_wholeBulk 2 = .ok (.iconst 0, 1) := by decide +kernel
theorem dX2_wholeBulk_3 : decode cX2_wholeBulk 3 = .ok (.istore_n 2, 1) := by decide +kernel
theorem dX2_wholeBulk_4 : decode cX2_wholeBulk 4 = .ok (.iload_n 2, 1) := by decide +kernel
theorem dX2_wholeBulk_5 : decode cX2_wholeBulk 5 = .ok (.bipush 40, 2) := by decide +kernel
theorem dX2_wholeBulk_7 : decode cX2_wholeBulk 7 = .ok (.if_icmp .ge 30, 3) := by decide +kernel
theorem dX2_wholeBulk_10 : decode cX2_wholeBulk 10 = .ok (.aload_n 0, 1) := by decide +kernel
theorem dX2_wholeBulk_11 : decode cX2_wholeBulk 11 = .ok (.getfield 9, 3) := by decide +kernel
theorem dX2_wholeBulk_14 : decode cX2_wholeBulk 14 = .ok (.iload_n 2, 1) := by decide +kernel
theorem dX2_wholeBulk_15 : decode cX2_wholeBulk 15 = .ok (.baload, 1) := by decide +kernel
theorem dX2_wholeBulk_16 : decode cX2_wholeBulk 16 = .ok (.ifCond .eq 15, 3) := by decide +kernel
theorem dX2_wholeBulk_19 : decode cX2_wholeBulk 19 = .ok (.iload_n 1, 1) := by decide +kernel
theorem dX2_wholeBulk_20 : decode cX2_wholeBulk 20 = .ok (.aload_n 0, 1) := by decide +kernel
theorem dX2_wholeBulk_21 : decode cX2_wholeBulk 21 = .ok (.getfield 22, 3) := by decide +kernel
theorem dX2_wholeBulk_24 : decode cX2_wholeBulk 24 = .ok (.iload_n 2, 1) := by decide +kernel
theorem dX2_wholeBulk_25 : decode cX2_wholeBulk 25 = .ok (.iaload, 1) := by decide +kernel
theorem dX2_wholeBulk_26 : decode cX2_wholeBulk 26 = .ok (.invokestatic 42, 3) := by decide +kernel
theorem dX2_wholeBulk_29 : decode cX2_wholeBulk 29 = .ok (.iadd, 1) := by decide +kernel
theorem dX2_wholeBulk_30 : decode cX2_wholeBulk 30 = .ok (.istore_n 1, 1) := by decide +kernel
theorem dX2_wholeBulk_31 : decode cX2_wholeBulk 31 = .ok (.iinc 2 1, 3) := by decide +kernel
theorem dX2_wholeBulk_34 : decode cX2_wholeBulk 34 = .ok (.goto (-30), 3) := by decide +kernel
theorem dX2_wholeBulk_37 : decode cX2_wholeBulk 37 = .ok (.iload_n 1, 1) := by decide +kernel
theorem dX2_wholeBulk_38 : decode cX2_wholeBulk 38 = .ok (.ireturn, 1) := by decide +kernel
theorem dX2_nearerThan_0 : decode cX2_nearerThan 0 = .ok (.aload_n 0, 1) := by decide +kernel
theorem dX2_nearerThan_1 : decode cX2_nearerThan 1 = .ok (.iload_n 1, 1) := by decide +kernel
theorem dX2_nearerThan_2 : decode cX2_nearerThan 2 = .ok (.iload_n 2, 1) := by decide +kernel
theorem dX2_nearerThan_3 : decode cX2_nearerThan 3 = .ok (.iload_n 3, 1) := by decide +kernel
theorem dX2_nearerThan_4 : decode cX2_nearerThan 4 = .ok (.invokevirtual 48, 3) := by decide +kernel
theorem dX2_nearerThan_7 : decode cX2_nearerThan 7 = .ok (.istore 4, 2) := by decide +kernel
theorem dX2_nearerThan_9 : decode cX2_nearerThan 9 = .ok (.iconst 0, 1) := by decide +kernel
theorem dX2_nearerThan_10 : decode cX2_nearerThan 10 = .ok (.istore 5, 2) := by decide +kernel
theorem dX2_nearerThan_12 : decode cX2_nearerThan 12 = .ok (.iconst 0, 1) := by decide +kernel
theorem dX2_nearerThan_13 : decode cX2_nearerThan 13 = .ok (.istore 6, 2) := by decide +kernel
theorem dX2_nearerThan_15 : decode cX2_nearerThan 15 = .ok (.iload 6, 2) := by decide +kernel
theorem dX2_nearerThan_17 : decode cX2_nearerThan 17 = .ok (.bipush 40, 2) := by decide +kernel
theorem dX2_nearerThan_19 : decode cX2_nearerThan 19 = .ok (.if_icmp .ge 35, 3) := by decide +kernel
theorem dX2_nearerThan_22 : decode cX2_nearerThan 22 = .ok (.aload_n 0, 1) := by decide +kernel
theorem dX2_nearerThan_23 : decode cX2_nearerThan 23 = .ok (.getfield 9, 3) := by decide +kernel
theorem dX2_nearerThan_26 : decode cX2_nearerThan 26 = .ok (.iload 6, 2) := by decide +kernel
theorem dX2_nearerThan_28 : decode cX2_nearerThan 28 = .ok (.baload, 1) := by decide +kernel
theorem dX2_nearerThan_29 : decode cX2_nearerThan 29 = .ok (.ifCond .eq 19, 3) := by decide +kernel
theorem dX2_nearerThan_32 : decode cX2_nearerThan 32 = .ok (.aload_n 0, 1) := by decide +kernel
theorem dX2_nearerThan_33 : decode cX2_nearerThan 33 = .ok (.iload 6, 2) := by decide +kernel
theorem dX2_nearerThan_35 : decode cX2_nearerThan 35 = .ok (.iload_n 2, 1) := by decide +kernel
theorem dX2_nearerThan_36 : decode cX2_nearerThan 36 = .ok (.iload_n 3, 1) := by decide +kernel
theorem dX2_nearerThan_37 : decode cX2_nearerThan 37 = .ok (.invokevirtual 48, 3) := by decide +kernel
theorem dX2_nearerThan_40 : decode cX2_nearerThan 40 = .ok (.iload 4, 2) := by decide +kernel
theorem dX2_nearerThan_42 : decode cX2_nearerThan 42 = .ok (.if_icmp .ge 6, 3) := by decide +kernel
theorem dX2_nearerThan_45 : decode cX2_nearerThan 45 = .ok (.iinc 5 1, 3) := by decide +kernel
theorem dX2_nearerThan_48 : decode cX2_nearerThan 48 = .ok (.iinc 6 1, 3) := by decide +kernel
theorem dX2_nearerThan_51 : decode cX2_nearerThan 51 = .ok (.goto (-36), 3) := by decide +kernel
theorem dX2_nearerThan_54 : decode cX2_nearerThan 54 = .ok (.iload 5, 2) := by decide +kernel
theorem dX2_nearerThan_56 : decode cX2_nearerThan 56 = .ok (.ireturn, 1) := by decide +kernel
theorem dX2_rankKey_0 : decode cX2_rankKey 0 = .ok (.aload_n 0, 1) := by decide +kernel
theorem dX2_rankKey_1 : decode cX2_rankKey 1 = .ok (.getfield 15, 3) := by decide +kernel
theorem dX2_rankKey_4 : decode cX2_rankKey 4 = .ok (.iload_n 1, 1) := by decide +kernel
theorem dX2_rankKey_5 : decode cX2_rankKey 5 = .ok (.iaload, 1) := by decide +kernel
theorem dX2_rankKey_6 : decode cX2_rankKey 6 = .ok (.iload_n 2, 1) := by decide +kernel
theorem dX2_rankKey_7 : decode cX2_rankKey 7 = .ok (.isub, 1) := by decide +kernel
theorem dX2_rankKey_8 : decode cX2_rankKey 8 = .ok (.istore 4, 2) := by decide +kernel
theorem dX2_rankKey_10 : decode cX2_rankKey 10 = .ok (.aload_n 0, 1) := by decide +kernel
theorem dX2_rankKey_11 : decode cX2_rankKey 11 = .ok (.getfield 19, 3) := by decide +kernel
theorem dX2_rankKey_14 : decode cX2_rankKey 14 = .ok (.iload_n 1, 1) := by decide +kernel
theorem dX2_rankKey_15 : decode cX2_rankKey 15 = .ok (.iaload, 1) := by decide +kernel
theorem dX2_rankKey_16 : decode cX2_rankKey 16 = .ok (.iload_n 3, 1) := by decide +kernel
theorem dX2_rankKey_17 : decode cX2_rankKey 17 = .ok (.isub, 1) := by decide +kernel
theorem dX2_rankKey_18 : decode cX2_rankKey 18 = .ok (.istore 5, 2) := by decide +kernel
theorem dX2_rankKey_20 : decode cX2_rankKey 20 = .ok (.iload 4, 2) := by decide +kernel
theorem dX2_rankKey_22 : decode cX2_rankKey 22 = .ok (.iload 4, 2) := by decide +kernel
theorem dX2_rankKey_24 : decode cX2_rankKey 24 = .ok (.imul, 1) := by decide +kernel
theorem dX2_rankKey_25 : decode cX2_rankKey 25 = .ok (.iload 5, 2) := by decide +kernel
theorem dX2_rankKey_27 : decode cX2_rankKey 27 = .ok (.iload 5, 2) := by decide +kernel
theorem dX2_rankKey_29 : decode cX2_rankKey 29 = .ok (.imul, 1) := by decide +kernel
theorem dX2_rankKey_30 : decode cX2_rankKey 30 = .ok (.iadd, 1) := by decide +kernel
theorem dX2_rankKey_31 : decode cX2_rankKey 31 = .ok (.bipush 40, 2) := by decide +kernel
theorem dX2_rankKey_33 : decode cX2_rankKey 33 = .ok (.imul, 1) := by decide +kernel
theorem dX2_rankKey_34 : decode cX2_rankKey 34 = .ok (.iload_n 1, 1) := by decide +kernel
theorem dX2_rankKey_35 : decode cX2_rankKey 35 = .ok (.iadd, 1) := by decide +kernel
theorem dX2_rankKey_36 : decode cX2_rankKey 36 = .ok (.ireturn, 1) := by decide +kernel
theorem dX3_init_0 : decode cX3_init 0 = .ok (.aload_n 0, 1) := by decide +kernel
theorem dX3_init_1 : decode cX3_init 1 = .ok (.invokespecial 3, 3) := by decide +kernel
theorem dX3_init_4 : decode cX3_init 4 = .ok (.aload_n 0, 1) := by decide +kernel
theorem dX3_init_5 : decode cX3_init 5 = .ok (.bipush 25, 2) := by decide +kernel
theorem dX3_init_7 : decode cX3_init 7 = .ok (.newarray .long, 2) := by decide +kernel
theorem dX3_init_9 : decode cX3_init 9 = .ok (.putfield 9, 3) := by decide +kernel
theorem dX3_init_12 : decode cX3_init 12 = .ok (.return_, 1) := by decide +kernel
theorem dX3_get_0 : decode cX3_get 0 = .ok (.aload_n 0, 1) := by decide +kernel
theorem dX3_get_1 : decode cX3_get 1 = .ok (.getfield 9, 3) := by decide +kernel
theorem dX3_get_4 : decode cX3_get 4 = .ok (.iload_n 1, 1) := by decide +kernel
theorem dX3_get_5 : decode cX3_get 5 = .ok (.iload_n 2, 1) := by decide +kernel
theorem dX3_get_6 : decode cX3_get 6 = .ok (.invokestatic 15, 3) := by decide +kernel
theorem dX3_get_9 : decode cX3_get 9 = .ok (.laload, 1) := by decide +kernel
theorem dX3_get_10 : decode cX3_get 10 = .ok (.lreturn, 1) := by decide +kernel
theorem dX3_set_0 : decode cX3_set 0 = .ok (.aload_n 0, 1) := by decide +kernel
theorem dX3_set_1 : decode cX3_set 1 = .ok (.getfield 9, 3) := by decide +kernel
theorem dX3_set_4 : decode cX3_set 4 = .ok (.iload_n 1, 1) := by decide +kernel
theorem dX3_set_5 : decode cX3_set 5 = .ok (.iload_n 2, 1) := by decide +kernel
theorem dX3_set_6 : decode cX3_set 6 = .ok (.invokestatic 15, 3) := by decide +kernel
theorem dX3_set_9 : decode cX3_set 9 = .ok (.lload_n 3, 1) := by decide +kernel
theorem dX3_set_10 : decode cX3_set 10 = .ok (.lastore, 1) := by decide +kernel
theorem dX3_set_11 : decode cX3_set 11 = .ok (.return_, 1) := by decide +kernel
theorem dX3_add_0 : decode cX3_add 0 = .ok (.aload_n 0, 1) := by decide +kernel
theorem dX3_add_1 : decode cX3_add 1 = .ok (.getfield 9, 3) := by decide +kernel
theorem dX3_add_4 : decode cX3_add 4 = .ok (.iload_n 1, 1) := by decide +kernel
theorem dX3_add_5 : decode cX3_add 5 = .ok (.iload_n 2, 1) := by decide +kernel
theorem dX3_add_6 : decode cX3_add 6 = .ok (.invokestatic 15, 3) := by decide +kernel
theorem dX3_add_9 : decode cX3_add 9 = .ok (.dup2, 1) := by decide +kernel
theorem dX3_add_10 : decode cX3_add 10 = .ok (.laload, 1) := by decide +kernel
theorem dX3_add_11 : decode cX3_add 11 = .ok (.lload_n 3, 1) := by decide +kernel
theorem dX3_add_12 : decode cX3_add 12 = .ok (.ladd, 1) := by decide +kernel
theorem dX3_add_13 : decode cX3_add 13 = .ok (.lastore, 1) := by decide +kernel
theorem dX3_add_14 : decode cX3_add 14 = .ok (.return_, 1) := by decide +kernel
theorem dX3_clear_0 : decode cX3_clear 0 = .ok (.iconst 0, 1) := by decide +kernel
theorem dX3_clear_1 : decode cX3_clear 1 = .ok (.istore_n 1, 1) := by decide +kernel
theorem dX3_clear_2 : decode cX3_clear 2 = .ok (.iload_n 1, 1) := by decide +kernel
theorem dX3_clear_3 : decode cX3_clear 3 = .ok (.bipush 25, 2) := by decide +kernel
theorem dX3_clear_5 : decode cX3_clear 5 = .ok (.if_icmp .ge 16, 3) := by decide +kernel
theorem dX3_clear_8 : decode cX3_clear 8 = .ok (.aload_n 0, 1) := by decide +kernel
theorem dX3_clear_9 : decode cX3_clear 9 = .ok (.getfield 9, 3) := by decide +kernel
theorem dX3_clear_12 : decode cX3_clear 12 = .ok (.iload_n 1, 1) := by decide +kernel
theorem dX3_clear_13 : decode cX3_clear 13 = .ok (.lconst 0, 1) := by decide +kernel
theorem dX3_clear_14 : decode cX3_clear 14 = .ok (.lastore, 1) := by decide +kernel
theorem dX3_clear_15 : decode cX3_clear 15 = .ok (.iinc 1 1, 3) := by decide +kernel
theorem dX3_clear_18 : decode cX3_clear 18 = .ok (.goto (-16), 3) := by decide +kernel
theorem dX3_clear_21 : decode cX3_clear 21 = .ok (.return_, 1) := by decide +kernel
theorem dX3_valueAt_0 : decode cX3_valueAt 0 = .ok (.lconst 0, 1) := by decide +kernel
theorem dX3_valueAt_1 : decode cX3_valueAt 1 = .ok (.lstore 5, 2) := by decide +kernel
theorem dX3_valueAt_3 : decode cX3_valueAt 3 = .ok (.iconst 4, 1) := by decide +kernel
theorem dX3_valueAt_4 : decode cX3_valueAt 4 = .ok (.istore 7, 2) := by decide +kernel
theorem dX3_valueAt_6 : decode cX3_valueAt 6 = .ok (.iload 7, 2) := by decide +kernel
theorem dX3_valueAt_8 : decode cX3_valueAt 8 = .ok (.ifCond .lt 57, 3) := by decide +kernel
theorem dX3_valueAt_11 : decode cX3_valueAt 11 = .ok (.lconst 0, 1) := by decide +kernel
theorem dX3_valueAt_12 : decode cX3_valueAt 12 = .ok (.lstore 8, 2) := by decide +kernel
theorem dX3_valueAt_14 : decode cX3_valueAt 14 = .ok (.iconst 4, 1) := by decide +kernel
theorem dX3_valueAt_15 : decode cX3_valueAt 15 = .ok (.iload 7, 2) := by decide +kernel
theorem dX3_valueAt_17 : decode cX3_valueAt 17 = .ok (.isub, 1) := by decide +kernel
theorem dX3_valueAt_18 : decode cX3_valueAt 18 = .ok (.istore 10, 2) := by decide +kernel
theorem dX3_valueAt_20 : decode cX3_valueAt 20 = .ok (.iload 10, 2) := by decide +kernel
theorem dX3_valueAt_22 : decode cX3_valueAt 22 = .ok (.ifCond .lt 28, 3) := by decide +kernel
theorem dX3_valueAt_25 : decode cX3_valueAt 25 = .ok (.lload 8, 2) := by decide +kernel
theorem dX3_valueAt_27 : decode cX3_valueAt 27 = .ok (.lload_n 3, 1) := by decide +kernel
theorem dX3_valueAt_28 : decode cX3_valueAt 28 = .ok (.lmul, 1) := by decide +kernel
theorem dX3_valueAt_29 : decode cX3_valueAt 29 = .ok (.aload_n 0, 1) := by decide +kernel
theorem dX3_valueAt_30 : decode cX3_valueAt 30 = .ok (.getfield 9, 3) := by decide +kernel
theorem dX3_valueAt_33 : decode cX3_valueAt 33 = .ok (.iload 7, 2) := by decide +kernel
theorem dX3_valueAt_35 : decode cX3_valueAt 35 = .ok (.iload 10, 2) := by decide +kernel
theorem dX3_valueAt_37 : decode cX3_valueAt 37 = .ok (.invokestatic 15, 3) := by decide +kernel
theorem dX3_valueAt_40 : decode cX3_valueAt 40 = .ok (.laload, 1) := by decide +kernel
theorem dX3_valueAt_41 : decode cX3_valueAt 41 = .ok (.ladd, 1) := by decide +kernel
theorem dX3_valueAt_42 : decode cX3_valueAt 42 = .ok (.lstore 8, 2) := by decide +kernel
theorem dX3_valueAt_44 : decode cX3_valueAt 44 = .ok (.iinc 10 (-1), 3) := by decide +kernel
theorem dX3_valueAt_47 : decode cX3_valueAt 47 = .ok (.goto (-27), 3) := by decide +kernel
theorem dX3_valueAt_50 : decode cX3_valueAt 50 = .ok (.lload 5, 2) := by decide +kernel
theorem dX3_valueAt_52 : decode cX3_valueAt 52 = .ok (.lload_n 1, 1) := by decide +kernel
theorem dX3_valueAt_53 : decode cX3_valueAt 53 = .ok (.lmul, 1) := by decide +kernel
theorem dX3_valueAt_54 : decode cX3_valueAt 54 = .ok (.lload 8, 2) := by decide +kernel
theorem dX3_valueAt_56 : decode cX3_valueAt 56 = .ok (.ladd, 1) := by decide +kernel
theorem dX3_valueAt_57 : decode cX3_valueAt 57 = .ok (.lstore 5, 2) := by decide +kernel
theorem dX3_valueAt_59 : decode cX3_valueAt 59 = .ok (.iinc 7 (-1), 3) := by decide +kernel
theorem dX3_valueAt_62 : decode cX3_valueAt 62 = .ok (.goto (-56), 3) := by decide +kernel
theorem dX3_valueAt_65 : decode cX3_valueAt 65 = .ok (.lload 5, 2) := by decide +kernel
theorem dX3_valueAt_67 : decode cX3_valueAt 67 = .ok (.lreturn, 1) := by decide +kernel
theorem dX4_init_0 : decode cX4_init 0 = .ok (.aload_n 0, 1) := by decide +kernel
theorem dX4_init_1 : decode cX4_init 1 = .ok (.invokespecial 3, 3) := by decide +kernel
theorem dX4_init_4 : decode cX4_init 4 = .ok (.aload_n 0, 1) := by decide +kernel
theorem dX4_init_5 : decode cX4_init 5 = .ok (.new 9, 3) := by decide +kernel
theorem dX4_init_8 : decode cX4_init 8 = .ok (.dup, 1) := by decide +kernel
theorem dX4_init_9 : decode cX4_init 9 = .ok (.invokespecial 11, 3) := by decide +kernel
theorem dX4_init_12 : decode cX4_init 12 = .ok (.putfield 12, 3) := by decide +kernel
theorem dX4_init_15 : decode cX4_init 15 = .ok (.aload_n 0, 1) := by decide +kernel
theorem dX4_init_16 : decode cX4_init 16 = .ok (.aload_n 1, 1) := by decide +kernel
theorem dX4_init_17 : decode cX4_init 17 = .ok (.putfield 18, 3) := by decide +kernel
theorem dX4_init_20 : decode cX4_init 20 = .ok (.return_, 1) := by decide +kernel
theorem dX4_expandTerm_0 : decode cX4_expandTerm 0 = .ok (.aload_n 0, 1) := by decide +kernel
theorem dX4_expandTerm_1 : decode cX4_expandTerm 1 = .ok (.getfield 12, 3) := by decide +kernel
theorem dX4_expandTerm_4 : decode cX4_expandTerm 4 = .ok (.invokevirtual 21, 3) := by decide +kernel
theorem dX4_expandTerm_7 : decode cX4_expandTerm 7 = .ok (.iconst 0, 1) := by decide +kernel
theorem dX4_expandTerm_8 : decode cX4_expandTerm 8 = .ok (.istore_n 3, 1) := by decide +kernel
theorem dX4_expandTerm_9 : decode cX4_expandTerm 9 = .ok (.iload_n 3, 1) := by decide +kernel
theorem dX4_expandTerm_10 : decode cX4_expandTerm 10 = .ok (.iconst 4, 1) := by decide +kernel
theorem dX4_expandTerm_11 : decode cX4_expandTerm 11 = .ok (.if_icmp .gt 63, 3) := by decide +kernel
theorem dX4_expandTerm_14 : decode cX4_expandTerm 14 = .ok (.iconst 0, 1) := by decide +kernel
theorem dX4_expandTerm_15 : decode cX4_expandTerm 15 = .ok (.istore 4, 2) := by decide +kernel
theorem dX4_expandTerm_17 : decode cX4_expandTerm 17 = .ok (.iload_n 3, 1) := by decide +kernel
theorem dX4_expandTerm_18 : decode cX4_expandTerm 18 = .ok (.iload 4, 2) := by decide +kernel
theorem dX4_expandTerm_20 : decode cX4_expandTerm 20 = .ok (.iadd, 1) := by decide +kernel
theorem dX4_expandTerm_21 : decode cX4_expandTerm 21 = .ok (.iconst 4, 1) := by decide +kernel
theorem dX4_expandTerm_22 : decode cX4_expandTerm 22 = .ok (.if_icmp .gt 46, 3) := by decide +kernel
theorem dX4_expandTerm_25 : decode cX4_expandTerm 25 = .ok (.aload_n 0, 1) := by decide +kernel
theorem dX4_expandTerm_26 : decode cX4_expandTerm 26 = .ok (.getfield 18, 3) := by decide +kernel
theorem dX4_expandTerm_29 : decode cX4_expandTerm 29 = .ok (.iload_n 3, 1) := by decide +kernel
theorem dX4_expandTerm_30 : decode cX4_expandTerm 30 = .ok (.iload 4, 2) := by decide +kernel
theorem dX4_expandTerm_32 : decode cX4_expandTerm 32 = .ok (.invokevirtual 24, 3) := by decide +kernel
theorem dX4_expandTerm_35 : decode cX4_expandTerm 35 = .ok (.iconst 4, 1) := by decide +kernel
theorem dX4_expandTerm_36 : decode cX4_expandTerm 36 = .ok (.iload_n 3, 1) := by decide +kernel
theorem dX4_expandTerm_37 : decode cX4_expandTerm 37 = .ok (.isub, 1) := by decide +kernel
theorem dX4_expandTerm_38 : decode cX4_expandTerm 38 = .ok (.iload 4, 2) := by decide +kernel
theorem dX4_expandTerm_40 : decode cX4_expandTerm 40 = .ok (.isub, 1) := by decide +kernel
theorem dX4_expandTerm_41 : decode cX4_expandTerm 41 = .ok (.lshl, 1) := by decide +kernel
theorem dX4_expandTerm_42 : decode cX4_expandTerm 42 = .ok (.lstore 5, 2) := by decide +kernel
theorem dX4_expandTerm_44 : decode cX4_expandTerm 44 = .ok (.lload 5, 2) := by decide +kernel
theorem dX4_expandTerm_46 : decode cX4_expandTerm 46 = .ok (.lconst 0, 1) := by decide +kernel
theorem dX4_expandTerm_47 : decode cX4_expandTerm 47 = .ok (.lcmp, 1) := by decide +kernel
theorem dX4_expandTerm_48 : decode cX4_expandTerm 48 = .ok (.ifCond .eq 14, 3) := by decide +kernel
theorem dX4_expandTerm_51 : decode cX4_expandTerm 51 = .ok (.aload_n 0, 1) := by decide +kernel
theorem dX4_expandTerm_52 : decode cX4_expandTerm 52 = .ok (.iload_n 3, 1) := by decide +kernel
theorem dX4_expandTerm_53 : decode cX4_expandTerm 53 = .ok (.iload 4, 2) := by decide +kernel
theorem dX4_expandTerm_55 : decode cX4_expandTerm 55 = .ok (.lload 5, 2) := by decide +kernel
theorem dX4_expandTerm_57 : decode cX4_expandTerm 57 = .ok (.aload_n 1, 1) := by decide +kernel
theorem dX4_expandTerm_58 : decode cX4_expandTerm 58 = .ok (.iload_n 2, 1) := by decide +kernel
theorem dX4_expandTerm_59 : decode cX4_expandTerm 59 = .ok (.invokevirtual 28, 3) := by decide +kernel
theorem dX4_expandTerm_62 : decode cX4_expandTerm 62 = .ok (.iinc 4 1, 3) := by decide +kernel
theorem dX4_expandTerm_65 : decode cX4_expandTerm 65 = .ok (.goto (-48), 3) := by decide +kernel
theorem dX4_expandTerm_68 : decode cX4_expandTerm 68 = .ok (.iinc 3 1, 3) := by decide +kernel
theorem dX4_expandTerm_71 : decode cX4_expandTerm 71 = .ok (.goto (-62), 3) := by decide +kernel
theorem dX4_expandTerm_74 : decode cX4_expandTerm 74 = .ok (.return_, 1) := by decide +kernel
theorem dX4_expandEnd_0 : decode cX4_expandEnd 0 = .ok (.aload_n 0, 1) := by decide +kernel
theorem dX4_expandEnd_1 : decode cX4_expandEnd 1 = .ok (.getfield 12, 3) := by decide +kernel
theorem dX4_expandEnd_4 : decode cX4_expandEnd 4 = .ok (.invokevirtual 21, 3) := by decide +kernel
theorem dX4_expandEnd_7 : decode cX4_expandEnd 7 = .ok (.iconst 0, 1) := by decide +kernel
theorem dX4_expandEnd_8 : decode cX4_expandEnd 8 = .ok (.istore 5, 2) := by decide +kernel
theorem dX4_expandEnd_10 : decode cX4_expandEnd 10 = .ok (.iload 5, 2) := by decide +kernel
theorem dX4_expandEnd_12 : decode cX4_expandEnd 12 = .ok (.iconst 4, 1) := by decide +kernel
theorem dX4_expandEnd_13 : decode cX4_expandEnd 13 = .ok (.if_icmp .gt 73, 3) := by decide +kernel
theorem dX4_expandEnd_16 : decode cX4_expandEnd 16 = .ok (.iconst 0, 1) := by decide +kernel
theorem dX4_expandEnd_17 : decode cX4_expandEnd 17 = .ok (.istore 6, 2) := by decide +kernel
theorem dX4_expandEnd_19 : decode cX4_expandEnd 19 = .ok (.iload 5, 2) := by decide +kernel
theorem dX4_expandEnd_21 : decode cX4_expandEnd 21 = .ok (.iload 6, 2) := by decide +kernel
theorem dX4_expandEnd_23 : decode cX4_expandEnd 23 = .ok (.iadd, 1) := by decide +kernel
theorem dX4_expandEnd_24 : decode cX4_expandEnd 24 = .ok (.iconst 4, 1) := by decide +kernel
theorem dX4_expandEnd_25 : decode cX4_expandEnd 25 = .ok (.if_icmp .gt 55, 3) := by decide +kernel
theorem dX4_expandEnd_28 : decode cX4_expandEnd 28 = .ok (.aload_n 0, 1) := by decide +kernel
theorem dX4_expandEnd_29 : decode cX4_expandEnd 29 = .ok (.getfield 18, 3) := by decide +kernel
theorem dX4_expandEnd_32 : decode cX4_expandEnd 32 = .ok (.iload 5, 2) := by decide +kernel
theorem dX4_expandEnd_34 : decode cX4_expandEnd 34 = .ok (.iload 6, 2) := by decide +kernel
theorem dX4_expandEnd_36 : decode cX4_expandEnd 36 = .ok (.invokevirtual 24, 3) := by decide +kernel
theorem dX4_expandEnd_39 : decode cX4_expandEnd 39 = .ok (.invokestatic 32, 3) := by decide +kernel
theorem dX4_expandEnd_42 : decode cX4_expandEnd 42 = .ok (.iconst 4, 1) := by decide +kernel
theorem dX4_expandEnd_43 : decode cX4_expandEnd 43 = .ok (.iload 5, 2) := by decide +kernel
theorem dX4_expandEnd_45 : decode cX4_expandEnd 45 = .ok (.isub, 1) := by decide +kernel
theorem dX4_expandEnd_46 : decode cX4_expandEnd 46 = .ok (.iload 6, 2) := by decide +kernel
theorem dX4_expandEnd_48 : decode cX4_expandEnd 48 = .ok (.isub, 1) := by decide +kernel
theorem dX4_expandEnd_49 : decode cX4_expandEnd 49 = .ok (.lshl, 1) := by decide +kernel
theorem dX4_expandEnd_50 : decode cX4_expandEnd 50 = .ok (.lstore 7, 2) := by decide +kernel
theorem dX4_expandEnd_52 : decode cX4_expandEnd 52 = .ok (.lload 7, 2) := by decide +kernel
theorem dX4_expandEnd_54 : decode cX4_expandEnd 54 = .ok (.lconst 0, 1) := by decide +kernel
theorem dX4_expandEnd_55 : decode cX4_expandEnd 55 = .ok (.lcmp, 1) := by decide +kernel
theorem dX4_expandEnd_56 : decode cX4_expandEnd 56 = .ok (.ifCond .eq 18, 3) := by decide +kernel
theorem dX4_expandEnd_59 : decode cX4_expandEnd 59 = .ok (.aload_n 0, 1) := by decide +kernel
theorem dX4_expandEnd_60 : decode cX4_expandEnd 60 = .ok (.iload 5, 2) := by decide +kernel
theorem dX4_expandEnd_62 : decode cX4_expandEnd 62 = .ok (.iload 6, 2) := by decide +kernel
theorem dX4_expandEnd_64 : decode cX4_expandEnd 64 = .ok (.lload 7, 2) := by decide +kernel
theorem dX4_expandEnd_66 : decode cX4_expandEnd 66 = .ok (.lload_n 1, 1) := by decide +kernel
theorem dX4_expandEnd_67 : decode cX4_expandEnd 67 = .ok (.lmul, 1) := by decide +kernel
theorem dX4_expandEnd_68 : decode cX4_expandEnd 68 = .ok (.iload_n 3, 1) := by decide +kernel
theorem dX4_expandEnd_69 : decode cX4_expandEnd 69 = .ok (.iload 4, 2) := by decide +kernel
theorem dX4_expandEnd_71 : decode cX4_expandEnd 71 = .ok (.invokevirtual 38, 3) := by decide +kernel
theorem dX4_expandEnd_74 : decode cX4_expandEnd 74 = .ok (.iinc 6 1, 3) := by decide +kernel
theorem dX4_expandEnd_77 : decode cX4_expandEnd 77 = .ok (.goto (-58), 3) := by decide +kernel
theorem dX4_expandEnd_80 : decode cX4_expandEnd 80 = .ok (.iinc 5 1, 3) := by decide +kernel
theorem dX4_expandEnd_83 : decode cX4_expandEnd 83 = .ok (.goto (-73), 3) := by decide +kernel
theorem dX4_expandEnd_86 : decode cX4_expandEnd 86 = .ok (.return_, 1) := by decide +kernel
theorem dX4_addTermParts_0 : decode cX4_addTermParts 0 = .ok (.iconst 0, 1) := by decide +kernel
theorem dX4_addTermParts_1 : decode cX4_addTermParts 1 = .ok (.istore 7, 2) := by decide +kernel
theorem dX4_addTermParts_3 : decode cX4_addTermParts 3 = .ok (.iload 7, 2) := by decide +kernel
theorem dX4_addTermParts_5 : decode cX4_addTermParts 5 = .ok (.iload_n 1, 1) := by decide +kernel
theorem dX4_addTermParts_6 : decode cX4_addTermParts 6 = .ok (.if_icmp .gt 91, 3) := by decide +kernel
theorem dX4_addTermParts_9 : decode cX4_addTermParts 9 = .ok (.iconst 0, 1) := by decide +kernel
theorem dX4_addTermParts_10 : decode cX4_addTermParts 10 = .ok (.istore 8, 2) := by decide +kernel
theorem dX4_addTermParts_12 : decode cX4_addTermParts 12 = .ok (.iload 8, 2) := by decide +kernel
theorem dX4_addTermParts_14 : decode cX4_addTermParts 14 = .ok (.iload_n 2, 1) := by decide +kernel
theorem dX4_addTermParts_15 : decode cX4_addTermParts 15 = .ok (.if_icmp .gt 76, 3) := by decide +kernel
theorem dX4_addTermParts_18 : decode cX4_addTermParts 18 = .ok (.iload 7, 2) := by decide +kernel
theorem dX4_addTermParts_20 : decode cX4_addTermParts 20 = .ok (.iload 8, 2) := by decide +kernel
theorem dX4_addTermParts_22 : decode cX4_addTermParts 22 = .ok (.iadd, 1) := by decide +kernel
theorem dX4_addTermParts_23 : decode cX4_addTermParts 23 = .ok (.iload 6, 2) := by decide +kernel
theorem dX4_addTermParts_25 : decode cX4_addTermParts 25 = .ok (.if_icmp .gt 66, 3) := by decide +kernel
theorem dX4_addTermParts_28 : decode cX4_addTermParts 28 = .ok (.lload_n 3, 1) := by decide +kernel
theorem dX4_addTermParts_29 : decode cX4_addTermParts 29 = .ok (.iload_n 1, 1) := by decide +kernel
theorem dX4_addTermParts_30 : decode cX4_addTermParts 30 = .ok (.iload 7, 2) := by decide +kernel
theorem dX4_addTermParts_32 : decode cX4_addTermParts 32 = .ok (.iload_n 2, 1) := by decide +kernel
theorem dX4_addTermParts_33 : decode cX4_addTermParts 33 = .ok (.iload 8, 2) := by decide +kernel
theorem dX4_addTermParts_35 : decode cX4_addTermParts 35 = .ok (.invokestatic 42, 3) := by decide +kernel
theorem dX4_addTermParts_38 : decode cX4_addTermParts 38 = .ok (.lmul, 1) := by decide +kernel
theorem dX4_addTermParts_39 : decode cX4_addTermParts 39 = .ok (.aload 5, 2) := by decide +kernel
theorem dX4_addTermParts_41 : decode cX4_addTermParts 41 = .ok (.iload 7, 2) := by decide +kernel
theorem dX4_addTermParts_43 : decode cX4_addTermParts 43 = .ok (.iload 8, 2) := by decide +kernel
theorem dX4_addTermParts_45 : decode cX4_addTermParts 45 = .ok (.invokestatic 46, 3) := by decide +kernel
theorem dX4_addTermParts_48 : decode cX4_addTermParts 48 = .ok (.laload, 1) := by decide +kernel
theorem dX4_addTermParts_49 : decode cX4_addTermParts 49 = .ok (.lmul, 1) := by decide +kernel
theorem dX4_addTermParts_50 : decode cX4_addTermParts 50 = .ok (.lstore 9, 2) := by decide +kernel
theorem dX4_addTermParts_52 : decode cX4_addTermParts 52 = .ok (.aload_n 0, 1) := by decide +kernel
theorem dX4_addTermParts_53 : decode cX4_addTermParts 53 = .ok (.getfield 12, 3) := by decide +kernel
theorem dX4_addTermParts_56 : decode cX4_addTermParts 56 = .ok (.iload_n 1, 1) := by decide +kernel
theorem dX4_addTermParts_57 : decode cX4_addTermParts 57 = .ok (.iload 7, 2) := by decide +kernel
theorem dX4_addTermParts_59 : decode cX4_addTermParts 59 = .ok (.isub, 1) := by decide +kernel
theorem dX4_addTermParts_60 : decode cX4_addTermParts 60 = .ok (.iload_n 2, 1) := by decide +kernel
theorem dX4_addTermParts_61 : decode cX4_addTermParts 61 = .ok (.iload 8, 2) := by decide +kernel
theorem dX4_addTermParts_63 : decode cX4_addTermParts 63 = .ok (.isub, 1) := by decide +kernel
theorem dX4_addTermParts_64 : decode cX4_addTermParts 64 = .ok (.iload 7, 2) := by decide +kernel
theorem dX4_addTermParts_66 : decode cX4_addTermParts 66 = .ok (.iload 8, 2) := by decide +kernel
theorem dX4_addTermParts_68 : decode cX4_addTermParts 68 = .ok (.iadd, 1) := by decide +kernel
theorem dX4_addTermParts_69 : decode cX4_addTermParts 69 = .ok (.iconst 1, 1) := by decide +kernel
theorem dX4_addTermParts_70 : decode cX4_addTermParts 70 = .ok (.iand, 1) := by decide +kernel
theorem dX4_addTermParts_71 : decode cX4_addTermParts 71 = .ok (.ifCond .ne 8, 3) := by decide +kernel
theorem dX4_addTermParts_74 : decode cX4_addTermParts 74 = .ok (.lload 9, 2) := by decide +kernel
theorem dX4_addTermParts_76 : decode cX4_addTermParts 76 = .ok (.goto 6, 3) := by decide +kernel
theorem dX4_addTermParts_79 : decode cX4_addTermParts 79 = .ok (.lload 9, 2) := by decide +kernel
theorem dX4_addTermParts_81 : decode cX4_addTermParts 81 = .ok (.lneg, 1) := by decide +kernel
theorem dX4_addTermParts_82 : decode cX4_addTermParts 82 = .ok (.invokevirtual 50, 3) := by decide +kernel
theorem dX4_addTermParts_85 : decode cX4_addTermParts 85 = .ok (.iinc 8 1, 3) := by decide +kernel
theorem dX4_addTermParts_88 : decode cX4_addTermParts 88 = .ok (.goto (-76), 3) := by decide +kernel
theorem dX4_addTermParts_91 : decode cX4_addTermParts 91 = .ok (.iinc 7 1, 3) := by decide +kernel
theorem dX4_addTermParts_94 : decode cX4_addTermParts 94 = .ok (.goto (-91), 3) := by decide +kernel
theorem dX4_addTermParts_97 : decode cX4_addTermParts 97 = .ok (.return_, 1) := by decide +kernel
theorem dX4_addEndParts_0 : decode cX4_addEndParts 0 = .ok (.iconst 0, 1) := by decide +kernel
theorem dX4_addEndParts_1 : decode cX4_addEndParts 1 = .ok (.istore 7, 2) := by decide +kernel
theorem dX4_addEndParts_3 : decode cX4_addEndParts 3 = .ok (.iload 7, 2) := by decide +kernel
theorem dX4_addEndParts_5 : decode cX4_addEndParts 5 = .ok (.iload_n 1, 1) := by decide +kernel
theorem dX4_addEndParts_6 : decode cX4_addEndParts 6 = .ok (.if_icmp .gt 72, 3) := by decide +kernel
theorem dX4_addEndParts_9 : decode cX4_addEndParts 9 = .ok (.iconst 0, 1) := by decide +kernel
theorem dX4_addEndParts_10 : decode cX4_addEndParts 10 = .ok (.iload 6, 2) := by decide +kernel
theorem dX4_addEndParts_12 : decode cX4_addEndParts 12 = .ok (.iconst 1, 1) := by decide +kernel
theorem dX4_addEndParts_13 : decode cX4_addEndParts 13 = .ok (.iadd, 1) := by decide +kernel
theorem dX4_addEndParts_14 : decode cX4_addEndParts 14 = .ok (.iload 7, 2) := by decide +kernel
theorem dX4_addEndParts_16 : decode cX4_addEndParts 16 = .ok (.isub, 1) := by decide +kernel
theorem dX4_addEndParts_17 : decode cX4_addEndParts 17 = .ok (.invokestatic 54, 3) := by decide +kernel
theorem dX4_addEndParts_20 : decode cX4_addEndParts 20 = .ok (.istore 8, 2) := by decide +kernel
theorem dX4_addEndParts_22 : decode cX4_addEndParts 22 = .ok (.iload 8, 2) := by decide +kernel
theorem dX4_addEndParts_24 : decode cX4_addEndParts 24 = .ok (.iload_n 2, 1) := by decide +kernel
theorem dX4_addEndParts_25 : decode cX4_addEndParts 25 = .ok (.if_icmp .gt 47, 3) := by decide +kernel
theorem dX4_addEndParts_28 : decode cX4_addEndParts 28 = .ok (.aload_n 0, 1) := by decide +kernel
theorem dX4_addEndParts_29 : decode cX4_addEndParts 29 = .ok (.getfield 12, 3) := by decide +kernel
theorem dX4_addEndParts_32 : decode cX4_addEndParts 32 = .ok (.iload_n 1, 1) := by decide +kernel
theorem dX4_addEndParts_33 : decode cX4_addEndParts 33 = .ok (.iload 7, 2) := by decide +kernel
theorem dX4_addEndParts_35 : decode cX4_addEndParts 35 = .ok (.isub, 1) := by decide +kernel
theorem dX4_addEndParts_36 : decode cX4_addEndParts 36 = .ok (.iload_n 2, 1) := by decide +kernel
theorem dX4_addEndParts_37 : decode cX4_addEndParts 37 = .ok (.iload 8, 2) := by decide +kernel
theorem dX4_addEndParts_39 : decode cX4_addEndParts 39 = .ok (.isub, 1) := by decide +kernel
theorem dX4_addEndParts_40 : decode cX4_addEndParts 40 = .ok (.lload_n 3, 1) := by decide +kernel
theorem dX4_addEndParts_41 : decode cX4_addEndParts 41 = .ok (.iload_n 1, 1) := by decide +kernel
theorem dX4_addEndParts_42 : decode cX4_addEndParts 42 = .ok (.iload 7, 2) := by decide +kernel
theorem dX4_addEndParts_44 : decode cX4_addEndParts 44 = .ok (.iload_n 2, 1) := by decide +kernel
theorem dX4_addEndParts_45 : decode cX4_addEndParts 45 = .ok (.iload 8, 2) := by decide +kernel
theorem dX4_addEndParts_47 : decode cX4_addEndParts 47 = .ok (.invokestatic 42, 3) := by decide +kernel
theorem dX4_addEndParts_50 : decode cX4_addEndParts 50 = .ok (.lmul, 1) := by decide +kernel
theorem dX4_addEndParts_51 : decode cX4_addEndParts 51 = .ok (.iload 5, 2) := by decide +kernel
theorem dX4_addEndParts_53 : decode cX4_addEndParts 53 = .ok (.i2l, 1) := by decide +kernel
theorem dX4_addEndParts_54 : decode cX4_addEndParts 54 = .ok (.iload 7, 2) := by decide +kernel
theorem dX4_addEndParts_56 : decode cX4_addEndParts 56 = .ok (.iload 8, 2) := by decide +kernel
theorem dX4_addEndParts_58 : decode cX4_addEndParts 58 = .ok (.iadd, 1) := by decide +kernel
theorem dX4_addEndParts_59 : decode cX4_addEndParts 59 = .ok (.invokestatic 57, 3) := by decide +kernel
theorem dX4_addEndParts_62 : decode cX4_addEndParts 62 = .ok (.lmul, 1) := by decide +kernel
theorem dX4_addEndParts_63 : decode cX4_addEndParts 63 = .ok (.invokevirtual 50, 3) := by decide +kernel
theorem dX4_addEndParts_66 : decode cX4_addEndParts 66 = .ok (.iinc 8 1, 3) := by decide +kernel
theorem dX4_addEndParts_69 : decode cX4_addEndParts 69 = .ok (.goto (-47), 3) := by decide +kernel
theorem dX4_addEndParts_72 : decode cX4_addEndParts 72 = .ok (.iinc 7 1, 3) := by decide +kernel
theorem dX4_addEndParts_75 : decode cX4_addEndParts 75 = .ok (.goto (-72), 3) := by decide +kernel
theorem dX4_addEndParts_78 : decode cX4_addEndParts 78 = .ok (.return_, 1) := by decide +kernel
theorem dX4_waysToChoose_0 : decode cX4_waysToChoose 0 = .ok (.getstatic 61, 3) := by decide +kernel
theorem dX4_waysToChoose_3 : decode cX4_waysToChoose 3 = .ok (.iload_n 0, 1) := by decide +kernel
theorem dX4_waysToChoose_4 : decode cX4_waysToChoose 4 = .ok (.iload_n 1, 1) := by decide +kernel
theorem dX4_waysToChoose_5 : decode cX4_waysToChoose 5 = .ok (.invokestatic 46, 3) := by decide +kernel
theorem dX4_waysToChoose_8 : decode cX4_waysToChoose 8 = .ok (.iaload, 1) := by decide +kernel
theorem dX4_waysToChoose_9 : decode cX4_waysToChoose 9 = .ok (.getstatic 61, 3) := by decide +kernel
theorem dX4_waysToChoose_12 : decode cX4_waysToChoose 12 = .ok (.iload_n 2, 1) := by decide +kernel
theorem dX4_waysToChoose_13 : decode cX4_waysToChoose 13 = .ok (.iload_n 3, 1) := by decide +kernel
theorem dX4_waysToChoose_14 : decode cX4_waysToChoose 14 = .ok (.invokestatic 46, 3) := by decide +kernel
theorem dX4_waysToChoose_17 : decode cX4_waysToChoose 17 = .ok (.iaload, 1) := by decide +kernel
theorem dX4_waysToChoose_18 : decode cX4_waysToChoose 18 = .ok (.imul, 1) := by decide +kernel
theorem dX4_waysToChoose_19 : decode cX4_waysToChoose 19 = .ok (.i2l, 1) := by decide +kernel
theorem dX4_waysToChoose_20 : decode cX4_waysToChoose 20 = .ok (.lreturn, 1) := by decide +kernel
theorem dX4_power_0 : decode cX4_power 0 = .ok (.lconst 1, 1) := by decide +kernel
theorem dX4_power_1 : decode cX4_power 1 = .ok (.lstore_n 3, 1) := by decide +kernel
theorem dX4_power_2 : decode cX4_power 2 = .ok (.iconst 0, 1) := by decide +kernel
theorem dX4_power_3 : decode cX4_power 3 = .ok (.istore 5, 2) := by decide +kernel
theorem dX4_power_5 : decode cX4_power 5 = .ok (.iload 5, 2) := by decide +kernel
theorem dX4_power_7 : decode cX4_power 7 = .ok (.iload_n 2, 1) := by decide +kernel
theorem dX4_power_8 : decode cX4_power 8 = .ok (.if_icmp .ge 13, 3) := by decide +kernel
theorem dX4_power_11 : decode cX4_power 11 = .ok (.lload_n 3, 1) := by decide +kernel
theorem dX4_power_12 : decode cX4_power 12 = .ok (.lload_n 0, 1) := by decide +kernel
theorem dX4_power_13 : decode cX4_power 13 = .ok (.lmul, 1) := by decide +kernel
theorem dX4_power_14 : decode cX4_power 14 = .ok (.lstore_n 3, 1) := by decide +kernel
theorem dX4_power_15 : decode cX4_power 15 = .ok (.iinc 5 1, 3) := by decide +kernel
theorem dX4_power_18 : decode cX4_power 18 = .ok (.goto (-13), 3) := by decide +kernel
theorem dX4_power_21 : decode cX4_power 21 = .ok (.lload_n 3, 1) := by decide +kernel
theorem dX4_power_22 : decode cX4_power 22 = .ok (.lreturn, 1) := by decide +kernel
theorem dX5_init_0 : decode cX5_init 0 = .ok (.aload_n 0, 1) := by decide +kernel
theorem dX5_init_1 : decode cX5_init 1 = .ok (.invokespecial 3, 3) := by decide +kernel
theorem dX5_init_4 : decode cX5_init 4 = .ok (.aload_n 0, 1) := by decide +kernel
theorem dX5_init_5 : decode cX5_init 5 = .ok (.bipush 40, 2) := by decide +kernel
theorem dX5_init_7 : decode cX5_init 7 = .ok (.newarray .int, 2) := by decide +kernel
theorem dX5_init_9 : decode cX5_init 9 = .ok (.putfield 9, 3) := by decide +kernel
theorem dX5_init_12 : decode cX5_init 12 = .ok (.aload_n 0, 1) := by decide +kernel
theorem dX5_init_13 : decode cX5_init 13 = .ok (.bipush 40, 2) := by decide +kernel
theorem dX5_init_15 : decode cX5_init 15 = .ok (.newarray .int, 2) := by decide +kernel
theorem dX5_init_17 : decode cX5_init 17 = .ok (.putfield 15, 3) := by decide +kernel
theorem dX5_init_20 : decode cX5_init 20 = .ok (.aload_n 0, 1) := by decide +kernel
theorem dX5_init_21 : decode cX5_init 21 = .ok (.bipush 40, 2) := by decide +kernel
theorem dX5_init_23 : decode cX5_init 23 = .ok (.newarray .int, 2) := by decide +kernel
theorem dX5_init_25 : decode cX5_init 25 = .ok (.putfield 18, 3) := by decide +kernel
theorem dX5_init_28 : decode cX5_init 28 = .ok (.aload_n 0, 1) := by decide +kernel
theorem dX5_init_29 : decode cX5_init 29 = .ok (.iconst 0, 1) := by decide +kernel
theorem dX5_init_30 : decode cX5_init 30 = .ok (.putfield 21, 3) := by decide +kernel
theorem dX5_init_33 : decode cX5_init 33 = .ok (.aload_n 0, 1) := by decide +kernel
theorem dX5_init_34 : decode cX5_init 34 = .ok (.iconst 0, 1) := by decide +kernel
theorem dX5_init_35 : decode cX5_init 35 = .ok (.putfield 25, 3) := by decide +kernel
theorem dX5_init_38 : decode cX5_init 38 = .ok (.aload_n 0, 1) := by decide +kernel
theorem dX5_init_39 : decode cX5_init 39 = .ok (.iconst 0, 1) := by decide +kernel
theorem dX5_init_40 : decode cX5_init 40 = .ok (.putfield 28, 3) := by decide +kernel
theorem dX5_init_43 : decode cX5_init 43 = .ok (.aload_n 0, 1) := by decide +kernel
theorem dX5_init_44 : decode cX5_init 44 = .ok (.iconst 1, 1) := by decide +kernel
theorem dX5_init_45 : decode cX5_init 45 = .ok (.putfield 31, 3) := by decide +kernel
theorem dX5_init_48 : decode cX5_init 48 = .ok (.aload_n 0, 1) := by decide +kernel
theorem dX5_init_49 : decode cX5_init 49 = .ok (.aload_n 1, 1) := by decide +kernel
theorem dX5_init_50 : decode cX5_init 50 = .ok (.putfield 34, 3) := by decide +kernel
theorem dX5_init_53 : decode cX5_init 53 = .ok (.aload_n 0, 1) := by decide +kernel
theorem dX5_init_54 : decode cX5_init 54 = .ok (.aload_n 2, 1) := by decide +kernel
theorem dX5_init_55 : decode cX5_init 55 = .ok (.putfield 38, 3) := by decide +kernel
theorem dX5_init_58 : decode cX5_init 58 = .ok (.return_, 1) := by decide +kernel
theorem dX5_trace_0 : decode cX5_trace 0 = .ok (.aload_n 0, 1) := by decide +kernel
theorem dX5_trace_1 : decode cX5_trace 1 = .ok (.iload_n 1, 1) := by decide +kernel
theorem dX5_trace_2 : decode cX5_trace 2 = .ok (.putfield 25, 3) := by decide +kernel
theorem dX5_trace_5 : decode cX5_trace 5 = .ok (.aload_n 0, 1) := by decide +kernel
theorem dX5_trace_6 : decode cX5_trace 6 = .ok (.iload_n 2, 1) := by decide +kernel
theorem dX5_trace_7 : decode cX5_trace 7 = .ok (.putfield 28, 3) := by decide +kernel
theorem dX5_trace_10 : decode cX5_trace 10 = .ok (.aload_n 0, 1) := by decide +kernel
theorem dX5_trace_11 : decode cX5_trace 11 = .ok (.iload_n 3, 1) := by decide +kernel
theorem dX5_trace_12 : decode cX5_trace 12 = .ok (.putfield 31, 3) := by decide +kernel
theorem dX5_trace_15 : decode cX5_trace 15 = .ok (.aload_n 0, 1) := by decide +kernel
theorem dX5_trace_16 : decode cX5_trace 16 = .ok (.iconst 0, 1) := by decide +kernel
theorem dX5_trace_17 : decode cX5_trace 17 = .ok (.putfield 21, 3) := by decide +kernel
theorem dX5_trace_20 : decode cX5_trace 20 = .ok (.aload_n 0, 1) := by decide +kernel
theorem dX5_trace_21 : decode cX5_trace 21 = .ok (.iconst 0, 1) := by decide +kernel
theorem dX5_trace_22 : decode cX5_trace 22 = .ok (.iconst 0, 1) := by decide +kernel
theorem dX5_trace_23 : decode cX5_trace 23 = .ok (.iconst 0, 1) := by decide +kernel
theorem dX5_trace_24 : decode cX5_trace 24 = .ok (.invokevirtual 42, 3) := by decide +kernel
theorem dX5_trace_27 : decode cX5_trace 27 = .ok (.return_, 1) := by decide +kernel
theorem dX5_read_0 : decode cX5_read 0 = .ok (.iload_n 1, 1) := by decide +kernel
theorem dX5_read_1 : decode cX5_read 1 = .ok (.ifCond .lt 11, 3) := by decide +kernel
theorem dX5_read_4 : decode cX5_read 4 = .ok (.iload_n 1, 1) := by decide +kernel
theorem dX5_read_5 : decode cX5_read 5 = .ok (.aload_n 0, 1) := by decide +kernel
theorem dX5_read_6 : decode cX5_read 6 = .ok (.getfield 21, 3) := by decide +kernel
theorem dX5_read_9 : decode cX5_read 9 = .ok (.if_icmp .lt 5, 3) := by decide +kernel
theorem dX5_read_12 : decode cX5_read 12 = .ok (.iconst (-1), 1) := by decide +kernel
theorem dX5_read_13 : decode cX5_read 13 = .ok (.ireturn, 1) := by decide +kernel
theorem dX5_read_14 : decode cX5_read 14 = .ok (.iload_n 2, 1) := by decide +kernel
theorem dX5_read_15 : decode cX5_read 15 = .ok (.lookupswitch 39 #[(0, 25), (1, 32)], 25) := by decide +kernel
theorem dX5_read_40 : decode cX5_read 40 = .ok (.aload_n 0, 1) := by decide +kernel
theorem dX5_read_41 : decode cX5_read 41 = .ok (.getfield 9, 3) := by decide +kernel
theorem dX5_read_44 : decode cX5_read 44 = .ok (.iload_n 1, 1) := by decide +kernel
theorem dX5_read_45 : decode cX5_read 45 = .ok (.iaload, 1) := by decide +kernel
theorem dX5_read_46 : decode cX5_read 46 = .ok (.ireturn, 1) := by decide +kernel
theorem dX5_read_47 : decode cX5_read 47 = .ok (.aload_n 0, 1) := by decide +kernel
theorem dX5_read_48 : decode cX5_read 48 = .ok (.getfield 15, 3) := by decide +kernel
theorem dX5_read_51 : decode cX5_read 51 = .ok (.iload_n 1, 1) := by decide +kernel
theorem dX5_read_52 : decode cX5_read 52 = .ok (.iaload, 1) := by decide +kernel
theorem dX5_read_53 : decode cX5_read 53 = .ok (.ireturn, 1) := by decide +kernel
theorem dX5_read_54 : decode cX5_read 54 = .ok (.aload_n 0, 1) := by decide +kernel
theorem dX5_read_55 : decode cX5_read 55 = .ok (.getfield 18, 3) := by decide +kernel
theorem dX5_read_58 : decode cX5_read 58 = .ok (.iload_n 1, 1) := by decide +kernel
theorem dX5_read_59 : decode cX5_read 59 = .ok (.iaload, 1) := by decide +kernel
theorem dX5_read_60 : decode cX5_read 60 = .ok (.ireturn, 1) := by decide +kernel
theorem dX5_visit_0 : decode cX5_visit 0 = .ok (.iload_n 1, 1) := by decide +kernel
theorem dX5_visit_1 : decode cX5_visit 1 = .ok (.iconst 5, 1) := by decide +kernel
theorem dX5_visit_2 : decode cX5_visit 2 = .ok (.if_icmp .gt 16, 3) := by decide +kernel
theorem dX5_visit_5 : decode cX5_visit 5 = .ok (.aload_n 0, 1) := by decide +kernel
theorem dX5_visit_6 : decode cX5_visit 6 = .ok (.getfield 38, 3) := by decide +kernel
theorem dX5_visit_9 : decode cX5_visit 9 = .ok (.iload_n 1, 1) := by decide +kernel
theorem dX5_visit_10 : decode cX5_visit 10 = .ok (.iload_n 2, 1) := by decide +kernel
theorem dX5_visit_11 : decode cX5_visit 11 = .ok (.iload_n 3, 1) := by decide +kernel
theorem dX5_visit_12 : decode cX5_visit 12 = .ok (.invokevirtual 46, 3) := by decide +kernel
theorem dX5_visit_15 : decode cX5_visit 15 = .ok (.ifCond .ne 4, 3) := by decide +kernel
theorem dX5_visit_18 : decode cX5_visit 18 = .ok (.return_, 1) := by decide +kernel
theorem dX5_visit_19 : decode cX5_visit 19 = .ok (.aload_n 0, 1) := by decide +kernel
theorem dX5_visit_20 : decode cX5_visit 20 = .ok (.iload_n 1, 1) := by decide +kernel
theorem dX5_visit_21 : decode cX5_visit 21 = .ok (.iload_n 2, 1) := by decide +kernel
theorem dX5_visit_22 : decode cX5_visit 22 = .ok (.iload_n 3, 1) := by decide +kernel
theorem dX5_visit_23 : decode cX5_visit 23 = .ok (.invokevirtual 52, 3) := by decide +kernel
theorem dX5_visit_26 : decode cX5_visit 26 = .ok (.ifCond .eq 13, 3) := by decide +kernel
theorem dX5_visit_29 : decode cX5_visit 29 = .ok (.aload_n 0, 1) := by decide +kernel
theorem dX5_visit_30 : decode cX5_visit 30 = .ok (.iload_n 1, 1) := by decide +kernel
theorem dX5_visit_31 : decode cX5_visit 31 = .ok (.iload_n 2, 1) := by decide +kernel
theorem dX5_visit_32 : decode cX5_visit 32 = .ok (.iload_n 3, 1) := by decide +kernel
theorem dX5_visit_33 : decode cX5_visit 33 = .ok (.invokevirtual 56, 3) := by decide +kernel
theorem dX5_visit_36 : decode cX5_visit 36 = .ok (.goto 86, 3) := by decide +kernel
theorem dX5_visit_39 : decode cX5_visit 39 = .ok (.aload_n 0, 1) := by decide +kernel
theorem dX5_visit_40 : decode cX5_visit 40 = .ok (.getfield 38, 3) := by decide +kernel
theorem dX5_visit_43 : decode cX5_visit 43 = .ok (.iload_n 1, 1) := by decide +kernel
theorem dX5_visit_44 : decode cX5_visit 44 = .ok (.iload_n 2, 1) := by decide +kernel
theorem dX5_visit_45 : decode cX5_visit 45 = .ok (.iload_n 3, 1) := by decide +kernel
theorem dX5_visit_46 : decode cX5_visit 46 = .ok (.invokevirtual 59, 3) := by decide +kernel
theorem dX5_visit_49 : decode cX5_visit 49 = .ok (.ifCond .eq 66, 3) := by decide +kernel
theorem dX5_visit_52 : decode cX5_visit 52 = .ok (.aload_n 0, 1) := by decide +kernel
theorem dX5_visit_53 : decode cX5_visit 53 = .ok (.iload_n 1, 1) := by decide +kernel
theorem dX5_visit_54 : decode cX5_visit 54 = .ok (.iconst 1, 1) := by decide +kernel
theorem dX5_visit_55 : decode cX5_visit 55 = .ok (.iadd, 1) := by decide +kernel
theorem dX5_visit_56 : decode cX5_visit 56 = .ok (.iconst 2, 1) := by decide +kernel
theorem dX5_visit_57 : decode cX5_visit 57 = .ok (.iload_n 2, 1) := by decide +kernel
theorem dX5_visit_58 : decode cX5_visit 58 = .ok (.imul, 1) := by decide +kernel
theorem dX5_visit_59 : decode cX5_visit 59 = .ok (.iconst 2, 1) := by decide +kernel
theorem dX5_visit_60 : decode cX5_visit 60 = .ok (.iload_n 3, 1) := by decide +kernel
theorem dX5_visit_61 : decode cX5_visit 61 = .ok (.imul, 1) := by decide +kernel
theorem dX5_visit_62 : decode cX5_visit 62 = .ok (.invokevirtual 42, 3) := by decide +kernel
theorem dX5_visit_65 : decode cX5_visit 65 = .ok (.aload_n 0, 1) := by decide +kernel
theorem dX5_visit_66 : decode cX5_visit 66 = .ok (.iload_n 1, 1) := by decide +kernel
theorem dX5_visit_67 : decode cX5_visit 67 = .ok (.iconst 1, 1) := by decide +kernel
theorem dX5_visit_68 : decode cX5_visit 68 = .ok (.iadd, 1) := by decide +kernel
theorem dX5_visit_69 : decode cX5_visit 69 = .ok (.iconst 2, 1) := by decide +kernel
theorem dX5_visit_70 : decode cX5_visit 70 = .ok (.iload_n 2, 1) := by decide +kernel
theorem dX5_visit_71 : decode cX5_visit 71 = .ok (.imul, 1) := by decide +kernel
theorem dX5_visit_72 : decode cX5_visit 72 = .ok (.iconst 1, 1) := by decide +kernel
theorem dX5_visit_73 : decode cX5_visit 73 = .ok (.iadd, 1) := by decide +kernel
theorem dX5_visit_74 : decode cX5_visit 74 = .ok (.iconst 2, 1) := by decide +kernel
theorem dX5_visit_75 : decode cX5_visit 75 = .ok (.iload_n 3, 1) := by decide +kernel
theorem dX5_visit_76 : decode cX5_visit 76 = .ok (.imul, 1) := by decide +kernel
theorem dX5_visit_77 : decode cX5_visit 77 = .ok (.invokevirtual 42, 3) := by decide +kernel
theorem dX5_visit_80 : decode cX5_visit 80 = .ok (.aload_n 0, 1) := by decide +kernel
theorem dX5_visit_81 : decode cX5_visit 81 = .ok (.iload_n 1, 1) := by decide +kernel
theorem dX5_visit_82 : decode cX5_visit 82 = .ok (.iconst 1, 1) := by decide +kernel
theorem dX5_visit_83 : decode cX5_visit 83 = .ok (.iadd, 1) := by decide +kernel
theorem dX5_visit_84 : decode cX5_visit 84 = .ok (.iconst 2, 1) := by decide +kernel
theorem dX5_visit_85 : decode cX5_visit 85 = .ok (.iload_n 2, 1) := by decide +kernel
theorem dX5_visit_86 : decode cX5_visit 86 = .ok (.imul, 1) := by decide +kernel
theorem dX5_visit_87 : decode cX5_visit 87 = .ok (.iconst 2, 1) := by decide +kernel
theorem dX5_visit_88 : decode cX5_visit 88 = .ok (.iload_n 3, 1) := by decide +kernel
theorem dX5_visit_89 : decode cX5_visit 89 = .ok (.imul, 1) := by decide +kernel
theorem dX5_visit_90 : decode cX5_visit 90 = .ok (.iconst 1, 1) := by decide +kernel
theorem dX5_visit_91 : decode cX5_visit 91 = .ok (.iadd, 1) := by decide +kernel
theorem dX5_visit_92 : decode cX5_visit 92 = .ok (.invokevirtual 42, 3) := by decide +kernel
theorem dX5_visit_95 : decode cX5_visit 95 = .ok (.aload_n 0, 1) := by decide +kernel
theorem dX5_visit_96 : decode cX5_visit 96 = .ok (.iload_n 1, 1) := by decide +kernel
theorem dX5_visit_97 : decode cX5_visit 97 = .ok (.iconst 1, 1) := by decide +kernel
theorem dX5_visit_98 : decode cX5_visit 98 = .ok (.iadd, 1) := by decide +kernel
theorem dX5_visit_99 : decode cX5_visit 99 = .ok (.iconst 2, 1) := by decide +kernel
theorem dX5_visit_100 : decode cX5_visit 100 = .ok (.iload_n 2, 1) := by decide +kernel
theorem dX5_visit_101 : decode cX5_visit 101 = .ok (.imul, 1) := by decide +kernel
theorem dX5_visit_102 : decode cX5_visit 102 = .ok (.iconst 1, 1) := by decide +kernel
theorem dX5_visit_103 : decode cX5_visit 103 = .ok (.iadd, 1) := by decide +kernel
theorem dX5_visit_104 : decode cX5_visit 104 = .ok (.iconst 2, 1) := by decide +kernel
theorem dX5_visit_105 : decode cX5_visit 105 = .ok (.iload_n 3, 1) := by decide +kernel
theorem dX5_visit_106 : decode cX5_visit 106 = .ok (.imul, 1) := by decide +kernel
theorem dX5_visit_107 : decode cX5_visit 107 = .ok (.iconst 1, 1) := by decide +kernel
theorem dX5_visit_108 : decode cX5_visit 108 = .ok (.iadd, 1) := by decide +kernel
theorem dX5_visit_109 : decode cX5_visit 109 = .ok (.invokevirtual 42, 3) := by decide +kernel
theorem dX5_visit_112 : decode cX5_visit 112 = .ok (.goto 10, 3) := by decide +kernel
theorem dX5_visit_115 : decode cX5_visit 115 = .ok (.aload_n 0, 1) := by decide +kernel
theorem dX5_visit_116 : decode cX5_visit 116 = .ok (.iload_n 1, 1) := by decide +kernel
theorem dX5_visit_117 : decode cX5_visit 117 = .ok (.iload_n 2, 1) := by decide +kernel
theorem dX5_visit_118 : decode cX5_visit 118 = .ok (.iload_n 3, 1) := by decide +kernel
theorem dX5_visit_119 : decode cX5_visit 119 = .ok (.invokevirtual 62, 3) := by decide +kernel
theorem dX5_visit_122 : decode cX5_visit 122 = .ok (.return_, 1) := by decide +kernel
theorem dX5_isFar_0 : decode cX5_isFar 0 = .ok (.iconst 2, 1) := by decide +kernel
theorem dX5_isFar_1 : decode cX5_isFar 1 = .ok (.iload_n 1, 1) := by decide +kernel
theorem dX5_isFar_2 : decode cX5_isFar 2 = .ok (.invokestatic 65, 3) := by decide +kernel
theorem dX5_isFar_5 : decode cX5_isFar 5 = .ok (.imul, 1) := by decide +kernel
theorem dX5_isFar_6 : decode cX5_isFar 6 = .ok (.aload_n 0, 1) := by decide +kernel
theorem dX5_isFar_7 : decode cX5_isFar 7 = .ok (.getfield 31, 3) := by decide +kernel
theorem dX5_isFar_10 : decode cX5_isFar 10 = .ok (.imul, 1) := by decide +kernel
theorem dX5_isFar_11 : decode cX5_isFar 11 = .ok (.istore 4, 2) := by decide +kernel
theorem dX5_isFar_13 : decode cX5_isFar 13 = .ok (.aload_n 0, 1) := by decide +kernel
theorem dX5_isFar_14 : decode cX5_isFar 14 = .ok (.getfield 25, 3) := by decide +kernel
theorem dX5_isFar_17 : decode cX5_isFar 17 = .ok (.iload_n 1, 1) := by decide +kernel
theorem dX5_isFar_18 : decode cX5_isFar 18 = .ok (.iload_n 2, 1) := by decide +kernel
theorem dX5_isFar_19 : decode cX5_isFar 19 = .ok (.invokestatic 69, 3) := by decide +kernel
theorem dX5_isFar_22 : decode cX5_isFar 22 = .ok (.invokestatic 72, 3) := by decide +kernel
theorem dX5_isFar_25 : decode cX5_isFar 25 = .ok (.iload 4, 2) := by decide +kernel
theorem dX5_isFar_27 : decode cX5_isFar 27 = .ok (.if_icmp .ge 20, 3) := by decide +kernel
theorem dX5_isFar_30 : decode cX5_isFar 30 = .ok (.aload_n 0, 1) := by decide +kernel
theorem dX5_isFar_31 : decode cX5_isFar 31 = .ok (.getfield 28, 3) := by decide +kernel
theorem dX5_isFar_34 : decode cX5_isFar 34 = .ok (.iload_n 1, 1) := by decide +kernel
theorem dX5_isFar_35 : decode cX5_isFar 35 = .ok (.iload_n 3, 1) := by decide +kernel
theorem dX5_isFar_36 : decode cX5_isFar 36 = .ok (.invokestatic 69, 3) := by decide +kernel
theorem dX5_isFar_39 : decode cX5_isFar 39 = .ok (.invokestatic 72, 3) := by decide +kernel
theorem dX5_isFar_42 : decode cX5_isFar 42 = .ok (.iload 4, 2) := by decide +kernel
theorem dX5_isFar_44 : decode cX5_isFar 44 = .ok (.if_icmp .lt 7, 3) := by decide +kernel
theorem dX5_isFar_47 : decode cX5_isFar 47 = .ok (.iconst 1, 1) := by decide +kernel
theorem dX5_isFar_48 : decode cX5_isFar 48 = .ok (.goto 4, 3) := by decide +kernel
theorem dX5_isFar_51 : decode cX5_isFar 51 = .ok (.iconst 0, 1) := by decide +kernel
theorem dX5_isFar_52 : decode cX5_isFar 52 = .ok (.ireturn, 1) := by decide +kernel
theorem dX5_notePoints_0 : decode cX5_notePoints 0 = .ok (.iconst 0, 1) := by decide +kernel
theorem dX5_notePoints_1 : decode cX5_notePoints 1 = .ok (.istore 4, 2) := by decide +kernel
theorem dX5_notePoints_3 : decode cX5_notePoints 3 = .ok (.iload 4, 2) := by decide +kernel
theorem dX5_notePoints_5 : decode cX5_notePoints 5 = .ok (.bipush 40, 2) := by decide +kernel
theorem dX5_notePoints_7 : decode cX5_notePoints 7 = .ok (.if_icmp .ge 32, 3) := by decide +kernel
theorem dX5_notePoints_10 : decode cX5_notePoints 10 = .ok (.aload_n 0, 1) := by decide +kernel
theorem dX5_notePoints_11 : decode cX5_notePoints 11 = .ok (.getfield 38, 3) := by decide +kernel
theorem dX5_notePoints_14 : decode cX5_notePoints 14 = .ok (.iload_n 1, 1) := by decide +kernel
theorem dX5_notePoints_15 : decode cX5_notePoints 15 = .ok (.iload_n 2, 1) := by decide +kernel
theorem dX5_notePoints_16 : decode cX5_notePoints 16 = .ok (.iload_n 3, 1) := by decide +kernel
theorem dX5_notePoints_17 : decode cX5_notePoints 17 = .ok (.iload 4, 2) := by decide +kernel
theorem dX5_notePoints_19 : decode cX5_notePoints 19 = .ok (.invokevirtual 77, 3) := by decide +kernel
theorem dX5_notePoints_22 : decode cX5_notePoints 22 = .ok (.ifCond .eq 11, 3) := by decide +kernel
theorem dX5_notePoints_25 : decode cX5_notePoints 25 = .ok (.aload_n 0, 1) := by decide +kernel
theorem dX5_notePoints_26 : decode cX5_notePoints 26 = .ok (.iconst (-1), 1) := by decide +kernel
theorem dX5_notePoints_27 : decode cX5_notePoints 27 = .ok (.iload 4, 2) := by decide +kernel
theorem dX5_notePoints_29 : decode cX5_notePoints 29 = .ok (.iconst (-1), 1) := by decide +kernel
theorem dX5_notePoints_30 : decode cX5_notePoints 30 = .ok (.invokevirtual 56, 3) := by decide +kernel
theorem dX5_notePoints_33 : decode cX5_notePoints 33 = .ok (.iinc 4 1, 3) := by decide +kernel
theorem dX5_notePoints_36 : decode cX5_notePoints 36 = .ok (.goto (-33), 3) := by decide +kernel
theorem dX5_notePoints_39 : decode cX5_notePoints 39 = .ok (.return_, 1) := by decide +kernel
theorem dX5_note_0 : decode cX5_note 0 = .ok (.aload_n 0, 1) := by decide +kernel
theorem dX5_note_1 : decode cX5_note 1 = .ok (.getfield 21, 3) := by decide +kernel
theorem dX5_note_4 : decode cX5_note 4 = .ok (.bipush 40, 2) := by decide +kernel
theorem dX5_note_6 : decode cX5_note 6 = .ok (.if_icmp .ge 43, 3) := by decide +kernel
theorem dX5_note_9 : decode cX5_note 9 = .ok (.aload_n 0, 1) := by decide +kernel
theorem dX5_note_10 : decode cX5_note 10 = .ok (.getfield 9, 3) := by decide +kernel
theorem dX5_note_13 : decode cX5_note 13 = .ok (.aload_n 0, 1) := by decide +kernel
theorem dX5_note_14 : decode cX5_note 14 = .ok (.getfield 21, 3) := by decide +kernel
theorem dX5_note_17 : decode cX5_note 17 = .ok (.iload_n 1, 1) := by decide +kernel
theorem dX5_note_18 : decode cX5_note 18 = .ok (.iastore, 1) := by decide +kernel
theorem dX5_note_19 : decode cX5_note 19 = .ok (.aload_n 0, 1) := by decide +kernel
theorem dX5_note_20 : decode cX5_note 20 = .ok (.getfield 15, 3) := by decide +kernel
theorem dX5_note_23 : decode cX5_note 23 = .ok (.aload_n 0, 1) := by decide +kernel
theorem dX5_note_24 : decode cX5_note 24 = .ok (.getfield 21, 3) := by decide +kernel
theorem dX5_note_27 : decode cX5_note 27 = .ok (.iload_n 2, 1) := by decide +kernel
theorem dX5_note_28 : decode cX5_note 28 = .ok (.iastore, 1) := by decide +kernel
theorem dX5_note_29 : decode cX5_note 29 = .ok (.aload_n 0, 1) := by decide +kernel
theorem dX5_note_30 : decode cX5_note 30 = .ok (.getfield 18, 3) := by decide +kernel
theorem dX5_note_33 : decode cX5_note 33 = .ok (.aload_n 0, 1) := by decide +kernel
theorem dX5_note_34 : decode cX5_note 34 = .ok (.getfield 21, 3) := by decide +kernel
theorem dX5_note_37 : decode cX5_note 37 = .ok (.iload_n 3, 1) := by decide +kernel
theorem dX5_note_38 : decode cX5_note 38 = .ok (.iastore, 1) := by decide +kernel
theorem dX5_note_39 : decode cX5_note 39 = .ok (.aload_n 0, 1) := by decide +kernel
theorem dX5_note_40 : decode cX5_note 40 = .ok (.dup, 1) := by decide +kernel
theorem dX5_note_41 : decode cX5_note 41 = .ok (.getfield 21, 3) := by decide +kernel
theorem dX5_note_44 : decode cX5_note 44 = .ok (.iconst 1, 1) := by decide +kernel
theorem dX5_note_45 : decode cX5_note 45 = .ok (.iadd, 1) := by decide +kernel
theorem dX5_note_46 : decode cX5_note 46 = .ok (.putfield 21, 3) := by decide +kernel
theorem dX5_note_49 : decode cX5_note 49 = .ok (.return_, 1) := by decide +kernel
end
section
theorem dX6_init_0 : decode cX6_init 0 = .ok (.aload_n 0, 1) := by decide +kernel
theorem dX6_init_1 : decode cX6_init 1 = .ok (.invokespecial 1, 3) := by decide +kernel
theorem dX6_init_4 : decode cX6_init 4 = .ok (.aload_n 0, 1) := by decide +kernel
theorem dX6_init_5 : decode cX6_init 5 = .ok (.new 7, 3) := by decide +kernel
theorem dX6_init_8 : decode cX6_init 8 = .ok (.dup, 1) := by decide +kernel
theorem dX6_init_9 : decode cX6_init 9 = .ok (.invokespecial 9, 3) := by decide +kernel
theorem dX6_init_12 : decode cX6_init 12 = .ok (.putfield 10, 3) := by decide +kernel
theorem dX6_init_15 : decode cX6_init 15 = .ok (.aload_n 0, 1) := by decide +kernel
theorem dX6_init_16 : decode cX6_init 16 = .ok (.new 16, 3) := by decide +kernel
theorem dX6_init_19 : decode cX6_init 19 = .ok (.dup, 1) := by decide +kernel
theorem dX6_init_20 : decode cX6_init 20 = .ok (.aload_n 0, 1) := by decide +kernel
theorem dX6_init_21 : decode cX6_init 21 = .ok (.getfield 10, 3) := by decide +kernel
theorem dX6_init_24 : decode cX6_init 24 = .ok (.invokespecial 18, 3) := by decide +kernel
theorem dX6_init_27 : decode cX6_init 27 = .ok (.putfield 21, 3) := by decide +kernel
theorem dX6_init_30 : decode cX6_init 30 = .ok (.aload_n 0, 1) := by decide +kernel
theorem dX6_init_31 : decode cX6_init 31 = .ok (.new 25, 3) := by decide +kernel
theorem dX6_init_34 : decode cX6_init 34 = .ok (.dup, 1) := by decide +kernel
theorem dX6_init_35 : decode cX6_init 35 = .ok (.invokespecial 27, 3) := by decide +kernel
theorem dX6_init_38 : decode cX6_init 38 = .ok (.putfield 28, 3) := by decide +kernel
theorem dX6_init_41 : decode cX6_init 41 = .ok (.aload_n 0, 1) := by decide +kernel
theorem dX6_init_42 : decode cX6_init 42 = .ok (.getfield 28, 3) := by decide +kernel
theorem dX6_init_45 : decode cX6_init 45 = .ok (.iconst 0, 1) := by decide +kernel
theorem dX6_init_46 : decode cX6_init 46 = .ok (.iconst 0, 1) := by decide +kernel
theorem dX6_init_47 : decode cX6_init 47 = .ok (.lconst 1, 1) := by decide +kernel
theorem dX6_init_48 : decode cX6_init 48 = .ok (.invokevirtual 32, 3) := by decide +kernel
theorem dX6_init_51 : decode cX6_init 51 = .ok (.aload_n 0, 1) := by decide +kernel
theorem dX6_init_52 : decode cX6_init 52 = .ok (.new 36, 3) := by decide +kernel
theorem dX6_init_55 : decode cX6_init 55 = .ok (.dup, 1) := by decide +kernel
theorem dX6_init_56 : decode cX6_init 56 = .ok (.aload_n 0, 1) := by decide +kernel
theorem dX6_init_57 : decode cX6_init 57 = .ok (.getfield 28, 3) := by decide +kernel
theorem dX6_init_60 : decode cX6_init 60 = .ok (.invokespecial 38, 3) := by decide +kernel
theorem dX6_init_63 : decode cX6_init 63 = .ok (.putfield 41, 3) := by decide +kernel
theorem dX6_init_66 : decode cX6_init 66 = .ok (.aload_n 0, 1) := by decide +kernel
theorem dX6_init_67 : decode cX6_init 67 = .ok (.new 45, 3) := by decide +kernel
theorem dX6_init_70 : decode cX6_init 70 = .ok (.dup, 1) := by decide +kernel
theorem dX6_init_71 : decode cX6_init 71 = .ok (.aload_n 0, 1) := by decide +kernel
theorem dX6_init_72 : decode cX6_init 72 = .ok (.getfield 10, 3) := by decide +kernel
theorem dX6_init_75 : decode cX6_init 75 = .ok (.aload_n 0, 1) := by decide +kernel
theorem dX6_init_76 : decode cX6_init 76 = .ok (.getfield 21, 3) := by decide +kernel
theorem dX6_init_79 : decode cX6_init 79 = .ok (.invokespecial 47, 3) := by decide +kernel
theorem dX6_init_82 : decode cX6_init 82 = .ok (.putfield 50, 3) := by decide +kernel
theorem dX6_init_85 : decode cX6_init 85 = .ok (.aload_n 0, 1) := by decide +kernel
theorem dX6_init_86 : decode cX6_init 86 = .ok (.new 54, 3) := by decide +kernel
theorem dX6_init_89 : decode cX6_init 89 = .ok (.dup, 1) := by decide +kernel
theorem dX6_init_90 : decode cX6_init 90 = .ok (.aload_n 0, 1) := by decide +kernel
theorem dX6_init_91 : decode cX6_init 91 = .ok (.getfield 10, 3) := by decide +kernel
theorem dX6_init_94 : decode cX6_init 94 = .ok (.aload_n 0, 1) := by decide +kernel
theorem dX6_init_95 : decode cX6_init 95 = .ok (.getfield 21, 3) := by decide +kernel
theorem dX6_init_98 : decode cX6_init 98 = .ok (.aload_n 0, 1) := by decide +kernel
theorem dX6_init_99 : decode cX6_init 99 = .ok (.getfield 41, 3) := by decide +kernel
theorem dX6_init_102 : decode cX6_init 102 = .ok (.invokespecial 56, 3) := by decide +kernel
theorem dX6_init_105 : decode cX6_init 105 = .ok (.putfield 59, 3) := by decide +kernel
theorem dX6_init_108 : decode cX6_init 108 = .ok (.return_, 1) := by decide +kernel
theorem dX6_point_0 : decode cX6_point 0 = .ok (.iload_n 1, 1) := by decide +kernel
theorem dX6_point_1 : decode cX6_point 1 = .ok (.iload_n 2, 1) := by decide +kernel
theorem dX6_point_2 : decode cX6_point 2 = .ok (.invokestatic 63, 3) := by decide +kernel
theorem dX6_point_5 : decode cX6_point 5 = .ok (.ifCond .eq 10, 3) := by decide +kernel
theorem dX6_point_8 : decode cX6_point 8 = .ok (.iload_n 3, 1) := by decide +kernel
theorem dX6_point_9 : decode cX6_point 9 = .ok (.invokestatic 67, 3) := by decide +kernel
theorem dX6_point_12 : decode cX6_point 12 = .ok (.ifCond .ne 6, 3) := by decide +kernel
theorem dX6_point_15 : decode cX6_point 15 = .ok (.bipush (-2), 2) := by decide +kernel
theorem dX6_point_17 : decode cX6_point 17 = .ok (.ireturn, 1) := by decide +kernel
theorem dX6_point_18 : decode cX6_point 18 = .ok (.aload_n 0, 1) := by decide +kernel
theorem dX6_point_19 : decode cX6_point 19 = .ok (.getfield 10, 3) := by decide +kernel
theorem dX6_point_22 : decode cX6_point 22 = .ok (.invokevirtual 71, 3) := by decide +kernel
theorem dX6_point_25 : decode cX6_point 25 = .ok (.istore 4, 2) := by decide +kernel
theorem dX6_point_27 : decode cX6_point 27 = .ok (.iload 4, 2) := by decide +kernel
theorem dX6_point_29 : decode cX6_point 29 = .ok (.iconst (-1), 1) := by decide +kernel
theorem dX6_point_30 : decode cX6_point 30 = .ok (.if_icmp .ne 6, 3) := by decide +kernel
theorem dX6_point_33 : decode cX6_point 33 = .ok (.bipush (-4), 2) := by decide +kernel
theorem dX6_point_35 : decode cX6_point 35 = .ok (.ireturn, 1) := by decide +kernel
theorem dX6_point_36 : decode cX6_point 36 = .ok (.aload_n 0, 1) := by decide +kernel
theorem dX6_point_37 : decode cX6_point 37 = .ok (.getfield 10, 3) := by decide +kernel
theorem dX6_point_40 : decode cX6_point 40 = .ok (.iload 4, 2) := by decide +kernel
theorem dX6_point_42 : decode cX6_point 42 = .ok (.iload_n 1, 1) := by decide +kernel
theorem dX6_point_43 : decode cX6_point 43 = .ok (.iload_n 2, 1) := by decide +kernel
theorem dX6_point_44 : decode cX6_point 44 = .ok (.iload_n 3, 1) := by decide +kernel
theorem dX6_point_45 : decode cX6_point 45 = .ok (.invokevirtual 75, 3) := by decide +kernel
theorem dX6_point_48 : decode cX6_point 48 = .ok (.aload_n 0, 1) := by decide +kernel
theorem dX6_point_49 : decode cX6_point 49 = .ok (.getfield 21, 3) := by decide +kernel
theorem dX6_point_52 : decode cX6_point 52 = .ok (.iload_n 1, 1) := by decide +kernel
theorem dX6_point_53 : decode cX6_point 53 = .ok (.iload_n 2, 1) := by decide +kernel
theorem dX6_point_54 : decode cX6_point 54 = .ok (.invokevirtual 79, 3) := by decide +kernel
theorem dX6_point_57 : decode cX6_point 57 = .ok (.iload 4, 2) := by decide +kernel
theorem dX6_point_59 : decode cX6_point 59 = .ok (.ireturn, 1) := by decide +kernel
theorem dX6_take_0 : decode cX6_take 0 = .ok (.aload_n 0, 1) := by decide +kernel
theorem dX6_take_1 : decode cX6_take 1 = .ok (.getfield 10, 3) := by decide +kernel
theorem dX6_take_4 : decode cX6_take 4 = .ok (.iload_n 1, 1) := by decide +kernel
theorem dX6_take_5 : decode cX6_take 5 = .ok (.invokevirtual 83, 3) := by decide +kernel
theorem dX6_take_8 : decode cX6_take 8 = .ok (.ifCond .ne 6, 3) := by decide +kernel
theorem dX6_take_11 : decode cX6_take 11 = .ok (.bipush (-2), 2) := by decide +kernel
theorem dX6_take_13 : decode cX6_take 13 = .ok (.ireturn, 1) := by decide +kernel
theorem dX6_take_14 : decode cX6_take 14 = .ok (.aload_n 0, 1) := by decide +kernel
theorem dX6_take_15 : decode cX6_take 15 = .ok (.getfield 21, 3) := by decide +kernel
theorem dX6_take_18 : decode cX6_take 18 = .ok (.aload_n 0, 1) := by decide +kernel
theorem dX6_take_19 : decode cX6_take 19 = .ok (.getfield 10, 3) := by decide +kernel
theorem dX6_take_22 : decode cX6_take 22 = .ok (.getfield 86, 3) := by decide +kernel
theorem dX6_take_25 : decode cX6_take 25 = .ok (.iload_n 1, 1) := by decide +kernel
theorem dX6_take_26 : decode cX6_take 26 = .ok (.iaload, 1) := by decide +kernel
theorem dX6_take_27 : decode cX6_take 27 = .ok (.aload_n 0, 1) := by decide +kernel
theorem dX6_take_28 : decode cX6_take 28 = .ok (.getfield 10, 3) := by decide +kernel
theorem dX6_take_31 : decode cX6_take 31 = .ok (.getfield 90, 3) := by decide +kernel
theorem dX6_take_34 : decode cX6_take 34 = .ok (.iload_n 1, 1) := by decide +kernel
theorem dX6_take_35 : decode cX6_take 35 = .ok (.iaload, 1) := by decide +kernel
theorem dX6_take_36 : decode cX6_take 36 = .ok (.invokevirtual 93, 3) := by decide +kernel
theorem dX6_take_39 : decode cX6_take 39 = .ok (.aload_n 0, 1) := by decide +kernel
theorem dX6_take_40 : decode cX6_take 40 = .ok (.getfield 10, 3) := by decide +kernel
theorem dX6_take_43 : decode cX6_take 43 = .ok (.iload_n 1, 1) := by decide +kernel
theorem dX6_take_44 : decode cX6_take 44 = .ok (.invokevirtual 96, 3) := by decide +kernel
theorem dX6_take_47 : decode cX6_take 47 = .ok (.aload_n 0, 1) := by decide +kernel
theorem dX6_take_48 : decode cX6_take 48 = .ok (.getfield 10, 3) := by decide +kernel
theorem dX6_take_51 : decode cX6_take 51 = .ok (.getfield 100, 3) := by decide +kernel
theorem dX6_take_54 : decode cX6_take 54 = .ok (.ireturn, 1) := by decide +kernel
theorem dX6_move_0 : decode cX6_move 0 = .ok (.aload_n 0, 1) := by decide +kernel
theorem dX6_move_1 : decode cX6_move 1 = .ok (.getfield 10, 3) := by decide +kernel
theorem dX6_move_4 : decode cX6_move 4 = .ok (.iload_n 1, 1) := by decide +kernel
theorem dX6_move_5 : decode cX6_move 5 = .ok (.invokevirtual 83, 3) := by decide +kernel
theorem dX6_move_8 : decode cX6_move 8 = .ok (.ifCond .eq 11, 3) := by decide +kernel
theorem dX6_move_11 : decode cX6_move 11 = .ok (.iload_n 2, 1) := by decide +kernel
theorem dX6_move_12 : decode cX6_move 12 = .ok (.iload_n 3, 1) := by decide +kernel
theorem dX6_move_13 : decode cX6_move 13 = .ok (.invokestatic 63, 3) := by decide +kernel
theorem dX6_move_16 : decode cX6_move 16 = .ok (.ifCond .ne 6, 3) := by decide +kernel
theorem dX6_move_19 : decode cX6_move 19 = .ok (.bipush (-2), 2) := by decide +kernel
theorem dX6_move_21 : decode cX6_move 21 = .ok (.ireturn, 1) := by decide +kernel
theorem dX6_move_22 : decode cX6_move 22 = .ok (.aload_n 0, 1) := by decide +kernel
theorem dX6_move_23 : decode cX6_move 23 = .ok (.getfield 21, 3) := by decide +kernel
theorem dX6_move_26 : decode cX6_move 26 = .ok (.aload_n 0, 1) := by decide +kernel
theorem dX6_move_27 : decode cX6_move 27 = .ok (.getfield 10, 3) := by decide +kernel
theorem dX6_move_30 : decode cX6_move 30 = .ok (.getfield 86, 3) := by decide +kernel
theorem dX6_move_33 : decode cX6_move 33 = .ok (.iload_n 1, 1) := by decide +kernel
theorem dX6_move_34 : decode cX6_move 34 = .ok (.iaload, 1) := by decide +kernel
theorem dX6_move_35 : decode cX6_move 35 = .ok (.aload_n 0, 1) := by decide +kernel
theorem dX6_move_36 : decode cX6_move 36 = .ok (.getfield 10, 3) := by decide +kernel
theorem dX6_move_39 : decode cX6_move 39 = .ok (.getfield 90, 3) := by decide +kernel
theorem dX6_move_42 : decode cX6_move 42 = .ok (.iload_n 1, 1) := by decide +kernel
theorem dX6_move_43 : decode cX6_move 43 = .ok (.iaload, 1) := by decide +kernel
theorem dX6_move_44 : decode cX6_move 44 = .ok (.invokevirtual 93, 3) := by decide +kernel
theorem dX6_move_47 : decode cX6_move 47 = .ok (.aload_n 0, 1) := by decide +kernel
theorem dX6_move_48 : decode cX6_move 48 = .ok (.getfield 10, 3) := by decide +kernel
theorem dX6_move_51 : decode cX6_move 51 = .ok (.iload_n 1, 1) := by decide +kernel
theorem dX6_move_52 : decode cX6_move 52 = .ok (.iload_n 2, 1) := by decide +kernel
theorem dX6_move_53 : decode cX6_move 53 = .ok (.iload_n 3, 1) := by decide +kernel
theorem dX6_move_54 : decode cX6_move 54 = .ok (.invokevirtual 104, 3) := by decide +kernel
theorem dX6_move_57 : decode cX6_move 57 = .ok (.aload_n 0, 1) := by decide +kernel
theorem dX6_move_58 : decode cX6_move 58 = .ok (.getfield 21, 3) := by decide +kernel
theorem dX6_move_61 : decode cX6_move 61 = .ok (.iload_n 2, 1) := by decide +kernel
theorem dX6_move_62 : decode cX6_move 62 = .ok (.iload_n 3, 1) := by decide +kernel
theorem dX6_move_63 : decode cX6_move 63 = .ok (.invokevirtual 79, 3) := by decide +kernel
theorem dX6_move_66 : decode cX6_move 66 = .ok (.iconst 1, 1) := by decide +kernel
theorem dX6_move_67 : decode cX6_move 67 = .ok (.ireturn, 1) := by decide +kernel
theorem dX6_weigh_0 : decode cX6_weigh 0 = .ok (.aload_n 0, 1) := by decide +kernel
theorem dX6_weigh_1 : decode cX6_weigh 1 = .ok (.getfield 10, 3) := by decide +kernel
theorem dX6_weigh_4 : decode cX6_weigh 4 = .ok (.iload_n 1, 1) := by decide +kernel
theorem dX6_weigh_5 : decode cX6_weigh 5 = .ok (.invokevirtual 83, 3) := by decide +kernel
theorem dX6_weigh_8 : decode cX6_weigh 8 = .ok (.ifCond .eq 10, 3) := by decide +kernel
theorem dX6_weigh_11 : decode cX6_weigh 11 = .ok (.iload_n 2, 1) := by decide +kernel
theorem dX6_weigh_12 : decode cX6_weigh 12 = .ok (.invokestatic 67, 3) := by decide +kernel
theorem dX6_weigh_15 : decode cX6_weigh 15 = .ok (.ifCond .ne 7, 3) := by decide +kernel
theorem dX6_weigh_18 : decode cX6_weigh 18 = .ok (.sipush (-2000), 3) := by decide +kernel
theorem dX6_weigh_21 : decode cX6_weigh 21 = .ok (.ireturn, 1) := by decide +kernel
theorem dX6_weigh_22 : decode cX6_weigh 22 = .ok (.aload_n 0, 1) := by decide +kernel
theorem dX6_weigh_23 : decode cX6_weigh 23 = .ok (.getfield 10, 3) := by decide +kernel
theorem dX6_weigh_26 : decode cX6_weigh 26 = .ok (.getfield 108, 3) := by decide +kernel
theorem dX6_weigh_29 : decode cX6_weigh 29 = .ok (.iload_n 1, 1) := by decide +kernel
theorem dX6_weigh_30 : decode cX6_weigh 30 = .ok (.iaload, 1) := by decide +kernel
theorem dX6_weigh_31 : decode cX6_weigh 31 = .ok (.istore_n 3, 1) := by decide +kernel
theorem dX6_weigh_32 : decode cX6_weigh 32 = .ok (.aload_n 0, 1) := by decide +kernel
theorem dX6_weigh_33 : decode cX6_weigh 33 = .ok (.getfield 10, 3) := by decide +kernel
theorem dX6_weigh_36 : decode cX6_weigh 36 = .ok (.getfield 108, 3) := by decide +kernel
theorem dX6_weigh_39 : decode cX6_weigh 39 = .ok (.iload_n 1, 1) := by decide +kernel
theorem dX6_weigh_40 : decode cX6_weigh 40 = .ok (.iload_n 2, 1) := by decide +kernel
theorem dX6_weigh_41 : decode cX6_weigh 41 = .ok (.iastore, 1) := by decide +kernel
theorem dX6_weigh_42 : decode cX6_weigh 42 = .ok (.iload_n 3, 1) := by decide +kernel
theorem dX6_weigh_43 : decode cX6_weigh 43 = .ok (.ireturn, 1) := by decide +kernel
theorem dX6_pace_0 : decode cX6_pace 0 = .ok (.aload_n 0, 1) := by decide +kernel
theorem dX6_pace_1 : decode cX6_pace 1 = .ok (.getfield 10, 3) := by decide +kernel
theorem dX6_pace_4 : decode cX6_pace 4 = .ok (.iload_n 1, 1) := by decide +kernel
theorem dX6_pace_5 : decode cX6_pace 5 = .ok (.invokevirtual 83, 3) := by decide +kernel
theorem dX6_pace_8 : decode cX6_pace 8 = .ok (.ifCond .eq 17, 3) := by decide +kernel
theorem dX6_pace_11 : decode cX6_pace 11 = .ok (.iload_n 2, 1) := by decide +kernel
theorem dX6_pace_12 : decode cX6_pace 12 = .ok (.invokestatic 111, 3) := by decide +kernel
theorem dX6_pace_15 : decode cX6_pace 15 = .ok (.ifCond .eq 10, 3) := by decide +kernel
theorem dX6_pace_18 : decode cX6_pace 18 = .ok (.iload_n 3, 1) := by decide +kernel
theorem dX6_pace_19 : decode cX6_pace 19 = .ok (.invokestatic 111, 3) := by decide +kernel
theorem dX6_pace_22 : decode cX6_pace 22 = .ok (.ifCond .ne 6, 3) := by decide +kernel
theorem dX6_pace_25 : decode cX6_pace 25 = .ok (.bipush (-2), 2) := by decide +kernel
theorem dX6_pace_27 : decode cX6_pace 27 = .ok (.ireturn, 1) := by decide +kernel
theorem dX6_pace_28 : decode cX6_pace 28 = .ok (.aload_n 0, 1) := by decide +kernel
theorem dX6_pace_29 : decode cX6_pace 29 = .ok (.getfield 10, 3) := by decide +kernel
theorem dX6_pace_32 : decode cX6_pace 32 = .ok (.iload_n 1, 1) := by decide +kernel
theorem dX6_pace_33 : decode cX6_pace 33 = .ok (.iload_n 2, 1) := by decide +kernel
theorem dX6_pace_34 : decode cX6_pace 34 = .ok (.iload_n 3, 1) := by decide +kernel
theorem dX6_pace_35 : decode cX6_pace 35 = .ok (.invokevirtual 114, 3) := by decide +kernel
theorem dX6_pace_38 : decode cX6_pace 38 = .ok (.iconst 1, 1) := by decide +kernel
theorem dX6_pace_39 : decode cX6_pace 39 = .ok (.ireturn, 1) := by decide +kernel
theorem dX6_at_0 : decode cX6_at 0 = .ok (.aload_n 0, 1) := by decide +kernel
theorem dX6_at_1 : decode cX6_at 1 = .ok (.getfield 10, 3) := by decide +kernel
theorem dX6_at_4 : decode cX6_at 4 = .ok (.iload_n 1, 1) := by decide +kernel
theorem dX6_at_5 : decode cX6_at 5 = .ok (.invokevirtual 83, 3) := by decide +kernel
theorem dX6_at_8 : decode cX6_at 8 = .ok (.ifCond .ne 7, 3) := by decide +kernel
theorem dX6_at_11 : decode cX6_at 11 = .ok (.sipush (-2000), 3) := by decide +kernel
theorem dX6_at_14 : decode cX6_at 14 = .ok (.ireturn, 1) := by decide +kernel
theorem dX6_at_15 : decode cX6_at 15 = .ok (.aload_n 0, 1) := by decide +kernel
theorem dX6_at_16 : decode cX6_at 16 = .ok (.getfield 10, 3) := by decide +kernel
theorem dX6_at_19 : decode cX6_at 19 = .ok (.iload_n 1, 1) := by decide +kernel
theorem dX6_at_20 : decode cX6_at 20 = .ok (.iload_n 2, 1) := by decide +kernel
theorem dX6_at_21 : decode cX6_at 21 = .ok (.invokevirtual 117, 3) := by decide +kernel
theorem dX6_at_24 : decode cX6_at 24 = .ok (.ireturn, 1) := by decide +kernel
theorem dX6_kernel_0 : decode cX6_kernel 0 = .ok (.iload_n 1, 1) := by decide +kernel
theorem dX6_kernel_1 : decode cX6_kernel 1 = .ok (.iload_n 2, 1) := by decide +kernel
theorem dX6_kernel_2 : decode cX6_kernel 2 = .ok (.invokestatic 121, 3) := by decide +kernel
theorem dX6_kernel_5 : decode cX6_kernel 5 = .ok (.ifCond .eq 15, 3) := by decide +kernel
theorem dX6_kernel_8 : decode cX6_kernel 8 = .ok (.iload_n 3, 1) := by decide +kernel
theorem dX6_kernel_9 : decode cX6_kernel 9 = .ok (.bipush (-9), 2) := by decide +kernel
theorem dX6_kernel_11 : decode cX6_kernel 11 = .ok (.if_icmp .lt 9, 3) := by decide +kernel
theorem dX6_kernel_14 : decode cX6_kernel 14 = .ok (.iload_n 3, 1) := by decide +kernel
theorem dX6_kernel_15 : decode cX6_kernel 15 = .ok (.bipush 9, 2) := by decide +kernel
theorem dX6_kernel_17 : decode cX6_kernel 17 = .ok (.if_icmp .le 7, 3) := by decide +kernel
theorem dX6_kernel_20 : decode cX6_kernel 20 = .ok (.sipush (-2000), 3) := by decide +kernel
theorem dX6_kernel_23 : decode cX6_kernel 23 = .ok (.ireturn, 1) := by decide +kernel
theorem dX6_kernel_24 : decode cX6_kernel 24 = .ok (.aload_n 0, 1) := by decide +kernel
theorem dX6_kernel_25 : decode cX6_kernel 25 = .ok (.getfield 28, 3) := by decide +kernel
theorem dX6_kernel_28 : decode cX6_kernel 28 = .ok (.iload_n 1, 1) := by decide +kernel
theorem dX6_kernel_29 : decode cX6_kernel 29 = .ok (.iload_n 2, 1) := by decide +kernel
theorem dX6_kernel_30 : decode cX6_kernel 30 = .ok (.invokevirtual 124, 3) := by decide +kernel
theorem dX6_kernel_33 : decode cX6_kernel 33 = .ok (.l2i, 1) := by decide +kernel
theorem dX6_kernel_34 : decode cX6_kernel 34 = .ok (.istore 4, 2) := by decide +kernel
theorem dX6_kernel_36 : decode cX6_kernel 36 = .ok (.aload_n 0, 1) := by decide +kernel
theorem dX6_kernel_37 : decode cX6_kernel 37 = .ok (.getfield 28, 3) := by decide +kernel
theorem dX6_kernel_40 : decode cX6_kernel 40 = .ok (.iload_n 1, 1) := by decide +kernel
theorem dX6_kernel_41 : decode cX6_kernel 41 = .ok (.iload_n 2, 1) := by decide +kernel
theorem dX6_kernel_42 : decode cX6_kernel 42 = .ok (.iload_n 3, 1) := by decide +kernel
theorem dX6_kernel_43 : decode cX6_kernel 43 = .ok (.i2l, 1) := by decide +kernel
theorem dX6_kernel_44 : decode cX6_kernel 44 = .ok (.invokevirtual 32, 3) := by decide +kernel
theorem dX6_kernel_47 : decode cX6_kernel 47 = .ok (.iload 4, 2) := by decide +kernel
theorem dX6_kernel_49 : decode cX6_kernel 49 = .ok (.ireturn, 1) := by decide +kernel
theorem dX6_capacity_0 : decode cX6_capacity 0 = .ok (.iload_n 1, 1) := by decide +kernel
theorem dX6_capacity_1 : decode cX6_capacity 1 = .ok (.iconst 1, 1) := by decide +kernel
theorem dX6_capacity_2 : decode cX6_capacity 2 = .ok (.if_icmp .lt 9, 3) := by decide +kernel
theorem dX6_capacity_5 : decode cX6_capacity 5 = .ok (.iload_n 1, 1) := by decide +kernel
theorem dX6_capacity_6 : decode cX6_capacity 6 = .ok (.bipush 8, 2) := by decide +kernel
theorem dX6_capacity_8 : decode cX6_capacity 8 = .ok (.if_icmp .le 6, 3) := by decide +kernel
theorem dX6_capacity_11 : decode cX6_capacity 11 = .ok (.bipush (-2), 2) := by decide +kernel
theorem dX6_capacity_13 : decode cX6_capacity 13 = .ok (.ireturn, 1) := by decide +kernel
theorem dX6_capacity_14 : decode cX6_capacity 14 = .ok (.aload_n 0, 1) := by decide +kernel
theorem dX6_capacity_15 : decode cX6_capacity 15 = .ok (.getfield 21, 3) := by decide +kernel
theorem dX6_capacity_18 : decode cX6_capacity 18 = .ok (.getfield 128, 3) := by decide +kernel
theorem dX6_capacity_21 : decode cX6_capacity 21 = .ok (.istore_n 2, 1) := by decide +kernel
theorem dX6_capacity_22 : decode cX6_capacity 22 = .ok (.aload_n 0, 1) := by decide +kernel
theorem dX6_capacity_23 : decode cX6_capacity 23 = .ok (.getfield 21, 3) := by decide +kernel
theorem dX6_capacity_26 : decode cX6_capacity 26 = .ok (.iload_n 1, 1) := by decide +kernel
theorem dX6_capacity_27 : decode cX6_capacity 27 = .ok (.putfield 128, 3) := by decide +kernel
theorem dX6_capacity_30 : decode cX6_capacity 30 = .ok (.iload_n 2, 1) := by decide +kernel
theorem dX6_capacity_31 : decode cX6_capacity 31 = .ok (.ireturn, 1) := by decide +kernel
theorem dX6_sum_0 : decode cX6_sum 0 = .ok (.iload_n 1, 1) := by decide +kernel
theorem dX6_sum_1 : decode cX6_sum 1 = .ok (.iload_n 2, 1) := by decide +kernel
theorem dX6_sum_2 : decode cX6_sum 2 = .ok (.invokestatic 63, 3) := by decide +kernel
theorem dX6_sum_5 : decode cX6_sum 5 = .ok (.ifCond .ne 7, 3) := by decide +kernel
theorem dX6_sum_8 : decode cX6_sum 8 = .ok (.ldc2_w 131, 3) := by decide +kernel
theorem dX6_sum_11 : decode cX6_sum 11 = .ok (.lreturn, 1) := by decide +kernel
theorem dX6_sum_12 : decode cX6_sum 12 = .ok (.lconst 0, 1) := by decide +kernel
theorem dX6_sum_13 : decode cX6_sum 13 = .ok (.lstore_n 3, 1) := by decide +kernel
theorem dX6_sum_14 : decode cX6_sum 14 = .ok (.iconst 0, 1) := by decide +kernel
theorem dX6_sum_15 : decode cX6_sum 15 = .ok (.istore 5, 2) := by decide +kernel
theorem dX6_sum_17 : decode cX6_sum 17 = .ok (.iload 5, 2) := by decide +kernel
theorem dX6_sum_19 : decode cX6_sum 19 = .ok (.bipush 40, 2) := by decide +kernel
theorem dX6_sum_21 : decode cX6_sum 21 = .ok (.if_icmp .ge 33, 3) := by decide +kernel
theorem dX6_sum_24 : decode cX6_sum 24 = .ok (.aload_n 0, 1) := by decide +kernel
theorem dX6_sum_25 : decode cX6_sum 25 = .ok (.getfield 10, 3) := by decide +kernel
theorem dX6_sum_28 : decode cX6_sum 28 = .ok (.getfield 133, 3) := by decide +kernel
theorem dX6_sum_31 : decode cX6_sum 31 = .ok (.iload 5, 2) := by decide +kernel
theorem dX6_sum_33 : decode cX6_sum 33 = .ok (.baload, 1) := by decide +kernel
theorem dX6_sum_34 : decode cX6_sum 34 = .ok (.ifCond .eq 14, 3) := by decide +kernel
theorem dX6_sum_37 : decode cX6_sum 37 = .ok (.lload_n 3, 1) := by decide +kernel
theorem dX6_sum_38 : decode cX6_sum 38 = .ok (.aload_n 0, 1) := by decide +kernel
theorem dX6_sum_39 : decode cX6_sum 39 = .ok (.iload 5, 2) := by decide +kernel
theorem dX6_sum_41 : decode cX6_sum 41 = .ok (.iload_n 1, 1) := by decide +kernel
theorem dX6_sum_42 : decode cX6_sum 42 = .ok (.iload_n 2, 1) := by decide +kernel
theorem dX6_sum_43 : decode cX6_sum 43 = .ok (.invokevirtual 137, 3) := by decide +kernel
theorem dX6_sum_46 : decode cX6_sum 46 = .ok (.ladd, 1) := by decide +kernel
theorem dX6_sum_47 : decode cX6_sum 47 = .ok (.lstore_n 3, 1) := by decide +kernel
theorem dX6_sum_48 : decode cX6_sum 48 = .ok (.iinc 5 1, 3) := by decide +kernel
theorem dX6_sum_51 : decode cX6_sum 51 = .ok (.goto (-34), 3) := by decide +kernel
theorem dX6_sum_54 : decode cX6_sum 54 = .ok (.lload_n 3, 1) := by decide +kernel
theorem dX6_sum_55 : decode cX6_sum 55 = .ok (.lreturn, 1) := by decide +kernel
theorem dX6_across_0 : decode cX6_across 0 = .ok (.iload_n 1, 1) := by decide +kernel
theorem dX6_across_1 : decode cX6_across 1 = .ok (.iload_n 2, 1) := by decide +kernel
theorem dX6_across_2 : decode cX6_across 2 = .ok (.invokestatic 63, 3) := by decide +kernel
theorem dX6_across_5 : decode cX6_across 5 = .ok (.ifCond .eq 20, 3) := by decide +kernel
theorem dX6_across_8 : decode cX6_across 8 = .ok (.iload_n 3, 1) := by decide +kernel
theorem dX6_across_9 : decode cX6_across 9 = .ok (.ifCond .lt 16, 3) := by decide +kernel
theorem dX6_across_12 : decode cX6_across 12 = .ok (.iload_n 3, 1) := by decide +kernel
theorem dX6_across_13 : decode cX6_across 13 = .ok (.iconst 4, 1) := by decide +kernel
theorem dX6_across_14 : decode cX6_across 14 = .ok (.if_icmp .gt 11, 3) := by decide +kernel
theorem dX6_across_17 : decode cX6_across 17 = .ok (.iload 4, 2) := by decide +kernel
theorem dX6_across_19 : decode cX6_across 19 = .ok (.invokestatic 141, 3) := by decide +kernel
theorem dX6_across_22 : decode cX6_across 22 = .ok (.ifCond .ne 7, 3) := by decide +kernel
theorem dX6_across_25 : decode cX6_across 25 = .ok (.ldc2_w 131, 3) := by decide +kernel
theorem dX6_across_28 : decode cX6_across 28 = .ok (.lreturn, 1) := by decide +kernel
theorem dX6_across_29 : decode cX6_across 29 = .ok (.aload_n 0, 1) := by decide +kernel
theorem dX6_across_30 : decode cX6_across 30 = .ok (.getfield 50, 3) := by decide +kernel
theorem dX6_across_33 : decode cX6_across 33 = .ok (.iload_n 1, 1) := by decide +kernel
theorem dX6_across_34 : decode cX6_across 34 = .ok (.iload_n 2, 1) := by decide +kernel
theorem dX6_across_35 : decode cX6_across 35 = .ok (.iload 4, 2) := by decide +kernel
theorem dX6_across_37 : decode cX6_across 37 = .ok (.invokevirtual 144, 3) := by decide +kernel
theorem dX6_across_40 : decode cX6_across 40 = .ok (.iload 5, 2) := by decide +kernel
theorem dX6_across_42 : decode cX6_across 42 = .ok (.tableswitch 51 0 2 #[26, 34, 42], 26) := by decide +kernel
theorem dX6_across_68 : decode cX6_across 68 = .ok (.aload_n 0, 1) := by decide +kernel
theorem dX6_across_69 : decode cX6_across 69 = .ok (.iload_n 1, 1) := by decide +kernel
theorem dX6_across_70 : decode cX6_across 70 = .ok (.iload_n 2, 1) := by decide +kernel
theorem dX6_across_71 : decode cX6_across 71 = .ok (.iload_n 3, 1) := by decide +kernel
theorem dX6_across_72 : decode cX6_across 72 = .ok (.invokevirtual 147, 3) := by decide +kernel
theorem dX6_across_75 : decode cX6_across 75 = .ok (.lreturn, 1) := by decide +kernel
theorem dX6_across_76 : decode cX6_across 76 = .ok (.aload_n 0, 1) := by decide +kernel
theorem dX6_across_77 : decode cX6_across 77 = .ok (.iload_n 1, 1) := by decide +kernel
theorem dX6_across_78 : decode cX6_across 78 = .ok (.iload_n 2, 1) := by decide +kernel
theorem dX6_across_79 : decode cX6_across 79 = .ok (.iload_n 3, 1) := by decide +kernel
theorem dX6_across_80 : decode cX6_across 80 = .ok (.invokevirtual 150, 3) := by decide +kernel
theorem dX6_across_83 : decode cX6_across 83 = .ok (.lreturn, 1) := by decide +kernel
theorem dX6_across_84 : decode cX6_across 84 = .ok (.aload_n 0, 1) := by decide +kernel
theorem dX6_across_85 : decode cX6_across 85 = .ok (.getfield 50, 3) := by decide +kernel
theorem dX6_across_88 : decode cX6_across 88 = .ok (.getfield 153, 3) := by decide +kernel
theorem dX6_across_91 : decode cX6_across 91 = .ok (.i2l, 1) := by decide +kernel
theorem dX6_across_92 : decode cX6_across 92 = .ok (.lreturn, 1) := by decide +kernel
theorem dX6_across_93 : decode cX6_across 93 = .ok (.ldc2_w 131, 3) := by decide +kernel
theorem dX6_across_96 : decode cX6_across 96 = .ok (.lreturn, 1) := by decide +kernel
theorem dX6_order_0 : decode cX6_order 0 = .ok (.iload_n 1, 1) := by decide +kernel
theorem dX6_order_1 : decode cX6_order 1 = .ok (.iload_n 2, 1) := by decide +kernel
theorem dX6_order_2 : decode cX6_order 2 = .ok (.invokestatic 63, 3) := by decide +kernel
theorem dX6_order_5 : decode cX6_order 5 = .ok (.ifCond .eq 17, 3) := by decide +kernel
theorem dX6_order_8 : decode cX6_order 8 = .ok (.iload_n 3, 1) := by decide +kernel
theorem dX6_order_9 : decode cX6_order 9 = .ok (.invokestatic 141, 3) := by decide +kernel
theorem dX6_order_12 : decode cX6_order 12 = .ok (.ifCond .eq 10, 3) := by decide +kernel
theorem dX6_order_15 : decode cX6_order 15 = .ok (.lload 4, 2) := by decide +kernel
theorem dX6_order_17 : decode cX6_order 17 = .ok (.lconst 0, 1) := by decide +kernel
theorem dX6_order_18 : decode cX6_order 18 = .ok (.lcmp, 1) := by decide +kernel
theorem dX6_order_19 : decode cX6_order 19 = .ok (.ifCond .ge 6, 3) := by decide +kernel
theorem dX6_order_22 : decode cX6_order 22 = .ok (.bipush (-2), 2) := by decide +kernel
theorem dX6_order_24 : decode cX6_order 24 = .ok (.ireturn, 1) := by decide +kernel
theorem dX6_order_25 : decode cX6_order 25 = .ok (.aload_n 0, 1) := by decide +kernel
theorem dX6_order_26 : decode cX6_order 26 = .ok (.getfield 50, 3) := by decide +kernel
theorem dX6_order_29 : decode cX6_order 29 = .ok (.iload_n 1, 1) := by decide +kernel
theorem dX6_order_30 : decode cX6_order 30 = .ok (.iload_n 2, 1) := by decide +kernel
theorem dX6_order_31 : decode cX6_order 31 = .ok (.iload_n 3, 1) := by decide +kernel
theorem dX6_order_32 : decode cX6_order 32 = .ok (.invokevirtual 144, 3) := by decide +kernel
theorem dX6_order_35 : decode cX6_order 35 = .ok (.iconst 0, 1) := by decide +kernel
theorem dX6_order_36 : decode cX6_order 36 = .ok (.istore 6, 2) := by decide +kernel
theorem dX6_order_38 : decode cX6_order 38 = .ok (.iload 6, 2) := by decide +kernel
theorem dX6_order_40 : decode cX6_order 40 = .ok (.iconst 4, 1) := by decide +kernel
theorem dX6_order_41 : decode cX6_order 41 = .ok (.if_icmp .ge 26, 3) := by decide +kernel
theorem dX6_order_44 : decode cX6_order 44 = .ok (.aload_n 0, 1) := by decide +kernel
theorem dX6_order_45 : decode cX6_order 45 = .ok (.iload_n 1, 1) := by decide +kernel
theorem dX6_order_46 : decode cX6_order 46 = .ok (.iload_n 2, 1) := by decide +kernel
theorem dX6_order_47 : decode cX6_order 47 = .ok (.iload 6, 2) := by decide +kernel
theorem dX6_order_49 : decode cX6_order 49 = .ok (.invokevirtual 150, 3) := by decide +kernel
theorem dX6_order_52 : decode cX6_order 52 = .ok (.lload 4, 2) := by decide +kernel
theorem dX6_order_54 : decode cX6_order 54 = .ok (.lcmp, 1) := by decide +kernel
theorem dX6_order_55 : decode cX6_order 55 = .ok (.ifCond .gt 6, 3) := by decide +kernel
theorem dX6_order_58 : decode cX6_order 58 = .ok (.iload 6, 2) := by decide +kernel
theorem dX6_order_60 : decode cX6_order 60 = .ok (.ireturn, 1) := by decide +kernel
theorem dX6_order_61 : decode cX6_order 61 = .ok (.iinc 6 1, 3) := by decide +kernel
theorem dX6_order_64 : decode cX6_order 64 = .ok (.goto (-26), 3) := by decide +kernel
theorem dX6_order_67 : decode cX6_order 67 = .ok (.iconst 4, 1) := by decide +kernel
theorem dX6_order_68 : decode cX6_order 68 = .ok (.ireturn, 1) := by decide +kernel
theorem dX6_way_0 : decode cX6_way 0 = .ok (.iload_n 1, 1) := by decide +kernel
theorem dX6_way_1 : decode cX6_way 1 = .ok (.iload_n 2, 1) := by decide +kernel
theorem dX6_way_2 : decode cX6_way 2 = .ok (.invokestatic 63, 3) := by decide +kernel
theorem dX6_way_5 : decode cX6_way 5 = .ok (.ifCond .eq 26, 3) := by decide +kernel
theorem dX6_way_8 : decode cX6_way 8 = .ok (.iload_n 3, 1) := by decide +kernel
theorem dX6_way_9 : decode cX6_way 9 = .ok (.invokestatic 141, 3) := by decide +kernel
theorem dX6_way_12 : decode cX6_way 12 = .ok (.ifCond .eq 19, 3) := by decide +kernel
theorem dX6_way_15 : decode cX6_way 15 = .ok (.iload 4, 2) := by decide +kernel
theorem dX6_way_17 : decode cX6_way 17 = .ok (.ifCond .lt 14, 3) := by decide +kernel
theorem dX6_way_20 : decode cX6_way 20 = .ok (.iload 5, 2) := by decide +kernel
theorem dX6_way_22 : decode cX6_way 22 = .ok (.ifCond .lt 9, 3) := by decide +kernel
theorem dX6_way_25 : decode cX6_way 25 = .ok (.iload 5, 2) := by decide +kernel
theorem dX6_way_27 : decode cX6_way 27 = .ok (.iconst 2, 1) := by decide +kernel
theorem dX6_way_28 : decode cX6_way 28 = .ok (.if_icmp .le 6, 3) := by decide +kernel
theorem dX6_way_31 : decode cX6_way 31 = .ok (.bipush (-2), 2) := by decide +kernel
theorem dX6_way_33 : decode cX6_way 33 = .ok (.ireturn, 1) := by decide +kernel
theorem dX6_way_34 : decode cX6_way 34 = .ok (.aload_n 0, 1) := by decide +kernel
theorem dX6_way_35 : decode cX6_way 35 = .ok (.getfield 50, 3) := by decide +kernel
theorem dX6_way_38 : decode cX6_way 38 = .ok (.iload_n 1, 1) := by decide +kernel
theorem dX6_way_39 : decode cX6_way 39 = .ok (.iload_n 2, 1) := by decide +kernel
theorem dX6_way_40 : decode cX6_way 40 = .ok (.iload_n 3, 1) := by decide +kernel
theorem dX6_way_41 : decode cX6_way 41 = .ok (.invokevirtual 144, 3) := by decide +kernel
theorem dX6_way_44 : decode cX6_way 44 = .ok (.aload_n 0, 1) := by decide +kernel
theorem dX6_way_45 : decode cX6_way 45 = .ok (.getfield 50, 3) := by decide +kernel
theorem dX6_way_48 : decode cX6_way 48 = .ok (.iload 4, 2) := by decide +kernel
theorem dX6_way_50 : decode cX6_way 50 = .ok (.iload 5, 2) := by decide +kernel
theorem dX6_way_52 : decode cX6_way 52 = .ok (.invokevirtual 156, 3) := by decide +kernel
theorem dX6_way_55 : decode cX6_way 55 = .ok (.ireturn, 1) := by decide +kernel
theorem dX6_box_0 : decode cX6_box 0 = .ok (.aload_n 0, 1) := by decide +kernel
theorem dX6_box_1 : decode cX6_box 1 = .ok (.getfield 21, 3) := by decide +kernel
theorem dX6_box_4 : decode cX6_box 4 = .ok (.iload_n 1, 1) := by decide +kernel
theorem dX6_box_5 : decode cX6_box 5 = .ok (.iload_n 2, 1) := by decide +kernel
theorem dX6_box_6 : decode cX6_box 6 = .ok (.iload_n 3, 1) := by decide +kernel
theorem dX6_box_7 : decode cX6_box 7 = .ok (.invokevirtual 157, 3) := by decide +kernel
theorem dX6_box_10 : decode cX6_box 10 = .ok (.ifCond .ne 6, 3) := by decide +kernel
theorem dX6_box_13 : decode cX6_box 13 = .ok (.bipush (-2), 2) := by decide +kernel
theorem dX6_box_15 : decode cX6_box 15 = .ok (.ireturn, 1) := by decide +kernel
theorem dX6_box_16 : decode cX6_box 16 = .ok (.iload 4, 2) := by decide +kernel
theorem dX6_box_18 : decode cX6_box 18 = .ok (.tableswitch 74 0 2 #[26, 37, 55], 26) := by decide +kernel
theorem dX6_box_44 : decode cX6_box 44 = .ok (.aload_n 0, 1) := by decide +kernel
theorem dX6_box_45 : decode cX6_box 45 = .ok (.getfield 21, 3) := by decide +kernel
theorem dX6_box_48 : decode cX6_box 48 = .ok (.iload_n 1, 1) := by decide +kernel
theorem dX6_box_49 : decode cX6_box 49 = .ok (.iload_n 2, 1) := by decide +kernel
theorem dX6_box_50 : decode cX6_box 50 = .ok (.iload_n 3, 1) := by decide +kernel
theorem dX6_box_51 : decode cX6_box 51 = .ok (.invokevirtual 161, 3) := by decide +kernel
theorem dX6_box_54 : decode cX6_box 54 = .ok (.ireturn, 1) := by decide +kernel
theorem dX6_box_55 : decode cX6_box 55 = .ok (.aload_n 0, 1) := by decide +kernel
theorem dX6_box_56 : decode cX6_box 56 = .ok (.getfield 21, 3) := by decide +kernel
theorem dX6_box_59 : decode cX6_box 59 = .ok (.iload_n 1, 1) := by decide +kernel
theorem dX6_box_60 : decode cX6_box 60 = .ok (.iload_n 2, 1) := by decide +kernel
theorem dX6_box_61 : decode cX6_box 61 = .ok (.iload_n 3, 1) := by decide +kernel
theorem dX6_box_62 : decode cX6_box 62 = .ok (.invokevirtual 165, 3) := by decide +kernel
theorem dX6_box_65 : decode cX6_box 65 = .ok (.aload_n 0, 1) := by decide +kernel
theorem dX6_box_66 : decode cX6_box 66 = .ok (.getfield 21, 3) := by decide +kernel
theorem dX6_box_69 : decode cX6_box 69 = .ok (.getfield 168, 3) := by decide +kernel
theorem dX6_box_72 : decode cX6_box 72 = .ok (.ireturn, 1) := by decide +kernel
theorem dX6_box_73 : decode cX6_box 73 = .ok (.aload_n 0, 1) := by decide +kernel
theorem dX6_box_74 : decode cX6_box 74 = .ok (.getfield 21, 3) := by decide +kernel
theorem dX6_box_77 : decode cX6_box 77 = .ok (.iload_n 1, 1) := by decide +kernel
theorem dX6_box_78 : decode cX6_box 78 = .ok (.iload_n 2, 1) := by decide +kernel
theorem dX6_box_79 : decode cX6_box 79 = .ok (.iload_n 3, 1) := by decide +kernel
theorem dX6_box_80 : decode cX6_box 80 = .ok (.invokevirtual 171, 3) := by decide +kernel
theorem dX6_box_83 : decode cX6_box 83 = .ok (.ifCond .eq 7, 3) := by decide +kernel
theorem dX6_box_86 : decode cX6_box 86 = .ok (.iconst 1, 1) := by decide +kernel
theorem dX6_box_87 : decode cX6_box 87 = .ok (.goto 4, 3) := by decide +kernel
theorem dX6_box_90 : decode cX6_box 90 = .ok (.iconst 0, 1) := by decide +kernel
theorem dX6_box_91 : decode cX6_box 91 = .ok (.ireturn, 1) := by decide +kernel
theorem dX6_box_92 : decode cX6_box 92 = .ok (.bipush (-2), 2) := by decide +kernel
theorem dX6_box_94 : decode cX6_box 94 = .ok (.ireturn, 1) := by decide +kernel
theorem dX6_moment_0 : decode cX6_moment 0 = .ok (.aload_n 0, 1) := by decide +kernel
theorem dX6_moment_1 : decode cX6_moment 1 = .ok (.getfield 21, 3) := by decide +kernel
theorem dX6_moment_4 : decode cX6_moment 4 = .ok (.iload_n 1, 1) := by decide +kernel
theorem dX6_moment_5 : decode cX6_moment 5 = .ok (.iload_n 2, 1) := by decide +kernel
theorem dX6_moment_6 : decode cX6_moment 6 = .ok (.iload_n 3, 1) := by decide +kernel
theorem dX6_moment_7 : decode cX6_moment 7 = .ok (.invokevirtual 157, 3) := by decide +kernel
theorem dX6_moment_10 : decode cX6_moment 10 = .ok (.ifCond .eq 13, 3) := by decide +kernel
theorem dX6_moment_13 : decode cX6_moment 13 = .ok (.iload 4, 2) := by decide +kernel
theorem dX6_moment_15 : decode cX6_moment 15 = .ok (.iload 5, 2) := by decide +kernel
theorem dX6_moment_17 : decode cX6_moment 17 = .ok (.invokestatic 121, 3) := by decide +kernel
theorem dX6_moment_20 : decode cX6_moment 20 = .ok (.ifCond .ne 7, 3) := by decide +kernel
theorem dX6_moment_23 : decode cX6_moment 23 = .ok (.ldc2_w 131, 3) := by decide +kernel
theorem dX6_moment_26 : decode cX6_moment 26 = .ok (.lreturn, 1) := by decide +kernel
theorem dX6_moment_27 : decode cX6_moment 27 = .ok (.aload_n 0, 1) := by decide +kernel
theorem dX6_moment_28 : decode cX6_moment 28 = .ok (.getfield 21, 3) := by decide +kernel
theorem dX6_moment_31 : decode cX6_moment 31 = .ok (.iload_n 1, 1) := by decide +kernel
theorem dX6_moment_32 : decode cX6_moment 32 = .ok (.iload_n 2, 1) := by decide +kernel
theorem dX6_moment_33 : decode cX6_moment 33 = .ok (.iload_n 3, 1) := by decide +kernel
theorem dX6_moment_34 : decode cX6_moment 34 = .ok (.invokevirtual 165, 3) := by decide +kernel
theorem dX6_moment_37 : decode cX6_moment 37 = .ok (.aload_n 0, 1) := by decide +kernel
theorem dX6_moment_38 : decode cX6_moment 38 = .ok (.getfield 21, 3) := by decide +kernel
theorem dX6_moment_41 : decode cX6_moment 41 = .ok (.getfield 174, 3) := by decide +kernel
theorem dX6_moment_44 : decode cX6_moment 44 = .ok (.iload 4, 2) := by decide +kernel
theorem dX6_moment_46 : decode cX6_moment 46 = .ok (.iload 5, 2) := by decide +kernel
theorem dX6_moment_48 : decode cX6_moment 48 = .ok (.invokestatic 178, 3) := by decide +kernel
theorem dX6_moment_51 : decode cX6_moment 51 = .ok (.laload, 1) := by decide +kernel
theorem dX6_moment_52 : decode cX6_moment 52 = .ok (.lreturn, 1) := by decide +kernel
theorem dX6_leaf_0 : decode cX6_leaf 0 = .ok (.iload_n 1, 1) := by decide +kernel
theorem dX6_leaf_1 : decode cX6_leaf 1 = .ok (.iload_n 2, 1) := by decide +kernel
theorem dX6_leaf_2 : decode cX6_leaf 2 = .ok (.invokestatic 63, 3) := by decide +kernel
theorem dX6_leaf_5 : decode cX6_leaf 5 = .ok (.ifCond .ne 6, 3) := by decide +kernel
theorem dX6_leaf_8 : decode cX6_leaf 8 = .ok (.bipush (-2), 2) := by decide +kernel
theorem dX6_leaf_10 : decode cX6_leaf 10 = .ok (.ireturn, 1) := by decide +kernel
theorem dX6_leaf_11 : decode cX6_leaf 11 = .ok (.aload_n 0, 1) := by decide +kernel
theorem dX6_leaf_12 : decode cX6_leaf 12 = .ok (.getfield 21, 3) := by decide +kernel
theorem dX6_leaf_15 : decode cX6_leaf 15 = .ok (.iload_n 1, 1) := by decide +kernel
theorem dX6_leaf_16 : decode cX6_leaf 16 = .ok (.iload_n 2, 1) := by decide +kernel
theorem dX6_leaf_17 : decode cX6_leaf 17 = .ok (.invokevirtual 181, 3) := by decide +kernel
theorem dX6_leaf_20 : decode cX6_leaf 20 = .ok (.ireturn, 1) := by decide +kernel
theorem dX6_nearest_0 : decode cX6_nearest 0 = .ok (.iload_n 1, 1) := by decide +kernel
theorem dX6_nearest_1 : decode cX6_nearest 1 = .ok (.iload_n 2, 1) := by decide +kernel
theorem dX6_nearest_2 : decode cX6_nearest 2 = .ok (.invokestatic 63, 3) := by decide +kernel
theorem dX6_nearest_5 : decode cX6_nearest 5 = .ok (.ifCond .eq 7, 3) := by decide +kernel
theorem dX6_nearest_8 : decode cX6_nearest 8 = .ok (.iload_n 3, 1) := by decide +kernel
theorem dX6_nearest_9 : decode cX6_nearest 9 = .ok (.ifCond .ge 6, 3) := by decide +kernel
theorem dX6_nearest_12 : decode cX6_nearest 12 = .ok (.bipush (-2), 2) := by decide +kernel
theorem dX6_nearest_14 : decode cX6_nearest 14 = .ok (.ireturn, 1) := by decide +kernel
theorem dX6_nearest_15 : decode cX6_nearest 15 = .ok (.iconst 0, 1) := by decide +kernel
theorem dX6_nearest_16 : decode cX6_nearest 16 = .ok (.istore 4, 2) := by decide +kernel
theorem dX6_nearest_18 : decode cX6_nearest 18 = .ok (.iload 4, 2) := by decide +kernel
theorem dX6_nearest_20 : decode cX6_nearest 20 = .ok (.bipush 40, 2) := by decide +kernel
theorem dX6_nearest_22 : decode cX6_nearest 22 = .ok (.if_icmp .ge 40, 3) := by decide +kernel
theorem dX6_nearest_25 : decode cX6_nearest 25 = .ok (.aload_n 0, 1) := by decide +kernel
theorem dX6_nearest_26 : decode cX6_nearest 26 = .ok (.getfield 10, 3) := by decide +kernel
theorem dX6_nearest_29 : decode cX6_nearest 29 = .ok (.getfield 133, 3) := by decide +kernel
theorem dX6_nearest_32 : decode cX6_nearest 32 = .ok (.iload 4, 2) := by decide +kernel
theorem dX6_nearest_34 : decode cX6_nearest 34 = .ok (.baload, 1) := by decide +kernel
theorem dX6_nearest_35 : decode cX6_nearest 35 = .ok (.ifCond .eq 21, 3) := by decide +kernel
theorem dX6_nearest_38 : decode cX6_nearest 38 = .ok (.aload_n 0, 1) := by decide +kernel
theorem dX6_nearest_39 : decode cX6_nearest 39 = .ok (.getfield 10, 3) := by decide +kernel
theorem dX6_nearest_42 : decode cX6_nearest 42 = .ok (.iload 4, 2) := by decide +kernel
theorem dX6_nearest_44 : decode cX6_nearest 44 = .ok (.iload_n 1, 1) := by decide +kernel
theorem dX6_nearest_45 : decode cX6_nearest 45 = .ok (.iload_n 2, 1) := by decide +kernel
theorem dX6_nearest_46 : decode cX6_nearest 46 = .ok (.invokevirtual 184, 3) := by decide +kernel
theorem dX6_nearest_49 : decode cX6_nearest 49 = .ok (.iload_n 3, 1) := by decide +kernel
theorem dX6_nearest_50 : decode cX6_nearest 50 = .ok (.if_icmp .ne 6, 3) := by decide +kernel
theorem dX6_nearest_53 : decode cX6_nearest 53 = .ok (.iload 4, 2) := by decide +kernel
theorem dX6_nearest_55 : decode cX6_nearest 55 = .ok (.ireturn, 1) := by decide +kernel
theorem dX6_nearest_56 : decode cX6_nearest 56 = .ok (.iinc 4 1, 3) := by decide +kernel
theorem dX6_nearest_59 : decode cX6_nearest 59 = .ok (.goto (-41), 3) := by decide +kernel
theorem dX6_nearest_62 : decode cX6_nearest 62 = .ok (.iconst (-1), 1) := by decide +kernel
theorem dX6_nearest_63 : decode cX6_nearest 63 = .ok (.ireturn, 1) := by decide +kernel
theorem dX6_step_0 : decode cX6_step 0 = .ok (.iload_n 1, 1) := by decide +kernel
theorem dX6_step_1 : decode cX6_step 1 = .ok (.ifCond .eq 15, 3) := by decide +kernel
theorem dX6_step_4 : decode cX6_step 4 = .ok (.iload_n 1, 1) := by decide +kernel
theorem dX6_step_5 : decode cX6_step 5 = .ok (.bipush (-8), 2) := by decide +kernel
theorem dX6_step_7 : decode cX6_step 7 = .ok (.if_icmp .lt 9, 3) := by decide +kernel
theorem dX6_step_10 : decode cX6_step 10 = .ok (.iload_n 1, 1) := by decide +kernel
theorem dX6_step_11 : decode cX6_step 11 = .ok (.bipush 8, 2) := by decide +kernel
theorem dX6_step_13 : decode cX6_step 13 = .ok (.if_icmp .le 6, 3) := by decide +kernel
theorem dX6_step_16 : decode cX6_step 16 = .ok (.bipush (-2), 2) := by decide +kernel
theorem dX6_step_18 : decode cX6_step 18 = .ok (.ireturn, 1) := by decide +kernel
theorem dX6_step_19 : decode cX6_step 19 = .ok (.iconst 0, 1) := by decide +kernel
theorem dX6_step_20 : decode cX6_step 20 = .ok (.istore_n 2, 1) := by decide +kernel
theorem dX6_step_21 : decode cX6_step 21 = .ok (.iload_n 2, 1) := by decide +kernel
theorem dX6_step_22 : decode cX6_step 22 = .ok (.iload_n 1, 1) := by decide +kernel
theorem dX6_step_23 : decode cX6_step 23 = .ok (.if_icmp .ge 16, 3) := by decide +kernel
theorem dX6_step_26 : decode cX6_step 26 = .ok (.aload_n 0, 1) := by decide +kernel
theorem dX6_step_27 : decode cX6_step 27 = .ok (.getfield 59, 3) := by decide +kernel
theorem dX6_step_30 : decode cX6_step 30 = .ok (.invokevirtual 187, 3) := by decide +kernel
theorem dX6_step_33 : decode cX6_step 33 = .ok (.iinc 2 1, 3) := by decide +kernel
theorem dX6_step_36 : decode cX6_step 36 = .ok (.goto (-15), 3) := by decide +kernel
theorem dX6_step_39 : decode cX6_step 39 = .ok (.iconst 0, 1) := by decide +kernel
theorem dX6_step_40 : decode cX6_step 40 = .ok (.istore_n 2, 1) := by decide +kernel
theorem dX6_step_41 : decode cX6_step 41 = .ok (.iload_n 2, 1) := by decide +kernel
theorem dX6_step_42 : decode cX6_step 42 = .ok (.iload_n 1, 1) := by decide +kernel
theorem dX6_step_43 : decode cX6_step 43 = .ok (.if_icmp .le 16, 3) := by decide +kernel
theorem dX6_step_46 : decode cX6_step 46 = .ok (.aload_n 0, 1) := by decide +kernel
theorem dX6_step_47 : decode cX6_step 47 = .ok (.getfield 59, 3) := by decide +kernel
theorem dX6_step_50 : decode cX6_step 50 = .ok (.invokevirtual 190, 3) := by decide +kernel
theorem dX6_step_53 : decode cX6_step 53 = .ok (.iinc 2 (-1), 3) := by decide +kernel
theorem dX6_step_56 : decode cX6_step 56 = .ok (.goto (-15), 3) := by decide +kernel
theorem dX6_step_59 : decode cX6_step 59 = .ok (.aload_n 0, 1) := by decide +kernel
theorem dX6_step_60 : decode cX6_step 60 = .ok (.getfield 59, 3) := by decide +kernel
theorem dX6_step_63 : decode cX6_step 63 = .ok (.getfield 193, 3) := by decide +kernel
theorem dX6_step_66 : decode cX6_step 66 = .ok (.ireturn, 1) := by decide +kernel
theorem dX6_count_0 : decode cX6_count 0 = .ok (.iload_n 1, 1) := by decide +kernel
theorem dX6_count_1 : decode cX6_count 1 = .ok (.tableswitch 91 0 5 #[39, 47, 59, 67, 75, 83], 39) := by decide +kernel
theorem dX6_count_40 : decode cX6_count 40 = .ok (.aload_n 0, 1) := by decide +kernel
theorem dX6_count_41 : decode cX6_count 41 = .ok (.getfield 10, 3) := by decide +kernel
theorem dX6_count_44 : decode cX6_count 44 = .ok (.getfield 100, 3) := by decide +kernel
theorem dX6_count_47 : decode cX6_count 47 = .ok (.ireturn, 1) := by decide +kernel
theorem dX6_count_48 : decode cX6_count 48 = .ok (.iconst 1, 1) := by decide +kernel
theorem dX6_count_49 : decode cX6_count 49 = .ok (.iconst 4, 1) := by decide +kernel
theorem dX6_count_50 : decode cX6_count 50 = .ok (.aload_n 0, 1) := by decide +kernel
theorem dX6_count_51 : decode cX6_count 51 = .ok (.getfield 21, 3) := by decide +kernel
theorem dX6_count_54 : decode cX6_count 54 = .ok (.invokevirtual 196, 3) := by decide +kernel
theorem dX6_count_57 : decode cX6_count 57 = .ok (.imul, 1) := by decide +kernel
theorem dX6_count_58 : decode cX6_count 58 = .ok (.iadd, 1) := by decide +kernel
theorem dX6_count_59 : decode cX6_count 59 = .ok (.ireturn, 1) := by decide +kernel
theorem dX6_count_60 : decode cX6_count 60 = .ok (.aload_n 0, 1) := by decide +kernel
theorem dX6_count_61 : decode cX6_count 61 = .ok (.getfield 21, 3) := by decide +kernel
theorem dX6_count_64 : decode cX6_count 64 = .ok (.invokevirtual 196, 3) := by decide +kernel
theorem dX6_count_67 : decode cX6_count 67 = .ok (.ireturn, 1) := by decide +kernel
theorem dX6_count_68 : decode cX6_count 68 = .ok (.aload_n 0, 1) := by decide +kernel
theorem dX6_count_69 : decode cX6_count 69 = .ok (.getfield 21, 3) := by decide +kernel
theorem dX6_count_72 : decode cX6_count 72 = .ok (.invokevirtual 199, 3) := by decide +kernel
theorem dX6_count_75 : decode cX6_count 75 = .ok (.ireturn, 1) := by decide +kernel
theorem dX6_count_76 : decode cX6_count 76 = .ok (.aload_n 0, 1) := by decide +kernel
theorem dX6_count_77 : decode cX6_count 77 = .ok (.getfield 59, 3) := by decide +kernel
theorem dX6_count_80 : decode cX6_count 80 = .ok (.getfield 193, 3) := by decide +kernel
theorem dX6_count_83 : decode cX6_count 83 = .ok (.ireturn, 1) := by decide +kernel
theorem dX6_count_84 : decode cX6_count 84 = .ok (.aload_n 0, 1) := by decide +kernel
theorem dX6_count_85 : decode cX6_count 85 = .ok (.getfield 10, 3) := by decide +kernel
theorem dX6_count_88 : decode cX6_count 88 = .ok (.invokevirtual 202, 3) := by decide +kernel
theorem dX6_count_91 : decode cX6_count 91 = .ok (.ireturn, 1) := by decide +kernel
theorem dX6_count_92 : decode cX6_count 92 = .ok (.bipush (-2), 2) := by decide +kernel
theorem dX6_count_94 : decode cX6_count 94 = .ok (.ireturn, 1) := by decide +kernel
theorem dX6_digest_0 : decode cX6_digest 0 = .ok (.ldc2_w 205, 3) := by decide +kernel
theorem dX6_digest_3 : decode cX6_digest 3 = .ok (.lstore_n 1, 1) := by decide +kernel
theorem dX6_digest_4 : decode cX6_digest 4 = .ok (.iconst 0, 1) := by decide +kernel
theorem dX6_digest_5 : decode cX6_digest 5 = .ok (.istore_n 3, 1) := by decide +kernel
theorem dX6_digest_6 : decode cX6_digest 6 = .ok (.iload_n 3, 1) := by decide +kernel
theorem dX6_digest_7 : decode cX6_digest 7 = .ok (.iconst 5, 1) := by decide +kernel
theorem dX6_digest_8 : decode cX6_digest 8 = .ok (.if_icmp .gt 22, 3) := by decide +kernel
theorem dX6_digest_11 : decode cX6_digest 11 = .ok (.ldc2_w 207, 3) := by decide +kernel
theorem dX6_digest_14 : decode cX6_digest 14 = .ok (.lload_n 1, 1) := by decide +kernel
theorem dX6_digest_15 : decode cX6_digest 15 = .ok (.lmul, 1) := by decide +kernel
theorem dX6_digest_16 : decode cX6_digest 16 = .ok (.aload_n 0, 1) := by decide +kernel
theorem dX6_digest_17 : decode cX6_digest 17 = .ok (.iload_n 3, 1) := by decide +kernel
theorem dX6_digest_18 : decode cX6_digest 18 = .ok (.invokevirtual 209, 3) := by decide +kernel
theorem dX6_digest_21 : decode cX6_digest 21 = .ok (.i2l, 1) := by decide +kernel
theorem dX6_digest_22 : decode cX6_digest 22 = .ok (.ladd, 1) := by decide +kernel
theorem dX6_digest_23 : decode cX6_digest 23 = .ok (.lstore_n 1, 1) := by decide +kernel
theorem dX6_digest_24 : decode cX6_digest 24 = .ok (.iinc 3 1, 3) := by decide +kernel
theorem dX6_digest_27 : decode cX6_digest 27 = .ok (.goto (-21), 3) := by decide +kernel
theorem dX6_digest_30 : decode cX6_digest 30 = .ok (.aload_n 0, 1) := by decide +kernel
theorem dX6_digest_31 : decode cX6_digest 31 = .ok (.lload_n 1, 1) := by decide +kernel
theorem dX6_digest_32 : decode cX6_digest 32 = .ok (.invokevirtual 213, 3) := by decide +kernel
theorem dX6_digest_35 : decode cX6_digest 35 = .ok (.lstore_n 1, 1) := by decide +kernel
theorem dX6_digest_36 : decode cX6_digest 36 = .ok (.aload_n 0, 1) := by decide +kernel
theorem dX6_digest_37 : decode cX6_digest 37 = .ok (.lload_n 1, 1) := by decide +kernel
theorem dX6_digest_38 : decode cX6_digest 38 = .ok (.invokevirtual 217, 3) := by decide +kernel
theorem dX6_digest_41 : decode cX6_digest 41 = .ok (.lstore_n 1, 1) := by decide +kernel
theorem dX6_digest_42 : decode cX6_digest 42 = .ok (.ldc2_w 207, 3) := by decide +kernel
theorem dX6_digest_45 : decode cX6_digest 45 = .ok (.lload_n 1, 1) := by decide +kernel
theorem dX6_digest_46 : decode cX6_digest 46 = .ok (.lmul, 1) := by decide +kernel
theorem dX6_digest_47 : decode cX6_digest 47 = .ok (.aload_n 0, 1) := by decide +kernel
theorem dX6_digest_48 : decode cX6_digest 48 = .ok (.getfield 21, 3) := by decide +kernel
theorem dX6_digest_51 : decode cX6_digest 51 = .ok (.getfield 128, 3) := by decide +kernel
theorem dX6_digest_54 : decode cX6_digest 54 = .ok (.i2l, 1) := by decide +kernel
theorem dX6_digest_55 : decode cX6_digest 55 = .ok (.ladd, 1) := by decide +kernel
theorem dX6_digest_56 : decode cX6_digest 56 = .ok (.lstore_n 1, 1) := by decide +kernel
theorem dX6_digest_57 : decode cX6_digest 57 = .ok (.aload_n 0, 1) := by decide +kernel
theorem dX6_digest_58 : decode cX6_digest 58 = .ok (.lload_n 1, 1) := by decide +kernel
theorem dX6_digest_59 : decode cX6_digest 59 = .ok (.invokevirtual 220, 3) := by decide +kernel
theorem dX6_digest_62 : decode cX6_digest 62 = .ok (.lreturn, 1) := by decide +kernel
theorem dX6_digestPoints_0 : decode cX6_digestPoints 0 = .ok (.lload_n 1, 1) := by decide +kernel
theorem dX6_digestPoints_1 : decode cX6_digestPoints 1 = .ok (.lstore_n 3, 1) := by decide +kernel
theorem dX6_digestPoints_2 : decode cX6_digestPoints 2 = .ok (.iconst 0, 1) := by decide +kernel
theorem dX6_digestPoints_3 : decode cX6_digestPoints 3 = .ok (.istore 5, 2) := by decide +kernel
theorem dX6_digestPoints_5 : decode cX6_digestPoints 5 = .ok (.iload 5, 2) := by decide +kernel
theorem dX6_digestPoints_7 : decode cX6_digestPoints 7 = .ok (.bipush 40, 2) := by decide +kernel
theorem dX6_digestPoints_9 : decode cX6_digestPoints 9 = .ok (.if_icmp .ge 66, 3) := by decide +kernel
theorem dX6_digestPoints_12 : decode cX6_digestPoints 12 = .ok (.aload_n 0, 1) := by decide +kernel
theorem dX6_digestPoints_13 : decode cX6_digestPoints 13 = .ok (.getfield 10, 3) := by decide +kernel
theorem dX6_digestPoints_16 : decode cX6_digestPoints 16 = .ok (.getfield 133, 3) := by decide +kernel
theorem dX6_digestPoints_19 : decode cX6_digestPoints 19 = .ok (.iload 5, 2) := by decide +kernel
theorem dX6_digestPoints_21 : decode cX6_digestPoints 21 = .ok (.baload, 1) := by decide +kernel
theorem dX6_digestPoints_22 : decode cX6_digestPoints 22 = .ok (.ifCond .eq 47, 3) := by decide +kernel
theorem dX6_digestPoints_25 : decode cX6_digestPoints 25 = .ok (.ldc2_w 207, 3) := by decide +kernel
theorem dX6_digestPoints_28 : decode cX6_digestPoints 28 = .ok (.lload_n 3, 1) := by decide +kernel
theorem dX6_digestPoints_29 : decode cX6_digestPoints 29 = .ok (.lmul, 1) := by decide +kernel
theorem dX6_digestPoints_30 : decode cX6_digestPoints 30 = .ok (.iload 5, 2) := by decide +kernel
theorem dX6_digestPoints_32 : decode cX6_digestPoints 32 = .ok (.i2l, 1) := by decide +kernel
theorem dX6_digestPoints_33 : decode cX6_digestPoints 33 = .ok (.ladd, 1) := by decide +kernel
theorem dX6_digestPoints_34 : decode cX6_digestPoints 34 = .ok (.lstore_n 3, 1) := by decide +kernel
theorem dX6_digestPoints_35 : decode cX6_digestPoints 35 = .ok (.iconst 0, 1) := by decide +kernel
theorem dX6_digestPoints_36 : decode cX6_digestPoints 36 = .ok (.istore 6, 2) := by decide +kernel
theorem dX6_digestPoints_38 : decode cX6_digestPoints 38 = .ok (.iload 6, 2) := by decide +kernel
theorem dX6_digestPoints_40 : decode cX6_digestPoints 40 = .ok (.iconst 4, 1) := by decide +kernel
theorem dX6_digestPoints_41 : decode cX6_digestPoints 41 = .ok (.if_icmp .gt 28, 3) := by decide +kernel
theorem dX6_digestPoints_44 : decode cX6_digestPoints 44 = .ok (.ldc2_w 207, 3) := by decide +kernel
theorem dX6_digestPoints_47 : decode cX6_digestPoints 47 = .ok (.lload_n 3, 1) := by decide +kernel
theorem dX6_digestPoints_48 : decode cX6_digestPoints 48 = .ok (.lmul, 1) := by decide +kernel
theorem dX6_digestPoints_49 : decode cX6_digestPoints 49 = .ok (.aload_n 0, 1) := by decide +kernel
theorem dX6_digestPoints_50 : decode cX6_digestPoints 50 = .ok (.getfield 10, 3) := by decide +kernel
theorem dX6_digestPoints_53 : decode cX6_digestPoints 53 = .ok (.iload 5, 2) := by decide +kernel
theorem dX6_digestPoints_55 : decode cX6_digestPoints 55 = .ok (.iload 6, 2) := by decide +kernel
theorem dX6_digestPoints_57 : decode cX6_digestPoints 57 = .ok (.invokevirtual 117, 3) := by decide +kernel
theorem dX6_digestPoints_60 : decode cX6_digestPoints 60 = .ok (.i2l, 1) := by decide +kernel
theorem dX6_digestPoints_61 : decode cX6_digestPoints 61 = .ok (.ladd, 1) := by decide +kernel
theorem dX6_digestPoints_62 : decode cX6_digestPoints 62 = .ok (.lstore_n 3, 1) := by decide +kernel
theorem dX6_digestPoints_63 : decode cX6_digestPoints 63 = .ok (.iinc 6 1, 3) := by decide +kernel
theorem dX6_digestPoints_66 : decode cX6_digestPoints 66 = .ok (.goto (-28), 3) := by decide +kernel
theorem dX6_digestPoints_69 : decode cX6_digestPoints 69 = .ok (.iinc 5 1, 3) := by decide +kernel
theorem dX6_digestPoints_72 : decode cX6_digestPoints 72 = .ok (.goto (-67), 3) := by decide +kernel
theorem dX6_digestPoints_75 : decode cX6_digestPoints 75 = .ok (.lload_n 3, 1) := by decide +kernel
theorem dX6_digestPoints_76 : decode cX6_digestPoints 76 = .ok (.lreturn, 1) := by decide +kernel
theorem dX6_digestFactors_0 : decode cX6_digestFactors 0 = .ok (.lload_n 1, 1) := by decide +kernel
theorem dX6_digestFactors_1 : decode cX6_digestFactors 1 = .ok (.lstore_n 3, 1) := by decide +kernel
theorem dX6_digestFactors_2 : decode cX6_digestFactors 2 = .ok (.iconst 0, 1) := by decide +kernel
theorem dX6_digestFactors_3 : decode cX6_digestFactors 3 = .ok (.istore 5, 2) := by decide +kernel
theorem dX6_digestFactors_5 : decode cX6_digestFactors 5 = .ok (.iload 5, 2) := by decide +kernel
theorem dX6_digestFactors_7 : decode cX6_digestFactors 7 = .ok (.iconst 4, 1) := by decide +kernel
theorem dX6_digestFactors_8 : decode cX6_digestFactors 8 = .ok (.if_icmp .gt 45, 3) := by decide +kernel
theorem dX6_digestFactors_11 : decode cX6_digestFactors 11 = .ok (.iconst 0, 1) := by decide +kernel
theorem dX6_digestFactors_12 : decode cX6_digestFactors 12 = .ok (.istore 6, 2) := by decide +kernel
theorem dX6_digestFactors_14 : decode cX6_digestFactors 14 = .ok (.iload 5, 2) := by decide +kernel
theorem dX6_digestFactors_16 : decode cX6_digestFactors 16 = .ok (.iload 6, 2) := by decide +kernel
theorem dX6_digestFactors_18 : decode cX6_digestFactors 18 = .ok (.iadd, 1) := by decide +kernel
theorem dX6_digestFactors_19 : decode cX6_digestFactors 19 = .ok (.iconst 4, 1) := by decide +kernel
theorem dX6_digestFactors_20 : decode cX6_digestFactors 20 = .ok (.if_icmp .gt 27, 3) := by decide +kernel
theorem dX6_digestFactors_23 : decode cX6_digestFactors 23 = .ok (.ldc2_w 207, 3) := by decide +kernel
theorem dX6_digestFactors_26 : decode cX6_digestFactors 26 = .ok (.lload_n 3, 1) := by decide +kernel
theorem dX6_digestFactors_27 : decode cX6_digestFactors 27 = .ok (.lmul, 1) := by decide +kernel
theorem dX6_digestFactors_28 : decode cX6_digestFactors 28 = .ok (.aload_n 0, 1) := by decide +kernel
theorem dX6_digestFactors_29 : decode cX6_digestFactors 29 = .ok (.getfield 28, 3) := by decide +kernel
theorem dX6_digestFactors_32 : decode cX6_digestFactors 32 = .ok (.iload 5, 2) := by decide +kernel
theorem dX6_digestFactors_34 : decode cX6_digestFactors 34 = .ok (.iload 6, 2) := by decide +kernel
theorem dX6_digestFactors_36 : decode cX6_digestFactors 36 = .ok (.invokevirtual 124, 3) := by decide +kernel
theorem dX6_digestFactors_39 : decode cX6_digestFactors 39 = .ok (.ladd, 1) := by decide +kernel
theorem dX6_digestFactors_40 : decode cX6_digestFactors 40 = .ok (.lstore_n 3, 1) := by decide +kernel
theorem dX6_digestFactors_41 : decode cX6_digestFactors 41 = .ok (.iinc 6 1, 3) := by decide +kernel
theorem dX6_digestFactors_44 : decode cX6_digestFactors 44 = .ok (.goto (-30), 3) := by decide +kernel
theorem dX6_digestFactors_47 : decode cX6_digestFactors 47 = .ok (.iinc 5 1, 3) := by decide +kernel
theorem dX6_digestFactors_50 : decode cX6_digestFactors 50 = .ok (.goto (-45), 3) := by decide +kernel
theorem dX6_digestFactors_53 : decode cX6_digestFactors 53 = .ok (.lload_n 3, 1) := by decide +kernel
theorem dX6_digestFactors_54 : decode cX6_digestFactors 54 = .ok (.lreturn, 1) := by decide +kernel
theorem dX6_digestBoxes_0 : decode cX6_digestBoxes 0 = .ok (.lload_n 1, 1) := by decide +kernel
theorem dX6_digestBoxes_1 : decode cX6_digestBoxes 1 = .ok (.lstore_n 3, 1) := by decide +kernel
theorem dX6_digestBoxes_2 : decode cX6_digestBoxes 2 = .ok (.iconst 0, 1) := by decide +kernel
theorem dX6_digestBoxes_3 : decode cX6_digestBoxes 3 = .ok (.istore 5, 2) := by decide +kernel
theorem dX6_digestBoxes_5 : decode cX6_digestBoxes 5 = .ok (.iload 5, 2) := by decide +kernel
theorem dX6_digestBoxes_7 : decode cX6_digestBoxes 7 = .ok (.iconst 5, 1) := by decide +kernel
theorem dX6_digestBoxes_8 : decode cX6_digestBoxes 8 = .ok (.if_icmp .gt 75, 3) := by decide +kernel
theorem dX6_digestBoxes_11 : decode cX6_digestBoxes 11 = .ok (.iconst 1, 1) := by decide +kernel
theorem dX6_digestBoxes_12 : decode cX6_digestBoxes 12 = .ok (.iload 5, 2) := by decide +kernel
theorem dX6_digestBoxes_14 : decode cX6_digestBoxes 14 = .ok (.ishl, 1) := by decide +kernel
theorem dX6_digestBoxes_15 : decode cX6_digestBoxes 15 = .ok (.istore 6, 2) := by decide +kernel
theorem dX6_digestBoxes_17 : decode cX6_digestBoxes 17 = .ok (.iconst 0, 1) := by decide +kernel
theorem dX6_digestBoxes_18 : decode cX6_digestBoxes 18 = .ok (.istore 7, 2) := by decide +kernel
theorem dX6_digestBoxes_20 : decode cX6_digestBoxes 20 = .ok (.iload 7, 2) := by decide +kernel
theorem dX6_digestBoxes_22 : decode cX6_digestBoxes 22 = .ok (.iload 6, 2) := by decide +kernel
theorem dX6_digestBoxes_24 : decode cX6_digestBoxes 24 = .ok (.if_icmp .ge 53, 3) := by decide +kernel
theorem dX6_digestBoxes_27 : decode cX6_digestBoxes 27 = .ok (.iconst 0, 1) := by decide +kernel
theorem dX6_digestBoxes_28 : decode cX6_digestBoxes 28 = .ok (.istore 8, 2) := by decide +kernel
theorem dX6_digestBoxes_30 : decode cX6_digestBoxes 30 = .ok (.iload 8, 2) := by decide +kernel
theorem dX6_digestBoxes_32 : decode cX6_digestBoxes 32 = .ok (.iload 6, 2) := by decide +kernel
theorem dX6_digestBoxes_34 : decode cX6_digestBoxes 34 = .ok (.if_icmp .ge 37, 3) := by decide +kernel
theorem dX6_digestBoxes_37 : decode cX6_digestBoxes 37 = .ok (.aload_n 0, 1) := by decide +kernel
theorem dX6_digestBoxes_38 : decode cX6_digestBoxes 38 = .ok (.getfield 21, 3) := by decide +kernel
theorem dX6_digestBoxes_41 : decode cX6_digestBoxes 41 = .ok (.iload 5, 2) := by decide +kernel
theorem dX6_digestBoxes_43 : decode cX6_digestBoxes 43 = .ok (.iload 8, 2) := by decide +kernel
theorem dX6_digestBoxes_45 : decode cX6_digestBoxes 45 = .ok (.iload 7, 2) := by decide +kernel
theorem dX6_digestBoxes_47 : decode cX6_digestBoxes 47 = .ok (.invokevirtual 157, 3) := by decide +kernel
theorem dX6_digestBoxes_50 : decode cX6_digestBoxes 50 = .ok (.ifCond .eq 15, 3) := by decide +kernel
theorem dX6_digestBoxes_53 : decode cX6_digestBoxes 53 = .ok (.aload_n 0, 1) := by decide +kernel
theorem dX6_digestBoxes_54 : decode cX6_digestBoxes 54 = .ok (.lload_n 3, 1) := by decide +kernel
theorem dX6_digestBoxes_55 : decode cX6_digestBoxes 55 = .ok (.iload 5, 2) := by decide +kernel
theorem dX6_digestBoxes_57 : decode cX6_digestBoxes 57 = .ok (.iload 8, 2) := by decide +kernel
theorem dX6_digestBoxes_59 : decode cX6_digestBoxes 59 = .ok (.iload 7, 2) := by decide +kernel
theorem dX6_digestBoxes_61 : decode cX6_digestBoxes 61 = .ok (.invokevirtual 223, 3) := by decide +kernel
theorem dX6_digestBoxes_64 : decode cX6_digestBoxes 64 = .ok (.lstore_n 3, 1) := by decide +kernel
theorem dX6_digestBoxes_65 : decode cX6_digestBoxes 65 = .ok (.iinc 8 1, 3) := by decide +kernel
theorem dX6_digestBoxes_68 : decode cX6_digestBoxes 68 = .ok (.goto (-38), 3) := by decide +kernel
theorem dX6_digestBoxes_71 : decode cX6_digestBoxes 71 = .ok (.iinc 7 1, 3) := by decide +kernel
theorem dX6_digestBoxes_74 : decode cX6_digestBoxes 74 = .ok (.goto (-54), 3) := by decide +kernel
theorem dX6_digestBoxes_77 : decode cX6_digestBoxes 77 = .ok (.iinc 5 1, 3) := by decide +kernel
theorem dX6_digestBoxes_80 : decode cX6_digestBoxes 80 = .ok (.goto (-75), 3) := by decide +kernel
theorem dX6_digestBoxes_83 : decode cX6_digestBoxes 83 = .ok (.lload_n 3, 1) := by decide +kernel
theorem dX6_digestBoxes_84 : decode cX6_digestBoxes 84 = .ok (.lreturn, 1) := by decide +kernel
theorem dX6_digestMoments_0 : decode cX6_digestMoments 0 = .ok (.aload_n 0, 1) := by decide +kernel
theorem dX6_digestMoments_1 : decode cX6_digestMoments 1 = .ok (.getfield 21, 3) := by decide +kernel
theorem dX6_digestMoments_4 : decode cX6_digestMoments 4 = .ok (.iload_n 3, 1) := by decide +kernel
theorem dX6_digestMoments_5 : decode cX6_digestMoments 5 = .ok (.iload 4, 2) := by decide +kernel
theorem dX6_digestMoments_7 : decode cX6_digestMoments 7 = .ok (.iload 5, 2) := by decide +kernel
theorem dX6_digestMoments_9 : decode cX6_digestMoments 9 = .ok (.invokevirtual 165, 3) := by decide +kernel
theorem dX6_digestMoments_12 : decode cX6_digestMoments 12 = .ok (.ldc2_w 207, 3) := by decide +kernel
theorem dX6_digestMoments_15 : decode cX6_digestMoments 15 = .ok (.lload_n 1, 1) := by decide +kernel
theorem dX6_digestMoments_16 : decode cX6_digestMoments 16 = .ok (.lmul, 1) := by decide +kernel
theorem dX6_digestMoments_17 : decode cX6_digestMoments 17 = .ok (.aload_n 0, 1) := by decide +kernel
theorem dX6_digestMoments_18 : decode cX6_digestMoments 18 = .ok (.getfield 21, 3) := by decide +kernel
theorem dX6_digestMoments_21 : decode cX6_digestMoments 21 = .ok (.getfield 174, 3) := by decide +kernel
theorem dX6_digestMoments_24 : decode cX6_digestMoments 24 = .ok (.iconst 0, 1) := by decide +kernel
theorem dX6_digestMoments_25 : decode cX6_digestMoments 25 = .ok (.iconst 0, 1) := by decide +kernel
theorem dX6_digestMoments_26 : decode cX6_digestMoments 26 = .ok (.invokestatic 178, 3) := by decide +kernel
theorem dX6_digestMoments_29 : decode cX6_digestMoments 29 = .ok (.laload, 1) := by decide +kernel
theorem dX6_digestMoments_30 : decode cX6_digestMoments 30 = .ok (.ladd, 1) := by decide +kernel
theorem dX6_digestMoments_31 : decode cX6_digestMoments 31 = .ok (.lstore 6, 2) := by decide +kernel
theorem dX6_digestMoments_33 : decode cX6_digestMoments 33 = .ok (.ldc2_w 207, 3) := by decide +kernel
theorem dX6_digestMoments_36 : decode cX6_digestMoments 36 = .ok (.lload 6, 2) := by decide +kernel
theorem dX6_digestMoments_38 : decode cX6_digestMoments 38 = .ok (.lmul, 1) := by decide +kernel
theorem dX6_digestMoments_39 : decode cX6_digestMoments 39 = .ok (.aload_n 0, 1) := by decide +kernel
theorem dX6_digestMoments_40 : decode cX6_digestMoments 40 = .ok (.getfield 21, 3) := by decide +kernel
theorem dX6_digestMoments_43 : decode cX6_digestMoments 43 = .ok (.getfield 174, 3) := by decide +kernel
theorem dX6_digestMoments_46 : decode cX6_digestMoments 46 = .ok (.iconst 1, 1) := by decide +kernel
theorem dX6_digestMoments_47 : decode cX6_digestMoments 47 = .ok (.iconst 0, 1) := by decide +kernel
theorem dX6_digestMoments_48 : decode cX6_digestMoments 48 = .ok (.invokestatic 178, 3) := by decide +kernel
theorem dX6_digestMoments_51 : decode cX6_digestMoments 51 = .ok (.laload, 1) := by decide +kernel
theorem dX6_digestMoments_52 : decode cX6_digestMoments 52 = .ok (.ladd, 1) := by decide +kernel
theorem dX6_digestMoments_53 : decode cX6_digestMoments 53 = .ok (.lstore 6, 2) := by decide +kernel
theorem dX6_digestMoments_55 : decode cX6_digestMoments 55 = .ok (.ldc2_w 207, 3) := by decide +kernel
theorem dX6_digestMoments_58 : decode cX6_digestMoments 58 = .ok (.lload 6, 2) := by decide +kernel
theorem dX6_digestMoments_60 : decode cX6_digestMoments 60 = .ok (.lmul, 1) := by decide +kernel
theorem dX6_digestMoments_61 : decode cX6_digestMoments 61 = .ok (.aload_n 0, 1) := by decide +kernel
theorem dX6_digestMoments_62 : decode cX6_digestMoments 62 = .ok (.getfield 21, 3) := by decide +kernel
theorem dX6_digestMoments_65 : decode cX6_digestMoments 65 = .ok (.getfield 174, 3) := by decide +kernel
theorem dX6_digestMoments_68 : decode cX6_digestMoments 68 = .ok (.iconst 0, 1) := by decide +kernel
theorem dX6_digestMoments_69 : decode cX6_digestMoments 69 = .ok (.iconst 1, 1) := by decide +kernel
theorem dX6_digestMoments_70 : decode cX6_digestMoments 70 = .ok (.invokestatic 178, 3) := by decide +kernel
theorem dX6_digestMoments_73 : decode cX6_digestMoments 73 = .ok (.laload, 1) := by decide +kernel
theorem dX6_digestMoments_74 : decode cX6_digestMoments 74 = .ok (.ladd, 1) := by decide +kernel
theorem dX6_digestMoments_75 : decode cX6_digestMoments 75 = .ok (.lreturn, 1) := by decide +kernel
theorem dX6_pullOf_0 : decode cX6_pullOf 0 = .ok (.aload_n 0, 1) := by decide +kernel
theorem dX6_pullOf_1 : decode cX6_pullOf 1 = .ok (.getfield 28, 3) := by decide +kernel
theorem dX6_pullOf_4 : decode cX6_pullOf 4 = .ok (.iload_n 2, 1) := by decide +kernel
theorem dX6_pullOf_5 : decode cX6_pullOf 5 = .ok (.aload_n 0, 1) := by decide +kernel
theorem dX6_pullOf_6 : decode cX6_pullOf 6 = .ok (.getfield 10, 3) := by decide +kernel
theorem dX6_pullOf_9 : decode cX6_pullOf 9 = .ok (.getfield 86, 3) := by decide +kernel
theorem dX6_pullOf_12 : decode cX6_pullOf 12 = .ok (.iload_n 1, 1) := by decide +kernel
theorem dX6_pullOf_13 : decode cX6_pullOf 13 = .ok (.iaload, 1) := by decide +kernel
theorem dX6_pullOf_14 : decode cX6_pullOf 14 = .ok (.isub, 1) := by decide +kernel
theorem dX6_pullOf_15 : decode cX6_pullOf 15 = .ok (.i2l, 1) := by decide +kernel
theorem dX6_pullOf_16 : decode cX6_pullOf 16 = .ok (.iload_n 3, 1) := by decide +kernel
theorem dX6_pullOf_17 : decode cX6_pullOf 17 = .ok (.aload_n 0, 1) := by decide +kernel
theorem dX6_pullOf_18 : decode cX6_pullOf 18 = .ok (.getfield 10, 3) := by decide +kernel
theorem dX6_pullOf_21 : decode cX6_pullOf 21 = .ok (.getfield 90, 3) := by decide +kernel
theorem dX6_pullOf_24 : decode cX6_pullOf 24 = .ok (.iload_n 1, 1) := by decide +kernel
theorem dX6_pullOf_25 : decode cX6_pullOf 25 = .ok (.iaload, 1) := by decide +kernel
theorem dX6_pullOf_26 : decode cX6_pullOf 26 = .ok (.isub, 1) := by decide +kernel
theorem dX6_pullOf_27 : decode cX6_pullOf 27 = .ok (.i2l, 1) := by decide +kernel
theorem dX6_pullOf_28 : decode cX6_pullOf 28 = .ok (.invokevirtual 227, 3) := by decide +kernel
theorem dX6_pullOf_31 : decode cX6_pullOf 31 = .ok (.lstore 4, 2) := by decide +kernel
theorem dX6_pullOf_33 : decode cX6_pullOf 33 = .ok (.bipush 16, 2) := by decide +kernel
theorem dX6_pullOf_35 : decode cX6_pullOf 35 = .ok (.aload_n 0, 1) := by decide +kernel
theorem dX6_pullOf_36 : decode cX6_pullOf 36 = .ok (.getfield 10, 3) := by decide +kernel
theorem dX6_pullOf_39 : decode cX6_pullOf 39 = .ok (.getfield 108, 3) := by decide +kernel
theorem dX6_pullOf_42 : decode cX6_pullOf 42 = .ok (.iload_n 1, 1) := by decide +kernel
theorem dX6_pullOf_43 : decode cX6_pullOf 43 = .ok (.iaload, 1) := by decide +kernel
theorem dX6_pullOf_44 : decode cX6_pullOf 44 = .ok (.imul, 1) := by decide +kernel
theorem dX6_pullOf_45 : decode cX6_pullOf 45 = .ok (.i2l, 1) := by decide +kernel
theorem dX6_pullOf_46 : decode cX6_pullOf 46 = .ok (.lload 4, 2) := by decide +kernel
theorem dX6_pullOf_48 : decode cX6_pullOf 48 = .ok (.lmul, 1) := by decide +kernel
theorem dX6_pullOf_49 : decode cX6_pullOf 49 = .ok (.lreturn, 1) := by decide +kernel
theorem dX6_about_0 : decode cX6_about 0 = .ok (.lconst 0, 1) := by decide +kernel
theorem dX6_about_1 : decode cX6_about 1 = .ok (.lstore 4, 2) := by decide +kernel
theorem dX6_about_3 : decode cX6_about 3 = .ok (.iconst 0, 1) := by decide +kernel
theorem dX6_about_4 : decode cX6_about 4 = .ok (.istore 6, 2) := by decide +kernel
theorem dX6_about_6 : decode cX6_about 6 = .ok (.iload 6, 2) := by decide +kernel
theorem dX6_about_8 : decode cX6_about 8 = .ok (.aload_n 0, 1) := by decide +kernel
theorem dX6_about_9 : decode cX6_about 9 = .ok (.getfield 50, 3) := by decide +kernel
theorem dX6_about_12 : decode cX6_about 12 = .ok (.getfield 153, 3) := by decide +kernel
theorem dX6_about_15 : decode cX6_about 15 = .ok (.if_icmp .ge 61, 3) := by decide +kernel
theorem dX6_about_18 : decode cX6_about 18 = .ok (.aload_n 0, 1) := by decide +kernel
theorem dX6_about_19 : decode cX6_about 19 = .ok (.getfield 50, 3) := by decide +kernel
theorem dX6_about_22 : decode cX6_about 22 = .ok (.getfield 231, 3) := by decide +kernel
theorem dX6_about_25 : decode cX6_about 25 = .ok (.iload 6, 2) := by decide +kernel
theorem dX6_about_27 : decode cX6_about 27 = .ok (.iaload, 1) := by decide +kernel
theorem dX6_about_28 : decode cX6_about 28 = .ok (.iconst (-1), 1) := by decide +kernel
theorem dX6_about_29 : decode cX6_about 29 = .ok (.if_icmp .ne 27, 3) := by decide +kernel
theorem dX6_about_32 : decode cX6_about 32 = .ok (.lload 4, 2) := by decide +kernel
theorem dX6_about_34 : decode cX6_about 34 = .ok (.aload_n 0, 1) := by decide +kernel
theorem dX6_about_35 : decode cX6_about 35 = .ok (.aload_n 0, 1) := by decide +kernel
theorem dX6_about_36 : decode cX6_about 36 = .ok (.getfield 50, 3) := by decide +kernel
theorem dX6_about_39 : decode cX6_about 39 = .ok (.getfield 234, 3) := by decide +kernel
theorem dX6_about_42 : decode cX6_about 42 = .ok (.iload 6, 2) := by decide +kernel
theorem dX6_about_44 : decode cX6_about 44 = .ok (.iaload, 1) := by decide +kernel
theorem dX6_about_45 : decode cX6_about 45 = .ok (.iload_n 1, 1) := by decide +kernel
theorem dX6_about_46 : decode cX6_about 46 = .ok (.iload_n 2, 1) := by decide +kernel
theorem dX6_about_47 : decode cX6_about 47 = .ok (.invokevirtual 137, 3) := by decide +kernel
theorem dX6_about_50 : decode cX6_about 50 = .ok (.ladd, 1) := by decide +kernel
theorem dX6_about_51 : decode cX6_about 51 = .ok (.lstore 4, 2) := by decide +kernel
theorem dX6_about_53 : decode cX6_about 53 = .ok (.goto 17, 3) := by decide +kernel
theorem dX6_about_56 : decode cX6_about 56 = .ok (.lload 4, 2) := by decide +kernel
theorem dX6_about_58 : decode cX6_about 58 = .ok (.aload_n 0, 1) := by decide +kernel
theorem dX6_about_59 : decode cX6_about 59 = .ok (.iload 6, 2) := by decide +kernel
theorem dX6_about_61 : decode cX6_about 61 = .ok (.iload_n 1, 1) := by decide +kernel
theorem dX6_about_62 : decode cX6_about 62 = .ok (.iload_n 2, 1) := by decide +kernel
theorem dX6_about_63 : decode cX6_about 63 = .ok (.iload_n 3, 1) := by decide +kernel
theorem dX6_about_64 : decode cX6_about 64 = .ok (.invokevirtual 237, 3) := by decide +kernel
theorem dX6_about_67 : decode cX6_about 67 = .ok (.ladd, 1) := by decide +kernel
theorem dX6_about_68 : decode cX6_about 68 = .ok (.lstore 4, 2) := by decide +kernel
theorem dX6_about_70 : decode cX6_about 70 = .ok (.iinc 6 1, 3) := by decide +kernel
theorem dX6_about_73 : decode cX6_about 73 = .ok (.goto (-67), 3) := by decide +kernel
theorem dX6_about_76 : decode cX6_about 76 = .ok (.lload 4, 2) := by decide +kernel
theorem dX6_about_78 : decode cX6_about 78 = .ok (.lreturn, 1) := by decide +kernel
theorem dX6_wholeEnd_0 : decode cX6_wholeEnd 0 = .ok (.lconst 0, 1) := by decide +kernel
theorem dX6_wholeEnd_1 : decode cX6_wholeEnd 1 = .ok (.lstore 4, 2) := by decide +kernel
theorem dX6_wholeEnd_3 : decode cX6_wholeEnd 3 = .ok (.iconst 0, 1) := by decide +kernel
theorem dX6_wholeEnd_4 : decode cX6_wholeEnd 4 = .ok (.istore 6, 2) := by decide +kernel
theorem dX6_wholeEnd_6 : decode cX6_wholeEnd 6 = .ok (.iload 6, 2) := by decide +kernel
theorem dX6_wholeEnd_8 : decode cX6_wholeEnd 8 = .ok (.aload_n 0, 1) := by decide +kernel
theorem dX6_wholeEnd_9 : decode cX6_wholeEnd 9 = .ok (.getfield 50, 3) := by decide +kernel
theorem dX6_wholeEnd_12 : decode cX6_wholeEnd 12 = .ok (.getfield 153, 3) := by decide +kernel
theorem dX6_wholeEnd_15 : decode cX6_wholeEnd 15 = .ok (.if_icmp .ge 37, 3) := by decide +kernel
theorem dX6_wholeEnd_18 : decode cX6_wholeEnd 18 = .ok (.aload_n 0, 1) := by decide +kernel
theorem dX6_wholeEnd_19 : decode cX6_wholeEnd 19 = .ok (.getfield 50, 3) := by decide +kernel
theorem dX6_wholeEnd_22 : decode cX6_wholeEnd 22 = .ok (.getfield 231, 3) := by decide +kernel
theorem dX6_wholeEnd_25 : decode cX6_wholeEnd 25 = .ok (.iload 6, 2) := by decide +kernel
theorem dX6_wholeEnd_27 : decode cX6_wholeEnd 27 = .ok (.iaload, 1) := by decide +kernel
theorem dX6_wholeEnd_28 : decode cX6_wholeEnd 28 = .ok (.iconst (-1), 1) := by decide +kernel
theorem dX6_wholeEnd_29 : decode cX6_wholeEnd 29 = .ok (.if_icmp .eq 17, 3) := by decide +kernel
theorem dX6_wholeEnd_32 : decode cX6_wholeEnd 32 = .ok (.lload 4, 2) := by decide +kernel
theorem dX6_wholeEnd_34 : decode cX6_wholeEnd 34 = .ok (.aload_n 0, 1) := by decide +kernel
theorem dX6_wholeEnd_35 : decode cX6_wholeEnd 35 = .ok (.iload 6, 2) := by decide +kernel
theorem dX6_wholeEnd_37 : decode cX6_wholeEnd 37 = .ok (.iload_n 1, 1) := by decide +kernel
theorem dX6_wholeEnd_38 : decode cX6_wholeEnd 38 = .ok (.iload_n 2, 1) := by decide +kernel
theorem dX6_wholeEnd_39 : decode cX6_wholeEnd 39 = .ok (.iload_n 3, 1) := by decide +kernel
theorem dX6_wholeEnd_40 : decode cX6_wholeEnd 40 = .ok (.invokevirtual 241, 3) := by decide +kernel
theorem dX6_wholeEnd_43 : decode cX6_wholeEnd 43 = .ok (.ladd, 1) := by decide +kernel
theorem dX6_wholeEnd_44 : decode cX6_wholeEnd 44 = .ok (.lstore 4, 2) := by decide +kernel
theorem dX6_wholeEnd_46 : decode cX6_wholeEnd 46 = .ok (.iinc 6 1, 3) := by decide +kernel
theorem dX6_wholeEnd_49 : decode cX6_wholeEnd 49 = .ok (.goto (-43), 3) := by decide +kernel
theorem dX6_wholeEnd_52 : decode cX6_wholeEnd 52 = .ok (.lload 4, 2) := by decide +kernel
theorem dX6_wholeEnd_54 : decode cX6_wholeEnd 54 = .ok (.lreturn, 1) := by decide +kernel
theorem dX6_termOf_0 : decode cX6_termOf 0 = .ok (.aload_n 0, 1) := by decide +kernel
theorem dX6_termOf_1 : decode cX6_termOf 1 = .ok (.getfield 50, 3) := by decide +kernel
theorem dX6_termOf_4 : decode cX6_termOf 4 = .ok (.getfield 231, 3) := by decide +kernel
theorem dX6_termOf_7 : decode cX6_termOf 7 = .ok (.iload_n 1, 1) := by decide +kernel
theorem dX6_termOf_8 : decode cX6_termOf 8 = .ok (.iaload, 1) := by decide +kernel
theorem dX6_termOf_9 : decode cX6_termOf 9 = .ok (.istore 5, 2) := by decide +kernel
theorem dX6_termOf_11 : decode cX6_termOf 11 = .ok (.aload_n 0, 1) := by decide +kernel
theorem dX6_termOf_12 : decode cX6_termOf 12 = .ok (.getfield 21, 3) := by decide +kernel
theorem dX6_termOf_15 : decode cX6_termOf 15 = .ok (.iload 5, 2) := by decide +kernel
theorem dX6_termOf_17 : decode cX6_termOf 17 = .ok (.aload_n 0, 1) := by decide +kernel
theorem dX6_termOf_18 : decode cX6_termOf 18 = .ok (.getfield 50, 3) := by decide +kernel
theorem dX6_termOf_21 : decode cX6_termOf 21 = .ok (.getfield 234, 3) := by decide +kernel
theorem dX6_termOf_24 : decode cX6_termOf 24 = .ok (.iload_n 1, 1) := by decide +kernel
theorem dX6_termOf_25 : decode cX6_termOf 25 = .ok (.iaload, 1) := by decide +kernel
theorem dX6_termOf_26 : decode cX6_termOf 26 = .ok (.aload_n 0, 1) := by decide +kernel
theorem dX6_termOf_27 : decode cX6_termOf 27 = .ok (.getfield 50, 3) := by decide +kernel
theorem dX6_termOf_30 : decode cX6_termOf 30 = .ok (.getfield 244, 3) := by decide +kernel
theorem dX6_termOf_33 : decode cX6_termOf 33 = .ok (.iload_n 1, 1) := by decide +kernel
theorem dX6_termOf_34 : decode cX6_termOf 34 = .ok (.iaload, 1) := by decide +kernel
theorem dX6_termOf_35 : decode cX6_termOf 35 = .ok (.invokevirtual 165, 3) := by decide +kernel
theorem dX6_termOf_38 : decode cX6_termOf 38 = .ok (.aload_n 0, 1) := by decide +kernel
theorem dX6_termOf_39 : decode cX6_termOf 39 = .ok (.getfield 41, 3) := by decide +kernel
theorem dX6_termOf_42 : decode cX6_termOf 42 = .ok (.aload_n 0, 1) := by decide +kernel
theorem dX6_termOf_43 : decode cX6_termOf 43 = .ok (.getfield 21, 3) := by decide +kernel
theorem dX6_termOf_46 : decode cX6_termOf 46 = .ok (.getfield 174, 3) := by decide +kernel
theorem dX6_termOf_49 : decode cX6_termOf 49 = .ok (.iload 4, 2) := by decide +kernel
theorem dX6_termOf_51 : decode cX6_termOf 51 = .ok (.invokevirtual 247, 3) := by decide +kernel
theorem dX6_termOf_54 : decode cX6_termOf 54 = .ok (.aload_n 0, 1) := by decide +kernel
theorem dX6_termOf_55 : decode cX6_termOf 55 = .ok (.getfield 41, 3) := by decide +kernel
theorem dX6_termOf_58 : decode cX6_termOf 58 = .ok (.getfield 251, 3) := by decide +kernel
theorem dX6_termOf_61 : decode cX6_termOf 61 = .ok (.iload_n 2, 1) := by decide +kernel
theorem dX6_termOf_62 : decode cX6_termOf 62 = .ok (.iload 5, 2) := by decide +kernel
theorem dX6_termOf_64 : decode cX6_termOf 64 = .ok (.aload_n 0, 1) := by decide +kernel
theorem dX6_termOf_65 : decode cX6_termOf 65 = .ok (.getfield 50, 3) := by decide +kernel
theorem dX6_termOf_68 : decode cX6_termOf 68 = .ok (.getfield 234, 3) := by decide +kernel
theorem dX6_termOf_71 : decode cX6_termOf 71 = .ok (.iload_n 1, 1) := by decide +kernel
theorem dX6_termOf_72 : decode cX6_termOf 72 = .ok (.iaload, 1) := by decide +kernel
theorem dX6_termOf_73 : decode cX6_termOf 73 = .ok (.invokestatic 254, 3) := by decide +kernel
theorem dX6_termOf_76 : decode cX6_termOf 76 = .ok (.i2l, 1) := by decide +kernel
theorem dX6_termOf_77 : decode cX6_termOf 77 = .ok (.iload_n 3, 1) := by decide +kernel
theorem dX6_termOf_78 : decode cX6_termOf 78 = .ok (.iload 5, 2) := by decide +kernel
theorem dX6_termOf_80 : decode cX6_termOf 80 = .ok (.aload_n 0, 1) := by decide +kernel
theorem dX6_termOf_81 : decode cX6_termOf 81 = .ok (.getfield 50, 3) := by decide +kernel
theorem dX6_termOf_84 : decode cX6_termOf 84 = .ok (.getfield 244, 3) := by decide +kernel
theorem dX6_termOf_87 : decode cX6_termOf 87 = .ok (.iload_n 1, 1) := by decide +kernel
theorem dX6_termOf_88 : decode cX6_termOf 88 = .ok (.iaload, 1) := by decide +kernel
theorem dX6_termOf_89 : decode cX6_termOf 89 = .ok (.invokestatic 254, 3) := by decide +kernel
theorem dX6_termOf_92 : decode cX6_termOf 92 = .ok (.i2l, 1) := by decide +kernel
theorem dX6_termOf_93 : decode cX6_termOf 93 = .ok (.invokevirtual 227, 3) := by decide +kernel
theorem dX6_termOf_96 : decode cX6_termOf 96 = .ok (.lreturn, 1) := by decide +kernel
theorem dX6_endOf_0 : decode cX6_endOf 0 = .ok (.aload_n 0, 1) := by decide +kernel
theorem dX6_endOf_1 : decode cX6_endOf 1 = .ok (.getfield 50, 3) := by decide +kernel
theorem dX6_endOf_4 : decode cX6_endOf 4 = .ok (.getfield 231, 3) := by decide +kernel
theorem dX6_endOf_7 : decode cX6_endOf 7 = .ok (.iload_n 1, 1) := by decide +kernel
theorem dX6_endOf_8 : decode cX6_endOf 8 = .ok (.iaload, 1) := by decide +kernel
theorem dX6_endOf_9 : decode cX6_endOf 9 = .ok (.istore 5, 2) := by decide +kernel
theorem dX6_endOf_11 : decode cX6_endOf 11 = .ok (.aload_n 0, 1) := by decide +kernel
theorem dX6_endOf_12 : decode cX6_endOf 12 = .ok (.getfield 21, 3) := by decide +kernel
theorem dX6_endOf_15 : decode cX6_endOf 15 = .ok (.iload 5, 2) := by decide +kernel
theorem dX6_endOf_17 : decode cX6_endOf 17 = .ok (.aload_n 0, 1) := by decide +kernel
theorem dX6_endOf_18 : decode cX6_endOf 18 = .ok (.getfield 50, 3) := by decide +kernel
theorem dX6_endOf_21 : decode cX6_endOf 21 = .ok (.getfield 234, 3) := by decide +kernel
theorem dX6_endOf_24 : decode cX6_endOf 24 = .ok (.iload_n 1, 1) := by decide +kernel
theorem dX6_endOf_25 : decode cX6_endOf 25 = .ok (.iaload, 1) := by decide +kernel
theorem dX6_endOf_26 : decode cX6_endOf 26 = .ok (.aload_n 0, 1) := by decide +kernel
theorem dX6_endOf_27 : decode cX6_endOf 27 = .ok (.getfield 50, 3) := by decide +kernel
theorem dX6_endOf_30 : decode cX6_endOf 30 = .ok (.getfield 244, 3) := by decide +kernel
theorem dX6_endOf_33 : decode cX6_endOf 33 = .ok (.iload_n 1, 1) := by decide +kernel
theorem dX6_endOf_34 : decode cX6_endOf 34 = .ok (.iaload, 1) := by decide +kernel
theorem dX6_endOf_35 : decode cX6_endOf 35 = .ok (.invokevirtual 165, 3) := by decide +kernel
theorem dX6_endOf_38 : decode cX6_endOf 38 = .ok (.aload_n 0, 1) := by decide +kernel
theorem dX6_endOf_39 : decode cX6_endOf 39 = .ok (.getfield 41, 3) := by decide +kernel
theorem dX6_endOf_42 : decode cX6_endOf 42 = .ok (.aload_n 0, 1) := by decide +kernel
theorem dX6_endOf_43 : decode cX6_endOf 43 = .ok (.getfield 21, 3) := by decide +kernel
theorem dX6_endOf_46 : decode cX6_endOf 46 = .ok (.getfield 168, 3) := by decide +kernel
theorem dX6_endOf_49 : decode cX6_endOf 49 = .ok (.i2l, 1) := by decide +kernel
theorem dX6_endOf_50 : decode cX6_endOf 50 = .ok (.iload 5, 2) := by decide +kernel
theorem dX6_endOf_52 : decode cX6_endOf 52 = .ok (.invokestatic 257, 3) := by decide +kernel
theorem dX6_endOf_55 : decode cX6_endOf 55 = .ok (.iconst 1, 1) := by decide +kernel
theorem dX6_endOf_56 : decode cX6_endOf 56 = .ok (.isub, 1) := by decide +kernel
theorem dX6_endOf_57 : decode cX6_endOf 57 = .ok (.iload 4, 2) := by decide +kernel
theorem dX6_endOf_59 : decode cX6_endOf 59 = .ok (.invokevirtual 260, 3) := by decide +kernel
theorem dX6_endOf_62 : decode cX6_endOf 62 = .ok (.aload_n 0, 1) := by decide +kernel
theorem dX6_endOf_63 : decode cX6_endOf 63 = .ok (.getfield 41, 3) := by decide +kernel
theorem dX6_endOf_66 : decode cX6_endOf 66 = .ok (.getfield 251, 3) := by decide +kernel
theorem dX6_endOf_69 : decode cX6_endOf 69 = .ok (.iload_n 2, 1) := by decide +kernel
theorem dX6_endOf_70 : decode cX6_endOf 70 = .ok (.iload 5, 2) := by decide +kernel
theorem dX6_endOf_72 : decode cX6_endOf 72 = .ok (.aload_n 0, 1) := by decide +kernel
theorem dX6_endOf_73 : decode cX6_endOf 73 = .ok (.getfield 50, 3) := by decide +kernel
theorem dX6_endOf_76 : decode cX6_endOf 76 = .ok (.getfield 234, 3) := by decide +kernel
theorem dX6_endOf_79 : decode cX6_endOf 79 = .ok (.iload_n 1, 1) := by decide +kernel
theorem dX6_endOf_80 : decode cX6_endOf 80 = .ok (.iaload, 1) := by decide +kernel
theorem dX6_endOf_81 : decode cX6_endOf 81 = .ok (.invokestatic 254, 3) := by decide +kernel
theorem dX6_endOf_84 : decode cX6_endOf 84 = .ok (.invokestatic 264, 3) := by decide +kernel
theorem dX6_endOf_87 : decode cX6_endOf 87 = .ok (.i2l, 1) := by decide +kernel
theorem dX6_endOf_88 : decode cX6_endOf 88 = .ok (.iload_n 3, 1) := by decide +kernel
theorem dX6_endOf_89 : decode cX6_endOf 89 = .ok (.iload 5, 2) := by decide +kernel
theorem dX6_endOf_91 : decode cX6_endOf 91 = .ok (.aload_n 0, 1) := by decide +kernel
theorem dX6_endOf_92 : decode cX6_endOf 92 = .ok (.getfield 50, 3) := by decide +kernel
theorem dX6_endOf_95 : decode cX6_endOf 95 = .ok (.getfield 244, 3) := by decide +kernel
theorem dX6_endOf_98 : decode cX6_endOf 98 = .ok (.iload_n 1, 1) := by decide +kernel
theorem dX6_endOf_99 : decode cX6_endOf 99 = .ok (.iaload, 1) := by decide +kernel
theorem dX6_endOf_100 : decode cX6_endOf 100 = .ok (.invokestatic 254, 3) := by decide +kernel
theorem dX6_endOf_103 : decode cX6_endOf 103 = .ok (.invokestatic 264, 3) := by decide +kernel
theorem dX6_endOf_106 : decode cX6_endOf 106 = .ok (.i2l, 1) := by decide +kernel
theorem dX6_endOf_107 : decode cX6_endOf 107 = .ok (.invokevirtual 227, 3) := by decide +kernel
theorem dX6_endOf_110 : decode cX6_endOf 110 = .ok (.lreturn, 1) := by decide +kernel
theorem dX6_isPlace_0 : decode cX6_isPlace 0 = .ok (.iload_n 0, 1) := by decide +kernel
theorem dX6_isPlace_1 : decode cX6_isPlace 1 = .ok (.ifCond .lt 23, 3) := by decide +kernel
theorem dX6_isPlace_4 : decode cX6_isPlace 4 = .ok (.iload_n 0, 1) := by decide +kernel
theorem dX6_isPlace_5 : decode cX6_isPlace 5 = .ok (.bipush 64, 2) := by decide +kernel
theorem dX6_isPlace_7 : decode cX6_isPlace 7 = .ok (.if_icmp .ge 17, 3) := by decide +kernel
theorem dX6_isPlace_10 : decode cX6_isPlace 10 = .ok (.iload_n 1, 1) := by decide +kernel
theorem dX6_isPlace_11 : decode cX6_isPlace 11 = .ok (.ifCond .lt 13, 3) := by decide +kernel
theorem dX6_isPlace_14 : decode cX6_isPlace 14 = .ok (.iload_n 1, 1) := by decide +kernel
theorem dX6_isPlace_15 : decode cX6_isPlace 15 = .ok (.bipush 64, 2) := by decide +kernel
theorem dX6_isPlace_17 : decode cX6_isPlace 17 = .ok (.if_icmp .ge 7, 3) := by decide +kernel
theorem dX6_isPlace_20 : decode cX6_isPlace 20 = .ok (.iconst 1, 1) := by decide +kernel
theorem dX6_isPlace_21 : decode cX6_isPlace 21 = .ok (.goto 4, 3) := by decide +kernel
theorem dX6_isPlace_24 : decode cX6_isPlace 24 = .ok (.iconst 0, 1) := by decide +kernel
theorem dX6_isPlace_25 : decode cX6_isPlace 25 = .ok (.ireturn, 1) := by decide +kernel
theorem dX6_isWeight_0 : decode cX6_isWeight 0 = .ok (.iload_n 0, 1) := by decide +kernel
theorem dX6_isWeight_1 : decode cX6_isWeight 1 = .ok (.sipush (-1000), 3) := by decide +kernel
theorem dX6_isWeight_4 : decode cX6_isWeight 4 = .ok (.if_icmp .lt 14, 3) := by decide +kernel
theorem dX6_isWeight_7 : decode cX6_isWeight 7 = .ok (.iload_n 0, 1) := by decide +kernel
theorem dX6_isWeight_8 : decode cX6_isWeight 8 = .ok (.sipush 1000, 3) := by decide +kernel
theorem dX6_isWeight_11 : decode cX6_isWeight 11 = .ok (.if_icmp .gt 7, 3) := by decide +kernel
theorem dX6_isWeight_14 : decode cX6_isWeight 14 = .ok (.iconst 1, 1) := by decide +kernel
theorem dX6_isWeight_15 : decode cX6_isWeight 15 = .ok (.goto 4, 3) := by decide +kernel
theorem dX6_isWeight_18 : decode cX6_isWeight 18 = .ok (.iconst 0, 1) := by decide +kernel
theorem dX6_isWeight_19 : decode cX6_isWeight 19 = .ok (.ireturn, 1) := by decide +kernel
theorem dX6_isPaceNumber_0 : decode cX6_isPaceNumber 0 = .ok (.iload_n 0, 1) := by decide +kernel
theorem dX6_isPaceNumber_1 : decode cX6_isPaceNumber 1 = .ok (.bipush (-32), 2) := by decide +kernel
theorem dX6_isPaceNumber_3 : decode cX6_isPaceNumber 3 = .ok (.if_icmp .lt 13, 3) := by decide +kernel
theorem dX6_isPaceNumber_6 : decode cX6_isPaceNumber 6 = .ok (.iload_n 0, 1) := by decide +kernel
theorem dX6_isPaceNumber_7 : decode cX6_isPaceNumber 7 = .ok (.bipush 31, 2) := by decide +kernel
theorem dX6_isPaceNumber_9 : decode cX6_isPaceNumber 9 = .ok (.if_icmp .gt 7, 3) := by decide +kernel
theorem dX6_isPaceNumber_12 : decode cX6_isPaceNumber 12 = .ok (.iconst 1, 1) := by decide +kernel
theorem dX6_isPaceNumber_13 : decode cX6_isPaceNumber 13 = .ok (.goto 4, 3) := by decide +kernel
theorem dX6_isPaceNumber_16 : decode cX6_isPaceNumber 16 = .ok (.iconst 0, 1) := by decide +kernel
theorem dX6_isPaceNumber_17 : decode cX6_isPaceNumber 17 = .ok (.ireturn, 1) := by decide +kernel
theorem dX6_isDistance_0 : decode cX6_isDistance 0 = .ok (.iload_n 0, 1) := by decide +kernel
theorem dX6_isDistance_1 : decode cX6_isDistance 1 = .ok (.iconst 1, 1) := by decide +kernel
theorem dX6_isDistance_2 : decode cX6_isDistance 2 = .ok (.if_icmp .lt 12, 3) := by decide +kernel
theorem dX6_isDistance_5 : decode cX6_isDistance 5 = .ok (.iload_n 0, 1) := by decide +kernel
theorem dX6_isDistance_6 : decode cX6_isDistance 6 = .ok (.iconst 4, 1) := by decide +kernel
theorem dX6_isDistance_7 : decode cX6_isDistance 7 = .ok (.if_icmp .gt 7, 3) := by decide +kernel
theorem dX6_isDistance_10 : decode cX6_isDistance 10 = .ok (.iconst 1, 1) := by decide +kernel
theorem dX6_isDistance_11 : decode cX6_isDistance 11 = .ok (.goto 4, 3) := by decide +kernel
theorem dX6_isDistance_14 : decode cX6_isDistance 14 = .ok (.iconst 0, 1) := by decide +kernel
theorem dX6_isDistance_15 : decode cX6_isDistance 15 = .ok (.ireturn, 1) := by decide +kernel
theorem dX6_isPowers_0 : decode cX6_isPowers 0 = .ok (.iload_n 0, 1) := by decide +kernel
theorem dX6_isPowers_1 : decode cX6_isPowers 1 = .ok (.ifCond .lt 23, 3) := by decide +kernel
theorem dX6_isPowers_4 : decode cX6_isPowers 4 = .ok (.iload_n 0, 1) := by decide +kernel
theorem dX6_isPowers_5 : decode cX6_isPowers 5 = .ok (.iconst 4, 1) := by decide +kernel
theorem dX6_isPowers_6 : decode cX6_isPowers 6 = .ok (.if_icmp .gt 18, 3) := by decide +kernel
theorem dX6_isPowers_9 : decode cX6_isPowers 9 = .ok (.iload_n 1, 1) := by decide +kernel
theorem dX6_isPowers_10 : decode cX6_isPowers 10 = .ok (.ifCond .lt 14, 3) := by decide +kernel
theorem dX6_isPowers_13 : decode cX6_isPowers 13 = .ok (.iload_n 1, 1) := by decide +kernel
theorem dX6_isPowers_14 : decode cX6_isPowers 14 = .ok (.iconst 4, 1) := by decide +kernel
theorem dX6_isPowers_15 : decode cX6_isPowers 15 = .ok (.iload_n 0, 1) := by decide +kernel
theorem dX6_isPowers_16 : decode cX6_isPowers 16 = .ok (.isub, 1) := by decide +kernel
theorem dX6_isPowers_17 : decode cX6_isPowers 17 = .ok (.if_icmp .gt 7, 3) := by decide +kernel
theorem dX6_isPowers_20 : decode cX6_isPowers 20 = .ok (.iconst 1, 1) := by decide +kernel
theorem dX6_isPowers_21 : decode cX6_isPowers 21 = .ok (.goto 4, 3) := by decide +kernel
theorem dX6_isPowers_24 : decode cX6_isPowers 24 = .ok (.iconst 0, 1) := by decide +kernel
theorem dX6_isPowers_25 : decode cX6_isPowers 25 = .ok (.ireturn, 1) := by decide +kernel
theorem dX6_slot_0 : decode cX6_slot 0 = .ok (.iload_n 0, 1) := by decide +kernel
theorem dX6_slot_1 : decode cX6_slot 1 = .ok (.iconst 5, 1) := by decide +kernel
theorem dX6_slot_2 : decode cX6_slot 2 = .ok (.imul, 1) := by decide +kernel
theorem dX6_slot_3 : decode cX6_slot 3 = .ok (.iload_n 1, 1) := by decide +kernel
theorem dX6_slot_4 : decode cX6_slot 4 = .ok (.iadd, 1) := by decide +kernel
theorem dX6_slot_5 : decode cX6_slot 5 = .ok (.ireturn, 1) := by decide +kernel
theorem dX6_sideOf_0 : decode cX6_sideOf 0 = .ok (.bipush 64, 2) := by decide +kernel
theorem dX6_sideOf_2 : decode cX6_sideOf 2 = .ok (.iload_n 0, 1) := by decide +kernel
theorem dX6_sideOf_3 : decode cX6_sideOf 3 = .ok (.ishr, 1) := by decide +kernel
theorem dX6_sideOf_4 : decode cX6_sideOf 4 = .ok (.ireturn, 1) := by decide +kernel
theorem dX6_fromMiddle_0 : decode cX6_fromMiddle 0 = .ok (.iload_n 1, 1) := by decide +kernel
theorem dX6_fromMiddle_1 : decode cX6_fromMiddle 1 = .ok (.invokestatic 257, 3) := by decide +kernel
theorem dX6_fromMiddle_4 : decode cX6_fromMiddle 4 = .ok (.istore_n 3, 1) := by decide +kernel
theorem dX6_fromMiddle_5 : decode cX6_fromMiddle 5 = .ok (.iconst 2, 1) := by decide +kernel
theorem dX6_fromMiddle_6 : decode cX6_fromMiddle 6 = .ok (.iload_n 0, 1) := by decide +kernel
theorem dX6_fromMiddle_7 : decode cX6_fromMiddle 7 = .ok (.imul, 1) := by decide +kernel
theorem dX6_fromMiddle_8 : decode cX6_fromMiddle 8 = .ok (.iconst 2, 1) := by decide +kernel
theorem dX6_fromMiddle_9 : decode cX6_fromMiddle 9 = .ok (.iload_n 2, 1) := by decide +kernel
theorem dX6_fromMiddle_10 : decode cX6_fromMiddle 10 = .ok (.imul, 1) := by decide +kernel
theorem dX6_fromMiddle_11 : decode cX6_fromMiddle 11 = .ok (.iload_n 3, 1) := by decide +kernel
theorem dX6_fromMiddle_12 : decode cX6_fromMiddle 12 = .ok (.imul, 1) := by decide +kernel
theorem dX6_fromMiddle_13 : decode cX6_fromMiddle 13 = .ok (.iload_n 3, 1) := by decide +kernel
theorem dX6_fromMiddle_14 : decode cX6_fromMiddle 14 = .ok (.iadd, 1) := by decide +kernel
theorem dX6_fromMiddle_15 : decode cX6_fromMiddle 15 = .ok (.iconst 1, 1) := by decide +kernel
theorem dX6_fromMiddle_16 : decode cX6_fromMiddle 16 = .ok (.isub, 1) := by decide +kernel
theorem dX6_fromMiddle_17 : decode cX6_fromMiddle 17 = .ok (.isub, 1) := by decide +kernel
theorem dX6_fromMiddle_18 : decode cX6_fromMiddle 18 = .ok (.ireturn, 1) := by decide +kernel
theorem dX6_wrapPace_0 : decode cX6_wrapPace 0 = .ok (.lload_n 0, 1) := by decide +kernel
theorem dX6_wrapPace_1 : decode cX6_wrapPace 1 = .ok (.ldc2_w 269, 3) := by decide +kernel
theorem dX6_wrapPace_4 : decode cX6_wrapPace 4 = .ok (.lsub, 1) := by decide +kernel
theorem dX6_wrapPace_5 : decode cX6_wrapPace 5 = .ok (.ldc2_w 271, 3) := by decide +kernel
theorem dX6_wrapPace_8 : decode cX6_wrapPace 8 = .ok (.land, 1) := by decide +kernel
theorem dX6_wrapPace_9 : decode cX6_wrapPace 9 = .ok (.l2i, 1) := by decide +kernel
theorem dX6_wrapPace_10 : decode cX6_wrapPace 10 = .ok (.bipush (-32), 2) := by decide +kernel
theorem dX6_wrapPace_12 : decode cX6_wrapPace 12 = .ok (.iadd, 1) := by decide +kernel
theorem dX6_wrapPace_13 : decode cX6_wrapPace 13 = .ok (.ireturn, 1) := by decide +kernel
theorem dX6_wrapPlace_0 : decode cX6_wrapPlace 0 = .ok (.iload_n 0, 1) := by decide +kernel
theorem dX6_wrapPlace_1 : decode cX6_wrapPlace 1 = .ok (.bipush 63, 2) := by decide +kernel
theorem dX6_wrapPlace_3 : decode cX6_wrapPlace 3 = .ok (.iand, 1) := by decide +kernel
theorem dX6_wrapPlace_4 : decode cX6_wrapPlace 4 = .ok (.ireturn, 1) := by decide +kernel
end
section
theorem dX7_init_0 : decode cX7_init 0 = .ok (.aload_n 0, 1) := by decide +kernel
theorem dX7_init_1 : decode cX7_init 1 = .ok (.invokespecial 1, 3) := by decide +kernel
theorem dX7_init_4 : decode cX7_init 4 = .ok (.aload_n 0, 1) := by decide +kernel
theorem dX7_init_5 : decode cX7_init 5 = .ok (.bipush 40, 2) := by decide +kernel
theorem dX7_init_7 : decode cX7_init 7 = .ok (.newarray .boolean, 2) := by decide +kernel
theorem dX7_init_9 : decode cX7_init 9 = .ok (.putfield 7, 3) := by decide +kernel
theorem dX7_init_12 : decode cX7_init 12 = .ok (.aload_n 0, 1) := by decide +kernel
theorem dX7_init_13 : decode cX7_init 13 = .ok (.bipush 40, 2) := by decide +kernel
theorem dX7_init_15 : decode cX7_init 15 = .ok (.newarray .int, 2) := by decide +kernel
theorem dX7_init_17 : decode cX7_init 17 = .ok (.putfield 13, 3) := by decide +kernel
theorem dX7_init_20 : decode cX7_init 20 = .ok (.aload_n 0, 1) := by decide +kernel
theorem dX7_init_21 : decode cX7_init 21 = .ok (.bipush 40, 2) := by decide +kernel
theorem dX7_init_23 : decode cX7_init 23 = .ok (.newarray .int, 2) := by decide +kernel
theorem dX7_init_25 : decode cX7_init 25 = .ok (.putfield 17, 3) := by decide +kernel
theorem dX7_init_28 : decode cX7_init 28 = .ok (.aload_n 0, 1) := by decide +kernel
theorem dX7_init_29 : decode cX7_init 29 = .ok (.bipush 40, 2) := by decide +kernel
theorem dX7_init_31 : decode cX7_init 31 = .ok (.newarray .int, 2) := by decide +kernel
theorem dX7_init_33 : decode cX7_init 33 = .ok (.putfield 20, 3) := by decide +kernel
theorem dX7_init_36 : decode cX7_init 36 = .ok (.aload_n 0, 1) := by decide +kernel
theorem dX7_init_37 : decode cX7_init 37 = .ok (.bipush 40, 2) := by decide +kernel
theorem dX7_init_39 : decode cX7_init 39 = .ok (.newarray .int, 2) := by decide +kernel
theorem dX7_init_41 : decode cX7_init 41 = .ok (.putfield 23, 3) := by decide +kernel
theorem dX7_init_44 : decode cX7_init 44 = .ok (.aload_n 0, 1) := by decide +kernel
theorem dX7_init_45 : decode cX7_init 45 = .ok (.bipush 40, 2) := by decide +kernel
theorem dX7_init_47 : decode cX7_init 47 = .ok (.newarray .int, 2) := by decide +kernel
theorem dX7_init_49 : decode cX7_init 49 = .ok (.putfield 26, 3) := by decide +kernel
theorem dX7_init_52 : decode cX7_init 52 = .ok (.aload_n 0, 1) := by decide +kernel
theorem dX7_init_53 : decode cX7_init 53 = .ok (.bipush 25, 2) := by decide +kernel
theorem dX7_init_55 : decode cX7_init 55 = .ok (.newarray .int, 2) := by decide +kernel
theorem dX7_init_57 : decode cX7_init 57 = .ok (.putfield 29, 3) := by decide +kernel
theorem dX7_init_60 : decode cX7_init 60 = .ok (.aload_n 0, 1) := by decide +kernel
theorem dX7_init_61 : decode cX7_init 61 = .ok (.iconst 2, 1) := by decide +kernel
theorem dX7_init_62 : decode cX7_init 62 = .ok (.putfield 32, 3) := by decide +kernel
theorem dX7_init_65 : decode cX7_init 65 = .ok (.aload_n 0, 1) := by decide +kernel
theorem dX7_init_66 : decode cX7_init 66 = .ok (.bipush 40, 2) := by decide +kernel
theorem dX7_init_68 : decode cX7_init 68 = .ok (.newarray .int, 2) := by decide +kernel
theorem dX7_init_70 : decode cX7_init 70 = .ok (.putfield 36, 3) := by decide +kernel
theorem dX7_init_73 : decode cX7_init 73 = .ok (.aload_n 0, 1) := by decide +kernel
theorem dX7_init_74 : decode cX7_init 74 = .ok (.bipush 40, 2) := by decide +kernel
theorem dX7_init_76 : decode cX7_init 76 = .ok (.newarray .int, 2) := by decide +kernel
theorem dX7_init_78 : decode cX7_init 78 = .ok (.putfield 39, 3) := by decide +kernel
theorem dX7_init_81 : decode cX7_init 81 = .ok (.aload_n 0, 1) := by decide +kernel
theorem dX7_init_82 : decode cX7_init 82 = .ok (.bipush 40, 2) := by decide +kernel
theorem dX7_init_84 : decode cX7_init 84 = .ok (.newarray .int, 2) := by decide +kernel
theorem dX7_init_86 : decode cX7_init 86 = .ok (.putfield 42, 3) := by decide +kernel
theorem dX7_init_89 : decode cX7_init 89 = .ok (.aload_n 0, 1) := by decide +kernel
theorem dX7_init_90 : decode cX7_init 90 = .ok (.bipush 80, 2) := by decide +kernel
theorem dX7_init_92 : decode cX7_init 92 = .ok (.newarray .int, 2) := by decide +kernel
theorem dX7_init_94 : decode cX7_init 94 = .ok (.putfield 45, 3) := by decide +kernel
theorem dX7_init_97 : decode cX7_init 97 = .ok (.aload_n 0, 1) := by decide +kernel
theorem dX7_init_98 : decode cX7_init 98 = .ok (.bipush 80, 2) := by decide +kernel
theorem dX7_init_100 : decode cX7_init 100 = .ok (.newarray .int, 2) := by decide +kernel
theorem dX7_init_102 : decode cX7_init 102 = .ok (.putfield 48, 3) := by decide +kernel
theorem dX7_init_105 : decode cX7_init 105 = .ok (.aload_n 0, 1) := by decide +kernel
theorem dX7_init_106 : decode cX7_init 106 = .ok (.bipush 80, 2) := by decide +kernel
theorem dX7_init_108 : decode cX7_init 108 = .ok (.newarray .int, 2) := by decide +kernel
theorem dX7_init_110 : decode cX7_init 110 = .ok (.putfield 51, 3) := by decide +kernel
theorem dX7_init_113 : decode cX7_init 113 = .ok (.aload_n 0, 1) := by decide +kernel
theorem dX7_init_114 : decode cX7_init 114 = .ok (.bipush 40, 2) := by decide +kernel
theorem dX7_init_116 : decode cX7_init 116 = .ok (.newarray .int, 2) := by decide +kernel
theorem dX7_init_118 : decode cX7_init 118 = .ok (.putfield 54, 3) := by decide +kernel
theorem dX7_init_121 : decode cX7_init 121 = .ok (.aload_n 0, 1) := by decide +kernel
theorem dX7_init_122 : decode cX7_init 122 = .ok (.bipush 40, 2) := by decide +kernel
theorem dX7_init_124 : decode cX7_init 124 = .ok (.newarray .int, 2) := by decide +kernel
theorem dX7_init_126 : decode cX7_init 126 = .ok (.putfield 57, 3) := by decide +kernel
theorem dX7_init_129 : decode cX7_init 129 = .ok (.aload_n 0, 1) := by decide +kernel
theorem dX7_init_130 : decode cX7_init 130 = .ok (.getfield 29, 3) := by decide +kernel
theorem dX7_init_133 : decode cX7_init 133 = .ok (.iconst 0, 1) := by decide +kernel
theorem dX7_init_134 : decode cX7_init 134 = .ok (.iconst 1, 1) := by decide +kernel
theorem dX7_init_135 : decode cX7_init 135 = .ok (.iastore, 1) := by decide +kernel
theorem dX7_init_136 : decode cX7_init 136 = .ok (.return_, 1) := by decide +kernel
theorem dX7_in_0 : decode cX7_in 0 = .ok (.lload_n 0, 1) := by decide +kernel
theorem dX7_in_1 : decode cX7_in 1 = .ok (.lload_n 2, 1) := by decide +kernel
theorem dX7_in_2 : decode cX7_in 2 = .ok (.lcmp, 1) := by decide +kernel
theorem dX7_in_3 : decode cX7_in 3 = .ok (.ifCond .lt 14, 3) := by decide +kernel
theorem dX7_in_6 : decode cX7_in 6 = .ok (.lload_n 0, 1) := by decide +kernel
theorem dX7_in_7 : decode cX7_in 7 = .ok (.lload 4, 2) := by decide +kernel
theorem dX7_in_9 : decode cX7_in 9 = .ok (.lcmp, 1) := by decide +kernel
theorem dX7_in_10 : decode cX7_in 10 = .ok (.ifCond .gt 7, 3) := by decide +kernel
theorem dX7_in_13 : decode cX7_in 13 = .ok (.iconst 1, 1) := by decide +kernel
theorem dX7_in_14 : decode cX7_in 14 = .ok (.goto 4, 3) := by decide +kernel
theorem dX7_in_17 : decode cX7_in 17 = .ok (.iconst 0, 1) := by decide +kernel
theorem dX7_in_18 : decode cX7_in 18 = .ok (.ireturn, 1) := by decide +kernel
theorem dX7_isPlace_0 : decode cX7_isPlace 0 = .ok (.iload_n 0, 1) := by decide +kernel
theorem dX7_isPlace_1 : decode cX7_isPlace 1 = .ok (.i2l, 1) := by decide +kernel
theorem dX7_isPlace_2 : decode cX7_isPlace 2 = .ok (.lconst 0, 1) := by decide +kernel
theorem dX7_isPlace_3 : decode cX7_isPlace 3 = .ok (.ldc2_w 60, 3) := by decide +kernel
theorem dX7_isPlace_6 : decode cX7_isPlace 6 = .ok (.invokestatic 62, 3) := by decide +kernel
theorem dX7_isPlace_9 : decode cX7_isPlace 9 = .ok (.ifCond .eq 19, 3) := by decide +kernel
theorem dX7_isPlace_12 : decode cX7_isPlace 12 = .ok (.iload_n 1, 1) := by decide +kernel
theorem dX7_isPlace_13 : decode cX7_isPlace 13 = .ok (.i2l, 1) := by decide +kernel
theorem dX7_isPlace_14 : decode cX7_isPlace 14 = .ok (.lconst 0, 1) := by decide +kernel
theorem dX7_isPlace_15 : decode cX7_isPlace 15 = .ok (.ldc2_w 60, 3) := by decide +kernel
theorem dX7_isPlace_18 : decode cX7_isPlace 18 = .ok (.invokestatic 62, 3) := by decide +kernel
theorem dX7_isPlace_21 : decode cX7_isPlace 21 = .ok (.ifCond .eq 7, 3) := by decide +kernel
theorem dX7_isPlace_24 : decode cX7_isPlace 24 = .ok (.iconst 1, 1) := by decide +kernel
theorem dX7_isPlace_25 : decode cX7_isPlace 25 = .ok (.goto 4, 3) := by decide +kernel
theorem dX7_isPlace_28 : decode cX7_isPlace 28 = .ok (.iconst 0, 1) := by decide +kernel
theorem dX7_isPlace_29 : decode cX7_isPlace 29 = .ok (.ireturn, 1) := by decide +kernel
theorem dX7_isPoint_0 : decode cX7_isPoint 0 = .ok (.iload_n 1, 1) := by decide +kernel
theorem dX7_isPoint_1 : decode cX7_isPoint 1 = .ok (.i2l, 1) := by decide +kernel
theorem dX7_isPoint_2 : decode cX7_isPoint 2 = .ok (.lconst 0, 1) := by decide +kernel
theorem dX7_isPoint_3 : decode cX7_isPoint 3 = .ok (.ldc2_w 66, 3) := by decide +kernel
theorem dX7_isPoint_6 : decode cX7_isPoint 6 = .ok (.invokestatic 62, 3) := by decide +kernel
theorem dX7_isPoint_9 : decode cX7_isPoint 9 = .ok (.ifCond .eq 16, 3) := by decide +kernel
theorem dX7_isPoint_12 : decode cX7_isPoint 12 = .ok (.aload_n 0, 1) := by decide +kernel
theorem dX7_isPoint_13 : decode cX7_isPoint 13 = .ok (.getfield 7, 3) := by decide +kernel
theorem dX7_isPoint_16 : decode cX7_isPoint 16 = .ok (.iload_n 1, 1) := by decide +kernel
theorem dX7_isPoint_17 : decode cX7_isPoint 17 = .ok (.baload, 1) := by decide +kernel
theorem dX7_isPoint_18 : decode cX7_isPoint 18 = .ok (.ifCond .eq 7, 3) := by decide +kernel
theorem dX7_isPoint_21 : decode cX7_isPoint 21 = .ok (.iconst 1, 1) := by decide +kernel
theorem dX7_isPoint_22 : decode cX7_isPoint 22 = .ok (.goto 4, 3) := by decide +kernel
theorem dX7_isPoint_25 : decode cX7_isPoint 25 = .ok (.iconst 0, 1) := by decide +kernel
theorem dX7_isPoint_26 : decode cX7_isPoint 26 = .ok (.ireturn, 1) := by decide +kernel
theorem dX7_many_0 : decode cX7_many 0 = .ok (.iconst 0, 1) := by decide +kernel
theorem dX7_many_1 : decode cX7_many 1 = .ok (.istore_n 1, 1) := by decide +kernel
theorem dX7_many_2 : decode cX7_many 2 = .ok (.iconst 0, 1) := by decide +kernel
theorem dX7_many_3 : decode cX7_many 3 = .ok (.istore_n 2, 1) := by decide +kernel
theorem dX7_many_4 : decode cX7_many 4 = .ok (.iload_n 2, 1) := by decide +kernel
theorem dX7_many_5 : decode cX7_many 5 = .ok (.bipush 40, 2) := by decide +kernel
theorem dX7_many_7 : decode cX7_many 7 = .ok (.if_icmp .ge 26, 3) := by decide +kernel
theorem dX7_many_10 : decode cX7_many 10 = .ok (.iload_n 1, 1) := by decide +kernel
theorem dX7_many_11 : decode cX7_many 11 = .ok (.aload_n 0, 1) := by decide +kernel
theorem dX7_many_12 : decode cX7_many 12 = .ok (.getfield 7, 3) := by decide +kernel
theorem dX7_many_15 : decode cX7_many 15 = .ok (.iload_n 2, 1) := by decide +kernel
theorem dX7_many_16 : decode cX7_many 16 = .ok (.baload, 1) := by decide +kernel
theorem dX7_many_17 : decode cX7_many 17 = .ok (.ifCond .eq 7, 3) := by decide +kernel
theorem dX7_many_20 : decode cX7_many 20 = .ok (.iconst 1, 1) := by decide +kernel
theorem dX7_many_21 : decode cX7_many 21 = .ok (.goto 4, 3) := by decide +kernel
theorem dX7_many_24 : decode cX7_many 24 = .ok (.iconst 0, 1) := by decide +kernel
theorem dX7_many_25 : decode cX7_many 25 = .ok (.iadd, 1) := by decide +kernel
theorem dX7_many_26 : decode cX7_many 26 = .ok (.istore_n 1, 1) := by decide +kernel
theorem dX7_many_27 : decode cX7_many 27 = .ok (.iinc 2 1, 3) := by decide +kernel
theorem dX7_many_30 : decode cX7_many 30 = .ok (.goto (-26), 3) := by decide +kernel
theorem dX7_many_33 : decode cX7_many 33 = .ok (.iload_n 1, 1) := by decide +kernel
theorem dX7_many_34 : decode cX7_many 34 = .ok (.ireturn, 1) := by decide +kernel
theorem dX7_point_0 : decode cX7_point 0 = .ok (.iload_n 1, 1) := by decide +kernel
theorem dX7_point_1 : decode cX7_point 1 = .ok (.iload_n 2, 1) := by decide +kernel
theorem dX7_point_2 : decode cX7_point 2 = .ok (.invokestatic 68, 3) := by decide +kernel
theorem dX7_point_5 : decode cX7_point 5 = .ok (.ifCond .eq 17, 3) := by decide +kernel
theorem dX7_point_8 : decode cX7_point 8 = .ok (.iload_n 3, 1) := by decide +kernel
theorem dX7_point_9 : decode cX7_point 9 = .ok (.i2l, 1) := by decide +kernel
theorem dX7_point_10 : decode cX7_point 10 = .ok (.ldc2_w 72, 3) := by decide +kernel
theorem dX7_point_13 : decode cX7_point 13 = .ok (.ldc2_w 74, 3) := by decide +kernel
theorem dX7_point_16 : decode cX7_point 16 = .ok (.invokestatic 62, 3) := by decide +kernel
theorem dX7_point_19 : decode cX7_point 19 = .ok (.ifCond .ne 6, 3) := by decide +kernel
theorem dX7_point_22 : decode cX7_point 22 = .ok (.bipush (-2), 2) := by decide +kernel
theorem dX7_point_24 : decode cX7_point 24 = .ok (.ireturn, 1) := by decide +kernel
theorem dX7_point_25 : decode cX7_point 25 = .ok (.iconst 0, 1) := by decide +kernel
theorem dX7_point_26 : decode cX7_point 26 = .ok (.istore 4, 2) := by decide +kernel
theorem dX7_point_28 : decode cX7_point 28 = .ok (.iload 4, 2) := by decide +kernel
theorem dX7_point_30 : decode cX7_point 30 = .ok (.bipush 40, 2) := by decide +kernel
theorem dX7_point_32 : decode cX7_point 32 = .ok (.if_icmp .ge 19, 3) := by decide +kernel
theorem dX7_point_35 : decode cX7_point 35 = .ok (.aload_n 0, 1) := by decide +kernel
theorem dX7_point_36 : decode cX7_point 36 = .ok (.getfield 7, 3) := by decide +kernel
theorem dX7_point_39 : decode cX7_point 39 = .ok (.iload 4, 2) := by decide +kernel
theorem dX7_point_41 : decode cX7_point 41 = .ok (.baload, 1) := by decide +kernel
theorem dX7_point_42 : decode cX7_point 42 = .ok (.ifCond .eq 9, 3) := by decide +kernel
theorem dX7_point_45 : decode cX7_point 45 = .ok (.iinc 4 1, 3) := by decide +kernel
theorem dX7_point_48 : decode cX7_point 48 = .ok (.goto (-20), 3) := by decide +kernel
theorem dX7_point_51 : decode cX7_point 51 = .ok (.iload 4, 2) := by decide +kernel
theorem dX7_point_53 : decode cX7_point 53 = .ok (.bipush 40, 2) := by decide +kernel
theorem dX7_point_55 : decode cX7_point 55 = .ok (.if_icmp .ne 6, 3) := by decide +kernel
theorem dX7_point_58 : decode cX7_point 58 = .ok (.bipush (-4), 2) := by decide +kernel
theorem dX7_point_60 : decode cX7_point 60 = .ok (.ireturn, 1) := by decide +kernel
theorem dX7_point_61 : decode cX7_point 61 = .ok (.aload_n 0, 1) := by decide +kernel
theorem dX7_point_62 : decode cX7_point 62 = .ok (.getfield 7, 3) := by decide +kernel
theorem dX7_point_65 : decode cX7_point 65 = .ok (.iload 4, 2) := by decide +kernel
theorem dX7_point_67 : decode cX7_point 67 = .ok (.iconst 1, 1) := by decide +kernel
theorem dX7_point_68 : decode cX7_point 68 = .ok (.bastore, 1) := by decide +kernel
theorem dX7_point_69 : decode cX7_point 69 = .ok (.aload_n 0, 1) := by decide +kernel
theorem dX7_point_70 : decode cX7_point 70 = .ok (.getfield 13, 3) := by decide +kernel
theorem dX7_point_73 : decode cX7_point 73 = .ok (.iload 4, 2) := by decide +kernel
theorem dX7_point_75 : decode cX7_point 75 = .ok (.iload_n 1, 1) := by decide +kernel
theorem dX7_point_76 : decode cX7_point 76 = .ok (.iastore, 1) := by decide +kernel
theorem dX7_point_77 : decode cX7_point 77 = .ok (.aload_n 0, 1) := by decide +kernel
theorem dX7_point_78 : decode cX7_point 78 = .ok (.getfield 17, 3) := by decide +kernel
theorem dX7_point_81 : decode cX7_point 81 = .ok (.iload 4, 2) := by decide +kernel
theorem dX7_point_83 : decode cX7_point 83 = .ok (.iload_n 2, 1) := by decide +kernel
theorem dX7_point_84 : decode cX7_point 84 = .ok (.iastore, 1) := by decide +kernel
theorem dX7_point_85 : decode cX7_point 85 = .ok (.aload_n 0, 1) := by decide +kernel
theorem dX7_point_86 : decode cX7_point 86 = .ok (.getfield 20, 3) := by decide +kernel
theorem dX7_point_89 : decode cX7_point 89 = .ok (.iload 4, 2) := by decide +kernel
theorem dX7_point_91 : decode cX7_point 91 = .ok (.iload_n 3, 1) := by decide +kernel
theorem dX7_point_92 : decode cX7_point 92 = .ok (.iastore, 1) := by decide +kernel
theorem dX7_point_93 : decode cX7_point 93 = .ok (.aload_n 0, 1) := by decide +kernel
theorem dX7_point_94 : decode cX7_point 94 = .ok (.getfield 23, 3) := by decide +kernel
theorem dX7_point_97 : decode cX7_point 97 = .ok (.iload 4, 2) := by decide +kernel
theorem dX7_point_99 : decode cX7_point 99 = .ok (.iconst 0, 1) := by decide +kernel
theorem dX7_point_100 : decode cX7_point 100 = .ok (.iastore, 1) := by decide +kernel
theorem dX7_point_101 : decode cX7_point 101 = .ok (.aload_n 0, 1) := by decide +kernel
theorem dX7_point_102 : decode cX7_point 102 = .ok (.getfield 26, 3) := by decide +kernel
theorem dX7_point_105 : decode cX7_point 105 = .ok (.iload 4, 2) := by decide +kernel
theorem dX7_point_107 : decode cX7_point 107 = .ok (.iconst 0, 1) := by decide +kernel
theorem dX7_point_108 : decode cX7_point 108 = .ok (.iastore, 1) := by decide +kernel
theorem dX7_point_109 : decode cX7_point 109 = .ok (.iload 4, 2) := by decide +kernel
theorem dX7_point_111 : decode cX7_point 111 = .ok (.ireturn, 1) := by decide +kernel
theorem dX7_take_0 : decode cX7_take 0 = .ok (.aload_n 0, 1) := by decide +kernel
theorem dX7_take_1 : decode cX7_take 1 = .ok (.iload_n 1, 1) := by decide +kernel
theorem dX7_take_2 : decode cX7_take 2 = .ok (.invokevirtual 76, 3) := by decide +kernel
theorem dX7_take_5 : decode cX7_take 5 = .ok (.ifCond .ne 6, 3) := by decide +kernel
theorem dX7_take_8 : decode cX7_take 8 = .ok (.bipush (-2), 2) := by decide +kernel
theorem dX7_take_10 : decode cX7_take 10 = .ok (.ireturn, 1) := by decide +kernel
theorem dX7_take_11 : decode cX7_take 11 = .ok (.aload_n 0, 1) := by decide +kernel
theorem dX7_take_12 : decode cX7_take 12 = .ok (.getfield 7, 3) := by decide +kernel
theorem dX7_take_15 : decode cX7_take 15 = .ok (.iload_n 1, 1) := by decide +kernel
theorem dX7_take_16 : decode cX7_take 16 = .ok (.iconst 0, 1) := by decide +kernel
theorem dX7_take_17 : decode cX7_take 17 = .ok (.bastore, 1) := by decide +kernel
theorem dX7_take_18 : decode cX7_take 18 = .ok (.aload_n 0, 1) := by decide +kernel
theorem dX7_take_19 : decode cX7_take 19 = .ok (.invokevirtual 80, 3) := by decide +kernel
theorem dX7_take_22 : decode cX7_take 22 = .ok (.ireturn, 1) := by decide +kernel
theorem dX7_move_0 : decode cX7_move 0 = .ok (.aload_n 0, 1) := by decide +kernel
theorem dX7_move_1 : decode cX7_move 1 = .ok (.iload_n 1, 1) := by decide +kernel
theorem dX7_move_2 : decode cX7_move 2 = .ok (.invokevirtual 76, 3) := by decide +kernel
theorem dX7_move_5 : decode cX7_move 5 = .ok (.ifCond .eq 11, 3) := by decide +kernel
theorem dX7_move_8 : decode cX7_move 8 = .ok (.iload_n 2, 1) := by decide +kernel
theorem dX7_move_9 : decode cX7_move 9 = .ok (.iload_n 3, 1) := by decide +kernel
theorem dX7_move_10 : decode cX7_move 10 = .ok (.invokestatic 68, 3) := by decide +kernel
theorem dX7_move_13 : decode cX7_move 13 = .ok (.ifCond .ne 6, 3) := by decide +kernel
theorem dX7_move_16 : decode cX7_move 16 = .ok (.bipush (-2), 2) := by decide +kernel
theorem dX7_move_18 : decode cX7_move 18 = .ok (.ireturn, 1) := by decide +kernel
theorem dX7_move_19 : decode cX7_move 19 = .ok (.aload_n 0, 1) := by decide +kernel
theorem dX7_move_20 : decode cX7_move 20 = .ok (.getfield 13, 3) := by decide +kernel
theorem dX7_move_23 : decode cX7_move 23 = .ok (.iload_n 1, 1) := by decide +kernel
theorem dX7_move_24 : decode cX7_move 24 = .ok (.iload_n 2, 1) := by decide +kernel
theorem dX7_move_25 : decode cX7_move 25 = .ok (.iastore, 1) := by decide +kernel
theorem dX7_move_26 : decode cX7_move 26 = .ok (.aload_n 0, 1) := by decide +kernel
theorem dX7_move_27 : decode cX7_move 27 = .ok (.getfield 17, 3) := by decide +kernel
theorem dX7_move_30 : decode cX7_move 30 = .ok (.iload_n 1, 1) := by decide +kernel
theorem dX7_move_31 : decode cX7_move 31 = .ok (.iload_n 3, 1) := by decide +kernel
theorem dX7_move_32 : decode cX7_move 32 = .ok (.iastore, 1) := by decide +kernel
theorem dX7_move_33 : decode cX7_move 33 = .ok (.iconst 1, 1) := by decide +kernel
theorem dX7_move_34 : decode cX7_move 34 = .ok (.ireturn, 1) := by decide +kernel
theorem dX7_weigh_0 : decode cX7_weigh 0 = .ok (.aload_n 0, 1) := by decide +kernel
theorem dX7_weigh_1 : decode cX7_weigh 1 = .ok (.iload_n 1, 1) := by decide +kernel
theorem dX7_weigh_2 : decode cX7_weigh 2 = .ok (.invokevirtual 76, 3) := by decide +kernel
theorem dX7_weigh_5 : decode cX7_weigh 5 = .ok (.ifCond .eq 17, 3) := by decide +kernel
theorem dX7_weigh_8 : decode cX7_weigh 8 = .ok (.iload_n 2, 1) := by decide +kernel
theorem dX7_weigh_9 : decode cX7_weigh 9 = .ok (.i2l, 1) := by decide +kernel
theorem dX7_weigh_10 : decode cX7_weigh 10 = .ok (.ldc2_w 72, 3) := by decide +kernel
theorem dX7_weigh_13 : decode cX7_weigh 13 = .ok (.ldc2_w 74, 3) := by decide +kernel
theorem dX7_weigh_16 : decode cX7_weigh 16 = .ok (.invokestatic 62, 3) := by decide +kernel
theorem dX7_weigh_19 : decode cX7_weigh 19 = .ok (.ifCond .ne 7, 3) := by decide +kernel
theorem dX7_weigh_22 : decode cX7_weigh 22 = .ok (.sipush (-2000), 3) := by decide +kernel
theorem dX7_weigh_25 : decode cX7_weigh 25 = .ok (.ireturn, 1) := by decide +kernel
theorem dX7_weigh_26 : decode cX7_weigh 26 = .ok (.aload_n 0, 1) := by decide +kernel
theorem dX7_weigh_27 : decode cX7_weigh 27 = .ok (.getfield 20, 3) := by decide +kernel
theorem dX7_weigh_30 : decode cX7_weigh 30 = .ok (.iload_n 1, 1) := by decide +kernel
theorem dX7_weigh_31 : decode cX7_weigh 31 = .ok (.iaload, 1) := by decide +kernel
theorem dX7_weigh_32 : decode cX7_weigh 32 = .ok (.istore_n 3, 1) := by decide +kernel
theorem dX7_weigh_33 : decode cX7_weigh 33 = .ok (.aload_n 0, 1) := by decide +kernel
theorem dX7_weigh_34 : decode cX7_weigh 34 = .ok (.getfield 20, 3) := by decide +kernel
theorem dX7_weigh_37 : decode cX7_weigh 37 = .ok (.iload_n 1, 1) := by decide +kernel
theorem dX7_weigh_38 : decode cX7_weigh 38 = .ok (.iload_n 2, 1) := by decide +kernel
theorem dX7_weigh_39 : decode cX7_weigh 39 = .ok (.iastore, 1) := by decide +kernel
theorem dX7_weigh_40 : decode cX7_weigh 40 = .ok (.iload_n 3, 1) := by decide +kernel
theorem dX7_weigh_41 : decode cX7_weigh 41 = .ok (.ireturn, 1) := by decide +kernel
theorem dX7_pace_0 : decode cX7_pace 0 = .ok (.aload_n 0, 1) := by decide +kernel
theorem dX7_pace_1 : decode cX7_pace 1 = .ok (.iload_n 1, 1) := by decide +kernel
theorem dX7_pace_2 : decode cX7_pace 2 = .ok (.invokevirtual 76, 3) := by decide +kernel
theorem dX7_pace_5 : decode cX7_pace 5 = .ok (.ifCond .eq 31, 3) := by decide +kernel
theorem dX7_pace_8 : decode cX7_pace 8 = .ok (.iload_n 2, 1) := by decide +kernel
theorem dX7_pace_9 : decode cX7_pace 9 = .ok (.i2l, 1) := by decide +kernel
theorem dX7_pace_10 : decode cX7_pace 10 = .ok (.ldc2_w 84, 3) := by decide +kernel
theorem dX7_pace_13 : decode cX7_pace 13 = .ok (.ldc2_w 86, 3) := by decide +kernel
theorem dX7_pace_16 : decode cX7_pace 16 = .ok (.invokestatic 62, 3) := by decide +kernel
theorem dX7_pace_19 : decode cX7_pace 19 = .ok (.ifCond .eq 17, 3) := by decide +kernel
theorem dX7_pace_22 : decode cX7_pace 22 = .ok (.iload_n 3, 1) := by decide +kernel
theorem dX7_pace_23 : decode cX7_pace 23 = .ok (.i2l, 1) := by decide +kernel
theorem dX7_pace_24 : decode cX7_pace 24 = .ok (.ldc2_w 84, 3) := by decide +kernel
theorem dX7_pace_27 : decode cX7_pace 27 = .ok (.ldc2_w 86, 3) := by decide +kernel
theorem dX7_pace_30 : decode cX7_pace 30 = .ok (.invokestatic 62, 3) := by decide +kernel
theorem dX7_pace_33 : decode cX7_pace 33 = .ok (.ifCond .ne 6, 3) := by decide +kernel
theorem dX7_pace_36 : decode cX7_pace 36 = .ok (.bipush (-2), 2) := by decide +kernel
theorem dX7_pace_38 : decode cX7_pace 38 = .ok (.ireturn, 1) := by decide +kernel
theorem dX7_pace_39 : decode cX7_pace 39 = .ok (.aload_n 0, 1) := by decide +kernel
theorem dX7_pace_40 : decode cX7_pace 40 = .ok (.getfield 23, 3) := by decide +kernel
theorem dX7_pace_43 : decode cX7_pace 43 = .ok (.iload_n 1, 1) := by decide +kernel
theorem dX7_pace_44 : decode cX7_pace 44 = .ok (.iload_n 2, 1) := by decide +kernel
theorem dX7_pace_45 : decode cX7_pace 45 = .ok (.iastore, 1) := by decide +kernel
theorem dX7_pace_46 : decode cX7_pace 46 = .ok (.aload_n 0, 1) := by decide +kernel
theorem dX7_pace_47 : decode cX7_pace 47 = .ok (.getfield 26, 3) := by decide +kernel
theorem dX7_pace_50 : decode cX7_pace 50 = .ok (.iload_n 1, 1) := by decide +kernel
theorem dX7_pace_51 : decode cX7_pace 51 = .ok (.iload_n 3, 1) := by decide +kernel
theorem dX7_pace_52 : decode cX7_pace 52 = .ok (.iastore, 1) := by decide +kernel
theorem dX7_pace_53 : decode cX7_pace 53 = .ok (.iconst 1, 1) := by decide +kernel
theorem dX7_pace_54 : decode cX7_pace 54 = .ok (.ireturn, 1) := by decide +kernel
theorem dX7_at_0 : decode cX7_at 0 = .ok (.aload_n 0, 1) := by decide +kernel
theorem dX7_at_1 : decode cX7_at 1 = .ok (.iload_n 1, 1) := by decide +kernel
theorem dX7_at_2 : decode cX7_at 2 = .ok (.invokevirtual 76, 3) := by decide +kernel
theorem dX7_at_5 : decode cX7_at 5 = .ok (.ifCond .ne 7, 3) := by decide +kernel
theorem dX7_at_8 : decode cX7_at 8 = .ok (.sipush (-2000), 3) := by decide +kernel
theorem dX7_at_11 : decode cX7_at 11 = .ok (.ireturn, 1) := by decide +kernel
theorem dX7_at_12 : decode cX7_at 12 = .ok (.iload_n 2, 1) := by decide +kernel
theorem dX7_at_13 : decode cX7_at 13 = .ok (.tableswitch 70 0 4 #[35, 42, 49, 56, 63], 35) := by decide +kernel
theorem dX7_at_48 : decode cX7_at 48 = .ok (.aload_n 0, 1) := by decide +kernel
theorem dX7_at_49 : decode cX7_at 49 = .ok (.getfield 13, 3) := by decide +kernel
theorem dX7_at_52 : decode cX7_at 52 = .ok (.iload_n 1, 1) := by decide +kernel
theorem dX7_at_53 : decode cX7_at 53 = .ok (.iaload, 1) := by decide +kernel
theorem dX7_at_54 : decode cX7_at 54 = .ok (.ireturn, 1) := by decide +kernel
theorem dX7_at_55 : decode cX7_at 55 = .ok (.aload_n 0, 1) := by decide +kernel
theorem dX7_at_56 : decode cX7_at 56 = .ok (.getfield 17, 3) := by decide +kernel
theorem dX7_at_59 : decode cX7_at 59 = .ok (.iload_n 1, 1) := by decide +kernel
theorem dX7_at_60 : decode cX7_at 60 = .ok (.iaload, 1) := by decide +kernel
theorem dX7_at_61 : decode cX7_at 61 = .ok (.ireturn, 1) := by decide +kernel
theorem dX7_at_62 : decode cX7_at 62 = .ok (.aload_n 0, 1) := by decide +kernel
theorem dX7_at_63 : decode cX7_at 63 = .ok (.getfield 20, 3) := by decide +kernel
theorem dX7_at_66 : decode cX7_at 66 = .ok (.iload_n 1, 1) := by decide +kernel
theorem dX7_at_67 : decode cX7_at 67 = .ok (.iaload, 1) := by decide +kernel
theorem dX7_at_68 : decode cX7_at 68 = .ok (.ireturn, 1) := by decide +kernel
theorem dX7_at_69 : decode cX7_at 69 = .ok (.aload_n 0, 1) := by decide +kernel
theorem dX7_at_70 : decode cX7_at 70 = .ok (.getfield 23, 3) := by decide +kernel
theorem dX7_at_73 : decode cX7_at 73 = .ok (.iload_n 1, 1) := by decide +kernel
theorem dX7_at_74 : decode cX7_at 74 = .ok (.iaload, 1) := by decide +kernel
theorem dX7_at_75 : decode cX7_at 75 = .ok (.ireturn, 1) := by decide +kernel
theorem dX7_at_76 : decode cX7_at 76 = .ok (.aload_n 0, 1) := by decide +kernel
theorem dX7_at_77 : decode cX7_at 77 = .ok (.getfield 26, 3) := by decide +kernel
theorem dX7_at_80 : decode cX7_at 80 = .ok (.iload_n 1, 1) := by decide +kernel
theorem dX7_at_81 : decode cX7_at 81 = .ok (.iaload, 1) := by decide +kernel
theorem dX7_at_82 : decode cX7_at 82 = .ok (.ireturn, 1) := by decide +kernel
theorem dX7_at_83 : decode cX7_at 83 = .ok (.sipush (-2000), 3) := by decide +kernel
theorem dX7_at_86 : decode cX7_at 86 = .ok (.ireturn, 1) := by decide +kernel
theorem dX7_isPair_0 : decode cX7_isPair 0 = .ok (.iload_n 0, 1) := by decide +kernel
theorem dX7_isPair_1 : decode cX7_isPair 1 = .ok (.ifCond .lt 28, 3) := by decide +kernel
theorem dX7_isPair_4 : decode cX7_isPair 4 = .ok (.iload_n 1, 1) := by decide +kernel
theorem dX7_isPair_5 : decode cX7_isPair 5 = .ok (.ifCond .lt 24, 3) := by decide +kernel
theorem dX7_isPair_8 : decode cX7_isPair 8 = .ok (.iload_n 0, 1) := by decide +kernel
theorem dX7_isPair_9 : decode cX7_isPair 9 = .ok (.iconst 4, 1) := by decide +kernel
theorem dX7_isPair_10 : decode cX7_isPair 10 = .ok (.if_icmp .gt 19, 3) := by decide +kernel
theorem dX7_isPair_13 : decode cX7_isPair 13 = .ok (.iload_n 1, 1) := by decide +kernel
theorem dX7_isPair_14 : decode cX7_isPair 14 = .ok (.iconst 4, 1) := by decide +kernel
theorem dX7_isPair_15 : decode cX7_isPair 15 = .ok (.if_icmp .gt 14, 3) := by decide +kernel
theorem dX7_isPair_18 : decode cX7_isPair 18 = .ok (.iload_n 0, 1) := by decide +kernel
theorem dX7_isPair_19 : decode cX7_isPair 19 = .ok (.iload_n 1, 1) := by decide +kernel
theorem dX7_isPair_20 : decode cX7_isPair 20 = .ok (.iadd, 1) := by decide +kernel
theorem dX7_isPair_21 : decode cX7_isPair 21 = .ok (.iconst 4, 1) := by decide +kernel
theorem dX7_isPair_22 : decode cX7_isPair 22 = .ok (.if_icmp .gt 7, 3) := by decide +kernel
theorem dX7_isPair_25 : decode cX7_isPair 25 = .ok (.iconst 1, 1) := by decide +kernel
theorem dX7_isPair_26 : decode cX7_isPair 26 = .ok (.goto 4, 3) := by decide +kernel
theorem dX7_isPair_29 : decode cX7_isPair 29 = .ok (.iconst 0, 1) := by decide +kernel
theorem dX7_isPair_30 : decode cX7_isPair 30 = .ok (.ireturn, 1) := by decide +kernel
theorem dX7_kernel_0 : decode cX7_kernel 0 = .ok (.iload_n 1, 1) := by decide +kernel
theorem dX7_kernel_1 : decode cX7_kernel 1 = .ok (.iload_n 2, 1) := by decide +kernel
theorem dX7_kernel_2 : decode cX7_kernel 2 = .ok (.invokestatic 88, 3) := by decide +kernel
theorem dX7_kernel_5 : decode cX7_kernel 5 = .ok (.ifCond .eq 17, 3) := by decide +kernel
theorem dX7_kernel_8 : decode cX7_kernel 8 = .ok (.iload_n 3, 1) := by decide +kernel
theorem dX7_kernel_9 : decode cX7_kernel 9 = .ok (.i2l, 1) := by decide +kernel
theorem dX7_kernel_10 : decode cX7_kernel 10 = .ok (.ldc2_w 91, 3) := by decide +kernel
theorem dX7_kernel_13 : decode cX7_kernel 13 = .ok (.ldc2_w 93, 3) := by decide +kernel
theorem dX7_kernel_16 : decode cX7_kernel 16 = .ok (.invokestatic 62, 3) := by decide +kernel
theorem dX7_kernel_19 : decode cX7_kernel 19 = .ok (.ifCond .ne 7, 3) := by decide +kernel
theorem dX7_kernel_22 : decode cX7_kernel 22 = .ok (.sipush (-2000), 3) := by decide +kernel
theorem dX7_kernel_25 : decode cX7_kernel 25 = .ok (.ireturn, 1) := by decide +kernel
theorem dX7_kernel_26 : decode cX7_kernel 26 = .ok (.aload_n 0, 1) := by decide +kernel
theorem dX7_kernel_27 : decode cX7_kernel 27 = .ok (.getfield 29, 3) := by decide +kernel
theorem dX7_kernel_30 : decode cX7_kernel 30 = .ok (.iconst 5, 1) := by decide +kernel
theorem dX7_kernel_31 : decode cX7_kernel 31 = .ok (.iload_n 1, 1) := by decide +kernel
theorem dX7_kernel_32 : decode cX7_kernel 32 = .ok (.imul, 1) := by decide +kernel
theorem dX7_kernel_33 : decode cX7_kernel 33 = .ok (.iload_n 2, 1) := by decide +kernel
theorem dX7_kernel_34 : decode cX7_kernel 34 = .ok (.iadd, 1) := by decide +kernel
theorem dX7_kernel_35 : decode cX7_kernel 35 = .ok (.iaload, 1) := by decide +kernel
theorem dX7_kernel_36 : decode cX7_kernel 36 = .ok (.istore 4, 2) := by decide +kernel
theorem dX7_kernel_38 : decode cX7_kernel 38 = .ok (.aload_n 0, 1) := by decide +kernel
theorem dX7_kernel_39 : decode cX7_kernel 39 = .ok (.getfield 29, 3) := by decide +kernel
theorem dX7_kernel_42 : decode cX7_kernel 42 = .ok (.iconst 5, 1) := by decide +kernel
theorem dX7_kernel_43 : decode cX7_kernel 43 = .ok (.iload_n 1, 1) := by decide +kernel
theorem dX7_kernel_44 : decode cX7_kernel 44 = .ok (.imul, 1) := by decide +kernel
theorem dX7_kernel_45 : decode cX7_kernel 45 = .ok (.iload_n 2, 1) := by decide +kernel
theorem dX7_kernel_46 : decode cX7_kernel 46 = .ok (.iadd, 1) := by decide +kernel
theorem dX7_kernel_47 : decode cX7_kernel 47 = .ok (.iload_n 3, 1) := by decide +kernel
theorem dX7_kernel_48 : decode cX7_kernel 48 = .ok (.iastore, 1) := by decide +kernel
theorem dX7_kernel_49 : decode cX7_kernel 49 = .ok (.iload 4, 2) := by decide +kernel
theorem dX7_kernel_51 : decode cX7_kernel 51 = .ok (.ireturn, 1) := by decide +kernel
theorem dX7_capacity_0 : decode cX7_capacity 0 = .ok (.iload_n 1, 1) := by decide +kernel
theorem dX7_capacity_1 : decode cX7_capacity 1 = .ok (.i2l, 1) := by decide +kernel
theorem dX7_capacity_2 : decode cX7_capacity 2 = .ok (.lconst 1, 1) := by decide +kernel
theorem dX7_capacity_3 : decode cX7_capacity 3 = .ok (.ldc2_w 95, 3) := by decide +kernel
theorem dX7_capacity_6 : decode cX7_capacity 6 = .ok (.invokestatic 62, 3) := by decide +kernel
theorem dX7_capacity_9 : decode cX7_capacity 9 = .ok (.ifCond .ne 6, 3) := by decide +kernel
theorem dX7_capacity_12 : decode cX7_capacity 12 = .ok (.bipush (-2), 2) := by decide +kernel
theorem dX7_capacity_14 : decode cX7_capacity 14 = .ok (.ireturn, 1) := by decide +kernel
theorem dX7_capacity_15 : decode cX7_capacity 15 = .ok (.aload_n 0, 1) := by decide +kernel
theorem dX7_capacity_16 : decode cX7_capacity 16 = .ok (.getfield 32, 3) := by decide +kernel
theorem dX7_capacity_19 : decode cX7_capacity 19 = .ok (.istore_n 2, 1) := by decide +kernel
theorem dX7_capacity_20 : decode cX7_capacity 20 = .ok (.aload_n 0, 1) := by decide +kernel
theorem dX7_capacity_21 : decode cX7_capacity 21 = .ok (.iload_n 1, 1) := by decide +kernel
theorem dX7_capacity_22 : decode cX7_capacity 22 = .ok (.putfield 32, 3) := by decide +kernel
theorem dX7_capacity_25 : decode cX7_capacity 25 = .ok (.iload_n 2, 1) := by decide +kernel
theorem dX7_capacity_26 : decode cX7_capacity 26 = .ok (.ireturn, 1) := by decide +kernel
theorem dX7_power_0 : decode cX7_power 0 = .ok (.lconst 1, 1) := by decide +kernel
theorem dX7_power_1 : decode cX7_power 1 = .ok (.lstore_n 3, 1) := by decide +kernel
theorem dX7_power_2 : decode cX7_power 2 = .ok (.iconst 0, 1) := by decide +kernel
theorem dX7_power_3 : decode cX7_power 3 = .ok (.istore 5, 2) := by decide +kernel
theorem dX7_power_5 : decode cX7_power 5 = .ok (.iload 5, 2) := by decide +kernel
theorem dX7_power_7 : decode cX7_power 7 = .ok (.iload_n 2, 1) := by decide +kernel
theorem dX7_power_8 : decode cX7_power 8 = .ok (.if_icmp .ge 13, 3) := by decide +kernel
theorem dX7_power_11 : decode cX7_power 11 = .ok (.lload_n 3, 1) := by decide +kernel
theorem dX7_power_12 : decode cX7_power 12 = .ok (.lload_n 0, 1) := by decide +kernel
theorem dX7_power_13 : decode cX7_power 13 = .ok (.lmul, 1) := by decide +kernel
theorem dX7_power_14 : decode cX7_power 14 = .ok (.lstore_n 3, 1) := by decide +kernel
theorem dX7_power_15 : decode cX7_power 15 = .ok (.iinc 5 1, 3) := by decide +kernel
theorem dX7_power_18 : decode cX7_power 18 = .ok (.goto (-13), 3) := by decide +kernel
theorem dX7_power_21 : decode cX7_power 21 = .ok (.lload_n 3, 1) := by decide +kernel
theorem dX7_power_22 : decode cX7_power 22 = .ok (.lreturn, 1) := by decide +kernel
theorem dX7_pull_0 : decode cX7_pull 0 = .ok (.lconst 0, 1) := by decide +kernel
theorem dX7_pull_1 : decode cX7_pull 1 = .ok (.lstore 4, 2) := by decide +kernel
theorem dX7_pull_3 : decode cX7_pull 3 = .ok (.iconst 0, 1) := by decide +kernel
theorem dX7_pull_4 : decode cX7_pull 4 = .ok (.istore 6, 2) := by decide +kernel
theorem dX7_pull_6 : decode cX7_pull 6 = .ok (.iload 6, 2) := by decide +kernel
theorem dX7_pull_8 : decode cX7_pull 8 = .ok (.iconst 5, 1) := by decide +kernel
theorem dX7_pull_9 : decode cX7_pull 9 = .ok (.if_icmp .ge 75, 3) := by decide +kernel
theorem dX7_pull_12 : decode cX7_pull 12 = .ok (.iconst 0, 1) := by decide +kernel
theorem dX7_pull_13 : decode cX7_pull 13 = .ok (.istore 7, 2) := by decide +kernel
theorem dX7_pull_15 : decode cX7_pull 15 = .ok (.iload 6, 2) := by decide +kernel
theorem dX7_pull_17 : decode cX7_pull 17 = .ok (.iload 7, 2) := by decide +kernel
theorem dX7_pull_19 : decode cX7_pull 19 = .ok (.iadd, 1) := by decide +kernel
theorem dX7_pull_20 : decode cX7_pull 20 = .ok (.iconst 5, 1) := by decide +kernel
theorem dX7_pull_21 : decode cX7_pull 21 = .ok (.if_icmp .ge 57, 3) := by decide +kernel
theorem dX7_pull_24 : decode cX7_pull 24 = .ok (.lload 4, 2) := by decide +kernel
theorem dX7_pull_26 : decode cX7_pull 26 = .ok (.aload_n 0, 1) := by decide +kernel
theorem dX7_pull_27 : decode cX7_pull 27 = .ok (.getfield 29, 3) := by decide +kernel
theorem dX7_pull_30 : decode cX7_pull 30 = .ok (.iconst 5, 1) := by decide +kernel
theorem dX7_pull_31 : decode cX7_pull 31 = .ok (.iload 6, 2) := by decide +kernel
theorem dX7_pull_33 : decode cX7_pull 33 = .ok (.imul, 1) := by decide +kernel
theorem dX7_pull_34 : decode cX7_pull 34 = .ok (.iload 7, 2) := by decide +kernel
theorem dX7_pull_36 : decode cX7_pull 36 = .ok (.iadd, 1) := by decide +kernel
theorem dX7_pull_37 : decode cX7_pull 37 = .ok (.iaload, 1) := by decide +kernel
theorem dX7_pull_38 : decode cX7_pull 38 = .ok (.i2l, 1) := by decide +kernel
theorem dX7_pull_39 : decode cX7_pull 39 = .ok (.iload_n 2, 1) := by decide +kernel
theorem dX7_pull_40 : decode cX7_pull 40 = .ok (.aload_n 0, 1) := by decide +kernel
theorem dX7_pull_41 : decode cX7_pull 41 = .ok (.getfield 13, 3) := by decide +kernel
theorem dX7_pull_44 : decode cX7_pull 44 = .ok (.iload_n 1, 1) := by decide +kernel
theorem dX7_pull_45 : decode cX7_pull 45 = .ok (.iaload, 1) := by decide +kernel
theorem dX7_pull_46 : decode cX7_pull 46 = .ok (.isub, 1) := by decide +kernel
theorem dX7_pull_47 : decode cX7_pull 47 = .ok (.i2l, 1) := by decide +kernel
theorem dX7_pull_48 : decode cX7_pull 48 = .ok (.iload 6, 2) := by decide +kernel
theorem dX7_pull_50 : decode cX7_pull 50 = .ok (.invokestatic 97, 3) := by decide +kernel
theorem dX7_pull_53 : decode cX7_pull 53 = .ok (.lmul, 1) := by decide +kernel
theorem dX7_pull_54 : decode cX7_pull 54 = .ok (.iload_n 3, 1) := by decide +kernel
theorem dX7_pull_55 : decode cX7_pull 55 = .ok (.aload_n 0, 1) := by decide +kernel
theorem dX7_pull_56 : decode cX7_pull 56 = .ok (.getfield 17, 3) := by decide +kernel
theorem dX7_pull_59 : decode cX7_pull 59 = .ok (.iload_n 1, 1) := by decide +kernel
theorem dX7_pull_60 : decode cX7_pull 60 = .ok (.iaload, 1) := by decide +kernel
theorem dX7_pull_61 : decode cX7_pull 61 = .ok (.isub, 1) := by decide +kernel
theorem dX7_pull_62 : decode cX7_pull 62 = .ok (.i2l, 1) := by decide +kernel
theorem dX7_pull_63 : decode cX7_pull 63 = .ok (.iload 7, 2) := by decide +kernel
theorem dX7_pull_65 : decode cX7_pull 65 = .ok (.invokestatic 97, 3) := by decide +kernel
theorem dX7_pull_68 : decode cX7_pull 68 = .ok (.lmul, 1) := by decide +kernel
theorem dX7_pull_69 : decode cX7_pull 69 = .ok (.ladd, 1) := by decide +kernel
theorem dX7_pull_70 : decode cX7_pull 70 = .ok (.lstore 4, 2) := by decide +kernel
theorem dX7_pull_72 : decode cX7_pull 72 = .ok (.iinc 7 1, 3) := by decide +kernel
theorem dX7_pull_75 : decode cX7_pull 75 = .ok (.goto (-60), 3) := by decide +kernel
theorem dX7_pull_78 : decode cX7_pull 78 = .ok (.iinc 6 1, 3) := by decide +kernel
theorem dX7_pull_81 : decode cX7_pull 81 = .ok (.goto (-75), 3) := by decide +kernel
theorem dX7_pull_84 : decode cX7_pull 84 = .ok (.ldc2_w 101, 3) := by decide +kernel
theorem dX7_pull_87 : decode cX7_pull 87 = .ok (.aload_n 0, 1) := by decide +kernel
theorem dX7_pull_88 : decode cX7_pull 88 = .ok (.getfield 20, 3) := by decide +kernel
theorem dX7_pull_91 : decode cX7_pull 91 = .ok (.iload_n 1, 1) := by decide +kernel
theorem dX7_pull_92 : decode cX7_pull 92 = .ok (.iaload, 1) := by decide +kernel
theorem dX7_pull_93 : decode cX7_pull 93 = .ok (.i2l, 1) := by decide +kernel
theorem dX7_pull_94 : decode cX7_pull 94 = .ok (.lmul, 1) := by decide +kernel
theorem dX7_pull_95 : decode cX7_pull 95 = .ok (.lload 4, 2) := by decide +kernel
theorem dX7_pull_97 : decode cX7_pull 97 = .ok (.lmul, 1) := by decide +kernel
theorem dX7_pull_98 : decode cX7_pull 98 = .ok (.lreturn, 1) := by decide +kernel
theorem dX7_sumAt_0 : decode cX7_sumAt 0 = .ok (.lconst 0, 1) := by decide +kernel
theorem dX7_sumAt_1 : decode cX7_sumAt 1 = .ok (.lstore_n 3, 1) := by decide +kernel
theorem dX7_sumAt_2 : decode cX7_sumAt 2 = .ok (.iconst 0, 1) := by decide +kernel
theorem dX7_sumAt_3 : decode cX7_sumAt 3 = .ok (.istore 5, 2) := by decide +kernel
theorem dX7_sumAt_5 : decode cX7_sumAt 5 = .ok (.iload 5, 2) := by decide +kernel
theorem dX7_sumAt_7 : decode cX7_sumAt 7 = .ok (.bipush 40, 2) := by decide +kernel
theorem dX7_sumAt_9 : decode cX7_sumAt 9 = .ok (.if_icmp .ge 34, 3) := by decide +kernel
theorem dX7_sumAt_12 : decode cX7_sumAt 12 = .ok (.lload_n 3, 1) := by decide +kernel
theorem dX7_sumAt_13 : decode cX7_sumAt 13 = .ok (.aload_n 0, 1) := by decide +kernel
theorem dX7_sumAt_14 : decode cX7_sumAt 14 = .ok (.getfield 7, 3) := by decide +kernel
theorem dX7_sumAt_17 : decode cX7_sumAt 17 = .ok (.iload 5, 2) := by decide +kernel
theorem dX7_sumAt_19 : decode cX7_sumAt 19 = .ok (.baload, 1) := by decide +kernel
theorem dX7_sumAt_20 : decode cX7_sumAt 20 = .ok (.ifCond .eq 14, 3) := by decide +kernel
theorem dX7_sumAt_23 : decode cX7_sumAt 23 = .ok (.aload_n 0, 1) := by decide +kernel
theorem dX7_sumAt_24 : decode cX7_sumAt 24 = .ok (.iload 5, 2) := by decide +kernel
theorem dX7_sumAt_26 : decode cX7_sumAt 26 = .ok (.iload_n 1, 1) := by decide +kernel
theorem dX7_sumAt_27 : decode cX7_sumAt 27 = .ok (.iload_n 2, 1) := by decide +kernel
theorem dX7_sumAt_28 : decode cX7_sumAt 28 = .ok (.invokevirtual 103, 3) := by decide +kernel
theorem dX7_sumAt_31 : decode cX7_sumAt 31 = .ok (.goto 4, 3) := by decide +kernel
theorem dX7_sumAt_34 : decode cX7_sumAt 34 = .ok (.lconst 0, 1) := by decide +kernel
theorem dX7_sumAt_35 : decode cX7_sumAt 35 = .ok (.ladd, 1) := by decide +kernel
theorem dX7_sumAt_36 : decode cX7_sumAt 36 = .ok (.lstore_n 3, 1) := by decide +kernel
theorem dX7_sumAt_37 : decode cX7_sumAt 37 = .ok (.iinc 5 1, 3) := by decide +kernel
theorem dX7_sumAt_40 : decode cX7_sumAt 40 = .ok (.goto (-35), 3) := by decide +kernel
theorem dX7_sumAt_43 : decode cX7_sumAt 43 = .ok (.lload_n 3, 1) := by decide +kernel
theorem dX7_sumAt_44 : decode cX7_sumAt 44 = .ok (.lreturn, 1) := by decide +kernel
theorem dX7_sum_0 : decode cX7_sum 0 = .ok (.iload_n 1, 1) := by decide +kernel
theorem dX7_sum_1 : decode cX7_sum 1 = .ok (.iload_n 2, 1) := by decide +kernel
theorem dX7_sum_2 : decode cX7_sum 2 = .ok (.invokestatic 68, 3) := by decide +kernel
theorem dX7_sum_5 : decode cX7_sum 5 = .ok (.ifCond .eq 12, 3) := by decide +kernel
theorem dX7_sum_8 : decode cX7_sum 8 = .ok (.aload_n 0, 1) := by decide +kernel
theorem dX7_sum_9 : decode cX7_sum 9 = .ok (.iload_n 1, 1) := by decide +kernel
theorem dX7_sum_10 : decode cX7_sum 10 = .ok (.iload_n 2, 1) := by decide +kernel
theorem dX7_sum_11 : decode cX7_sum 11 = .ok (.invokevirtual 107, 3) := by decide +kernel
theorem dX7_sum_14 : decode cX7_sum 14 = .ok (.goto 6, 3) := by decide +kernel
theorem dX7_sum_17 : decode cX7_sum 17 = .ok (.ldc2_w 111, 3) := by decide +kernel
theorem dX7_sum_20 : decode cX7_sum 20 = .ok (.lreturn, 1) := by decide +kernel
theorem dX7_isIn_0 : decode cX7_isIn 0 = .ok (.bipush 6, 2) := by decide +kernel
theorem dX7_isIn_2 : decode cX7_isIn 2 = .ok (.iload_n 2, 1) := by decide +kernel
theorem dX7_isIn_3 : decode cX7_isIn 3 = .ok (.isub, 1) := by decide +kernel
theorem dX7_isIn_4 : decode cX7_isIn 4 = .ok (.istore 5, 2) := by decide +kernel
theorem dX7_isIn_6 : decode cX7_isIn 6 = .ok (.aload_n 0, 1) := by decide +kernel
theorem dX7_isIn_7 : decode cX7_isIn 7 = .ok (.getfield 7, 3) := by decide +kernel
theorem dX7_isIn_10 : decode cX7_isIn 10 = .ok (.iload_n 1, 1) := by decide +kernel
theorem dX7_isIn_11 : decode cX7_isIn 11 = .ok (.baload, 1) := by decide +kernel
theorem dX7_isIn_12 : decode cX7_isIn 12 = .ok (.ifCond .eq 34, 3) := by decide +kernel
theorem dX7_isIn_15 : decode cX7_isIn 15 = .ok (.aload_n 0, 1) := by decide +kernel
theorem dX7_isIn_16 : decode cX7_isIn 16 = .ok (.getfield 13, 3) := by decide +kernel
theorem dX7_isIn_19 : decode cX7_isIn 19 = .ok (.iload_n 1, 1) := by decide +kernel
theorem dX7_isIn_20 : decode cX7_isIn 20 = .ok (.iaload, 1) := by decide +kernel
theorem dX7_isIn_21 : decode cX7_isIn 21 = .ok (.iload 5, 2) := by decide +kernel
theorem dX7_isIn_23 : decode cX7_isIn 23 = .ok (.ishr, 1) := by decide +kernel
theorem dX7_isIn_24 : decode cX7_isIn 24 = .ok (.iload_n 3, 1) := by decide +kernel
theorem dX7_isIn_25 : decode cX7_isIn 25 = .ok (.if_icmp .ne 21, 3) := by decide +kernel
theorem dX7_isIn_28 : decode cX7_isIn 28 = .ok (.aload_n 0, 1) := by decide +kernel
theorem dX7_isIn_29 : decode cX7_isIn 29 = .ok (.getfield 17, 3) := by decide +kernel
theorem dX7_isIn_32 : decode cX7_isIn 32 = .ok (.iload_n 1, 1) := by decide +kernel
theorem dX7_isIn_33 : decode cX7_isIn 33 = .ok (.iaload, 1) := by decide +kernel
theorem dX7_isIn_34 : decode cX7_isIn 34 = .ok (.iload 5, 2) := by decide +kernel
theorem dX7_isIn_36 : decode cX7_isIn 36 = .ok (.ishr, 1) := by decide +kernel
theorem dX7_isIn_37 : decode cX7_isIn 37 = .ok (.iload 4, 2) := by decide +kernel
theorem dX7_isIn_39 : decode cX7_isIn 39 = .ok (.if_icmp .ne 7, 3) := by decide +kernel
theorem dX7_isIn_42 : decode cX7_isIn 42 = .ok (.iconst 1, 1) := by decide +kernel
theorem dX7_isIn_43 : decode cX7_isIn 43 = .ok (.goto 4, 3) := by decide +kernel
theorem dX7_isIn_46 : decode cX7_isIn 46 = .ok (.iconst 0, 1) := by decide +kernel
theorem dX7_isIn_47 : decode cX7_isIn 47 = .ok (.ireturn, 1) := by decide +kernel
theorem dX7_pointsIn_0 : decode cX7_pointsIn 0 = .ok (.iconst 0, 1) := by decide +kernel
theorem dX7_pointsIn_1 : decode cX7_pointsIn 1 = .ok (.istore 4, 2) := by decide +kernel
theorem dX7_pointsIn_3 : decode cX7_pointsIn 3 = .ok (.iconst 0, 1) := by decide +kernel
theorem dX7_pointsIn_4 : decode cX7_pointsIn 4 = .ok (.istore 5, 2) := by decide +kernel
theorem dX7_pointsIn_6 : decode cX7_pointsIn 6 = .ok (.iload 5, 2) := by decide +kernel
theorem dX7_pointsIn_8 : decode cX7_pointsIn 8 = .ok (.bipush 40, 2) := by decide +kernel
theorem dX7_pointsIn_10 : decode cX7_pointsIn 10 = .ok (.if_icmp .ge 31, 3) := by decide +kernel
theorem dX7_pointsIn_13 : decode cX7_pointsIn 13 = .ok (.iload 4, 2) := by decide +kernel
theorem dX7_pointsIn_15 : decode cX7_pointsIn 15 = .ok (.aload_n 0, 1) := by decide +kernel
theorem dX7_pointsIn_16 : decode cX7_pointsIn 16 = .ok (.iload 5, 2) := by decide +kernel
theorem dX7_pointsIn_18 : decode cX7_pointsIn 18 = .ok (.iload_n 1, 1) := by decide +kernel
theorem dX7_pointsIn_19 : decode cX7_pointsIn 19 = .ok (.iload_n 2, 1) := by decide +kernel
theorem dX7_pointsIn_20 : decode cX7_pointsIn 20 = .ok (.iload_n 3, 1) := by decide +kernel
theorem dX7_pointsIn_21 : decode cX7_pointsIn 21 = .ok (.invokevirtual 113, 3) := by decide +kernel
theorem dX7_pointsIn_24 : decode cX7_pointsIn 24 = .ok (.ifCond .eq 7, 3) := by decide +kernel
theorem dX7_pointsIn_27 : decode cX7_pointsIn 27 = .ok (.iconst 1, 1) := by decide +kernel
theorem dX7_pointsIn_28 : decode cX7_pointsIn 28 = .ok (.goto 4, 3) := by decide +kernel
theorem dX7_pointsIn_31 : decode cX7_pointsIn 31 = .ok (.iconst 0, 1) := by decide +kernel
theorem dX7_pointsIn_32 : decode cX7_pointsIn 32 = .ok (.iadd, 1) := by decide +kernel
theorem dX7_pointsIn_33 : decode cX7_pointsIn 33 = .ok (.istore 4, 2) := by decide +kernel
theorem dX7_pointsIn_35 : decode cX7_pointsIn 35 = .ok (.iinc 5 1, 3) := by decide +kernel
theorem dX7_pointsIn_38 : decode cX7_pointsIn 38 = .ok (.goto (-32), 3) := by decide +kernel
theorem dX7_pointsIn_41 : decode cX7_pointsIn 41 = .ok (.iload 4, 2) := by decide +kernel
theorem dX7_pointsIn_43 : decode cX7_pointsIn 43 = .ok (.ireturn, 1) := by decide +kernel
theorem dX7_bulk_0 : decode cX7_bulk 0 = .ok (.lconst 0, 1) := by decide +kernel
theorem dX7_bulk_1 : decode cX7_bulk 1 = .ok (.lstore 4, 2) := by decide +kernel
theorem dX7_bulk_3 : decode cX7_bulk 3 = .ok (.iconst 0, 1) := by decide +kernel
theorem dX7_bulk_4 : decode cX7_bulk 4 = .ok (.istore 6, 2) := by decide +kernel
theorem dX7_bulk_6 : decode cX7_bulk 6 = .ok (.iload 6, 2) := by decide +kernel
theorem dX7_bulk_8 : decode cX7_bulk 8 = .ok (.bipush 40, 2) := by decide +kernel
theorem dX7_bulk_10 : decode cX7_bulk 10 = .ok (.if_icmp .ge 56, 3) := by decide +kernel
theorem dX7_bulk_13 : decode cX7_bulk 13 = .ok (.aload_n 0, 1) := by decide +kernel
theorem dX7_bulk_14 : decode cX7_bulk 14 = .ok (.iload 6, 2) := by decide +kernel
theorem dX7_bulk_16 : decode cX7_bulk 16 = .ok (.iload_n 1, 1) := by decide +kernel
theorem dX7_bulk_17 : decode cX7_bulk 17 = .ok (.iload_n 2, 1) := by decide +kernel
theorem dX7_bulk_18 : decode cX7_bulk 18 = .ok (.iload_n 3, 1) := by decide +kernel
theorem dX7_bulk_19 : decode cX7_bulk 19 = .ok (.invokevirtual 113, 3) := by decide +kernel
theorem dX7_bulk_22 : decode cX7_bulk 22 = .ok (.ifCond .eq 38, 3) := by decide +kernel
theorem dX7_bulk_25 : decode cX7_bulk 25 = .ok (.lload 4, 2) := by decide +kernel
theorem dX7_bulk_27 : decode cX7_bulk 27 = .ok (.aload_n 0, 1) := by decide +kernel
theorem dX7_bulk_28 : decode cX7_bulk 28 = .ok (.getfield 20, 3) := by decide +kernel
theorem dX7_bulk_31 : decode cX7_bulk 31 = .ok (.iload 6, 2) := by decide +kernel
theorem dX7_bulk_33 : decode cX7_bulk 33 = .ok (.iaload, 1) := by decide +kernel
theorem dX7_bulk_34 : decode cX7_bulk 34 = .ok (.ifCond .ge 15, 3) := by decide +kernel
theorem dX7_bulk_37 : decode cX7_bulk 37 = .ok (.aload_n 0, 1) := by decide +kernel
theorem dX7_bulk_38 : decode cX7_bulk 38 = .ok (.getfield 20, 3) := by decide +kernel
theorem dX7_bulk_41 : decode cX7_bulk 41 = .ok (.iload 6, 2) := by decide +kernel
theorem dX7_bulk_43 : decode cX7_bulk 43 = .ok (.iaload, 1) := by decide +kernel
theorem dX7_bulk_44 : decode cX7_bulk 44 = .ok (.ineg, 1) := by decide +kernel
theorem dX7_bulk_45 : decode cX7_bulk 45 = .ok (.i2l, 1) := by decide +kernel
theorem dX7_bulk_46 : decode cX7_bulk 46 = .ok (.goto 11, 3) := by decide +kernel
theorem dX7_bulk_49 : decode cX7_bulk 49 = .ok (.aload_n 0, 1) := by decide +kernel
theorem dX7_bulk_50 : decode cX7_bulk 50 = .ok (.getfield 20, 3) := by decide +kernel
theorem dX7_bulk_53 : decode cX7_bulk 53 = .ok (.iload 6, 2) := by decide +kernel
theorem dX7_bulk_55 : decode cX7_bulk 55 = .ok (.iaload, 1) := by decide +kernel
theorem dX7_bulk_56 : decode cX7_bulk 56 = .ok (.i2l, 1) := by decide +kernel
theorem dX7_bulk_57 : decode cX7_bulk 57 = .ok (.ladd, 1) := by decide +kernel
theorem dX7_bulk_58 : decode cX7_bulk 58 = .ok (.lstore 4, 2) := by decide +kernel
theorem dX7_bulk_60 : decode cX7_bulk 60 = .ok (.iinc 6 1, 3) := by decide +kernel
theorem dX7_bulk_63 : decode cX7_bulk 63 = .ok (.goto (-57), 3) := by decide +kernel
theorem dX7_bulk_66 : decode cX7_bulk 66 = .ok (.lload 4, 2) := by decide +kernel
theorem dX7_bulk_68 : decode cX7_bulk 68 = .ok (.lreturn, 1) := by decide +kernel
theorem dX7_isSplit_0 : decode cX7_isSplit 0 = .ok (.iload_n 1, 1) := by decide +kernel
theorem dX7_isSplit_1 : decode cX7_isSplit 1 = .ok (.iconst 5, 1) := by decide +kernel
theorem dX7_isSplit_2 : decode cX7_isSplit 2 = .ok (.if_icmp .ge 21, 3) := by decide +kernel
theorem dX7_isSplit_5 : decode cX7_isSplit 5 = .ok (.aload_n 0, 1) := by decide +kernel
theorem dX7_isSplit_6 : decode cX7_isSplit 6 = .ok (.iload_n 1, 1) := by decide +kernel
theorem dX7_isSplit_7 : decode cX7_isSplit 7 = .ok (.iload_n 2, 1) := by decide +kernel
theorem dX7_isSplit_8 : decode cX7_isSplit 8 = .ok (.iload_n 3, 1) := by decide +kernel
theorem dX7_isSplit_9 : decode cX7_isSplit 9 = .ok (.invokevirtual 117, 3) := by decide +kernel
theorem dX7_isSplit_12 : decode cX7_isSplit 12 = .ok (.aload_n 0, 1) := by decide +kernel
theorem dX7_isSplit_13 : decode cX7_isSplit 13 = .ok (.getfield 32, 3) := by decide +kernel
theorem dX7_isSplit_16 : decode cX7_isSplit 16 = .ok (.if_icmp .le 7, 3) := by decide +kernel
theorem dX7_isSplit_19 : decode cX7_isSplit 19 = .ok (.iconst 1, 1) := by decide +kernel
theorem dX7_isSplit_20 : decode cX7_isSplit 20 = .ok (.goto 4, 3) := by decide +kernel
theorem dX7_isSplit_23 : decode cX7_isSplit 23 = .ok (.iconst 0, 1) := by decide +kernel
theorem dX7_isSplit_24 : decode cX7_isSplit 24 = .ok (.ireturn, 1) := by decide +kernel
theorem dX7_isBox_0 : decode cX7_isBox 0 = .ok (.iload_n 1, 1) := by decide +kernel
theorem dX7_isBox_1 : decode cX7_isBox 1 = .ok (.i2l, 1) := by decide +kernel
theorem dX7_isBox_2 : decode cX7_isBox 2 = .ok (.lconst 0, 1) := by decide +kernel
theorem dX7_isBox_3 : decode cX7_isBox 3 = .ok (.ldc2_w 121, 3) := by decide +kernel
theorem dX7_isBox_6 : decode cX7_isBox 6 = .ok (.invokestatic 62, 3) := by decide +kernel
theorem dX7_isBox_9 : decode cX7_isBox 9 = .ok (.ifCond .eq 33, 3) := by decide +kernel
theorem dX7_isBox_12 : decode cX7_isBox 12 = .ok (.iload_n 2, 1) := by decide +kernel
theorem dX7_isBox_13 : decode cX7_isBox 13 = .ok (.i2l, 1) := by decide +kernel
theorem dX7_isBox_14 : decode cX7_isBox 14 = .ok (.lconst 0, 1) := by decide +kernel
theorem dX7_isBox_15 : decode cX7_isBox 15 = .ok (.iconst 1, 1) := by decide +kernel
theorem dX7_isBox_16 : decode cX7_isBox 16 = .ok (.iload_n 1, 1) := by decide +kernel
theorem dX7_isBox_17 : decode cX7_isBox 17 = .ok (.ishl, 1) := by decide +kernel
theorem dX7_isBox_18 : decode cX7_isBox 18 = .ok (.iconst 1, 1) := by decide +kernel
theorem dX7_isBox_19 : decode cX7_isBox 19 = .ok (.isub, 1) := by decide +kernel
theorem dX7_isBox_20 : decode cX7_isBox 20 = .ok (.i2l, 1) := by decide +kernel
theorem dX7_isBox_21 : decode cX7_isBox 21 = .ok (.invokestatic 62, 3) := by decide +kernel
theorem dX7_isBox_24 : decode cX7_isBox 24 = .ok (.ifCond .eq 18, 3) := by decide +kernel
theorem dX7_isBox_27 : decode cX7_isBox 27 = .ok (.iload_n 3, 1) := by decide +kernel
theorem dX7_isBox_28 : decode cX7_isBox 28 = .ok (.i2l, 1) := by decide +kernel
theorem dX7_isBox_29 : decode cX7_isBox 29 = .ok (.lconst 0, 1) := by decide +kernel
theorem dX7_isBox_30 : decode cX7_isBox 30 = .ok (.iconst 1, 1) := by decide +kernel
theorem dX7_isBox_31 : decode cX7_isBox 31 = .ok (.iload_n 1, 1) := by decide +kernel
theorem dX7_isBox_32 : decode cX7_isBox 32 = .ok (.ishl, 1) := by decide +kernel
theorem dX7_isBox_33 : decode cX7_isBox 33 = .ok (.iconst 1, 1) := by decide +kernel
theorem dX7_isBox_34 : decode cX7_isBox 34 = .ok (.isub, 1) := by decide +kernel
theorem dX7_isBox_35 : decode cX7_isBox 35 = .ok (.i2l, 1) := by decide +kernel
theorem dX7_isBox_36 : decode cX7_isBox 36 = .ok (.invokestatic 62, 3) := by decide +kernel
theorem dX7_isBox_39 : decode cX7_isBox 39 = .ok (.ifCond .ne 5, 3) := by decide +kernel
theorem dX7_isBox_42 : decode cX7_isBox 42 = .ok (.iconst 0, 1) := by decide +kernel
theorem dX7_isBox_43 : decode cX7_isBox 43 = .ok (.ireturn, 1) := by decide +kernel
theorem dX7_isBox_44 : decode cX7_isBox 44 = .ok (.iconst 1, 1) := by decide +kernel
theorem dX7_isBox_45 : decode cX7_isBox 45 = .ok (.istore 4, 2) := by decide +kernel
theorem dX7_isBox_47 : decode cX7_isBox 47 = .ok (.iconst 0, 1) := by decide +kernel
theorem dX7_isBox_48 : decode cX7_isBox 48 = .ok (.istore 5, 2) := by decide +kernel
theorem dX7_isBox_50 : decode cX7_isBox 50 = .ok (.iload 5, 2) := by decide +kernel
theorem dX7_isBox_52 : decode cX7_isBox 52 = .ok (.iload_n 1, 1) := by decide +kernel
theorem dX7_isBox_53 : decode cX7_isBox 53 = .ok (.if_icmp .ge 42, 3) := by decide +kernel
theorem dX7_isBox_56 : decode cX7_isBox 56 = .ok (.iload 4, 2) := by decide +kernel
theorem dX7_isBox_58 : decode cX7_isBox 58 = .ok (.ifCond .eq 28, 3) := by decide +kernel
theorem dX7_isBox_61 : decode cX7_isBox 61 = .ok (.aload_n 0, 1) := by decide +kernel
theorem dX7_isBox_62 : decode cX7_isBox 62 = .ok (.iload 5, 2) := by decide +kernel
theorem dX7_isBox_64 : decode cX7_isBox 64 = .ok (.iload_n 2, 1) := by decide +kernel
theorem dX7_isBox_65 : decode cX7_isBox 65 = .ok (.iload_n 1, 1) := by decide +kernel
theorem dX7_isBox_66 : decode cX7_isBox 66 = .ok (.iload 5, 2) := by decide +kernel
theorem dX7_isBox_68 : decode cX7_isBox 68 = .ok (.isub, 1) := by decide +kernel
theorem dX7_isBox_69 : decode cX7_isBox 69 = .ok (.ishr, 1) := by decide +kernel
theorem dX7_isBox_70 : decode cX7_isBox 70 = .ok (.iload_n 3, 1) := by decide +kernel
theorem dX7_isBox_71 : decode cX7_isBox 71 = .ok (.iload_n 1, 1) := by decide +kernel
theorem dX7_isBox_72 : decode cX7_isBox 72 = .ok (.iload 5, 2) := by decide +kernel
theorem dX7_isBox_74 : decode cX7_isBox 74 = .ok (.isub, 1) := by decide +kernel
theorem dX7_isBox_75 : decode cX7_isBox 75 = .ok (.ishr, 1) := by decide +kernel
theorem dX7_isBox_76 : decode cX7_isBox 76 = .ok (.invokevirtual 123, 3) := by decide +kernel
theorem dX7_isBox_79 : decode cX7_isBox 79 = .ok (.ifCond .eq 7, 3) := by decide +kernel
theorem dX7_isBox_82 : decode cX7_isBox 82 = .ok (.iconst 1, 1) := by decide +kernel
theorem dX7_isBox_83 : decode cX7_isBox 83 = .ok (.goto 4, 3) := by decide +kernel
theorem dX7_isBox_86 : decode cX7_isBox 86 = .ok (.iconst 0, 1) := by decide +kernel
theorem dX7_isBox_87 : decode cX7_isBox 87 = .ok (.istore 4, 2) := by decide +kernel
theorem dX7_isBox_89 : decode cX7_isBox 89 = .ok (.iinc 5 1, 3) := by decide +kernel
theorem dX7_isBox_92 : decode cX7_isBox 92 = .ok (.goto (-42), 3) := by decide +kernel
theorem dX7_isBox_95 : decode cX7_isBox 95 = .ok (.iload 4, 2) := by decide +kernel
theorem dX7_isBox_97 : decode cX7_isBox 97 = .ok (.ireturn, 1) := by decide +kernel
theorem dX7_middle_0 : decode cX7_middle 0 = .ok (.bipush 64, 2) := by decide +kernel
theorem dX7_middle_2 : decode cX7_middle 2 = .ok (.iload_n 0, 1) := by decide +kernel
theorem dX7_middle_3 : decode cX7_middle 3 = .ok (.ishr, 1) := by decide +kernel
theorem dX7_middle_4 : decode cX7_middle 4 = .ok (.istore_n 2, 1) := by decide +kernel
theorem dX7_middle_5 : decode cX7_middle 5 = .ok (.iconst 2, 1) := by decide +kernel
theorem dX7_middle_6 : decode cX7_middle 6 = .ok (.iload_n 1, 1) := by decide +kernel
theorem dX7_middle_7 : decode cX7_middle 7 = .ok (.imul, 1) := by decide +kernel
theorem dX7_middle_8 : decode cX7_middle 8 = .ok (.iload_n 2, 1) := by decide +kernel
theorem dX7_middle_9 : decode cX7_middle 9 = .ok (.imul, 1) := by decide +kernel
theorem dX7_middle_10 : decode cX7_middle 10 = .ok (.iload_n 2, 1) := by decide +kernel
theorem dX7_middle_11 : decode cX7_middle 11 = .ok (.iadd, 1) := by decide +kernel
theorem dX7_middle_12 : decode cX7_middle 12 = .ok (.iconst 1, 1) := by decide +kernel
theorem dX7_middle_13 : decode cX7_middle 13 = .ok (.isub, 1) := by decide +kernel
theorem dX7_middle_14 : decode cX7_middle 14 = .ok (.ireturn, 1) := by decide +kernel
theorem dX7_momentOf_0 : decode cX7_momentOf 0 = .ok (.lconst 0, 1) := by decide +kernel
theorem dX7_momentOf_1 : decode cX7_momentOf 1 = .ok (.lstore 6, 2) := by decide +kernel
theorem dX7_momentOf_3 : decode cX7_momentOf 3 = .ok (.iconst 0, 1) := by decide +kernel
theorem dX7_momentOf_4 : decode cX7_momentOf 4 = .ok (.istore 8, 2) := by decide +kernel
theorem dX7_momentOf_6 : decode cX7_momentOf 6 = .ok (.iload 8, 2) := by decide +kernel
theorem dX7_momentOf_8 : decode cX7_momentOf 8 = .ok (.bipush 40, 2) := by decide +kernel
theorem dX7_momentOf_10 : decode cX7_momentOf 10 = .ok (.if_icmp .ge 78, 3) := by decide +kernel
theorem dX7_momentOf_13 : decode cX7_momentOf 13 = .ok (.aload_n 0, 1) := by decide +kernel
theorem dX7_momentOf_14 : decode cX7_momentOf 14 = .ok (.iload 8, 2) := by decide +kernel
theorem dX7_momentOf_16 : decode cX7_momentOf 16 = .ok (.iload_n 1, 1) := by decide +kernel
theorem dX7_momentOf_17 : decode cX7_momentOf 17 = .ok (.iload_n 2, 1) := by decide +kernel
theorem dX7_momentOf_18 : decode cX7_momentOf 18 = .ok (.iload_n 3, 1) := by decide +kernel
theorem dX7_momentOf_19 : decode cX7_momentOf 19 = .ok (.invokevirtual 113, 3) := by decide +kernel
theorem dX7_momentOf_22 : decode cX7_momentOf 22 = .ok (.ifCond .eq 60, 3) := by decide +kernel
theorem dX7_momentOf_25 : decode cX7_momentOf 25 = .ok (.lload 6, 2) := by decide +kernel
theorem dX7_momentOf_27 : decode cX7_momentOf 27 = .ok (.aload_n 0, 1) := by decide +kernel
theorem dX7_momentOf_28 : decode cX7_momentOf 28 = .ok (.getfield 20, 3) := by decide +kernel
theorem dX7_momentOf_31 : decode cX7_momentOf 31 = .ok (.iload 8, 2) := by decide +kernel
theorem dX7_momentOf_33 : decode cX7_momentOf 33 = .ok (.iaload, 1) := by decide +kernel
theorem dX7_momentOf_34 : decode cX7_momentOf 34 = .ok (.i2l, 1) := by decide +kernel
theorem dX7_momentOf_35 : decode cX7_momentOf 35 = .ok (.iconst 2, 1) := by decide +kernel
theorem dX7_momentOf_36 : decode cX7_momentOf 36 = .ok (.aload_n 0, 1) := by decide +kernel
theorem dX7_momentOf_37 : decode cX7_momentOf 37 = .ok (.getfield 13, 3) := by decide +kernel
theorem dX7_momentOf_40 : decode cX7_momentOf 40 = .ok (.iload 8, 2) := by decide +kernel
theorem dX7_momentOf_42 : decode cX7_momentOf 42 = .ok (.iaload, 1) := by decide +kernel
theorem dX7_momentOf_43 : decode cX7_momentOf 43 = .ok (.imul, 1) := by decide +kernel
theorem dX7_momentOf_44 : decode cX7_momentOf 44 = .ok (.iload_n 1, 1) := by decide +kernel
theorem dX7_momentOf_45 : decode cX7_momentOf 45 = .ok (.iload_n 2, 1) := by decide +kernel
theorem dX7_momentOf_46 : decode cX7_momentOf 46 = .ok (.invokestatic 127, 3) := by decide +kernel
theorem dX7_momentOf_49 : decode cX7_momentOf 49 = .ok (.isub, 1) := by decide +kernel
theorem dX7_momentOf_50 : decode cX7_momentOf 50 = .ok (.i2l, 1) := by decide +kernel
theorem dX7_momentOf_51 : decode cX7_momentOf 51 = .ok (.iload 4, 2) := by decide +kernel
theorem dX7_momentOf_53 : decode cX7_momentOf 53 = .ok (.invokestatic 97, 3) := by decide +kernel
theorem dX7_momentOf_56 : decode cX7_momentOf 56 = .ok (.lmul, 1) := by decide +kernel
theorem dX7_momentOf_57 : decode cX7_momentOf 57 = .ok (.iconst 2, 1) := by decide +kernel
theorem dX7_momentOf_58 : decode cX7_momentOf 58 = .ok (.aload_n 0, 1) := by decide +kernel
theorem dX7_momentOf_59 : decode cX7_momentOf 59 = .ok (.getfield 17, 3) := by decide +kernel
theorem dX7_momentOf_62 : decode cX7_momentOf 62 = .ok (.iload 8, 2) := by decide +kernel
theorem dX7_momentOf_64 : decode cX7_momentOf 64 = .ok (.iaload, 1) := by decide +kernel
theorem dX7_momentOf_65 : decode cX7_momentOf 65 = .ok (.imul, 1) := by decide +kernel
theorem dX7_momentOf_66 : decode cX7_momentOf 66 = .ok (.iload_n 1, 1) := by decide +kernel
theorem dX7_momentOf_67 : decode cX7_momentOf 67 = .ok (.iload_n 3, 1) := by decide +kernel
theorem dX7_momentOf_68 : decode cX7_momentOf 68 = .ok (.invokestatic 127, 3) := by decide +kernel
theorem dX7_momentOf_71 : decode cX7_momentOf 71 = .ok (.isub, 1) := by decide +kernel
theorem dX7_momentOf_72 : decode cX7_momentOf 72 = .ok (.i2l, 1) := by decide +kernel
theorem dX7_momentOf_73 : decode cX7_momentOf 73 = .ok (.iload 5, 2) := by decide +kernel
theorem dX7_momentOf_75 : decode cX7_momentOf 75 = .ok (.invokestatic 97, 3) := by decide +kernel
theorem dX7_momentOf_78 : decode cX7_momentOf 78 = .ok (.lmul, 1) := by decide +kernel
theorem dX7_momentOf_79 : decode cX7_momentOf 79 = .ok (.ladd, 1) := by decide +kernel
theorem dX7_momentOf_80 : decode cX7_momentOf 80 = .ok (.lstore 6, 2) := by decide +kernel
theorem dX7_momentOf_82 : decode cX7_momentOf 82 = .ok (.iinc 8 1, 3) := by decide +kernel
theorem dX7_momentOf_85 : decode cX7_momentOf 85 = .ok (.goto (-79), 3) := by decide +kernel
theorem dX7_momentOf_88 : decode cX7_momentOf 88 = .ok (.lload 6, 2) := by decide +kernel
theorem dX7_momentOf_90 : decode cX7_momentOf 90 = .ok (.lreturn, 1) := by decide +kernel
theorem dX7_box_0 : decode cX7_box 0 = .ok (.aload_n 0, 1) := by decide +kernel
theorem dX7_box_1 : decode cX7_box 1 = .ok (.iload_n 1, 1) := by decide +kernel
theorem dX7_box_2 : decode cX7_box 2 = .ok (.iload_n 2, 1) := by decide +kernel
theorem dX7_box_3 : decode cX7_box 3 = .ok (.iload_n 3, 1) := by decide +kernel
theorem dX7_box_4 : decode cX7_box 4 = .ok (.invokevirtual 131, 3) := by decide +kernel
theorem dX7_box_7 : decode cX7_box 7 = .ok (.ifCond .eq 16, 3) := by decide +kernel
theorem dX7_box_10 : decode cX7_box 10 = .ok (.iload 4, 2) := by decide +kernel
theorem dX7_box_12 : decode cX7_box 12 = .ok (.i2l, 1) := by decide +kernel
theorem dX7_box_13 : decode cX7_box 13 = .ok (.lconst 0, 1) := by decide +kernel
theorem dX7_box_14 : decode cX7_box 14 = .ok (.ldc2_w 134, 3) := by decide +kernel
theorem dX7_box_17 : decode cX7_box 17 = .ok (.invokestatic 62, 3) := by decide +kernel
theorem dX7_box_20 : decode cX7_box 20 = .ok (.ifCond .ne 6, 3) := by decide +kernel
theorem dX7_box_23 : decode cX7_box 23 = .ok (.bipush (-2), 2) := by decide +kernel
theorem dX7_box_25 : decode cX7_box 25 = .ok (.ireturn, 1) := by decide +kernel
theorem dX7_box_26 : decode cX7_box 26 = .ok (.iload 4, 2) := by decide +kernel
theorem dX7_box_28 : decode cX7_box 28 = .ok (.ifCond .ne 13, 3) := by decide +kernel
theorem dX7_box_31 : decode cX7_box 31 = .ok (.aload_n 0, 1) := by decide +kernel
theorem dX7_box_32 : decode cX7_box 32 = .ok (.iload_n 1, 1) := by decide +kernel
theorem dX7_box_33 : decode cX7_box 33 = .ok (.iload_n 2, 1) := by decide +kernel
theorem dX7_box_34 : decode cX7_box 34 = .ok (.iload_n 3, 1) := by decide +kernel
theorem dX7_box_35 : decode cX7_box 35 = .ok (.invokevirtual 117, 3) := by decide +kernel
theorem dX7_box_38 : decode cX7_box 38 = .ok (.goto 35, 3) := by decide +kernel
theorem dX7_box_41 : decode cX7_box 41 = .ok (.iload 4, 2) := by decide +kernel
theorem dX7_box_43 : decode cX7_box 43 = .ok (.iconst 1, 1) := by decide +kernel
theorem dX7_box_44 : decode cX7_box 44 = .ok (.if_icmp .ne 14, 3) := by decide +kernel
theorem dX7_box_47 : decode cX7_box 47 = .ok (.aload_n 0, 1) := by decide +kernel
theorem dX7_box_48 : decode cX7_box 48 = .ok (.iload_n 1, 1) := by decide +kernel
theorem dX7_box_49 : decode cX7_box 49 = .ok (.iload_n 2, 1) := by decide +kernel
theorem dX7_box_50 : decode cX7_box 50 = .ok (.iload_n 3, 1) := by decide +kernel
theorem dX7_box_51 : decode cX7_box 51 = .ok (.invokevirtual 136, 3) := by decide +kernel
theorem dX7_box_54 : decode cX7_box 54 = .ok (.l2i, 1) := by decide +kernel
theorem dX7_box_55 : decode cX7_box 55 = .ok (.goto 18, 3) := by decide +kernel
theorem dX7_box_58 : decode cX7_box 58 = .ok (.aload_n 0, 1) := by decide +kernel
theorem dX7_box_59 : decode cX7_box 59 = .ok (.iload_n 1, 1) := by decide +kernel
theorem dX7_box_60 : decode cX7_box 60 = .ok (.iload_n 2, 1) := by decide +kernel
theorem dX7_box_61 : decode cX7_box 61 = .ok (.iload_n 3, 1) := by decide +kernel
theorem dX7_box_62 : decode cX7_box 62 = .ok (.invokevirtual 123, 3) := by decide +kernel
theorem dX7_box_65 : decode cX7_box 65 = .ok (.ifCond .eq 7, 3) := by decide +kernel
theorem dX7_box_68 : decode cX7_box 68 = .ok (.iconst 1, 1) := by decide +kernel
theorem dX7_box_69 : decode cX7_box 69 = .ok (.goto 4, 3) := by decide +kernel
theorem dX7_box_72 : decode cX7_box 72 = .ok (.iconst 0, 1) := by decide +kernel
theorem dX7_box_73 : decode cX7_box 73 = .ok (.ireturn, 1) := by decide +kernel
theorem dX7_moment_0 : decode cX7_moment 0 = .ok (.aload_n 0, 1) := by decide +kernel
theorem dX7_moment_1 : decode cX7_moment 1 = .ok (.iload_n 1, 1) := by decide +kernel
theorem dX7_moment_2 : decode cX7_moment 2 = .ok (.iload_n 2, 1) := by decide +kernel
theorem dX7_moment_3 : decode cX7_moment 3 = .ok (.iload_n 3, 1) := by decide +kernel
theorem dX7_moment_4 : decode cX7_moment 4 = .ok (.invokevirtual 131, 3) := by decide +kernel
theorem dX7_moment_7 : decode cX7_moment 7 = .ok (.ifCond .eq 27, 3) := by decide +kernel
theorem dX7_moment_10 : decode cX7_moment 10 = .ok (.iload 4, 2) := by decide +kernel
theorem dX7_moment_12 : decode cX7_moment 12 = .ok (.iload 5, 2) := by decide +kernel
theorem dX7_moment_14 : decode cX7_moment 14 = .ok (.invokestatic 88, 3) := by decide +kernel
theorem dX7_moment_17 : decode cX7_moment 17 = .ok (.ifCond .eq 17, 3) := by decide +kernel
theorem dX7_moment_20 : decode cX7_moment 20 = .ok (.aload_n 0, 1) := by decide +kernel
theorem dX7_moment_21 : decode cX7_moment 21 = .ok (.iload_n 1, 1) := by decide +kernel
theorem dX7_moment_22 : decode cX7_moment 22 = .ok (.iload_n 2, 1) := by decide +kernel
theorem dX7_moment_23 : decode cX7_moment 23 = .ok (.iload_n 3, 1) := by decide +kernel
theorem dX7_moment_24 : decode cX7_moment 24 = .ok (.iload 4, 2) := by decide +kernel
theorem dX7_moment_26 : decode cX7_moment 26 = .ok (.iload 5, 2) := by decide +kernel
theorem dX7_moment_28 : decode cX7_moment 28 = .ok (.invokevirtual 139, 3) := by decide +kernel
theorem dX7_moment_31 : decode cX7_moment 31 = .ok (.goto 6, 3) := by decide +kernel
theorem dX7_moment_34 : decode cX7_moment 34 = .ok (.ldc2_w 111, 3) := by decide +kernel
theorem dX7_moment_37 : decode cX7_moment 37 = .ok (.lreturn, 1) := by decide +kernel
theorem dX7_leaf_0 : decode cX7_leaf 0 = .ok (.iload_n 1, 1) := by decide +kernel
theorem dX7_leaf_1 : decode cX7_leaf 1 = .ok (.iload_n 2, 1) := by decide +kernel
theorem dX7_leaf_2 : decode cX7_leaf 2 = .ok (.invokestatic 68, 3) := by decide +kernel
theorem dX7_leaf_5 : decode cX7_leaf 5 = .ok (.ifCond .ne 6, 3) := by decide +kernel
theorem dX7_leaf_8 : decode cX7_leaf 8 = .ok (.bipush (-2), 2) := by decide +kernel
theorem dX7_leaf_10 : decode cX7_leaf 10 = .ok (.ireturn, 1) := by decide +kernel
theorem dX7_leaf_11 : decode cX7_leaf 11 = .ok (.iconst 0, 1) := by decide +kernel
theorem dX7_leaf_12 : decode cX7_leaf 12 = .ok (.istore_n 3, 1) := by decide +kernel
theorem dX7_leaf_13 : decode cX7_leaf 13 = .ok (.aload_n 0, 1) := by decide +kernel
theorem dX7_leaf_14 : decode cX7_leaf 14 = .ok (.iload_n 3, 1) := by decide +kernel
theorem dX7_leaf_15 : decode cX7_leaf 15 = .ok (.iload_n 1, 1) := by decide +kernel
theorem dX7_leaf_16 : decode cX7_leaf 16 = .ok (.bipush 6, 2) := by decide +kernel
theorem dX7_leaf_18 : decode cX7_leaf 18 = .ok (.iload_n 3, 1) := by decide +kernel
theorem dX7_leaf_19 : decode cX7_leaf 19 = .ok (.isub, 1) := by decide +kernel
theorem dX7_leaf_20 : decode cX7_leaf 20 = .ok (.ishr, 1) := by decide +kernel
theorem dX7_leaf_21 : decode cX7_leaf 21 = .ok (.iload_n 2, 1) := by decide +kernel
theorem dX7_leaf_22 : decode cX7_leaf 22 = .ok (.bipush 6, 2) := by decide +kernel
theorem dX7_leaf_24 : decode cX7_leaf 24 = .ok (.iload_n 3, 1) := by decide +kernel
theorem dX7_leaf_25 : decode cX7_leaf 25 = .ok (.isub, 1) := by decide +kernel
theorem dX7_leaf_26 : decode cX7_leaf 26 = .ok (.ishr, 1) := by decide +kernel
theorem dX7_leaf_27 : decode cX7_leaf 27 = .ok (.invokevirtual 123, 3) := by decide +kernel
theorem dX7_leaf_30 : decode cX7_leaf 30 = .ok (.ifCond .eq 9, 3) := by decide +kernel
theorem dX7_leaf_33 : decode cX7_leaf 33 = .ok (.iinc 3 1, 3) := by decide +kernel
theorem dX7_leaf_36 : decode cX7_leaf 36 = .ok (.goto (-23), 3) := by decide +kernel
theorem dX7_leaf_39 : decode cX7_leaf 39 = .ok (.iload_n 3, 1) := by decide +kernel
theorem dX7_leaf_40 : decode cX7_leaf 40 = .ok (.ireturn, 1) := by decide +kernel
theorem dX7_choose_0 : decode cX7_choose 0 = .ok (.lconst 1, 1) := by decide +kernel
theorem dX7_choose_1 : decode cX7_choose 1 = .ok (.lstore_n 2, 1) := by decide +kernel
theorem dX7_choose_2 : decode cX7_choose 2 = .ok (.iconst 0, 1) := by decide +kernel
theorem dX7_choose_3 : decode cX7_choose 3 = .ok (.istore 4, 2) := by decide +kernel
theorem dX7_choose_5 : decode cX7_choose 5 = .ok (.iload 4, 2) := by decide +kernel
theorem dX7_choose_7 : decode cX7_choose 7 = .ok (.iload_n 1, 1) := by decide +kernel
theorem dX7_choose_8 : decode cX7_choose 8 = .ok (.if_icmp .ge 23, 3) := by decide +kernel
theorem dX7_choose_11 : decode cX7_choose 11 = .ok (.lload_n 2, 1) := by decide +kernel
theorem dX7_choose_12 : decode cX7_choose 12 = .ok (.iload_n 0, 1) := by decide +kernel
theorem dX7_choose_13 : decode cX7_choose 13 = .ok (.iload 4, 2) := by decide +kernel
theorem dX7_choose_15 : decode cX7_choose 15 = .ok (.isub, 1) := by decide +kernel
theorem dX7_choose_16 : decode cX7_choose 16 = .ok (.i2l, 1) := by decide +kernel
theorem dX7_choose_17 : decode cX7_choose 17 = .ok (.lmul, 1) := by decide +kernel
theorem dX7_choose_18 : decode cX7_choose 18 = .ok (.iload 4, 2) := by decide +kernel
theorem dX7_choose_20 : decode cX7_choose 20 = .ok (.iconst 1, 1) := by decide +kernel
theorem dX7_choose_21 : decode cX7_choose 21 = .ok (.iadd, 1) := by decide +kernel
theorem dX7_choose_22 : decode cX7_choose 22 = .ok (.i2l, 1) := by decide +kernel
theorem dX7_choose_23 : decode cX7_choose 23 = .ok (.ldiv, 1) := by decide +kernel
theorem dX7_choose_24 : decode cX7_choose 24 = .ok (.lstore_n 2, 1) := by decide +kernel
theorem dX7_choose_25 : decode cX7_choose 25 = .ok (.iinc 4 1, 3) := by decide +kernel
theorem dX7_choose_28 : decode cX7_choose 28 = .ok (.goto (-23), 3) := by decide +kernel
theorem dX7_choose_31 : decode cX7_choose 31 = .ok (.lload_n 2, 1) := by decide +kernel
theorem dX7_choose_32 : decode cX7_choose 32 = .ok (.lreturn, 1) := by decide +kernel
theorem dX7_term_0 : decode cX7_term 0 = .ok (.ldc2_w 134, 3) := by decide +kernel
theorem dX7_term_3 : decode cX7_term 3 = .ok (.iload 4, 2) := by decide +kernel
theorem dX7_term_5 : decode cX7_term 5 = .ok (.i2l, 1) := by decide +kernel
theorem dX7_term_6 : decode cX7_term 6 = .ok (.lmul, 1) := by decide +kernel
theorem dX7_term_7 : decode cX7_term 7 = .ok (.iload_n 1, 1) := by decide +kernel
theorem dX7_term_8 : decode cX7_term 8 = .ok (.iload_n 2, 1) := by decide +kernel
theorem dX7_term_9 : decode cX7_term 9 = .ok (.invokestatic 127, 3) := by decide +kernel
theorem dX7_term_12 : decode cX7_term 12 = .ok (.i2l, 1) := by decide +kernel
theorem dX7_term_13 : decode cX7_term 13 = .ok (.lsub, 1) := by decide +kernel
theorem dX7_term_14 : decode cX7_term 14 = .ok (.lstore 7, 2) := by decide +kernel
theorem dX7_term_16 : decode cX7_term 16 = .ok (.ldc2_w 134, 3) := by decide +kernel
theorem dX7_term_19 : decode cX7_term 19 = .ok (.iload 5, 2) := by decide +kernel
theorem dX7_term_21 : decode cX7_term 21 = .ok (.i2l, 1) := by decide +kernel
theorem dX7_term_22 : decode cX7_term 22 = .ok (.lmul, 1) := by decide +kernel
theorem dX7_term_23 : decode cX7_term 23 = .ok (.iload_n 1, 1) := by decide +kernel
theorem dX7_term_24 : decode cX7_term 24 = .ok (.iload_n 3, 1) := by decide +kernel
theorem dX7_term_25 : decode cX7_term 25 = .ok (.invokestatic 127, 3) := by decide +kernel
theorem dX7_term_28 : decode cX7_term 28 = .ok (.i2l, 1) := by decide +kernel
theorem dX7_term_29 : decode cX7_term 29 = .ok (.lsub, 1) := by decide +kernel
theorem dX7_term_30 : decode cX7_term 30 = .ok (.lstore 9, 2) := by decide +kernel
theorem dX7_term_32 : decode cX7_term 32 = .ok (.lconst 0, 1) := by decide +kernel
theorem dX7_term_33 : decode cX7_term 33 = .ok (.lstore 11, 2) := by decide +kernel
theorem dX7_term_35 : decode cX7_term 35 = .ok (.iconst 0, 1) := by decide +kernel
theorem dX7_term_36 : decode cX7_term 36 = .ok (.istore 13, 2) := by decide +kernel
theorem dX7_term_38 : decode cX7_term 38 = .ok (.iload 13, 2) := by decide +kernel
theorem dX7_term_40 : decode cX7_term 40 = .ok (.iload 6, 2) := by decide +kernel
theorem dX7_term_42 : decode cX7_term 42 = .ok (.if_icmp .gt 167, 3) := by decide +kernel
theorem dX7_term_45 : decode cX7_term 45 = .ok (.iconst 0, 1) := by decide +kernel
theorem dX7_term_46 : decode cX7_term 46 = .ok (.istore 14, 2) := by decide +kernel
theorem dX7_term_48 : decode cX7_term 48 = .ok (.iload 13, 2) := by decide +kernel
theorem dX7_term_50 : decode cX7_term 50 = .ok (.iload 14, 2) := by decide +kernel
theorem dX7_term_52 : decode cX7_term 52 = .ok (.iadd, 1) := by decide +kernel
theorem dX7_term_53 : decode cX7_term 53 = .ok (.iload 6, 2) := by decide +kernel
theorem dX7_term_55 : decode cX7_term 55 = .ok (.if_icmp .gt 148, 3) := by decide +kernel
theorem dX7_term_58 : decode cX7_term 58 = .ok (.lconst 0, 1) := by decide +kernel
theorem dX7_term_59 : decode cX7_term 59 = .ok (.lstore 15, 2) := by decide +kernel
theorem dX7_term_61 : decode cX7_term 61 = .ok (.iload 13, 2) := by decide +kernel
theorem dX7_term_63 : decode cX7_term 63 = .ok (.istore 17, 2) := by decide +kernel
theorem dX7_term_65 : decode cX7_term 65 = .ok (.iload 17, 2) := by decide +kernel
theorem dX7_term_67 : decode cX7_term 67 = .ok (.iconst 5, 1) := by decide +kernel
theorem dX7_term_68 : decode cX7_term 68 = .ok (.if_icmp .ge 94, 3) := by decide +kernel
theorem dX7_term_71 : decode cX7_term 71 = .ok (.iload 14, 2) := by decide +kernel
theorem dX7_term_73 : decode cX7_term 73 = .ok (.istore 18, 2) := by decide +kernel
theorem dX7_term_75 : decode cX7_term 75 = .ok (.iload 17, 2) := by decide +kernel
theorem dX7_term_77 : decode cX7_term 77 = .ok (.iload 18, 2) := by decide +kernel
theorem dX7_term_79 : decode cX7_term 79 = .ok (.iadd, 1) := by decide +kernel
theorem dX7_term_80 : decode cX7_term 80 = .ok (.iconst 5, 1) := by decide +kernel
theorem dX7_term_81 : decode cX7_term 81 = .ok (.if_icmp .ge 75, 3) := by decide +kernel
theorem dX7_term_84 : decode cX7_term 84 = .ok (.lload 15, 2) := by decide +kernel
theorem dX7_term_86 : decode cX7_term 86 = .ok (.aload_n 0, 1) := by decide +kernel
theorem dX7_term_87 : decode cX7_term 87 = .ok (.getfield 29, 3) := by decide +kernel
theorem dX7_term_90 : decode cX7_term 90 = .ok (.iconst 5, 1) := by decide +kernel
theorem dX7_term_91 : decode cX7_term 91 = .ok (.iload 17, 2) := by decide +kernel
theorem dX7_term_93 : decode cX7_term 93 = .ok (.imul, 1) := by decide +kernel
theorem dX7_term_94 : decode cX7_term 94 = .ok (.iload 18, 2) := by decide +kernel
theorem dX7_term_96 : decode cX7_term 96 = .ok (.iadd, 1) := by decide +kernel
theorem dX7_term_97 : decode cX7_term 97 = .ok (.iaload, 1) := by decide +kernel
theorem dX7_term_98 : decode cX7_term 98 = .ok (.i2l, 1) := by decide +kernel
theorem dX7_term_99 : decode cX7_term 99 = .ok (.ldc2_w 101, 3) := by decide +kernel
theorem dX7_term_102 : decode cX7_term 102 = .ok (.iload 17, 2) := by decide +kernel
theorem dX7_term_104 : decode cX7_term 104 = .ok (.iload 18, 2) := by decide +kernel
theorem dX7_term_106 : decode cX7_term 106 = .ok (.iadd, 1) := by decide +kernel
theorem dX7_term_107 : decode cX7_term 107 = .ok (.lshr, 1) := by decide +kernel
theorem dX7_term_108 : decode cX7_term 108 = .ok (.lmul, 1) := by decide +kernel
theorem dX7_term_109 : decode cX7_term 109 = .ok (.iload 17, 2) := by decide +kernel
theorem dX7_term_111 : decode cX7_term 111 = .ok (.iload 13, 2) := by decide +kernel
theorem dX7_term_113 : decode cX7_term 113 = .ok (.invokestatic 143, 3) := by decide +kernel
theorem dX7_term_116 : decode cX7_term 116 = .ok (.lmul, 1) := by decide +kernel
theorem dX7_term_117 : decode cX7_term 117 = .ok (.iload 18, 2) := by decide +kernel
theorem dX7_term_119 : decode cX7_term 119 = .ok (.iload 14, 2) := by decide +kernel
theorem dX7_term_121 : decode cX7_term 121 = .ok (.invokestatic 143, 3) := by decide +kernel
theorem dX7_term_124 : decode cX7_term 124 = .ok (.lmul, 1) := by decide +kernel
theorem dX7_term_125 : decode cX7_term 125 = .ok (.lload 7, 2) := by decide +kernel
theorem dX7_term_127 : decode cX7_term 127 = .ok (.iload 17, 2) := by decide +kernel
theorem dX7_term_129 : decode cX7_term 129 = .ok (.iload 13, 2) := by decide +kernel
theorem dX7_term_131 : decode cX7_term 131 = .ok (.isub, 1) := by decide +kernel
theorem dX7_term_132 : decode cX7_term 132 = .ok (.invokestatic 97, 3) := by decide +kernel
theorem dX7_term_135 : decode cX7_term 135 = .ok (.lmul, 1) := by decide +kernel
theorem dX7_term_136 : decode cX7_term 136 = .ok (.lload 9, 2) := by decide +kernel
theorem dX7_term_138 : decode cX7_term 138 = .ok (.iload 18, 2) := by decide +kernel
theorem dX7_term_140 : decode cX7_term 140 = .ok (.iload 14, 2) := by decide +kernel
theorem dX7_term_142 : decode cX7_term 142 = .ok (.isub, 1) := by decide +kernel
theorem dX7_term_143 : decode cX7_term 143 = .ok (.invokestatic 97, 3) := by decide +kernel
theorem dX7_term_146 : decode cX7_term 146 = .ok (.lmul, 1) := by decide +kernel
theorem dX7_term_147 : decode cX7_term 147 = .ok (.ladd, 1) := by decide +kernel
theorem dX7_term_148 : decode cX7_term 148 = .ok (.lstore 15, 2) := by decide +kernel
theorem dX7_term_150 : decode cX7_term 150 = .ok (.iinc 18 1, 3) := by decide +kernel
theorem dX7_term_153 : decode cX7_term 153 = .ok (.goto (-78), 3) := by decide +kernel
theorem dX7_term_156 : decode cX7_term 156 = .ok (.iinc 17 1, 3) := by decide +kernel
theorem dX7_term_159 : decode cX7_term 159 = .ok (.goto (-94), 3) := by decide +kernel
theorem dX7_term_162 : decode cX7_term 162 = .ok (.lload 11, 2) := by decide +kernel
theorem dX7_term_164 : decode cX7_term 164 = .ok (.iload 13, 2) := by decide +kernel
theorem dX7_term_166 : decode cX7_term 166 = .ok (.iload 14, 2) := by decide +kernel
theorem dX7_term_168 : decode cX7_term 168 = .ok (.iadd, 1) := by decide +kernel
theorem dX7_term_169 : decode cX7_term 169 = .ok (.iconst 2, 1) := by decide +kernel
theorem dX7_term_170 : decode cX7_term 170 = .ok (.irem, 1) := by decide +kernel
theorem dX7_term_171 : decode cX7_term 171 = .ok (.ifCond .ne 8, 3) := by decide +kernel
theorem dX7_term_174 : decode cX7_term 174 = .ok (.lload 15, 2) := by decide +kernel
theorem dX7_term_176 : decode cX7_term 176 = .ok (.goto 6, 3) := by decide +kernel
theorem dX7_term_179 : decode cX7_term 179 = .ok (.lload 15, 2) := by decide +kernel
theorem dX7_term_181 : decode cX7_term 181 = .ok (.lneg, 1) := by decide +kernel
theorem dX7_term_182 : decode cX7_term 182 = .ok (.aload_n 0, 1) := by decide +kernel
theorem dX7_term_183 : decode cX7_term 183 = .ok (.iload_n 1, 1) := by decide +kernel
theorem dX7_term_184 : decode cX7_term 184 = .ok (.iload_n 2, 1) := by decide +kernel
theorem dX7_term_185 : decode cX7_term 185 = .ok (.iload_n 3, 1) := by decide +kernel
theorem dX7_term_186 : decode cX7_term 186 = .ok (.iload 13, 2) := by decide +kernel
theorem dX7_term_188 : decode cX7_term 188 = .ok (.iload 14, 2) := by decide +kernel
theorem dX7_term_190 : decode cX7_term 190 = .ok (.invokevirtual 139, 3) := by decide +kernel
theorem dX7_term_193 : decode cX7_term 193 = .ok (.lmul, 1) := by decide +kernel
theorem dX7_term_194 : decode cX7_term 194 = .ok (.ladd, 1) := by decide +kernel
theorem dX7_term_195 : decode cX7_term 195 = .ok (.lstore 11, 2) := by decide +kernel
theorem dX7_term_197 : decode cX7_term 197 = .ok (.iinc 14 1, 3) := by decide +kernel
theorem dX7_term_200 : decode cX7_term 200 = .ok (.goto (-152), 3) := by decide +kernel
theorem dX7_term_203 : decode cX7_term 203 = .ok (.iinc 13 1, 3) := by decide +kernel
theorem dX7_term_206 : decode cX7_term 206 = .ok (.goto (-168), 3) := by decide +kernel
theorem dX7_term_209 : decode cX7_term 209 = .ok (.lload 11, 2) := by decide +kernel
theorem dX7_term_211 : decode cX7_term 211 = .ok (.lreturn, 1) := by decide +kernel
theorem dX7_size_0 : decode cX7_size 0 = .ok (.lload_n 0, 1) := by decide +kernel
theorem dX7_size_1 : decode cX7_size 1 = .ok (.lconst 0, 1) := by decide +kernel
theorem dX7_size_2 : decode cX7_size 2 = .ok (.lcmp, 1) := by decide +kernel
theorem dX7_size_3 : decode cX7_size 3 = .ok (.ifCond .ge 8, 3) := by decide +kernel
theorem dX7_size_6 : decode cX7_size 6 = .ok (.lload_n 0, 1) := by decide +kernel
theorem dX7_size_7 : decode cX7_size 7 = .ok (.lneg, 1) := by decide +kernel
theorem dX7_size_8 : decode cX7_size 8 = .ok (.goto 4, 3) := by decide +kernel
theorem dX7_size_11 : decode cX7_size 11 = .ok (.lload_n 0, 1) := by decide +kernel
theorem dX7_size_12 : decode cX7_size 12 = .ok (.lreturn, 1) := by decide +kernel
theorem dX7_endOf_0 : decode cX7_endOf 0 = .ok (.ldc2_w 134, 3) := by decide +kernel
theorem dX7_endOf_3 : decode cX7_endOf 3 = .ok (.iload 4, 2) := by decide +kernel
theorem dX7_endOf_5 : decode cX7_endOf 5 = .ok (.i2l, 1) := by decide +kernel
theorem dX7_endOf_6 : decode cX7_endOf 6 = .ok (.lmul, 1) := by decide +kernel
theorem dX7_endOf_7 : decode cX7_endOf 7 = .ok (.iload_n 1, 1) := by decide +kernel
theorem dX7_endOf_8 : decode cX7_endOf 8 = .ok (.iload_n 2, 1) := by decide +kernel
theorem dX7_endOf_9 : decode cX7_endOf 9 = .ok (.invokestatic 127, 3) := by decide +kernel
theorem dX7_endOf_12 : decode cX7_endOf 12 = .ok (.i2l, 1) := by decide +kernel
theorem dX7_endOf_13 : decode cX7_endOf 13 = .ok (.lsub, 1) := by decide +kernel
theorem dX7_endOf_14 : decode cX7_endOf 14 = .ok (.invokestatic 146, 3) := by decide +kernel
theorem dX7_endOf_17 : decode cX7_endOf 17 = .ok (.lstore 7, 2) := by decide +kernel
theorem dX7_endOf_19 : decode cX7_endOf 19 = .ok (.ldc2_w 134, 3) := by decide +kernel
theorem dX7_endOf_22 : decode cX7_endOf 22 = .ok (.iload 5, 2) := by decide +kernel
theorem dX7_endOf_24 : decode cX7_endOf 24 = .ok (.i2l, 1) := by decide +kernel
theorem dX7_endOf_25 : decode cX7_endOf 25 = .ok (.lmul, 1) := by decide +kernel
theorem dX7_endOf_26 : decode cX7_endOf 26 = .ok (.iload_n 1, 1) := by decide +kernel
theorem dX7_endOf_27 : decode cX7_endOf 27 = .ok (.iload_n 3, 1) := by decide +kernel
theorem dX7_endOf_28 : decode cX7_endOf 28 = .ok (.invokestatic 127, 3) := by decide +kernel
theorem dX7_endOf_31 : decode cX7_endOf 31 = .ok (.i2l, 1) := by decide +kernel
theorem dX7_endOf_32 : decode cX7_endOf 32 = .ok (.lsub, 1) := by decide +kernel
theorem dX7_endOf_33 : decode cX7_endOf 33 = .ok (.invokestatic 146, 3) := by decide +kernel
theorem dX7_endOf_36 : decode cX7_endOf 36 = .ok (.lstore 9, 2) := by decide +kernel
theorem dX7_endOf_38 : decode cX7_endOf 38 = .ok (.bipush 64, 2) := by decide +kernel
theorem dX7_endOf_40 : decode cX7_endOf 40 = .ok (.iload_n 1, 1) := by decide +kernel
theorem dX7_endOf_41 : decode cX7_endOf 41 = .ok (.ishr, 1) := by decide +kernel
theorem dX7_endOf_42 : decode cX7_endOf 42 = .ok (.iconst 1, 1) := by decide +kernel
theorem dX7_endOf_43 : decode cX7_endOf 43 = .ok (.isub, 1) := by decide +kernel
end
section
theorem dX7_endOf_44 : decode cX7_endOf 44 = .ok (.i2l, 1) := by decide +kernel
theorem dX7_endOf_45 : decode cX7_endOf 45 = .ok (.lstore 11, 2) := by decide +kernel
theorem dX7_endOf_47 : decode cX7_endOf 47 = .ok (.lconst 0, 1) := by decide +kernel
theorem dX7_endOf_48 : decode cX7_endOf 48 = .ok (.lstore 13, 2) := by decide +kernel
theorem dX7_endOf_50 : decode cX7_endOf 50 = .ok (.iconst 0, 1) := by decide +kernel
theorem dX7_endOf_51 : decode cX7_endOf 51 = .ok (.istore 15, 2) := by decide +kernel
theorem dX7_endOf_53 : decode cX7_endOf 53 = .ok (.iload 15, 2) := by decide +kernel
theorem dX7_endOf_55 : decode cX7_endOf 55 = .ok (.iconst 5, 1) := by decide +kernel
theorem dX7_endOf_56 : decode cX7_endOf 56 = .ok (.if_icmp .ge 149, 3) := by decide +kernel
theorem dX7_endOf_59 : decode cX7_endOf 59 = .ok (.iconst 0, 1) := by decide +kernel
theorem dX7_endOf_60 : decode cX7_endOf 60 = .ok (.istore 16, 2) := by decide +kernel
theorem dX7_endOf_62 : decode cX7_endOf 62 = .ok (.iload 15, 2) := by decide +kernel
theorem dX7_endOf_64 : decode cX7_endOf 64 = .ok (.iload 16, 2) := by decide +kernel
theorem dX7_endOf_66 : decode cX7_endOf 66 = .ok (.iadd, 1) := by decide +kernel
theorem dX7_endOf_67 : decode cX7_endOf 67 = .ok (.iconst 5, 1) := by decide +kernel
theorem dX7_endOf_68 : decode cX7_endOf 68 = .ok (.if_icmp .ge 131, 3) := by decide +kernel
theorem dX7_endOf_71 : decode cX7_endOf 71 = .ok (.iconst 0, 1) := by decide +kernel
theorem dX7_endOf_72 : decode cX7_endOf 72 = .ok (.istore 17, 2) := by decide +kernel
theorem dX7_endOf_74 : decode cX7_endOf 74 = .ok (.iload 17, 2) := by decide +kernel
theorem dX7_endOf_76 : decode cX7_endOf 76 = .ok (.iload 15, 2) := by decide +kernel
theorem dX7_endOf_78 : decode cX7_endOf 78 = .ok (.if_icmp .gt 115, 3) := by decide +kernel
theorem dX7_endOf_81 : decode cX7_endOf 81 = .ok (.iconst 0, 1) := by decide +kernel
theorem dX7_endOf_82 : decode cX7_endOf 82 = .ok (.istore 18, 2) := by decide +kernel
theorem dX7_endOf_84 : decode cX7_endOf 84 = .ok (.iload 18, 2) := by decide +kernel
theorem dX7_endOf_86 : decode cX7_endOf 86 = .ok (.iload 16, 2) := by decide +kernel
theorem dX7_endOf_88 : decode cX7_endOf 88 = .ok (.if_icmp .gt 99, 3) := by decide +kernel
theorem dX7_endOf_91 : decode cX7_endOf 91 = .ok (.iload 17, 2) := by decide +kernel
theorem dX7_endOf_93 : decode cX7_endOf 93 = .ok (.iload 18, 2) := by decide +kernel
theorem dX7_endOf_95 : decode cX7_endOf 95 = .ok (.iadd, 1) := by decide +kernel
theorem dX7_endOf_96 : decode cX7_endOf 96 = .ok (.iload 6, 2) := by decide +kernel
theorem dX7_endOf_98 : decode cX7_endOf 98 = .ok (.if_icmp .le 83, 3) := by decide +kernel
theorem dX7_endOf_101 : decode cX7_endOf 101 = .ok (.lload 13, 2) := by decide +kernel
theorem dX7_endOf_103 : decode cX7_endOf 103 = .ok (.aload_n 0, 1) := by decide +kernel
theorem dX7_endOf_104 : decode cX7_endOf 104 = .ok (.getfield 29, 3) := by decide +kernel
theorem dX7_endOf_107 : decode cX7_endOf 107 = .ok (.iconst 5, 1) := by decide +kernel
theorem dX7_endOf_108 : decode cX7_endOf 108 = .ok (.iload 15, 2) := by decide +kernel
theorem dX7_endOf_110 : decode cX7_endOf 110 = .ok (.imul, 1) := by decide +kernel
theorem dX7_endOf_111 : decode cX7_endOf 111 = .ok (.iload 16, 2) := by decide +kernel
theorem dX7_endOf_113 : decode cX7_endOf 113 = .ok (.iadd, 1) := by decide +kernel
theorem dX7_endOf_114 : decode cX7_endOf 114 = .ok (.iaload, 1) := by decide +kernel
theorem dX7_endOf_115 : decode cX7_endOf 115 = .ok (.i2l, 1) := by decide +kernel
theorem dX7_endOf_116 : decode cX7_endOf 116 = .ok (.invokestatic 146, 3) := by decide +kernel
theorem dX7_endOf_119 : decode cX7_endOf 119 = .ok (.ldc2_w 101, 3) := by decide +kernel
theorem dX7_endOf_122 : decode cX7_endOf 122 = .ok (.iload 15, 2) := by decide +kernel
theorem dX7_endOf_124 : decode cX7_endOf 124 = .ok (.iload 16, 2) := by decide +kernel
theorem dX7_endOf_126 : decode cX7_endOf 126 = .ok (.iadd, 1) := by decide +kernel
theorem dX7_endOf_127 : decode cX7_endOf 127 = .ok (.lshr, 1) := by decide +kernel
theorem dX7_endOf_128 : decode cX7_endOf 128 = .ok (.lmul, 1) := by decide +kernel
theorem dX7_endOf_129 : decode cX7_endOf 129 = .ok (.iload 15, 2) := by decide +kernel
theorem dX7_endOf_131 : decode cX7_endOf 131 = .ok (.iload 17, 2) := by decide +kernel
theorem dX7_endOf_133 : decode cX7_endOf 133 = .ok (.invokestatic 143, 3) := by decide +kernel
theorem dX7_endOf_136 : decode cX7_endOf 136 = .ok (.lmul, 1) := by decide +kernel
theorem dX7_endOf_137 : decode cX7_endOf 137 = .ok (.iload 16, 2) := by decide +kernel
theorem dX7_endOf_139 : decode cX7_endOf 139 = .ok (.iload 18, 2) := by decide +kernel
theorem dX7_endOf_141 : decode cX7_endOf 141 = .ok (.invokestatic 143, 3) := by decide +kernel
theorem dX7_endOf_144 : decode cX7_endOf 144 = .ok (.lmul, 1) := by decide +kernel
theorem dX7_endOf_145 : decode cX7_endOf 145 = .ok (.lload 7, 2) := by decide +kernel
theorem dX7_endOf_147 : decode cX7_endOf 147 = .ok (.iload 15, 2) := by decide +kernel
theorem dX7_endOf_149 : decode cX7_endOf 149 = .ok (.iload 17, 2) := by decide +kernel
theorem dX7_endOf_151 : decode cX7_endOf 151 = .ok (.isub, 1) := by decide +kernel
theorem dX7_endOf_152 : decode cX7_endOf 152 = .ok (.invokestatic 97, 3) := by decide +kernel
theorem dX7_endOf_155 : decode cX7_endOf 155 = .ok (.lmul, 1) := by decide +kernel
theorem dX7_endOf_156 : decode cX7_endOf 156 = .ok (.lload 9, 2) := by decide +kernel
theorem dX7_endOf_158 : decode cX7_endOf 158 = .ok (.iload 16, 2) := by decide +kernel
theorem dX7_endOf_160 : decode cX7_endOf 160 = .ok (.iload 18, 2) := by decide +kernel
theorem dX7_endOf_162 : decode cX7_endOf 162 = .ok (.isub, 1) := by decide +kernel
theorem dX7_endOf_163 : decode cX7_endOf 163 = .ok (.invokestatic 97, 3) := by decide +kernel
theorem dX7_endOf_166 : decode cX7_endOf 166 = .ok (.lmul, 1) := by decide +kernel
theorem dX7_endOf_167 : decode cX7_endOf 167 = .ok (.lload 11, 2) := by decide +kernel
theorem dX7_endOf_169 : decode cX7_endOf 169 = .ok (.iload 17, 2) := by decide +kernel
theorem dX7_endOf_171 : decode cX7_endOf 171 = .ok (.iload 18, 2) := by decide +kernel
theorem dX7_endOf_173 : decode cX7_endOf 173 = .ok (.iadd, 1) := by decide +kernel
theorem dX7_endOf_174 : decode cX7_endOf 174 = .ok (.invokestatic 97, 3) := by decide +kernel
theorem dX7_endOf_177 : decode cX7_endOf 177 = .ok (.lmul, 1) := by decide +kernel
theorem dX7_endOf_178 : decode cX7_endOf 178 = .ok (.ladd, 1) := by decide +kernel
theorem dX7_endOf_179 : decode cX7_endOf 179 = .ok (.lstore 13, 2) := by decide +kernel
theorem dX7_endOf_181 : decode cX7_endOf 181 = .ok (.iinc 18 1, 3) := by decide +kernel
theorem dX7_endOf_184 : decode cX7_endOf 184 = .ok (.goto (-100), 3) := by decide +kernel
theorem dX7_endOf_187 : decode cX7_endOf 187 = .ok (.iinc 17 1, 3) := by decide +kernel
theorem dX7_endOf_190 : decode cX7_endOf 190 = .ok (.goto (-116), 3) := by decide +kernel
theorem dX7_endOf_193 : decode cX7_endOf 193 = .ok (.iinc 16 1, 3) := by decide +kernel
theorem dX7_endOf_196 : decode cX7_endOf 196 = .ok (.goto (-134), 3) := by decide +kernel
theorem dX7_endOf_199 : decode cX7_endOf 199 = .ok (.iinc 15 1, 3) := by decide +kernel
theorem dX7_endOf_202 : decode cX7_endOf 202 = .ok (.goto (-149), 3) := by decide +kernel
theorem dX7_endOf_205 : decode cX7_endOf 205 = .ok (.lload 13, 2) := by decide +kernel
theorem dX7_endOf_207 : decode cX7_endOf 207 = .ok (.aload_n 0, 1) := by decide +kernel
theorem dX7_endOf_208 : decode cX7_endOf 208 = .ok (.iload_n 1, 1) := by decide +kernel
theorem dX7_endOf_209 : decode cX7_endOf 209 = .ok (.iload_n 2, 1) := by decide +kernel
theorem dX7_endOf_210 : decode cX7_endOf 210 = .ok (.iload_n 3, 1) := by decide +kernel
theorem dX7_endOf_211 : decode cX7_endOf 211 = .ok (.invokevirtual 136, 3) := by decide +kernel
theorem dX7_endOf_214 : decode cX7_endOf 214 = .ok (.lmul, 1) := by decide +kernel
theorem dX7_endOf_215 : decode cX7_endOf 215 = .ok (.lreturn, 1) := by decide +kernel
theorem dX7_goes_0 : decode cX7_goes 0 = .ok (.aload_n 0, 1) := by decide +kernel
theorem dX7_goes_1 : decode cX7_goes 1 = .ok (.getfield 45, 3) := by decide +kernel
theorem dX7_goes_4 : decode cX7_goes 4 = .ok (.aload_n 0, 1) := by decide +kernel
theorem dX7_goes_5 : decode cX7_goes 5 = .ok (.getfield 150, 3) := by decide +kernel
theorem dX7_goes_8 : decode cX7_goes 8 = .ok (.iload_n 1, 1) := by decide +kernel
theorem dX7_goes_9 : decode cX7_goes 9 = .ok (.iastore, 1) := by decide +kernel
theorem dX7_goes_10 : decode cX7_goes 10 = .ok (.aload_n 0, 1) := by decide +kernel
theorem dX7_goes_11 : decode cX7_goes 11 = .ok (.getfield 48, 3) := by decide +kernel
theorem dX7_goes_14 : decode cX7_goes 14 = .ok (.aload_n 0, 1) := by decide +kernel
theorem dX7_goes_15 : decode cX7_goes 15 = .ok (.getfield 150, 3) := by decide +kernel
theorem dX7_goes_18 : decode cX7_goes 18 = .ok (.iload_n 2, 1) := by decide +kernel
theorem dX7_goes_19 : decode cX7_goes 19 = .ok (.iastore, 1) := by decide +kernel
theorem dX7_goes_20 : decode cX7_goes 20 = .ok (.aload_n 0, 1) := by decide +kernel
theorem dX7_goes_21 : decode cX7_goes 21 = .ok (.getfield 51, 3) := by decide +kernel
theorem dX7_goes_24 : decode cX7_goes 24 = .ok (.aload_n 0, 1) := by decide +kernel
theorem dX7_goes_25 : decode cX7_goes 25 = .ok (.getfield 150, 3) := by decide +kernel
theorem dX7_goes_28 : decode cX7_goes 28 = .ok (.iload_n 3, 1) := by decide +kernel
theorem dX7_goes_29 : decode cX7_goes 29 = .ok (.iastore, 1) := by decide +kernel
theorem dX7_goes_30 : decode cX7_goes 30 = .ok (.aload_n 0, 1) := by decide +kernel
theorem dX7_goes_31 : decode cX7_goes 31 = .ok (.dup, 1) := by decide +kernel
theorem dX7_goes_32 : decode cX7_goes 32 = .ok (.getfield 150, 3) := by decide +kernel
theorem dX7_goes_35 : decode cX7_goes 35 = .ok (.iconst 1, 1) := by decide +kernel
theorem dX7_goes_36 : decode cX7_goes 36 = .ok (.iadd, 1) := by decide +kernel
theorem dX7_goes_37 : decode cX7_goes 37 = .ok (.putfield 150, 3) := by decide +kernel
theorem dX7_goes_40 : decode cX7_goes 40 = .ok (.return_, 1) := by decide +kernel
theorem dX7_goAcross_0 : decode cX7_goAcross 0 = .ok (.aload_n 0, 1) := by decide +kernel
theorem dX7_goAcross_1 : decode cX7_goAcross 1 = .ok (.lconst 0, 1) := by decide +kernel
theorem dX7_goAcross_2 : decode cX7_goAcross 2 = .ok (.putfield 153, 3) := by decide +kernel
theorem dX7_goAcross_5 : decode cX7_goAcross 5 = .ok (.aload_n 0, 1) := by decide +kernel
theorem dX7_goAcross_6 : decode cX7_goAcross 6 = .ok (.lconst 0, 1) := by decide +kernel
theorem dX7_goAcross_7 : decode cX7_goAcross 7 = .ok (.putfield 157, 3) := by decide +kernel
theorem dX7_goAcross_10 : decode cX7_goAcross 10 = .ok (.aload_n 0, 1) := by decide +kernel
theorem dX7_goAcross_11 : decode cX7_goAcross 11 = .ok (.iconst 0, 1) := by decide +kernel
theorem dX7_goAcross_12 : decode cX7_goAcross 12 = .ok (.putfield 150, 3) := by decide +kernel
theorem dX7_goAcross_15 : decode cX7_goAcross 15 = .ok (.iconst 1, 1) := by decide +kernel
theorem dX7_goAcross_16 : decode cX7_goAcross 16 = .ok (.istore 5, 2) := by decide +kernel
theorem dX7_goAcross_18 : decode cX7_goAcross 18 = .ok (.aload_n 0, 1) := by decide +kernel
theorem dX7_goAcross_19 : decode cX7_goAcross 19 = .ok (.getfield 36, 3) := by decide +kernel
theorem dX7_goAcross_22 : decode cX7_goAcross 22 = .ok (.iconst 0, 1) := by decide +kernel
theorem dX7_goAcross_23 : decode cX7_goAcross 23 = .ok (.iconst 0, 1) := by decide +kernel
theorem dX7_goAcross_24 : decode cX7_goAcross 24 = .ok (.iastore, 1) := by decide +kernel
theorem dX7_goAcross_25 : decode cX7_goAcross 25 = .ok (.aload_n 0, 1) := by decide +kernel
theorem dX7_goAcross_26 : decode cX7_goAcross 26 = .ok (.getfield 39, 3) := by decide +kernel
theorem dX7_goAcross_29 : decode cX7_goAcross 29 = .ok (.iconst 0, 1) := by decide +kernel
theorem dX7_goAcross_30 : decode cX7_goAcross 30 = .ok (.iconst 0, 1) := by decide +kernel
theorem dX7_goAcross_31 : decode cX7_goAcross 31 = .ok (.iastore, 1) := by decide +kernel
theorem dX7_goAcross_32 : decode cX7_goAcross 32 = .ok (.aload_n 0, 1) := by decide +kernel
theorem dX7_goAcross_33 : decode cX7_goAcross 33 = .ok (.getfield 42, 3) := by decide +kernel
theorem dX7_goAcross_36 : decode cX7_goAcross 36 = .ok (.iconst 0, 1) := by decide +kernel
theorem dX7_goAcross_37 : decode cX7_goAcross 37 = .ok (.iconst 0, 1) := by decide +kernel
theorem dX7_goAcross_38 : decode cX7_goAcross 38 = .ok (.iastore, 1) := by decide +kernel
theorem dX7_goAcross_39 : decode cX7_goAcross 39 = .ok (.iload 5, 2) := by decide +kernel
theorem dX7_goAcross_41 : decode cX7_goAcross 41 = .ok (.ifCond .le 302, 3) := by decide +kernel
theorem dX7_goAcross_44 : decode cX7_goAcross 44 = .ok (.iinc 5 (-1), 3) := by decide +kernel
theorem dX7_goAcross_47 : decode cX7_goAcross 47 = .ok (.aload_n 0, 1) := by decide +kernel
theorem dX7_goAcross_48 : decode cX7_goAcross 48 = .ok (.getfield 36, 3) := by decide +kernel
theorem dX7_goAcross_51 : decode cX7_goAcross 51 = .ok (.iload 5, 2) := by decide +kernel
theorem dX7_goAcross_53 : decode cX7_goAcross 53 = .ok (.iaload, 1) := by decide +kernel
theorem dX7_goAcross_54 : decode cX7_goAcross 54 = .ok (.istore 6, 2) := by decide +kernel
theorem dX7_goAcross_56 : decode cX7_goAcross 56 = .ok (.aload_n 0, 1) := by decide +kernel
theorem dX7_goAcross_57 : decode cX7_goAcross 57 = .ok (.getfield 39, 3) := by decide +kernel
theorem dX7_goAcross_60 : decode cX7_goAcross 60 = .ok (.iload 5, 2) := by decide +kernel
theorem dX7_goAcross_62 : decode cX7_goAcross 62 = .ok (.iaload, 1) := by decide +kernel
theorem dX7_goAcross_63 : decode cX7_goAcross 63 = .ok (.istore 7, 2) := by decide +kernel
theorem dX7_goAcross_65 : decode cX7_goAcross 65 = .ok (.aload_n 0, 1) := by decide +kernel
theorem dX7_goAcross_66 : decode cX7_goAcross 66 = .ok (.getfield 42, 3) := by decide +kernel
theorem dX7_goAcross_69 : decode cX7_goAcross 69 = .ok (.iload 5, 2) := by decide +kernel
theorem dX7_goAcross_71 : decode cX7_goAcross 71 = .ok (.iaload, 1) := by decide +kernel
theorem dX7_goAcross_72 : decode cX7_goAcross 72 = .ok (.istore 8, 2) := by decide +kernel
theorem dX7_goAcross_74 : decode cX7_goAcross 74 = .ok (.ldc2_w 134, 3) := by decide +kernel
theorem dX7_goAcross_77 : decode cX7_goAcross 77 = .ok (.bipush 64, 2) := by decide +kernel
theorem dX7_goAcross_79 : decode cX7_goAcross 79 = .ok (.iload 6, 2) := by decide +kernel
theorem dX7_goAcross_81 : decode cX7_goAcross 81 = .ok (.ishr, 1) := by decide +kernel
theorem dX7_goAcross_82 : decode cX7_goAcross 82 = .ok (.i2l, 1) := by decide +kernel
theorem dX7_goAcross_83 : decode cX7_goAcross 83 = .ok (.lmul, 1) := by decide +kernel
theorem dX7_goAcross_84 : decode cX7_goAcross 84 = .ok (.iload 4, 2) := by decide +kernel
theorem dX7_goAcross_86 : decode cX7_goAcross 86 = .ok (.i2l, 1) := by decide +kernel
theorem dX7_goAcross_87 : decode cX7_goAcross 87 = .ok (.lmul, 1) := by decide +kernel
theorem dX7_goAcross_88 : decode cX7_goAcross 88 = .ok (.lstore 9, 2) := by decide +kernel
theorem dX7_goAcross_90 : decode cX7_goAcross 90 = .ok (.aload_n 0, 1) := by decide +kernel
theorem dX7_goAcross_91 : decode cX7_goAcross 91 = .ok (.iload 6, 2) := by decide +kernel
theorem dX7_goAcross_93 : decode cX7_goAcross 93 = .ok (.iload 7, 2) := by decide +kernel
theorem dX7_goAcross_95 : decode cX7_goAcross 95 = .ok (.iload 8, 2) := by decide +kernel
theorem dX7_goAcross_97 : decode cX7_goAcross 97 = .ok (.invokevirtual 117, 3) := by decide +kernel
theorem dX7_goAcross_100 : decode cX7_goAcross 100 = .ok (.ifCond .le 240, 3) := by decide +kernel
theorem dX7_goAcross_103 : decode cX7_goAcross 103 = .ok (.ldc2_w 134, 3) := by decide +kernel
theorem dX7_goAcross_106 : decode cX7_goAcross 106 = .ok (.iload_n 1, 1) := by decide +kernel
theorem dX7_goAcross_107 : decode cX7_goAcross 107 = .ok (.i2l, 1) := by decide +kernel
theorem dX7_goAcross_108 : decode cX7_goAcross 108 = .ok (.lmul, 1) := by decide +kernel
theorem dX7_goAcross_109 : decode cX7_goAcross 109 = .ok (.iload 6, 2) := by decide +kernel
theorem dX7_goAcross_111 : decode cX7_goAcross 111 = .ok (.iload 7, 2) := by decide +kernel
theorem dX7_goAcross_113 : decode cX7_goAcross 113 = .ok (.invokestatic 127, 3) := by decide +kernel
theorem dX7_goAcross_116 : decode cX7_goAcross 116 = .ok (.i2l, 1) := by decide +kernel
theorem dX7_goAcross_117 : decode cX7_goAcross 117 = .ok (.lsub, 1) := by decide +kernel
theorem dX7_goAcross_118 : decode cX7_goAcross 118 = .ok (.invokestatic 146, 3) := by decide +kernel
theorem dX7_goAcross_121 : decode cX7_goAcross 121 = .ok (.lload 9, 2) := by decide +kernel
theorem dX7_goAcross_123 : decode cX7_goAcross 123 = .ok (.lcmp, 1) := by decide +kernel
theorem dX7_goAcross_124 : decode cX7_goAcross 124 = .ok (.ifCond .ge 27, 3) := by decide +kernel
theorem dX7_goAcross_127 : decode cX7_goAcross 127 = .ok (.ldc2_w 134, 3) := by decide +kernel
theorem dX7_goAcross_130 : decode cX7_goAcross 130 = .ok (.iload_n 2, 1) := by decide +kernel
theorem dX7_goAcross_131 : decode cX7_goAcross 131 = .ok (.i2l, 1) := by decide +kernel
theorem dX7_goAcross_132 : decode cX7_goAcross 132 = .ok (.lmul, 1) := by decide +kernel
theorem dX7_goAcross_133 : decode cX7_goAcross 133 = .ok (.iload 6, 2) := by decide +kernel
theorem dX7_goAcross_135 : decode cX7_goAcross 135 = .ok (.iload 8, 2) := by decide +kernel
theorem dX7_goAcross_137 : decode cX7_goAcross 137 = .ok (.invokestatic 127, 3) := by decide +kernel
theorem dX7_goAcross_140 : decode cX7_goAcross 140 = .ok (.i2l, 1) := by decide +kernel
theorem dX7_goAcross_141 : decode cX7_goAcross 141 = .ok (.lsub, 1) := by decide +kernel
theorem dX7_goAcross_142 : decode cX7_goAcross 142 = .ok (.invokestatic 146, 3) := by decide +kernel
theorem dX7_goAcross_145 : decode cX7_goAcross 145 = .ok (.lload 9, 2) := by decide +kernel
theorem dX7_goAcross_147 : decode cX7_goAcross 147 = .ok (.lcmp, 1) := by decide +kernel
theorem dX7_goAcross_148 : decode cX7_goAcross 148 = .ok (.ifCond .lt 60, 3) := by decide +kernel
theorem dX7_goAcross_151 : decode cX7_goAcross 151 = .ok (.aload_n 0, 1) := by decide +kernel
theorem dX7_goAcross_152 : decode cX7_goAcross 152 = .ok (.dup, 1) := by decide +kernel
theorem dX7_goAcross_153 : decode cX7_goAcross 153 = .ok (.getfield 153, 3) := by decide +kernel
theorem dX7_goAcross_156 : decode cX7_goAcross 156 = .ok (.aload_n 0, 1) := by decide +kernel
theorem dX7_goAcross_157 : decode cX7_goAcross 157 = .ok (.iload 6, 2) := by decide +kernel
theorem dX7_goAcross_159 : decode cX7_goAcross 159 = .ok (.iload 7, 2) := by decide +kernel
theorem dX7_goAcross_161 : decode cX7_goAcross 161 = .ok (.iload 8, 2) := by decide +kernel
theorem dX7_goAcross_163 : decode cX7_goAcross 163 = .ok (.iload_n 1, 1) := by decide +kernel
theorem dX7_goAcross_164 : decode cX7_goAcross 164 = .ok (.iload_n 2, 1) := by decide +kernel
theorem dX7_goAcross_165 : decode cX7_goAcross 165 = .ok (.iload_n 3, 1) := by decide +kernel
theorem dX7_goAcross_166 : decode cX7_goAcross 166 = .ok (.invokevirtual 160, 3) := by decide +kernel
theorem dX7_goAcross_169 : decode cX7_goAcross 169 = .ok (.ladd, 1) := by decide +kernel
theorem dX7_goAcross_170 : decode cX7_goAcross 170 = .ok (.putfield 153, 3) := by decide +kernel
theorem dX7_goAcross_173 : decode cX7_goAcross 173 = .ok (.aload_n 0, 1) := by decide +kernel
theorem dX7_goAcross_174 : decode cX7_goAcross 174 = .ok (.dup, 1) := by decide +kernel
theorem dX7_goAcross_175 : decode cX7_goAcross 175 = .ok (.getfield 157, 3) := by decide +kernel
theorem dX7_goAcross_178 : decode cX7_goAcross 178 = .ok (.aload_n 0, 1) := by decide +kernel
theorem dX7_goAcross_179 : decode cX7_goAcross 179 = .ok (.iload 6, 2) := by decide +kernel
theorem dX7_goAcross_181 : decode cX7_goAcross 181 = .ok (.iload 7, 2) := by decide +kernel
theorem dX7_goAcross_183 : decode cX7_goAcross 183 = .ok (.iload 8, 2) := by decide +kernel
theorem dX7_goAcross_185 : decode cX7_goAcross 185 = .ok (.iload_n 1, 1) := by decide +kernel
theorem dX7_goAcross_186 : decode cX7_goAcross 186 = .ok (.iload_n 2, 1) := by decide +kernel
theorem dX7_goAcross_187 : decode cX7_goAcross 187 = .ok (.iload_n 3, 1) := by decide +kernel
theorem dX7_goAcross_188 : decode cX7_goAcross 188 = .ok (.invokevirtual 164, 3) := by decide +kernel
theorem dX7_goAcross_191 : decode cX7_goAcross 191 = .ok (.ladd, 1) := by decide +kernel
theorem dX7_goAcross_192 : decode cX7_goAcross 192 = .ok (.putfield 157, 3) := by decide +kernel
theorem dX7_goAcross_195 : decode cX7_goAcross 195 = .ok (.aload_n 0, 1) := by decide +kernel
theorem dX7_goAcross_196 : decode cX7_goAcross 196 = .ok (.iload 6, 2) := by decide +kernel
theorem dX7_goAcross_198 : decode cX7_goAcross 198 = .ok (.iload 7, 2) := by decide +kernel
theorem dX7_goAcross_200 : decode cX7_goAcross 200 = .ok (.iload 8, 2) := by decide +kernel
theorem dX7_goAcross_202 : decode cX7_goAcross 202 = .ok (.invokevirtual 167, 3) := by decide +kernel
theorem dX7_goAcross_205 : decode cX7_goAcross 205 = .ok (.goto 135, 3) := by decide +kernel
theorem dX7_goAcross_208 : decode cX7_goAcross 208 = .ok (.aload_n 0, 1) := by decide +kernel
theorem dX7_goAcross_209 : decode cX7_goAcross 209 = .ok (.iload 6, 2) := by decide +kernel
theorem dX7_goAcross_211 : decode cX7_goAcross 211 = .ok (.iload 7, 2) := by decide +kernel
theorem dX7_goAcross_213 : decode cX7_goAcross 213 = .ok (.iload 8, 2) := by decide +kernel
theorem dX7_goAcross_215 : decode cX7_goAcross 215 = .ok (.invokevirtual 123, 3) := by decide +kernel
theorem dX7_goAcross_218 : decode cX7_goAcross 218 = .ok (.ifCond .eq 66, 3) := by decide +kernel
theorem dX7_goAcross_221 : decode cX7_goAcross 221 = .ok (.iconst 3, 1) := by decide +kernel
theorem dX7_goAcross_222 : decode cX7_goAcross 222 = .ok (.istore 11, 2) := by decide +kernel
theorem dX7_goAcross_224 : decode cX7_goAcross 224 = .ok (.iload 11, 2) := by decide +kernel
theorem dX7_goAcross_226 : decode cX7_goAcross 226 = .ok (.ifCond .lt 55, 3) := by decide +kernel
theorem dX7_goAcross_229 : decode cX7_goAcross 229 = .ok (.aload_n 0, 1) := by decide +kernel
theorem dX7_goAcross_230 : decode cX7_goAcross 230 = .ok (.getfield 36, 3) := by decide +kernel
theorem dX7_goAcross_233 : decode cX7_goAcross 233 = .ok (.iload 5, 2) := by decide +kernel
theorem dX7_goAcross_235 : decode cX7_goAcross 235 = .ok (.iload 6, 2) := by decide +kernel
theorem dX7_goAcross_237 : decode cX7_goAcross 237 = .ok (.iconst 1, 1) := by decide +kernel
theorem dX7_goAcross_238 : decode cX7_goAcross 238 = .ok (.iadd, 1) := by decide +kernel
theorem dX7_goAcross_239 : decode cX7_goAcross 239 = .ok (.iastore, 1) := by decide +kernel
theorem dX7_goAcross_240 : decode cX7_goAcross 240 = .ok (.aload_n 0, 1) := by decide +kernel
theorem dX7_goAcross_241 : decode cX7_goAcross 241 = .ok (.getfield 39, 3) := by decide +kernel
theorem dX7_goAcross_244 : decode cX7_goAcross 244 = .ok (.iload 5, 2) := by decide +kernel
theorem dX7_goAcross_246 : decode cX7_goAcross 246 = .ok (.iconst 2, 1) := by decide +kernel
theorem dX7_goAcross_247 : decode cX7_goAcross 247 = .ok (.iload 7, 2) := by decide +kernel
theorem dX7_goAcross_249 : decode cX7_goAcross 249 = .ok (.imul, 1) := by decide +kernel
theorem dX7_goAcross_250 : decode cX7_goAcross 250 = .ok (.iload 11, 2) := by decide +kernel
theorem dX7_goAcross_252 : decode cX7_goAcross 252 = .ok (.iconst 2, 1) := by decide +kernel
theorem dX7_goAcross_253 : decode cX7_goAcross 253 = .ok (.irem, 1) := by decide +kernel
theorem dX7_goAcross_254 : decode cX7_goAcross 254 = .ok (.iadd, 1) := by decide +kernel
theorem dX7_goAcross_255 : decode cX7_goAcross 255 = .ok (.iastore, 1) := by decide +kernel
theorem dX7_goAcross_256 : decode cX7_goAcross 256 = .ok (.aload_n 0, 1) := by decide +kernel
theorem dX7_goAcross_257 : decode cX7_goAcross 257 = .ok (.getfield 42, 3) := by decide +kernel
theorem dX7_goAcross_260 : decode cX7_goAcross 260 = .ok (.iload 5, 2) := by decide +kernel
theorem dX7_goAcross_262 : decode cX7_goAcross 262 = .ok (.iconst 2, 1) := by decide +kernel
theorem dX7_goAcross_263 : decode cX7_goAcross 263 = .ok (.iload 8, 2) := by decide +kernel
theorem dX7_goAcross_265 : decode cX7_goAcross 265 = .ok (.imul, 1) := by decide +kernel
theorem dX7_goAcross_266 : decode cX7_goAcross 266 = .ok (.iload 11, 2) := by decide +kernel
theorem dX7_goAcross_268 : decode cX7_goAcross 268 = .ok (.iconst 2, 1) := by decide +kernel
theorem dX7_goAcross_269 : decode cX7_goAcross 269 = .ok (.idiv, 1) := by decide +kernel
theorem dX7_goAcross_270 : decode cX7_goAcross 270 = .ok (.iadd, 1) := by decide +kernel
theorem dX7_goAcross_271 : decode cX7_goAcross 271 = .ok (.iastore, 1) := by decide +kernel
theorem dX7_goAcross_272 : decode cX7_goAcross 272 = .ok (.iinc 5 1, 3) := by decide +kernel
theorem dX7_goAcross_275 : decode cX7_goAcross 275 = .ok (.iinc 11 (-1), 3) := by decide +kernel
theorem dX7_goAcross_278 : decode cX7_goAcross 278 = .ok (.goto (-54), 3) := by decide +kernel
theorem dX7_goAcross_281 : decode cX7_goAcross 281 = .ok (.goto 59, 3) := by decide +kernel
theorem dX7_goAcross_284 : decode cX7_goAcross 284 = .ok (.iconst 0, 1) := by decide +kernel
theorem dX7_goAcross_285 : decode cX7_goAcross 285 = .ok (.istore 11, 2) := by decide +kernel
theorem dX7_goAcross_287 : decode cX7_goAcross 287 = .ok (.iload 11, 2) := by decide +kernel
theorem dX7_goAcross_289 : decode cX7_goAcross 289 = .ok (.bipush 40, 2) := by decide +kernel
theorem dX7_goAcross_291 : decode cX7_goAcross 291 = .ok (.if_icmp .ge 49, 3) := by decide +kernel
theorem dX7_goAcross_294 : decode cX7_goAcross 294 = .ok (.aload_n 0, 1) := by decide +kernel
theorem dX7_goAcross_295 : decode cX7_goAcross 295 = .ok (.iload 11, 2) := by decide +kernel
theorem dX7_goAcross_297 : decode cX7_goAcross 297 = .ok (.iload 6, 2) := by decide +kernel
theorem dX7_goAcross_299 : decode cX7_goAcross 299 = .ok (.iload 7, 2) := by decide +kernel
theorem dX7_goAcross_301 : decode cX7_goAcross 301 = .ok (.iload 8, 2) := by decide +kernel
theorem dX7_goAcross_303 : decode cX7_goAcross 303 = .ok (.invokevirtual 113, 3) := by decide +kernel
theorem dX7_goAcross_306 : decode cX7_goAcross 306 = .ok (.ifCond .eq 28, 3) := by decide +kernel
theorem dX7_goAcross_309 : decode cX7_goAcross 309 = .ok (.aload_n 0, 1) := by decide +kernel
theorem dX7_goAcross_310 : decode cX7_goAcross 310 = .ok (.dup, 1) := by decide +kernel
theorem dX7_goAcross_311 : decode cX7_goAcross 311 = .ok (.getfield 153, 3) := by decide +kernel
theorem dX7_goAcross_314 : decode cX7_goAcross 314 = .ok (.aload_n 0, 1) := by decide +kernel
theorem dX7_goAcross_315 : decode cX7_goAcross 315 = .ok (.iload 11, 2) := by decide +kernel
theorem dX7_goAcross_317 : decode cX7_goAcross 317 = .ok (.iload_n 1, 1) := by decide +kernel
theorem dX7_goAcross_318 : decode cX7_goAcross 318 = .ok (.iload_n 2, 1) := by decide +kernel
theorem dX7_goAcross_319 : decode cX7_goAcross 319 = .ok (.invokevirtual 103, 3) := by decide +kernel
theorem dX7_goAcross_322 : decode cX7_goAcross 322 = .ok (.ladd, 1) := by decide +kernel
theorem dX7_goAcross_323 : decode cX7_goAcross 323 = .ok (.putfield 153, 3) := by decide +kernel
theorem dX7_goAcross_326 : decode cX7_goAcross 326 = .ok (.aload_n 0, 1) := by decide +kernel
theorem dX7_goAcross_327 : decode cX7_goAcross 327 = .ok (.iconst (-1), 1) := by decide +kernel
theorem dX7_goAcross_328 : decode cX7_goAcross 328 = .ok (.iload 11, 2) := by decide +kernel
theorem dX7_goAcross_330 : decode cX7_goAcross 330 = .ok (.iconst (-1), 1) := by decide +kernel
theorem dX7_goAcross_331 : decode cX7_goAcross 331 = .ok (.invokevirtual 167, 3) := by decide +kernel
theorem dX7_goAcross_334 : decode cX7_goAcross 334 = .ok (.iinc 11 1, 3) := by decide +kernel
theorem dX7_goAcross_337 : decode cX7_goAcross 337 = .ok (.goto (-50), 3) := by decide +kernel
theorem dX7_goAcross_340 : decode cX7_goAcross 340 = .ok (.goto (-301), 3) := by decide +kernel
theorem dX7_goAcross_343 : decode cX7_goAcross 343 = .ok (.return_, 1) := by decide +kernel
theorem dX7_across_0 : decode cX7_across 0 = .ok (.iload_n 1, 1) := by decide +kernel
theorem dX7_across_1 : decode cX7_across 1 = .ok (.iload_n 2, 1) := by decide +kernel
theorem dX7_across_2 : decode cX7_across 2 = .ok (.invokestatic 68, 3) := by decide +kernel
theorem dX7_across_5 : decode cX7_across 5 = .ok (.ifCond .eq 41, 3) := by decide +kernel
theorem dX7_across_8 : decode cX7_across 8 = .ok (.iload_n 3, 1) := by decide +kernel
theorem dX7_across_9 : decode cX7_across 9 = .ok (.i2l, 1) := by decide +kernel
theorem dX7_across_10 : decode cX7_across 10 = .ok (.lconst 0, 1) := by decide +kernel
theorem dX7_across_11 : decode cX7_across 11 = .ok (.ldc2_w 171, 3) := by decide +kernel
theorem dX7_across_14 : decode cX7_across 14 = .ok (.invokestatic 62, 3) := by decide +kernel
theorem dX7_across_17 : decode cX7_across 17 = .ok (.ifCond .eq 29, 3) := by decide +kernel
theorem dX7_across_20 : decode cX7_across 20 = .ok (.iload 4, 2) := by decide +kernel
theorem dX7_across_22 : decode cX7_across 22 = .ok (.i2l, 1) := by decide +kernel
theorem dX7_across_23 : decode cX7_across 23 = .ok (.lconst 1, 1) := by decide +kernel
theorem dX7_across_24 : decode cX7_across 24 = .ok (.ldc2_w 171, 3) := by decide +kernel
theorem dX7_across_27 : decode cX7_across 27 = .ok (.invokestatic 62, 3) := by decide +kernel
theorem dX7_across_30 : decode cX7_across 30 = .ok (.ifCond .eq 16, 3) := by decide +kernel
theorem dX7_across_33 : decode cX7_across 33 = .ok (.iload 5, 2) := by decide +kernel
theorem dX7_across_35 : decode cX7_across 35 = .ok (.i2l, 1) := by decide +kernel
theorem dX7_across_36 : decode cX7_across 36 = .ok (.lconst 0, 1) := by decide +kernel
theorem dX7_across_37 : decode cX7_across 37 = .ok (.ldc2_w 134, 3) := by decide +kernel
theorem dX7_across_40 : decode cX7_across 40 = .ok (.invokestatic 62, 3) := by decide +kernel
theorem dX7_across_43 : decode cX7_across 43 = .ok (.ifCond .ne 7, 3) := by decide +kernel
theorem dX7_across_46 : decode cX7_across 46 = .ok (.ldc2_w 111, 3) := by decide +kernel
theorem dX7_across_49 : decode cX7_across 49 = .ok (.lreturn, 1) := by decide +kernel
theorem dX7_across_50 : decode cX7_across 50 = .ok (.aload_n 0, 1) := by decide +kernel
theorem dX7_across_51 : decode cX7_across 51 = .ok (.iload_n 1, 1) := by decide +kernel
theorem dX7_across_52 : decode cX7_across 52 = .ok (.iload_n 2, 1) := by decide +kernel
theorem dX7_across_53 : decode cX7_across 53 = .ok (.iload_n 3, 1) := by decide +kernel
theorem dX7_across_54 : decode cX7_across 54 = .ok (.iload 4, 2) := by decide +kernel
theorem dX7_across_56 : decode cX7_across 56 = .ok (.invokevirtual 173, 3) := by decide +kernel
theorem dX7_across_59 : decode cX7_across 59 = .ok (.iload 5, 2) := by decide +kernel
theorem dX7_across_61 : decode cX7_across 61 = .ok (.ifCond .ne 10, 3) := by decide +kernel
theorem dX7_across_64 : decode cX7_across 64 = .ok (.aload_n 0, 1) := by decide +kernel
theorem dX7_across_65 : decode cX7_across 65 = .ok (.getfield 153, 3) := by decide +kernel
theorem dX7_across_68 : decode cX7_across 68 = .ok (.goto 21, 3) := by decide +kernel
theorem dX7_across_71 : decode cX7_across 71 = .ok (.iload 5, 2) := by decide +kernel
theorem dX7_across_73 : decode cX7_across 73 = .ok (.iconst 1, 1) := by decide +kernel
theorem dX7_across_74 : decode cX7_across 74 = .ok (.if_icmp .ne 10, 3) := by decide +kernel
theorem dX7_across_77 : decode cX7_across 77 = .ok (.aload_n 0, 1) := by decide +kernel
theorem dX7_across_78 : decode cX7_across 78 = .ok (.getfield 157, 3) := by decide +kernel
theorem dX7_across_81 : decode cX7_across 81 = .ok (.goto 8, 3) := by decide +kernel
theorem dX7_across_84 : decode cX7_across 84 = .ok (.aload_n 0, 1) := by decide +kernel
theorem dX7_across_85 : decode cX7_across 85 = .ok (.getfield 150, 3) := by decide +kernel
theorem dX7_across_88 : decode cX7_across 88 = .ok (.i2l, 1) := by decide +kernel
theorem dX7_across_89 : decode cX7_across 89 = .ok (.lreturn, 1) := by decide +kernel
theorem dX7_order_0 : decode cX7_order 0 = .ok (.iload_n 1, 1) := by decide +kernel
theorem dX7_order_1 : decode cX7_order 1 = .ok (.iload_n 2, 1) := by decide +kernel
theorem dX7_order_2 : decode cX7_order 2 = .ok (.invokestatic 68, 3) := by decide +kernel
theorem dX7_order_5 : decode cX7_order 5 = .ok (.ifCond .eq 22, 3) := by decide +kernel
theorem dX7_order_8 : decode cX7_order 8 = .ok (.iload_n 3, 1) := by decide +kernel
theorem dX7_order_9 : decode cX7_order 9 = .ok (.i2l, 1) := by decide +kernel
theorem dX7_order_10 : decode cX7_order 10 = .ok (.lconst 1, 1) := by decide +kernel
theorem dX7_order_11 : decode cX7_order 11 = .ok (.ldc2_w 171, 3) := by decide +kernel
theorem dX7_order_14 : decode cX7_order 14 = .ok (.invokestatic 62, 3) := by decide +kernel
theorem dX7_order_17 : decode cX7_order 17 = .ok (.ifCond .eq 10, 3) := by decide +kernel
theorem dX7_order_20 : decode cX7_order 20 = .ok (.lload 4, 2) := by decide +kernel
theorem dX7_order_22 : decode cX7_order 22 = .ok (.lconst 0, 1) := by decide +kernel
theorem dX7_order_23 : decode cX7_order 23 = .ok (.lcmp, 1) := by decide +kernel
theorem dX7_order_24 : decode cX7_order 24 = .ok (.ifCond .ge 6, 3) := by decide +kernel
theorem dX7_order_27 : decode cX7_order 27 = .ok (.bipush (-2), 2) := by decide +kernel
theorem dX7_order_29 : decode cX7_order 29 = .ok (.ireturn, 1) := by decide +kernel
theorem dX7_order_30 : decode cX7_order 30 = .ok (.iconst 0, 1) := by decide +kernel
theorem dX7_order_31 : decode cX7_order 31 = .ok (.istore 6, 2) := by decide +kernel
theorem dX7_order_33 : decode cX7_order 33 = .ok (.aload_n 0, 1) := by decide +kernel
theorem dX7_order_34 : decode cX7_order 34 = .ok (.iload_n 1, 1) := by decide +kernel
theorem dX7_order_35 : decode cX7_order 35 = .ok (.iload_n 2, 1) := by decide +kernel
theorem dX7_order_36 : decode cX7_order 36 = .ok (.iload 6, 2) := by decide +kernel
theorem dX7_order_38 : decode cX7_order 38 = .ok (.iload_n 3, 1) := by decide +kernel
theorem dX7_order_39 : decode cX7_order 39 = .ok (.invokevirtual 173, 3) := by decide +kernel
theorem dX7_order_42 : decode cX7_order 42 = .ok (.aload_n 0, 1) := by decide +kernel
theorem dX7_order_43 : decode cX7_order 43 = .ok (.getfield 157, 3) := by decide +kernel
theorem dX7_order_46 : decode cX7_order 46 = .ok (.lload 4, 2) := by decide +kernel
theorem dX7_order_48 : decode cX7_order 48 = .ok (.lcmp, 1) := by decide +kernel
theorem dX7_order_49 : decode cX7_order 49 = .ok (.ifCond .le 18, 3) := by decide +kernel
theorem dX7_order_52 : decode cX7_order 52 = .ok (.iinc 6 1, 3) := by decide +kernel
theorem dX7_order_55 : decode cX7_order 55 = .ok (.aload_n 0, 1) := by decide +kernel
theorem dX7_order_56 : decode cX7_order 56 = .ok (.iload_n 1, 1) := by decide +kernel
theorem dX7_order_57 : decode cX7_order 57 = .ok (.iload_n 2, 1) := by decide +kernel
theorem dX7_order_58 : decode cX7_order 58 = .ok (.iload 6, 2) := by decide +kernel
theorem dX7_order_60 : decode cX7_order 60 = .ok (.iload_n 3, 1) := by decide +kernel
theorem dX7_order_61 : decode cX7_order 61 = .ok (.invokevirtual 173, 3) := by decide +kernel
theorem dX7_order_64 : decode cX7_order 64 = .ok (.goto (-22), 3) := by decide +kernel
theorem dX7_order_67 : decode cX7_order 67 = .ok (.iload 6, 2) := by decide +kernel
theorem dX7_order_69 : decode cX7_order 69 = .ok (.ireturn, 1) := by decide +kernel
theorem dX7_way_0 : decode cX7_way 0 = .ok (.iload_n 1, 1) := by decide +kernel
theorem dX7_way_1 : decode cX7_way 1 = .ok (.iload_n 2, 1) := by decide +kernel
theorem dX7_way_2 : decode cX7_way 2 = .ok (.invokestatic 68, 3) := by decide +kernel
theorem dX7_way_5 : decode cX7_way 5 = .ok (.ifCond .eq 33, 3) := by decide +kernel
theorem dX7_way_8 : decode cX7_way 8 = .ok (.iload_n 3, 1) := by decide +kernel
theorem dX7_way_9 : decode cX7_way 9 = .ok (.i2l, 1) := by decide +kernel
theorem dX7_way_10 : decode cX7_way 10 = .ok (.lconst 1, 1) := by decide +kernel
theorem dX7_way_11 : decode cX7_way 11 = .ok (.ldc2_w 171, 3) := by decide +kernel
theorem dX7_way_14 : decode cX7_way 14 = .ok (.invokestatic 62, 3) := by decide +kernel
theorem dX7_way_17 : decode cX7_way 17 = .ok (.ifCond .eq 21, 3) := by decide +kernel
theorem dX7_way_20 : decode cX7_way 20 = .ok (.iload 4, 2) := by decide +kernel
theorem dX7_way_22 : decode cX7_way 22 = .ok (.ifCond .lt 16, 3) := by decide +kernel
theorem dX7_way_25 : decode cX7_way 25 = .ok (.iload 5, 2) := by decide +kernel
theorem dX7_way_27 : decode cX7_way 27 = .ok (.i2l, 1) := by decide +kernel
theorem dX7_way_28 : decode cX7_way 28 = .ok (.lconst 0, 1) := by decide +kernel
theorem dX7_way_29 : decode cX7_way 29 = .ok (.ldc2_w 134, 3) := by decide +kernel
theorem dX7_way_32 : decode cX7_way 32 = .ok (.invokestatic 62, 3) := by decide +kernel
theorem dX7_way_35 : decode cX7_way 35 = .ok (.ifCond .ne 6, 3) := by decide +kernel
theorem dX7_way_38 : decode cX7_way 38 = .ok (.bipush (-2), 2) := by decide +kernel
theorem dX7_way_40 : decode cX7_way 40 = .ok (.ireturn, 1) := by decide +kernel
theorem dX7_way_41 : decode cX7_way 41 = .ok (.aload_n 0, 1) := by decide +kernel
theorem dX7_way_42 : decode cX7_way 42 = .ok (.iload_n 1, 1) := by decide +kernel
theorem dX7_way_43 : decode cX7_way 43 = .ok (.iload_n 2, 1) := by decide +kernel
theorem dX7_way_44 : decode cX7_way 44 = .ok (.iconst 0, 1) := by decide +kernel
theorem dX7_way_45 : decode cX7_way 45 = .ok (.iload_n 3, 1) := by decide +kernel
theorem dX7_way_46 : decode cX7_way 46 = .ok (.invokevirtual 173, 3) := by decide +kernel
theorem dX7_way_49 : decode cX7_way 49 = .ok (.iload 4, 2) := by decide +kernel
theorem dX7_way_51 : decode cX7_way 51 = .ok (.aload_n 0, 1) := by decide +kernel
theorem dX7_way_52 : decode cX7_way 52 = .ok (.getfield 150, 3) := by decide +kernel
theorem dX7_way_55 : decode cX7_way 55 = .ok (.if_icmp .lt 5, 3) := by decide +kernel
theorem dX7_way_58 : decode cX7_way 58 = .ok (.iconst (-1), 1) := by decide +kernel
theorem dX7_way_59 : decode cX7_way 59 = .ok (.ireturn, 1) := by decide +kernel
theorem dX7_way_60 : decode cX7_way 60 = .ok (.iload 5, 2) := by decide +kernel
theorem dX7_way_62 : decode cX7_way 62 = .ok (.ifCond .ne 13, 3) := by decide +kernel
theorem dX7_way_65 : decode cX7_way 65 = .ok (.aload_n 0, 1) := by decide +kernel
theorem dX7_way_66 : decode cX7_way 66 = .ok (.getfield 45, 3) := by decide +kernel
theorem dX7_way_69 : decode cX7_way 69 = .ok (.iload 4, 2) := by decide +kernel
theorem dX7_way_71 : decode cX7_way 71 = .ok (.iaload, 1) := by decide +kernel
theorem dX7_way_72 : decode cX7_way 72 = .ok (.goto 26, 3) := by decide +kernel
theorem dX7_way_75 : decode cX7_way 75 = .ok (.iload 5, 2) := by decide +kernel
theorem dX7_way_77 : decode cX7_way 77 = .ok (.iconst 1, 1) := by decide +kernel
theorem dX7_way_78 : decode cX7_way 78 = .ok (.if_icmp .ne 13, 3) := by decide +kernel
theorem dX7_way_81 : decode cX7_way 81 = .ok (.aload_n 0, 1) := by decide +kernel
theorem dX7_way_82 : decode cX7_way 82 = .ok (.getfield 48, 3) := by decide +kernel
theorem dX7_way_85 : decode cX7_way 85 = .ok (.iload 4, 2) := by decide +kernel
theorem dX7_way_87 : decode cX7_way 87 = .ok (.iaload, 1) := by decide +kernel
theorem dX7_way_88 : decode cX7_way 88 = .ok (.goto 10, 3) := by decide +kernel
theorem dX7_way_91 : decode cX7_way 91 = .ok (.aload_n 0, 1) := by decide +kernel
theorem dX7_way_92 : decode cX7_way 92 = .ok (.getfield 51, 3) := by decide +kernel
theorem dX7_way_95 : decode cX7_way 95 = .ok (.iload 4, 2) := by decide +kernel
theorem dX7_way_97 : decode cX7_way 97 = .ok (.iaload, 1) := by decide +kernel
theorem dX7_way_98 : decode cX7_way 98 = .ok (.ireturn, 1) := by decide +kernel
theorem dX7_farOf_0 : decode cX7_farOf 0 = .ok (.aload_n 0, 1) := by decide +kernel
theorem dX7_farOf_1 : decode cX7_farOf 1 = .ok (.getfield 13, 3) := by decide +kernel
theorem dX7_farOf_4 : decode cX7_farOf 4 = .ok (.iload_n 1, 1) := by decide +kernel
theorem dX7_farOf_5 : decode cX7_farOf 5 = .ok (.iaload, 1) := by decide +kernel
theorem dX7_farOf_6 : decode cX7_farOf 6 = .ok (.iload_n 2, 1) := by decide +kernel
theorem dX7_farOf_7 : decode cX7_farOf 7 = .ok (.isub, 1) := by decide +kernel
theorem dX7_farOf_8 : decode cX7_farOf 8 = .ok (.aload_n 0, 1) := by decide +kernel
theorem dX7_farOf_9 : decode cX7_farOf 9 = .ok (.getfield 13, 3) := by decide +kernel
theorem dX7_farOf_12 : decode cX7_farOf 12 = .ok (.iload_n 1, 1) := by decide +kernel
theorem dX7_farOf_13 : decode cX7_farOf 13 = .ok (.iaload, 1) := by decide +kernel
theorem dX7_farOf_14 : decode cX7_farOf 14 = .ok (.iload_n 2, 1) := by decide +kernel
theorem dX7_farOf_15 : decode cX7_farOf 15 = .ok (.isub, 1) := by decide +kernel
theorem dX7_farOf_16 : decode cX7_farOf 16 = .ok (.imul, 1) := by decide +kernel
theorem dX7_farOf_17 : decode cX7_farOf 17 = .ok (.aload_n 0, 1) := by decide +kernel
theorem dX7_farOf_18 : decode cX7_farOf 18 = .ok (.getfield 17, 3) := by decide +kernel
theorem dX7_farOf_21 : decode cX7_farOf 21 = .ok (.iload_n 1, 1) := by decide +kernel
theorem dX7_farOf_22 : decode cX7_farOf 22 = .ok (.iaload, 1) := by decide +kernel
theorem dX7_farOf_23 : decode cX7_farOf 23 = .ok (.iload_n 3, 1) := by decide +kernel
theorem dX7_farOf_24 : decode cX7_farOf 24 = .ok (.isub, 1) := by decide +kernel
theorem dX7_farOf_25 : decode cX7_farOf 25 = .ok (.aload_n 0, 1) := by decide +kernel
theorem dX7_farOf_26 : decode cX7_farOf 26 = .ok (.getfield 17, 3) := by decide +kernel
theorem dX7_farOf_29 : decode cX7_farOf 29 = .ok (.iload_n 1, 1) := by decide +kernel
theorem dX7_farOf_30 : decode cX7_farOf 30 = .ok (.iaload, 1) := by decide +kernel
theorem dX7_farOf_31 : decode cX7_farOf 31 = .ok (.iload_n 3, 1) := by decide +kernel
theorem dX7_farOf_32 : decode cX7_farOf 32 = .ok (.isub, 1) := by decide +kernel
theorem dX7_farOf_33 : decode cX7_farOf 33 = .ok (.imul, 1) := by decide +kernel
theorem dX7_farOf_34 : decode cX7_farOf 34 = .ok (.iadd, 1) := by decide +kernel
theorem dX7_farOf_35 : decode cX7_farOf 35 = .ok (.ireturn, 1) := by decide +kernel
theorem dX7_nearest_0 : decode cX7_nearest 0 = .ok (.iload_n 1, 1) := by decide +kernel
theorem dX7_nearest_1 : decode cX7_nearest 1 = .ok (.iload_n 2, 1) := by decide +kernel
theorem dX7_nearest_2 : decode cX7_nearest 2 = .ok (.invokestatic 68, 3) := by decide +kernel
theorem dX7_nearest_5 : decode cX7_nearest 5 = .ok (.ifCond .eq 7, 3) := by decide +kernel
theorem dX7_nearest_8 : decode cX7_nearest 8 = .ok (.iload_n 3, 1) := by decide +kernel
theorem dX7_nearest_9 : decode cX7_nearest 9 = .ok (.ifCond .ge 6, 3) := by decide +kernel
theorem dX7_nearest_12 : decode cX7_nearest 12 = .ok (.bipush (-2), 2) := by decide +kernel
theorem dX7_nearest_14 : decode cX7_nearest 14 = .ok (.ireturn, 1) := by decide +kernel
theorem dX7_nearest_15 : decode cX7_nearest 15 = .ok (.iconst 0, 1) := by decide +kernel
theorem dX7_nearest_16 : decode cX7_nearest 16 = .ok (.istore 4, 2) := by decide +kernel
theorem dX7_nearest_18 : decode cX7_nearest 18 = .ok (.iload 4, 2) := by decide +kernel
theorem dX7_nearest_20 : decode cX7_nearest 20 = .ok (.bipush 40, 2) := by decide +kernel
theorem dX7_nearest_22 : decode cX7_nearest 22 = .ok (.if_icmp .ge 112, 3) := by decide +kernel
theorem dX7_nearest_25 : decode cX7_nearest 25 = .ok (.aload_n 0, 1) := by decide +kernel
theorem dX7_nearest_26 : decode cX7_nearest 26 = .ok (.getfield 7, 3) := by decide +kernel
theorem dX7_nearest_29 : decode cX7_nearest 29 = .ok (.iload 4, 2) := by decide +kernel
theorem dX7_nearest_31 : decode cX7_nearest 31 = .ok (.baload, 1) := by decide +kernel
theorem dX7_nearest_32 : decode cX7_nearest 32 = .ok (.ifCond .eq 96, 3) := by decide +kernel
theorem dX7_nearest_35 : decode cX7_nearest 35 = .ok (.iconst 0, 1) := by decide +kernel
theorem dX7_nearest_36 : decode cX7_nearest 36 = .ok (.istore 5, 2) := by decide +kernel
theorem dX7_nearest_38 : decode cX7_nearest 38 = .ok (.iconst 0, 1) := by decide +kernel
theorem dX7_nearest_39 : decode cX7_nearest 39 = .ok (.istore 6, 2) := by decide +kernel
theorem dX7_nearest_41 : decode cX7_nearest 41 = .ok (.iload 6, 2) := by decide +kernel
theorem dX7_nearest_43 : decode cX7_nearest 43 = .ok (.bipush 40, 2) := by decide +kernel
theorem dX7_nearest_45 : decode cX7_nearest 45 = .ok (.if_icmp .ge 74, 3) := by decide +kernel
theorem dX7_nearest_48 : decode cX7_nearest 48 = .ok (.iload 5, 2) := by decide +kernel
theorem dX7_nearest_50 : decode cX7_nearest 50 = .ok (.aload_n 0, 1) := by decide +kernel
theorem dX7_nearest_51 : decode cX7_nearest 51 = .ok (.getfield 7, 3) := by decide +kernel
theorem dX7_nearest_54 : decode cX7_nearest 54 = .ok (.iload 6, 2) := by decide +kernel
theorem dX7_nearest_56 : decode cX7_nearest 56 = .ok (.baload, 1) := by decide +kernel
theorem dX7_nearest_57 : decode cX7_nearest 57 = .ok (.ifCond .eq 52, 3) := by decide +kernel
theorem dX7_nearest_60 : decode cX7_nearest 60 = .ok (.aload_n 0, 1) := by decide +kernel
theorem dX7_nearest_61 : decode cX7_nearest 61 = .ok (.iload 6, 2) := by decide +kernel
theorem dX7_nearest_63 : decode cX7_nearest 63 = .ok (.iload_n 1, 1) := by decide +kernel
theorem dX7_nearest_64 : decode cX7_nearest 64 = .ok (.iload_n 2, 1) := by decide +kernel
theorem dX7_nearest_65 : decode cX7_nearest 65 = .ok (.invokevirtual 177, 3) := by decide +kernel
theorem dX7_nearest_68 : decode cX7_nearest 68 = .ok (.aload_n 0, 1) := by decide +kernel
theorem dX7_nearest_69 : decode cX7_nearest 69 = .ok (.iload 4, 2) := by decide +kernel
theorem dX7_nearest_71 : decode cX7_nearest 71 = .ok (.iload_n 1, 1) := by decide +kernel
theorem dX7_nearest_72 : decode cX7_nearest 72 = .ok (.iload_n 2, 1) := by decide +kernel
theorem dX7_nearest_73 : decode cX7_nearest 73 = .ok (.invokevirtual 177, 3) := by decide +kernel
theorem dX7_nearest_76 : decode cX7_nearest 76 = .ok (.if_icmp .lt 29, 3) := by decide +kernel
theorem dX7_nearest_79 : decode cX7_nearest 79 = .ok (.aload_n 0, 1) := by decide +kernel
theorem dX7_nearest_80 : decode cX7_nearest 80 = .ok (.iload 6, 2) := by decide +kernel
theorem dX7_nearest_82 : decode cX7_nearest 82 = .ok (.iload_n 1, 1) := by decide +kernel
theorem dX7_nearest_83 : decode cX7_nearest 83 = .ok (.iload_n 2, 1) := by decide +kernel
theorem dX7_nearest_84 : decode cX7_nearest 84 = .ok (.invokevirtual 177, 3) := by decide +kernel
theorem dX7_nearest_87 : decode cX7_nearest 87 = .ok (.aload_n 0, 1) := by decide +kernel
theorem dX7_nearest_88 : decode cX7_nearest 88 = .ok (.iload 4, 2) := by decide +kernel
theorem dX7_nearest_90 : decode cX7_nearest 90 = .ok (.iload_n 1, 1) := by decide +kernel
theorem dX7_nearest_91 : decode cX7_nearest 91 = .ok (.iload_n 2, 1) := by decide +kernel
theorem dX7_nearest_92 : decode cX7_nearest 92 = .ok (.invokevirtual 177, 3) := by decide +kernel
theorem dX7_nearest_95 : decode cX7_nearest 95 = .ok (.if_icmp .ne 14, 3) := by decide +kernel
theorem dX7_nearest_98 : decode cX7_nearest 98 = .ok (.iload 6, 2) := by decide +kernel
theorem dX7_nearest_100 : decode cX7_nearest 100 = .ok (.iload 4, 2) := by decide +kernel
theorem dX7_nearest_102 : decode cX7_nearest 102 = .ok (.if_icmp .ge 7, 3) := by decide +kernel
theorem dX7_nearest_105 : decode cX7_nearest 105 = .ok (.iconst 1, 1) := by decide +kernel
theorem dX7_nearest_106 : decode cX7_nearest 106 = .ok (.goto 4, 3) := by decide +kernel
theorem dX7_nearest_109 : decode cX7_nearest 109 = .ok (.iconst 0, 1) := by decide +kernel
theorem dX7_nearest_110 : decode cX7_nearest 110 = .ok (.iadd, 1) := by decide +kernel
theorem dX7_nearest_111 : decode cX7_nearest 111 = .ok (.istore 5, 2) := by decide +kernel
theorem dX7_nearest_113 : decode cX7_nearest 113 = .ok (.iinc 6 1, 3) := by decide +kernel
theorem dX7_nearest_116 : decode cX7_nearest 116 = .ok (.goto (-75), 3) := by decide +kernel
theorem dX7_nearest_119 : decode cX7_nearest 119 = .ok (.iload 5, 2) := by decide +kernel
theorem dX7_nearest_121 : decode cX7_nearest 121 = .ok (.iload_n 3, 1) := by decide +kernel
theorem dX7_nearest_122 : decode cX7_nearest 122 = .ok (.if_icmp .ne 6, 3) := by decide +kernel
theorem dX7_nearest_125 : decode cX7_nearest 125 = .ok (.iload 4, 2) := by decide +kernel
theorem dX7_nearest_127 : decode cX7_nearest 127 = .ok (.ireturn, 1) := by decide +kernel
theorem dX7_nearest_128 : decode cX7_nearest 128 = .ok (.iinc 4 1, 3) := by decide +kernel
theorem dX7_nearest_131 : decode cX7_nearest 131 = .ok (.goto (-113), 3) := by decide +kernel
theorem dX7_nearest_134 : decode cX7_nearest 134 = .ok (.iconst (-1), 1) := by decide +kernel
theorem dX7_nearest_135 : decode cX7_nearest 135 = .ok (.ireturn, 1) := by decide +kernel
theorem dX7_push_0 : decode cX7_push 0 = .ok (.lload_n 0, 1) := by decide +kernel
theorem dX7_push_1 : decode cX7_push 1 = .ok (.lload_n 2, 1) := by decide +kernel
theorem dX7_push_2 : decode cX7_push 2 = .ok (.lsub, 1) := by decide +kernel
theorem dX7_push_3 : decode cX7_push 3 = .ok (.bipush 12, 2) := by decide +kernel
theorem dX7_push_5 : decode cX7_push 5 = .ok (.lshr, 1) := by decide +kernel
theorem dX7_push_6 : decode cX7_push 6 = .ok (.ldc2_w 180, 3) := by decide +kernel
theorem dX7_push_9 : decode cX7_push 9 = .ok (.ladd, 1) := by decide +kernel
theorem dX7_push_10 : decode cX7_push 10 = .ok (.ldc2_w 60, 3) := by decide +kernel
theorem dX7_push_13 : decode cX7_push 13 = .ok (.land, 1) := by decide +kernel
theorem dX7_push_14 : decode cX7_push 14 = .ok (.l2i, 1) := by decide +kernel
theorem dX7_push_15 : decode cX7_push 15 = .ok (.bipush 32, 2) := by decide +kernel
theorem dX7_push_17 : decode cX7_push 17 = .ok (.isub, 1) := by decide +kernel
theorem dX7_push_18 : decode cX7_push 18 = .ok (.ireturn, 1) := by decide +kernel
theorem dX7_findPushes_0 : decode cX7_findPushes 0 = .ok (.iconst 0, 1) := by decide +kernel
theorem dX7_findPushes_1 : decode cX7_findPushes 1 = .ok (.istore_n 1, 1) := by decide +kernel
theorem dX7_findPushes_2 : decode cX7_findPushes 2 = .ok (.iload_n 1, 1) := by decide +kernel
theorem dX7_findPushes_3 : decode cX7_findPushes 3 = .ok (.bipush 40, 2) := by decide +kernel
theorem dX7_findPushes_5 : decode cX7_findPushes 5 = .ok (.if_icmp .ge 108, 3) := by decide +kernel
theorem dX7_findPushes_8 : decode cX7_findPushes 8 = .ok (.aload_n 0, 1) := by decide +kernel
theorem dX7_findPushes_9 : decode cX7_findPushes 9 = .ok (.getfield 7, 3) := by decide +kernel
theorem dX7_findPushes_12 : decode cX7_findPushes 12 = .ok (.iload_n 1, 1) := by decide +kernel
theorem dX7_findPushes_13 : decode cX7_findPushes 13 = .ok (.baload, 1) := by decide +kernel
theorem dX7_findPushes_14 : decode cX7_findPushes 14 = .ok (.ifCond .eq 93, 3) := by decide +kernel
theorem dX7_findPushes_17 : decode cX7_findPushes 17 = .ok (.aload_n 0, 1) := by decide +kernel
theorem dX7_findPushes_18 : decode cX7_findPushes 18 = .ok (.getfield 54, 3) := by decide +kernel
theorem dX7_findPushes_21 : decode cX7_findPushes 21 = .ok (.iload_n 1, 1) := by decide +kernel
theorem dX7_findPushes_22 : decode cX7_findPushes 22 = .ok (.aload_n 0, 1) := by decide +kernel
theorem dX7_findPushes_23 : decode cX7_findPushes 23 = .ok (.aload_n 0, 1) := by decide +kernel
theorem dX7_findPushes_24 : decode cX7_findPushes 24 = .ok (.getfield 13, 3) := by decide +kernel
theorem dX7_findPushes_27 : decode cX7_findPushes 27 = .ok (.iload_n 1, 1) := by decide +kernel
theorem dX7_findPushes_28 : decode cX7_findPushes 28 = .ok (.iaload, 1) := by decide +kernel
theorem dX7_findPushes_29 : decode cX7_findPushes 29 = .ok (.iconst 1, 1) := by decide +kernel
theorem dX7_findPushes_30 : decode cX7_findPushes 30 = .ok (.iadd, 1) := by decide +kernel
theorem dX7_findPushes_31 : decode cX7_findPushes 31 = .ok (.aload_n 0, 1) := by decide +kernel
theorem dX7_findPushes_32 : decode cX7_findPushes 32 = .ok (.getfield 17, 3) := by decide +kernel
theorem dX7_findPushes_35 : decode cX7_findPushes 35 = .ok (.iload_n 1, 1) := by decide +kernel
theorem dX7_findPushes_36 : decode cX7_findPushes 36 = .ok (.iaload, 1) := by decide +kernel
theorem dX7_findPushes_37 : decode cX7_findPushes 37 = .ok (.invokevirtual 107, 3) := by decide +kernel
theorem dX7_findPushes_40 : decode cX7_findPushes 40 = .ok (.aload_n 0, 1) := by decide +kernel
theorem dX7_findPushes_41 : decode cX7_findPushes 41 = .ok (.aload_n 0, 1) := by decide +kernel
theorem dX7_findPushes_42 : decode cX7_findPushes 42 = .ok (.getfield 13, 3) := by decide +kernel
theorem dX7_findPushes_45 : decode cX7_findPushes 45 = .ok (.iload_n 1, 1) := by decide +kernel
theorem dX7_findPushes_46 : decode cX7_findPushes 46 = .ok (.iaload, 1) := by decide +kernel
theorem dX7_findPushes_47 : decode cX7_findPushes 47 = .ok (.iconst 1, 1) := by decide +kernel
theorem dX7_findPushes_48 : decode cX7_findPushes 48 = .ok (.isub, 1) := by decide +kernel
theorem dX7_findPushes_49 : decode cX7_findPushes 49 = .ok (.aload_n 0, 1) := by decide +kernel
theorem dX7_findPushes_50 : decode cX7_findPushes 50 = .ok (.getfield 17, 3) := by decide +kernel
theorem dX7_findPushes_53 : decode cX7_findPushes 53 = .ok (.iload_n 1, 1) := by decide +kernel
theorem dX7_findPushes_54 : decode cX7_findPushes 54 = .ok (.iaload, 1) := by decide +kernel
theorem dX7_findPushes_55 : decode cX7_findPushes 55 = .ok (.invokevirtual 107, 3) := by decide +kernel
theorem dX7_findPushes_58 : decode cX7_findPushes 58 = .ok (.invokestatic 182, 3) := by decide +kernel
theorem dX7_findPushes_61 : decode cX7_findPushes 61 = .ok (.iastore, 1) := by decide +kernel
theorem dX7_findPushes_62 : decode cX7_findPushes 62 = .ok (.aload_n 0, 1) := by decide +kernel
theorem dX7_findPushes_63 : decode cX7_findPushes 63 = .ok (.getfield 57, 3) := by decide +kernel
theorem dX7_findPushes_66 : decode cX7_findPushes 66 = .ok (.iload_n 1, 1) := by decide +kernel
theorem dX7_findPushes_67 : decode cX7_findPushes 67 = .ok (.aload_n 0, 1) := by decide +kernel
theorem dX7_findPushes_68 : decode cX7_findPushes 68 = .ok (.aload_n 0, 1) := by decide +kernel
theorem dX7_findPushes_69 : decode cX7_findPushes 69 = .ok (.getfield 13, 3) := by decide +kernel
theorem dX7_findPushes_72 : decode cX7_findPushes 72 = .ok (.iload_n 1, 1) := by decide +kernel
theorem dX7_findPushes_73 : decode cX7_findPushes 73 = .ok (.iaload, 1) := by decide +kernel
theorem dX7_findPushes_74 : decode cX7_findPushes 74 = .ok (.aload_n 0, 1) := by decide +kernel
theorem dX7_findPushes_75 : decode cX7_findPushes 75 = .ok (.getfield 17, 3) := by decide +kernel
theorem dX7_findPushes_78 : decode cX7_findPushes 78 = .ok (.iload_n 1, 1) := by decide +kernel
theorem dX7_findPushes_79 : decode cX7_findPushes 79 = .ok (.iaload, 1) := by decide +kernel
theorem dX7_findPushes_80 : decode cX7_findPushes 80 = .ok (.iconst 1, 1) := by decide +kernel
theorem dX7_findPushes_81 : decode cX7_findPushes 81 = .ok (.iadd, 1) := by decide +kernel
theorem dX7_findPushes_82 : decode cX7_findPushes 82 = .ok (.invokevirtual 107, 3) := by decide +kernel
theorem dX7_findPushes_85 : decode cX7_findPushes 85 = .ok (.aload_n 0, 1) := by decide +kernel
theorem dX7_findPushes_86 : decode cX7_findPushes 86 = .ok (.aload_n 0, 1) := by decide +kernel
theorem dX7_findPushes_87 : decode cX7_findPushes 87 = .ok (.getfield 13, 3) := by decide +kernel
theorem dX7_findPushes_90 : decode cX7_findPushes 90 = .ok (.iload_n 1, 1) := by decide +kernel
theorem dX7_findPushes_91 : decode cX7_findPushes 91 = .ok (.iaload, 1) := by decide +kernel
theorem dX7_findPushes_92 : decode cX7_findPushes 92 = .ok (.aload_n 0, 1) := by decide +kernel
theorem dX7_findPushes_93 : decode cX7_findPushes 93 = .ok (.getfield 17, 3) := by decide +kernel
theorem dX7_findPushes_96 : decode cX7_findPushes 96 = .ok (.iload_n 1, 1) := by decide +kernel
theorem dX7_findPushes_97 : decode cX7_findPushes 97 = .ok (.iaload, 1) := by decide +kernel
theorem dX7_findPushes_98 : decode cX7_findPushes 98 = .ok (.iconst 1, 1) := by decide +kernel
theorem dX7_findPushes_99 : decode cX7_findPushes 99 = .ok (.isub, 1) := by decide +kernel
theorem dX7_findPushes_100 : decode cX7_findPushes 100 = .ok (.invokevirtual 107, 3) := by decide +kernel
theorem dX7_findPushes_103 : decode cX7_findPushes 103 = .ok (.invokestatic 182, 3) := by decide +kernel
theorem dX7_findPushes_106 : decode cX7_findPushes 106 = .ok (.iastore, 1) := by decide +kernel
theorem dX7_findPushes_107 : decode cX7_findPushes 107 = .ok (.iinc 1 1, 3) := by decide +kernel
theorem dX7_findPushes_110 : decode cX7_findPushes 110 = .ok (.goto (-108), 3) := by decide +kernel
theorem dX7_findPushes_113 : decode cX7_findPushes 113 = .ok (.return_, 1) := by decide +kernel
theorem dX7_brought_0 : decode cX7_brought 0 = .ok (.iload_n 0, 1) := by decide +kernel
theorem dX7_brought_1 : decode cX7_brought 1 = .ok (.bipush 32, 2) := by decide +kernel
theorem dX7_brought_3 : decode cX7_brought 3 = .ok (.iadd, 1) := by decide +kernel
theorem dX7_brought_4 : decode cX7_brought 4 = .ok (.bipush 63, 2) := by decide +kernel
theorem dX7_brought_6 : decode cX7_brought 6 = .ok (.iand, 1) := by decide +kernel
theorem dX7_brought_7 : decode cX7_brought 7 = .ok (.bipush 32, 2) := by decide +kernel
theorem dX7_brought_9 : decode cX7_brought 9 = .ok (.isub, 1) := by decide +kernel
theorem dX7_brought_10 : decode cX7_brought 10 = .ok (.ireturn, 1) := by decide +kernel
theorem dX7_goOn_0 : decode cX7_goOn 0 = .ok (.aload_n 0, 1) := by decide +kernel
theorem dX7_goOn_1 : decode cX7_goOn 1 = .ok (.invokevirtual 186, 3) := by decide +kernel
theorem dX7_goOn_4 : decode cX7_goOn 4 = .ok (.iconst 0, 1) := by decide +kernel
theorem dX7_goOn_5 : decode cX7_goOn 5 = .ok (.istore_n 1, 1) := by decide +kernel
theorem dX7_goOn_6 : decode cX7_goOn 6 = .ok (.iload_n 1, 1) := by decide +kernel
theorem dX7_goOn_7 : decode cX7_goOn 7 = .ok (.bipush 40, 2) := by decide +kernel
theorem dX7_goOn_9 : decode cX7_goOn 9 = .ok (.if_icmp .ge 106, 3) := by decide +kernel
theorem dX7_goOn_12 : decode cX7_goOn 12 = .ok (.aload_n 0, 1) := by decide +kernel
theorem dX7_goOn_13 : decode cX7_goOn 13 = .ok (.getfield 7, 3) := by decide +kernel
theorem dX7_goOn_16 : decode cX7_goOn 16 = .ok (.iload_n 1, 1) := by decide +kernel
theorem dX7_goOn_17 : decode cX7_goOn 17 = .ok (.baload, 1) := by decide +kernel
theorem dX7_goOn_18 : decode cX7_goOn 18 = .ok (.ifCond .eq 91, 3) := by decide +kernel
theorem dX7_goOn_21 : decode cX7_goOn 21 = .ok (.aload_n 0, 1) := by decide +kernel
theorem dX7_goOn_22 : decode cX7_goOn 22 = .ok (.getfield 23, 3) := by decide +kernel
theorem dX7_goOn_25 : decode cX7_goOn 25 = .ok (.iload_n 1, 1) := by decide +kernel
theorem dX7_goOn_26 : decode cX7_goOn 26 = .ok (.aload_n 0, 1) := by decide +kernel
theorem dX7_goOn_27 : decode cX7_goOn 27 = .ok (.getfield 23, 3) := by decide +kernel
theorem dX7_goOn_30 : decode cX7_goOn 30 = .ok (.iload_n 1, 1) := by decide +kernel
theorem dX7_goOn_31 : decode cX7_goOn 31 = .ok (.iaload, 1) := by decide +kernel
theorem dX7_goOn_32 : decode cX7_goOn 32 = .ok (.aload_n 0, 1) := by decide +kernel
theorem dX7_goOn_33 : decode cX7_goOn 33 = .ok (.getfield 54, 3) := by decide +kernel
theorem dX7_goOn_36 : decode cX7_goOn 36 = .ok (.iload_n 1, 1) := by decide +kernel
theorem dX7_goOn_37 : decode cX7_goOn 37 = .ok (.iaload, 1) := by decide +kernel
theorem dX7_goOn_38 : decode cX7_goOn 38 = .ok (.iadd, 1) := by decide +kernel
theorem dX7_goOn_39 : decode cX7_goOn 39 = .ok (.invokestatic 189, 3) := by decide +kernel
theorem dX7_goOn_42 : decode cX7_goOn 42 = .ok (.iastore, 1) := by decide +kernel
theorem dX7_goOn_43 : decode cX7_goOn 43 = .ok (.aload_n 0, 1) := by decide +kernel
theorem dX7_goOn_44 : decode cX7_goOn 44 = .ok (.getfield 26, 3) := by decide +kernel
theorem dX7_goOn_47 : decode cX7_goOn 47 = .ok (.iload_n 1, 1) := by decide +kernel
theorem dX7_goOn_48 : decode cX7_goOn 48 = .ok (.aload_n 0, 1) := by decide +kernel
theorem dX7_goOn_49 : decode cX7_goOn 49 = .ok (.getfield 26, 3) := by decide +kernel
theorem dX7_goOn_52 : decode cX7_goOn 52 = .ok (.iload_n 1, 1) := by decide +kernel
theorem dX7_goOn_53 : decode cX7_goOn 53 = .ok (.iaload, 1) := by decide +kernel
theorem dX7_goOn_54 : decode cX7_goOn 54 = .ok (.aload_n 0, 1) := by decide +kernel
theorem dX7_goOn_55 : decode cX7_goOn 55 = .ok (.getfield 57, 3) := by decide +kernel
theorem dX7_goOn_58 : decode cX7_goOn 58 = .ok (.iload_n 1, 1) := by decide +kernel
theorem dX7_goOn_59 : decode cX7_goOn 59 = .ok (.iaload, 1) := by decide +kernel
theorem dX7_goOn_60 : decode cX7_goOn 60 = .ok (.iadd, 1) := by decide +kernel
theorem dX7_goOn_61 : decode cX7_goOn 61 = .ok (.invokestatic 189, 3) := by decide +kernel
theorem dX7_goOn_64 : decode cX7_goOn 64 = .ok (.iastore, 1) := by decide +kernel
theorem dX7_goOn_65 : decode cX7_goOn 65 = .ok (.aload_n 0, 1) := by decide +kernel
theorem dX7_goOn_66 : decode cX7_goOn 66 = .ok (.getfield 13, 3) := by decide +kernel
theorem dX7_goOn_69 : decode cX7_goOn 69 = .ok (.iload_n 1, 1) := by decide +kernel
theorem dX7_goOn_70 : decode cX7_goOn 70 = .ok (.aload_n 0, 1) := by decide +kernel
theorem dX7_goOn_71 : decode cX7_goOn 71 = .ok (.getfield 13, 3) := by decide +kernel
theorem dX7_goOn_74 : decode cX7_goOn 74 = .ok (.iload_n 1, 1) := by decide +kernel
theorem dX7_goOn_75 : decode cX7_goOn 75 = .ok (.iaload, 1) := by decide +kernel
theorem dX7_goOn_76 : decode cX7_goOn 76 = .ok (.aload_n 0, 1) := by decide +kernel
theorem dX7_goOn_77 : decode cX7_goOn 77 = .ok (.getfield 23, 3) := by decide +kernel
theorem dX7_goOn_80 : decode cX7_goOn 80 = .ok (.iload_n 1, 1) := by decide +kernel
theorem dX7_goOn_81 : decode cX7_goOn 81 = .ok (.iaload, 1) := by decide +kernel
theorem dX7_goOn_82 : decode cX7_goOn 82 = .ok (.iadd, 1) := by decide +kernel
theorem dX7_goOn_83 : decode cX7_goOn 83 = .ok (.bipush 63, 2) := by decide +kernel
theorem dX7_goOn_85 : decode cX7_goOn 85 = .ok (.iand, 1) := by decide +kernel
theorem dX7_goOn_86 : decode cX7_goOn 86 = .ok (.iastore, 1) := by decide +kernel
theorem dX7_goOn_87 : decode cX7_goOn 87 = .ok (.aload_n 0, 1) := by decide +kernel
theorem dX7_goOn_88 : decode cX7_goOn 88 = .ok (.getfield 17, 3) := by decide +kernel
theorem dX7_goOn_91 : decode cX7_goOn 91 = .ok (.iload_n 1, 1) := by decide +kernel
theorem dX7_goOn_92 : decode cX7_goOn 92 = .ok (.aload_n 0, 1) := by decide +kernel
theorem dX7_goOn_93 : decode cX7_goOn 93 = .ok (.getfield 17, 3) := by decide +kernel
theorem dX7_goOn_96 : decode cX7_goOn 96 = .ok (.iload_n 1, 1) := by decide +kernel
theorem dX7_goOn_97 : decode cX7_goOn 97 = .ok (.iaload, 1) := by decide +kernel
theorem dX7_goOn_98 : decode cX7_goOn 98 = .ok (.aload_n 0, 1) := by decide +kernel
theorem dX7_goOn_99 : decode cX7_goOn 99 = .ok (.getfield 26, 3) := by decide +kernel
theorem dX7_goOn_102 : decode cX7_goOn 102 = .ok (.iload_n 1, 1) := by decide +kernel
theorem dX7_goOn_103 : decode cX7_goOn 103 = .ok (.iaload, 1) := by decide +kernel
theorem dX7_goOn_104 : decode cX7_goOn 104 = .ok (.iadd, 1) := by decide +kernel
theorem dX7_goOn_105 : decode cX7_goOn 105 = .ok (.bipush 63, 2) := by decide +kernel
theorem dX7_goOn_107 : decode cX7_goOn 107 = .ok (.iand, 1) := by decide +kernel
theorem dX7_goOn_108 : decode cX7_goOn 108 = .ok (.iastore, 1) := by decide +kernel
theorem dX7_goOn_109 : decode cX7_goOn 109 = .ok (.iinc 1 1, 3) := by decide +kernel
theorem dX7_goOn_112 : decode cX7_goOn 112 = .ok (.goto (-106), 3) := by decide +kernel
theorem dX7_goOn_115 : decode cX7_goOn 115 = .ok (.return_, 1) := by decide +kernel
theorem dX7_goBack_0 : decode cX7_goBack 0 = .ok (.iconst 0, 1) := by decide +kernel
theorem dX7_goBack_1 : decode cX7_goBack 1 = .ok (.istore_n 1, 1) := by decide +kernel
theorem dX7_goBack_2 : decode cX7_goBack 2 = .ok (.iload_n 1, 1) := by decide +kernel
theorem dX7_goBack_3 : decode cX7_goBack 3 = .ok (.bipush 40, 2) := by decide +kernel
theorem dX7_goBack_5 : decode cX7_goBack 5 = .ok (.if_icmp .ge 62, 3) := by decide +kernel
theorem dX7_goBack_8 : decode cX7_goBack 8 = .ok (.aload_n 0, 1) := by decide +kernel
theorem dX7_goBack_9 : decode cX7_goBack 9 = .ok (.getfield 7, 3) := by decide +kernel
theorem dX7_goBack_12 : decode cX7_goBack 12 = .ok (.iload_n 1, 1) := by decide +kernel
theorem dX7_goBack_13 : decode cX7_goBack 13 = .ok (.baload, 1) := by decide +kernel
theorem dX7_goBack_14 : decode cX7_goBack 14 = .ok (.ifCond .eq 47, 3) := by decide +kernel
theorem dX7_goBack_17 : decode cX7_goBack 17 = .ok (.aload_n 0, 1) := by decide +kernel
theorem dX7_goBack_18 : decode cX7_goBack 18 = .ok (.getfield 13, 3) := by decide +kernel
theorem dX7_goBack_21 : decode cX7_goBack 21 = .ok (.iload_n 1, 1) := by decide +kernel
theorem dX7_goBack_22 : decode cX7_goBack 22 = .ok (.aload_n 0, 1) := by decide +kernel
theorem dX7_goBack_23 : decode cX7_goBack 23 = .ok (.getfield 13, 3) := by decide +kernel
theorem dX7_goBack_26 : decode cX7_goBack 26 = .ok (.iload_n 1, 1) := by decide +kernel
theorem dX7_goBack_27 : decode cX7_goBack 27 = .ok (.iaload, 1) := by decide +kernel
theorem dX7_goBack_28 : decode cX7_goBack 28 = .ok (.aload_n 0, 1) := by decide +kernel
theorem dX7_goBack_29 : decode cX7_goBack 29 = .ok (.getfield 23, 3) := by decide +kernel
theorem dX7_goBack_32 : decode cX7_goBack 32 = .ok (.iload_n 1, 1) := by decide +kernel
theorem dX7_goBack_33 : decode cX7_goBack 33 = .ok (.iaload, 1) := by decide +kernel
theorem dX7_goBack_34 : decode cX7_goBack 34 = .ok (.isub, 1) := by decide +kernel
theorem dX7_goBack_35 : decode cX7_goBack 35 = .ok (.bipush 63, 2) := by decide +kernel
theorem dX7_goBack_37 : decode cX7_goBack 37 = .ok (.iand, 1) := by decide +kernel
theorem dX7_goBack_38 : decode cX7_goBack 38 = .ok (.iastore, 1) := by decide +kernel
theorem dX7_goBack_39 : decode cX7_goBack 39 = .ok (.aload_n 0, 1) := by decide +kernel
theorem dX7_goBack_40 : decode cX7_goBack 40 = .ok (.getfield 17, 3) := by decide +kernel
theorem dX7_goBack_43 : decode cX7_goBack 43 = .ok (.iload_n 1, 1) := by decide +kernel
theorem dX7_goBack_44 : decode cX7_goBack 44 = .ok (.aload_n 0, 1) := by decide +kernel
theorem dX7_goBack_45 : decode cX7_goBack 45 = .ok (.getfield 17, 3) := by decide +kernel
theorem dX7_goBack_48 : decode cX7_goBack 48 = .ok (.iload_n 1, 1) := by decide +kernel
theorem dX7_goBack_49 : decode cX7_goBack 49 = .ok (.iaload, 1) := by decide +kernel
theorem dX7_goBack_50 : decode cX7_goBack 50 = .ok (.aload_n 0, 1) := by decide +kernel
theorem dX7_goBack_51 : decode cX7_goBack 51 = .ok (.getfield 26, 3) := by decide +kernel
theorem dX7_goBack_54 : decode cX7_goBack 54 = .ok (.iload_n 1, 1) := by decide +kernel
theorem dX7_goBack_55 : decode cX7_goBack 55 = .ok (.iaload, 1) := by decide +kernel
theorem dX7_goBack_56 : decode cX7_goBack 56 = .ok (.isub, 1) := by decide +kernel
theorem dX7_goBack_57 : decode cX7_goBack 57 = .ok (.bipush 63, 2) := by decide +kernel
theorem dX7_goBack_59 : decode cX7_goBack 59 = .ok (.iand, 1) := by decide +kernel
theorem dX7_goBack_60 : decode cX7_goBack 60 = .ok (.iastore, 1) := by decide +kernel
theorem dX7_goBack_61 : decode cX7_goBack 61 = .ok (.iinc 1 1, 3) := by decide +kernel
theorem dX7_goBack_64 : decode cX7_goBack 64 = .ok (.goto (-62), 3) := by decide +kernel
theorem dX7_goBack_67 : decode cX7_goBack 67 = .ok (.aload_n 0, 1) := by decide +kernel
theorem dX7_goBack_68 : decode cX7_goBack 68 = .ok (.invokevirtual 186, 3) := by decide +kernel
theorem dX7_goBack_71 : decode cX7_goBack 71 = .ok (.iconst 0, 1) := by decide +kernel
theorem dX7_goBack_72 : decode cX7_goBack 72 = .ok (.istore_n 1, 1) := by decide +kernel
theorem dX7_goBack_73 : decode cX7_goBack 73 = .ok (.iload_n 1, 1) := by decide +kernel
theorem dX7_goBack_74 : decode cX7_goBack 74 = .ok (.bipush 40, 2) := by decide +kernel
theorem dX7_goBack_76 : decode cX7_goBack 76 = .ok (.if_icmp .ge 62, 3) := by decide +kernel
theorem dX7_goBack_79 : decode cX7_goBack 79 = .ok (.aload_n 0, 1) := by decide +kernel
theorem dX7_goBack_80 : decode cX7_goBack 80 = .ok (.getfield 7, 3) := by decide +kernel
theorem dX7_goBack_83 : decode cX7_goBack 83 = .ok (.iload_n 1, 1) := by decide +kernel
theorem dX7_goBack_84 : decode cX7_goBack 84 = .ok (.baload, 1) := by decide +kernel
theorem dX7_goBack_85 : decode cX7_goBack 85 = .ok (.ifCond .eq 47, 3) := by decide +kernel
theorem dX7_goBack_88 : decode cX7_goBack 88 = .ok (.aload_n 0, 1) := by decide +kernel
theorem dX7_goBack_89 : decode cX7_goBack 89 = .ok (.getfield 23, 3) := by decide +kernel
theorem dX7_goBack_92 : decode cX7_goBack 92 = .ok (.iload_n 1, 1) := by decide +kernel
theorem dX7_goBack_93 : decode cX7_goBack 93 = .ok (.aload_n 0, 1) := by decide +kernel
theorem dX7_goBack_94 : decode cX7_goBack 94 = .ok (.getfield 23, 3) := by decide +kernel
theorem dX7_goBack_97 : decode cX7_goBack 97 = .ok (.iload_n 1, 1) := by decide +kernel
theorem dX7_goBack_98 : decode cX7_goBack 98 = .ok (.iaload, 1) := by decide +kernel
theorem dX7_goBack_99 : decode cX7_goBack 99 = .ok (.aload_n 0, 1) := by decide +kernel
theorem dX7_goBack_100 : decode cX7_goBack 100 = .ok (.getfield 54, 3) := by decide +kernel
theorem dX7_goBack_103 : decode cX7_goBack 103 = .ok (.iload_n 1, 1) := by decide +kernel
theorem dX7_goBack_104 : decode cX7_goBack 104 = .ok (.iaload, 1) := by decide +kernel
theorem dX7_goBack_105 : decode cX7_goBack 105 = .ok (.isub, 1) := by decide +kernel
theorem dX7_goBack_106 : decode cX7_goBack 106 = .ok (.invokestatic 189, 3) := by decide +kernel
theorem dX7_goBack_109 : decode cX7_goBack 109 = .ok (.iastore, 1) := by decide +kernel
theorem dX7_goBack_110 : decode cX7_goBack 110 = .ok (.aload_n 0, 1) := by decide +kernel
theorem dX7_goBack_111 : decode cX7_goBack 111 = .ok (.getfield 26, 3) := by decide +kernel
theorem dX7_goBack_114 : decode cX7_goBack 114 = .ok (.iload_n 1, 1) := by decide +kernel
theorem dX7_goBack_115 : decode cX7_goBack 115 = .ok (.aload_n 0, 1) := by decide +kernel
theorem dX7_goBack_116 : decode cX7_goBack 116 = .ok (.getfield 26, 3) := by decide +kernel
theorem dX7_goBack_119 : decode cX7_goBack 119 = .ok (.iload_n 1, 1) := by decide +kernel
theorem dX7_goBack_120 : decode cX7_goBack 120 = .ok (.iaload, 1) := by decide +kernel
theorem dX7_goBack_121 : decode cX7_goBack 121 = .ok (.aload_n 0, 1) := by decide +kernel
theorem dX7_goBack_122 : decode cX7_goBack 122 = .ok (.getfield 57, 3) := by decide +kernel
theorem dX7_goBack_125 : decode cX7_goBack 125 = .ok (.iload_n 1, 1) := by decide +kernel
theorem dX7_goBack_126 : decode cX7_goBack 126 = .ok (.iaload, 1) := by decide +kernel
theorem dX7_goBack_127 : decode cX7_goBack 127 = .ok (.isub, 1) := by decide +kernel
theorem dX7_goBack_128 : decode cX7_goBack 128 = .ok (.invokestatic 189, 3) := by decide +kernel
theorem dX7_goBack_131 : decode cX7_goBack 131 = .ok (.iastore, 1) := by decide +kernel
theorem dX7_goBack_132 : decode cX7_goBack 132 = .ok (.iinc 1 1, 3) := by decide +kernel
theorem dX7_goBack_135 : decode cX7_goBack 135 = .ok (.goto (-62), 3) := by decide +kernel
theorem dX7_goBack_138 : decode cX7_goBack 138 = .ok (.return_, 1) := by decide +kernel
theorem dX7_step_0 : decode cX7_step 0 = .ok (.iload_n 1, 1) := by decide +kernel
theorem dX7_step_1 : decode cX7_step 1 = .ok (.i2l, 1) := by decide +kernel
theorem dX7_step_2 : decode cX7_step 2 = .ok (.ldc2_w 193, 3) := by decide +kernel
theorem dX7_step_5 : decode cX7_step 5 = .ok (.ldc2_w 95, 3) := by decide +kernel
theorem dX7_step_8 : decode cX7_step 8 = .ok (.invokestatic 62, 3) := by decide +kernel
theorem dX7_step_11 : decode cX7_step 11 = .ok (.ifCond .eq 7, 3) := by decide +kernel
theorem dX7_step_14 : decode cX7_step 14 = .ok (.iload_n 1, 1) := by decide +kernel
theorem dX7_step_15 : decode cX7_step 15 = .ok (.ifCond .ne 6, 3) := by decide +kernel
theorem dX7_step_18 : decode cX7_step 18 = .ok (.bipush (-2), 2) := by decide +kernel
theorem dX7_step_20 : decode cX7_step 20 = .ok (.ireturn, 1) := by decide +kernel
theorem dX7_step_21 : decode cX7_step 21 = .ok (.iconst 0, 1) := by decide +kernel
theorem dX7_step_22 : decode cX7_step 22 = .ok (.istore_n 2, 1) := by decide +kernel
theorem dX7_step_23 : decode cX7_step 23 = .ok (.iload_n 2, 1) := by decide +kernel
theorem dX7_step_24 : decode cX7_step 24 = .ok (.iload_n 1, 1) := by decide +kernel
theorem dX7_step_25 : decode cX7_step 25 = .ok (.if_icmp .ge 13, 3) := by decide +kernel
theorem dX7_step_28 : decode cX7_step 28 = .ok (.aload_n 0, 1) := by decide +kernel
theorem dX7_step_29 : decode cX7_step 29 = .ok (.invokevirtual 195, 3) := by decide +kernel
theorem dX7_step_32 : decode cX7_step 32 = .ok (.iinc 2 1, 3) := by decide +kernel
theorem dX7_step_35 : decode cX7_step 35 = .ok (.goto (-12), 3) := by decide +kernel
theorem dX7_step_38 : decode cX7_step 38 = .ok (.iconst 0, 1) := by decide +kernel
theorem dX7_step_39 : decode cX7_step 39 = .ok (.istore_n 2, 1) := by decide +kernel
theorem dX7_step_40 : decode cX7_step 40 = .ok (.iload_n 2, 1) := by decide +kernel
theorem dX7_step_41 : decode cX7_step 41 = .ok (.iload_n 1, 1) := by decide +kernel
theorem dX7_step_42 : decode cX7_step 42 = .ok (.if_icmp .le 13, 3) := by decide +kernel
theorem dX7_step_45 : decode cX7_step 45 = .ok (.aload_n 0, 1) := by decide +kernel
theorem dX7_step_46 : decode cX7_step 46 = .ok (.invokevirtual 198, 3) := by decide +kernel
theorem dX7_step_49 : decode cX7_step 49 = .ok (.iinc 2 (-1), 3) := by decide +kernel
theorem dX7_step_52 : decode cX7_step 52 = .ok (.goto (-12), 3) := by decide +kernel
theorem dX7_step_55 : decode cX7_step 55 = .ok (.aload_n 0, 1) := by decide +kernel
theorem dX7_step_56 : decode cX7_step 56 = .ok (.dup, 1) := by decide +kernel
theorem dX7_step_57 : decode cX7_step 57 = .ok (.getfield 201, 3) := by decide +kernel
theorem dX7_step_60 : decode cX7_step 60 = .ok (.iload_n 1, 1) := by decide +kernel
theorem dX7_step_61 : decode cX7_step 61 = .ok (.iadd, 1) := by decide +kernel
theorem dX7_step_62 : decode cX7_step 62 = .ok (.putfield 201, 3) := by decide +kernel
theorem dX7_step_65 : decode cX7_step 65 = .ok (.aload_n 0, 1) := by decide +kernel
theorem dX7_step_66 : decode cX7_step 66 = .ok (.getfield 201, 3) := by decide +kernel
theorem dX7_step_69 : decode cX7_step 69 = .ok (.ireturn, 1) := by decide +kernel
theorem dX7_count_0 : decode cX7_count 0 = .ok (.iconst 0, 1) := by decide +kernel
theorem dX7_count_1 : decode cX7_count 1 = .ok (.istore_n 2, 1) := by decide +kernel
theorem dX7_count_2 : decode cX7_count 2 = .ok (.iconst 0, 1) := by decide +kernel
theorem dX7_count_3 : decode cX7_count 3 = .ok (.istore_n 3, 1) := by decide +kernel
theorem dX7_count_4 : decode cX7_count 4 = .ok (.iconst 0, 1) := by decide +kernel
theorem dX7_count_5 : decode cX7_count 5 = .ok (.istore 4, 2) := by decide +kernel
theorem dX7_count_7 : decode cX7_count 7 = .ok (.iconst 0, 1) := by decide +kernel
theorem dX7_count_8 : decode cX7_count 8 = .ok (.istore 5, 2) := by decide +kernel
theorem dX7_count_10 : decode cX7_count 10 = .ok (.iload 5, 2) := by decide +kernel
theorem dX7_count_12 : decode cX7_count 12 = .ok (.bipush 6, 2) := by decide +kernel
theorem dX7_count_14 : decode cX7_count 14 = .ok (.if_icmp .ge 89, 3) := by decide +kernel
theorem dX7_count_17 : decode cX7_count 17 = .ok (.iconst 0, 1) := by decide +kernel
theorem dX7_count_18 : decode cX7_count 18 = .ok (.istore 6, 2) := by decide +kernel
theorem dX7_count_20 : decode cX7_count 20 = .ok (.iload 6, 2) := by decide +kernel
theorem dX7_count_22 : decode cX7_count 22 = .ok (.iconst 1, 1) := by decide +kernel
theorem dX7_count_23 : decode cX7_count 23 = .ok (.iconst 2, 1) := by decide +kernel
theorem dX7_count_24 : decode cX7_count 24 = .ok (.iload 5, 2) := by decide +kernel
theorem dX7_count_26 : decode cX7_count 26 = .ok (.imul, 1) := by decide +kernel
theorem dX7_count_27 : decode cX7_count 27 = .ok (.ishl, 1) := by decide +kernel
theorem dX7_count_28 : decode cX7_count 28 = .ok (.if_icmp .ge 69, 3) := by decide +kernel
theorem dX7_count_31 : decode cX7_count 31 = .ok (.iload 6, 2) := by decide +kernel
theorem dX7_count_33 : decode cX7_count 33 = .ok (.iconst 1, 1) := by decide +kernel
theorem dX7_count_34 : decode cX7_count 34 = .ok (.iload 5, 2) := by decide +kernel
theorem dX7_count_36 : decode cX7_count 36 = .ok (.ishl, 1) := by decide +kernel
theorem dX7_count_37 : decode cX7_count 37 = .ok (.iconst 1, 1) := by decide +kernel
theorem dX7_count_38 : decode cX7_count 38 = .ok (.isub, 1) := by decide +kernel
theorem dX7_count_39 : decode cX7_count 39 = .ok (.iand, 1) := by decide +kernel
theorem dX7_count_40 : decode cX7_count 40 = .ok (.istore 7, 2) := by decide +kernel
theorem dX7_count_42 : decode cX7_count 42 = .ok (.iload 6, 2) := by decide +kernel
theorem dX7_count_44 : decode cX7_count 44 = .ok (.iload 5, 2) := by decide +kernel
theorem dX7_count_46 : decode cX7_count 46 = .ok (.ishr, 1) := by decide +kernel
theorem dX7_count_47 : decode cX7_count 47 = .ok (.istore 8, 2) := by decide +kernel
theorem dX7_count_49 : decode cX7_count 49 = .ok (.aload_n 0, 1) := by decide +kernel
theorem dX7_count_50 : decode cX7_count 50 = .ok (.iload 5, 2) := by decide +kernel
theorem dX7_count_52 : decode cX7_count 52 = .ok (.iload 7, 2) := by decide +kernel
theorem dX7_count_54 : decode cX7_count 54 = .ok (.iload 8, 2) := by decide +kernel
theorem dX7_count_56 : decode cX7_count 56 = .ok (.invokevirtual 131, 3) := by decide +kernel
theorem dX7_count_59 : decode cX7_count 59 = .ok (.ifCond .eq 32, 3) := by decide +kernel
theorem dX7_count_62 : decode cX7_count 62 = .ok (.iinc 2 1, 3) := by decide +kernel
theorem dX7_count_65 : decode cX7_count 65 = .ok (.iload 5, 2) := by decide +kernel
theorem dX7_count_67 : decode cX7_count 67 = .ok (.istore_n 3, 1) := by decide +kernel
theorem dX7_count_68 : decode cX7_count 68 = .ok (.iload 4, 2) := by decide +kernel
theorem dX7_count_70 : decode cX7_count 70 = .ok (.aload_n 0, 1) := by decide +kernel
theorem dX7_count_71 : decode cX7_count 71 = .ok (.iload 5, 2) := by decide +kernel
theorem dX7_count_73 : decode cX7_count 73 = .ok (.iload 7, 2) := by decide +kernel
theorem dX7_count_75 : decode cX7_count 75 = .ok (.iload 8, 2) := by decide +kernel
theorem dX7_count_77 : decode cX7_count 77 = .ok (.invokevirtual 123, 3) := by decide +kernel
theorem dX7_count_80 : decode cX7_count 80 = .ok (.ifCond .eq 7, 3) := by decide +kernel
theorem dX7_count_83 : decode cX7_count 83 = .ok (.iconst 1, 1) := by decide +kernel
theorem dX7_count_84 : decode cX7_count 84 = .ok (.goto 4, 3) := by decide +kernel
theorem dX7_count_87 : decode cX7_count 87 = .ok (.iconst 0, 1) := by decide +kernel
theorem dX7_count_88 : decode cX7_count 88 = .ok (.iadd, 1) := by decide +kernel
theorem dX7_count_89 : decode cX7_count 89 = .ok (.istore 4, 2) := by decide +kernel
theorem dX7_count_91 : decode cX7_count 91 = .ok (.iinc 6 1, 3) := by decide +kernel
theorem dX7_count_94 : decode cX7_count 94 = .ok (.goto (-74), 3) := by decide +kernel
theorem dX7_count_97 : decode cX7_count 97 = .ok (.iinc 5 1, 3) := by decide +kernel
theorem dX7_count_100 : decode cX7_count 100 = .ok (.goto (-90), 3) := by decide +kernel
theorem dX7_count_103 : decode cX7_count 103 = .ok (.iload_n 1, 1) := by decide +kernel
theorem dX7_count_104 : decode cX7_count 104 = .ok (.tableswitch 66 0 5 #[40, 45, 47, 50, 52, 57], 40) := by decide +kernel
theorem dX7_count_144 : decode cX7_count 144 = .ok (.aload_n 0, 1) := by decide +kernel
theorem dX7_count_145 : decode cX7_count 145 = .ok (.invokevirtual 80, 3) := by decide +kernel
theorem dX7_count_148 : decode cX7_count 148 = .ok (.ireturn, 1) := by decide +kernel
theorem dX7_count_149 : decode cX7_count 149 = .ok (.iload_n 2, 1) := by decide +kernel
theorem dX7_count_150 : decode cX7_count 150 = .ok (.ireturn, 1) := by decide +kernel
theorem dX7_count_151 : decode cX7_count 151 = .ok (.iload 4, 2) := by decide +kernel
theorem dX7_count_153 : decode cX7_count 153 = .ok (.ireturn, 1) := by decide +kernel
theorem dX7_count_154 : decode cX7_count 154 = .ok (.iload_n 3, 1) := by decide +kernel
theorem dX7_count_155 : decode cX7_count 155 = .ok (.ireturn, 1) := by decide +kernel
theorem dX7_count_156 : decode cX7_count 156 = .ok (.aload_n 0, 1) := by decide +kernel
theorem dX7_count_157 : decode cX7_count 157 = .ok (.getfield 201, 3) := by decide +kernel
theorem dX7_count_160 : decode cX7_count 160 = .ok (.ireturn, 1) := by decide +kernel
theorem dX7_count_161 : decode cX7_count 161 = .ok (.aload_n 0, 1) := by decide +kernel
theorem dX7_count_162 : decode cX7_count 162 = .ok (.iconst 0, 1) := by decide +kernel
theorem dX7_count_163 : decode cX7_count 163 = .ok (.iconst 0, 1) := by decide +kernel
theorem dX7_count_164 : decode cX7_count 164 = .ok (.iconst 0, 1) := by decide +kernel
theorem dX7_count_165 : decode cX7_count 165 = .ok (.invokevirtual 136, 3) := by decide +kernel
theorem dX7_count_168 : decode cX7_count 168 = .ok (.l2i, 1) := by decide +kernel
theorem dX7_count_169 : decode cX7_count 169 = .ok (.ireturn, 1) := by decide +kernel
theorem dX7_count_170 : decode cX7_count 170 = .ok (.bipush (-2), 2) := by decide +kernel
theorem dX7_count_172 : decode cX7_count 172 = .ok (.ireturn, 1) := by decide +kernel
theorem dX7_digest_0 : decode cX7_digest 0 = .ok (.ldc2_w 204, 3) := by decide +kernel
theorem dX7_digest_3 : decode cX7_digest 3 = .ok (.lstore_n 1, 1) := by decide +kernel
theorem dX7_digest_4 : decode cX7_digest 4 = .ok (.iconst 0, 1) := by decide +kernel
theorem dX7_digest_5 : decode cX7_digest 5 = .ok (.istore_n 3, 1) := by decide +kernel
theorem dX7_digest_6 : decode cX7_digest 6 = .ok (.iload_n 3, 1) := by decide +kernel
theorem dX7_digest_7 : decode cX7_digest 7 = .ok (.bipush 6, 2) := by decide +kernel
theorem dX7_digest_9 : decode cX7_digest 9 = .ok (.if_icmp .ge 22, 3) := by decide +kernel
theorem dX7_digest_12 : decode cX7_digest 12 = .ok (.ldc2_w 86, 3) := by decide +kernel
theorem dX7_digest_15 : decode cX7_digest 15 = .ok (.lload_n 1, 1) := by decide +kernel
theorem dX7_digest_16 : decode cX7_digest 16 = .ok (.lmul, 1) := by decide +kernel
theorem dX7_digest_17 : decode cX7_digest 17 = .ok (.aload_n 0, 1) := by decide +kernel
theorem dX7_digest_18 : decode cX7_digest 18 = .ok (.iload_n 3, 1) := by decide +kernel
theorem dX7_digest_19 : decode cX7_digest 19 = .ok (.invokevirtual 206, 3) := by decide +kernel
theorem dX7_digest_22 : decode cX7_digest 22 = .ok (.i2l, 1) := by decide +kernel
theorem dX7_digest_23 : decode cX7_digest 23 = .ok (.ladd, 1) := by decide +kernel
theorem dX7_digest_24 : decode cX7_digest 24 = .ok (.lstore_n 1, 1) := by decide +kernel
theorem dX7_digest_25 : decode cX7_digest 25 = .ok (.iinc 3 1, 3) := by decide +kernel
theorem dX7_digest_28 : decode cX7_digest 28 = .ok (.goto (-22), 3) := by decide +kernel
theorem dX7_digest_31 : decode cX7_digest 31 = .ok (.iconst 0, 1) := by decide +kernel
theorem dX7_digest_32 : decode cX7_digest 32 = .ok (.istore_n 3, 1) := by decide +kernel
theorem dX7_digest_33 : decode cX7_digest 33 = .ok (.iload_n 3, 1) := by decide +kernel
theorem dX7_digest_34 : decode cX7_digest 34 = .ok (.bipush 40, 2) := by decide +kernel
theorem dX7_digest_36 : decode cX7_digest 36 = .ok (.if_icmp .ge 57, 3) := by decide +kernel
theorem dX7_digest_39 : decode cX7_digest 39 = .ok (.aload_n 0, 1) := by decide +kernel
theorem dX7_digest_40 : decode cX7_digest 40 = .ok (.getfield 7, 3) := by decide +kernel
theorem dX7_digest_43 : decode cX7_digest 43 = .ok (.iload_n 3, 1) := by decide +kernel
theorem dX7_digest_44 : decode cX7_digest 44 = .ok (.baload, 1) := by decide +kernel
theorem dX7_digest_45 : decode cX7_digest 45 = .ok (.ifCond .eq 42, 3) := by decide +kernel
theorem dX7_digest_48 : decode cX7_digest 48 = .ok (.ldc2_w 86, 3) := by decide +kernel
theorem dX7_digest_51 : decode cX7_digest 51 = .ok (.lload_n 1, 1) := by decide +kernel
theorem dX7_digest_52 : decode cX7_digest 52 = .ok (.lmul, 1) := by decide +kernel
theorem dX7_digest_53 : decode cX7_digest 53 = .ok (.iload_n 3, 1) := by decide +kernel
theorem dX7_digest_54 : decode cX7_digest 54 = .ok (.i2l, 1) := by decide +kernel
theorem dX7_digest_55 : decode cX7_digest 55 = .ok (.ladd, 1) := by decide +kernel
theorem dX7_digest_56 : decode cX7_digest 56 = .ok (.lstore_n 1, 1) := by decide +kernel
theorem dX7_digest_57 : decode cX7_digest 57 = .ok (.iconst 0, 1) := by decide +kernel
theorem dX7_digest_58 : decode cX7_digest 58 = .ok (.istore 4, 2) := by decide +kernel
theorem dX7_digest_60 : decode cX7_digest 60 = .ok (.iload 4, 2) := by decide +kernel
theorem dX7_digest_62 : decode cX7_digest 62 = .ok (.iconst 5, 1) := by decide +kernel
theorem dX7_digest_63 : decode cX7_digest 63 = .ok (.if_icmp .ge 24, 3) := by decide +kernel
theorem dX7_digest_66 : decode cX7_digest 66 = .ok (.ldc2_w 86, 3) := by decide +kernel
theorem dX7_digest_69 : decode cX7_digest 69 = .ok (.lload_n 1, 1) := by decide +kernel
theorem dX7_digest_70 : decode cX7_digest 70 = .ok (.lmul, 1) := by decide +kernel
theorem dX7_digest_71 : decode cX7_digest 71 = .ok (.aload_n 0, 1) := by decide +kernel
theorem dX7_digest_72 : decode cX7_digest 72 = .ok (.iload_n 3, 1) := by decide +kernel
theorem dX7_digest_73 : decode cX7_digest 73 = .ok (.iload 4, 2) := by decide +kernel
theorem dX7_digest_75 : decode cX7_digest 75 = .ok (.invokevirtual 209, 3) := by decide +kernel
theorem dX7_digest_78 : decode cX7_digest 78 = .ok (.i2l, 1) := by decide +kernel
theorem dX7_digest_79 : decode cX7_digest 79 = .ok (.ladd, 1) := by decide +kernel
theorem dX7_digest_80 : decode cX7_digest 80 = .ok (.lstore_n 1, 1) := by decide +kernel
theorem dX7_digest_81 : decode cX7_digest 81 = .ok (.iinc 4 1, 3) := by decide +kernel
theorem dX7_digest_84 : decode cX7_digest 84 = .ok (.goto (-24), 3) := by decide +kernel
theorem dX7_digest_87 : decode cX7_digest 87 = .ok (.iinc 3 1, 3) := by decide +kernel
theorem dX7_digest_90 : decode cX7_digest 90 = .ok (.goto (-57), 3) := by decide +kernel
theorem dX7_digest_93 : decode cX7_digest 93 = .ok (.iconst 0, 1) := by decide +kernel
theorem dX7_digest_94 : decode cX7_digest 94 = .ok (.istore_n 3, 1) := by decide +kernel
theorem dX7_digest_95 : decode cX7_digest 95 = .ok (.iload_n 3, 1) := by decide +kernel
theorem dX7_digest_96 : decode cX7_digest 96 = .ok (.iconst 5, 1) := by decide +kernel
theorem dX7_digest_97 : decode cX7_digest 97 = .ok (.if_icmp .ge 45, 3) := by decide +kernel
theorem dX7_digest_100 : decode cX7_digest 100 = .ok (.iconst 0, 1) := by decide +kernel
theorem dX7_digest_101 : decode cX7_digest 101 = .ok (.istore 4, 2) := by decide +kernel
theorem dX7_digest_103 : decode cX7_digest 103 = .ok (.iload_n 3, 1) := by decide +kernel
theorem dX7_digest_104 : decode cX7_digest 104 = .ok (.iload 4, 2) := by decide +kernel
theorem dX7_digest_106 : decode cX7_digest 106 = .ok (.iadd, 1) := by decide +kernel
theorem dX7_digest_107 : decode cX7_digest 107 = .ok (.iconst 5, 1) := by decide +kernel
theorem dX7_digest_108 : decode cX7_digest 108 = .ok (.if_icmp .ge 28, 3) := by decide +kernel
theorem dX7_digest_111 : decode cX7_digest 111 = .ok (.ldc2_w 86, 3) := by decide +kernel
theorem dX7_digest_114 : decode cX7_digest 114 = .ok (.lload_n 1, 1) := by decide +kernel
theorem dX7_digest_115 : decode cX7_digest 115 = .ok (.lmul, 1) := by decide +kernel
theorem dX7_digest_116 : decode cX7_digest 116 = .ok (.aload_n 0, 1) := by decide +kernel
theorem dX7_digest_117 : decode cX7_digest 117 = .ok (.getfield 29, 3) := by decide +kernel
theorem dX7_digest_120 : decode cX7_digest 120 = .ok (.iconst 5, 1) := by decide +kernel
theorem dX7_digest_121 : decode cX7_digest 121 = .ok (.iload_n 3, 1) := by decide +kernel
theorem dX7_digest_122 : decode cX7_digest 122 = .ok (.imul, 1) := by decide +kernel
theorem dX7_digest_123 : decode cX7_digest 123 = .ok (.iload 4, 2) := by decide +kernel
theorem dX7_digest_125 : decode cX7_digest 125 = .ok (.iadd, 1) := by decide +kernel
theorem dX7_digest_126 : decode cX7_digest 126 = .ok (.iaload, 1) := by decide +kernel
theorem dX7_digest_127 : decode cX7_digest 127 = .ok (.i2l, 1) := by decide +kernel
theorem dX7_digest_128 : decode cX7_digest 128 = .ok (.ladd, 1) := by decide +kernel
theorem dX7_digest_129 : decode cX7_digest 129 = .ok (.lstore_n 1, 1) := by decide +kernel
theorem dX7_digest_130 : decode cX7_digest 130 = .ok (.iinc 4 1, 3) := by decide +kernel
theorem dX7_digest_133 : decode cX7_digest 133 = .ok (.goto (-30), 3) := by decide +kernel
theorem dX7_digest_136 : decode cX7_digest 136 = .ok (.iinc 3 1, 3) := by decide +kernel
theorem dX7_digest_139 : decode cX7_digest 139 = .ok (.goto (-44), 3) := by decide +kernel
theorem dX7_digest_142 : decode cX7_digest 142 = .ok (.ldc2_w 86, 3) := by decide +kernel
theorem dX7_digest_145 : decode cX7_digest 145 = .ok (.lload_n 1, 1) := by decide +kernel
theorem dX7_digest_146 : decode cX7_digest 146 = .ok (.lmul, 1) := by decide +kernel
theorem dX7_digest_147 : decode cX7_digest 147 = .ok (.aload_n 0, 1) := by decide +kernel
theorem dX7_digest_148 : decode cX7_digest 148 = .ok (.getfield 32, 3) := by decide +kernel
theorem dX7_digest_151 : decode cX7_digest 151 = .ok (.i2l, 1) := by decide +kernel
theorem dX7_digest_152 : decode cX7_digest 152 = .ok (.ladd, 1) := by decide +kernel
theorem dX7_digest_153 : decode cX7_digest 153 = .ok (.lstore_n 1, 1) := by decide +kernel
theorem dX7_digest_154 : decode cX7_digest 154 = .ok (.iconst 0, 1) := by decide +kernel
theorem dX7_digest_155 : decode cX7_digest 155 = .ok (.istore_n 3, 1) := by decide +kernel
theorem dX7_digest_156 : decode cX7_digest 156 = .ok (.iload_n 3, 1) := by decide +kernel
theorem dX7_digest_157 : decode cX7_digest 157 = .ok (.bipush 6, 2) := by decide +kernel
theorem dX7_digest_159 : decode cX7_digest 159 = .ok (.if_icmp .ge 110, 3) := by decide +kernel
theorem dX7_digest_162 : decode cX7_digest 162 = .ok (.iconst 0, 1) := by decide +kernel
theorem dX7_digest_163 : decode cX7_digest 163 = .ok (.istore 4, 2) := by decide +kernel
theorem dX7_digest_165 : decode cX7_digest 165 = .ok (.iload 4, 2) := by decide +kernel
theorem dX7_digest_167 : decode cX7_digest 167 = .ok (.iconst 1, 1) := by decide +kernel
theorem dX7_digest_168 : decode cX7_digest 168 = .ok (.iconst 2, 1) := by decide +kernel
theorem dX7_digest_169 : decode cX7_digest 169 = .ok (.iload_n 3, 1) := by decide +kernel
theorem dX7_digest_170 : decode cX7_digest 170 = .ok (.imul, 1) := by decide +kernel
theorem dX7_digest_171 : decode cX7_digest 171 = .ok (.ishl, 1) := by decide +kernel
theorem dX7_digest_172 : decode cX7_digest 172 = .ok (.if_icmp .ge 91, 3) := by decide +kernel
theorem dX7_digest_175 : decode cX7_digest 175 = .ok (.iload 4, 2) := by decide +kernel
theorem dX7_digest_177 : decode cX7_digest 177 = .ok (.iconst 1, 1) := by decide +kernel
theorem dX7_digest_178 : decode cX7_digest 178 = .ok (.iload_n 3, 1) := by decide +kernel
theorem dX7_digest_179 : decode cX7_digest 179 = .ok (.ishl, 1) := by decide +kernel
theorem dX7_digest_180 : decode cX7_digest 180 = .ok (.iconst 1, 1) := by decide +kernel
theorem dX7_digest_181 : decode cX7_digest 181 = .ok (.isub, 1) := by decide +kernel
theorem dX7_digest_182 : decode cX7_digest 182 = .ok (.iand, 1) := by decide +kernel
theorem dX7_digest_183 : decode cX7_digest 183 = .ok (.istore 5, 2) := by decide +kernel
theorem dX7_digest_185 : decode cX7_digest 185 = .ok (.iload 4, 2) := by decide +kernel
theorem dX7_digest_187 : decode cX7_digest 187 = .ok (.iload_n 3, 1) := by decide +kernel
theorem dX7_digest_188 : decode cX7_digest 188 = .ok (.ishr, 1) := by decide +kernel
theorem dX7_digest_189 : decode cX7_digest 189 = .ok (.istore 6, 2) := by decide +kernel
theorem dX7_digest_191 : decode cX7_digest 191 = .ok (.aload_n 0, 1) := by decide +kernel
theorem dX7_digest_192 : decode cX7_digest 192 = .ok (.iload_n 3, 1) := by decide +kernel
theorem dX7_digest_193 : decode cX7_digest 193 = .ok (.iload 5, 2) := by decide +kernel
theorem dX7_digest_195 : decode cX7_digest 195 = .ok (.iload 6, 2) := by decide +kernel
theorem dX7_digest_197 : decode cX7_digest 197 = .ok (.invokevirtual 131, 3) := by decide +kernel
theorem dX7_digest_200 : decode cX7_digest 200 = .ok (.ifCond .eq 57, 3) := by decide +kernel
theorem dX7_digest_203 : decode cX7_digest 203 = .ok (.ldc2_w 86, 3) := by decide +kernel
theorem dX7_digest_206 : decode cX7_digest 206 = .ok (.lload_n 1, 1) := by decide +kernel
theorem dX7_digest_207 : decode cX7_digest 207 = .ok (.lmul, 1) := by decide +kernel
theorem dX7_digest_208 : decode cX7_digest 208 = .ok (.aload_n 0, 1) := by decide +kernel
theorem dX7_digest_209 : decode cX7_digest 209 = .ok (.iload_n 3, 1) := by decide +kernel
theorem dX7_digest_210 : decode cX7_digest 210 = .ok (.iload 5, 2) := by decide +kernel
theorem dX7_digest_212 : decode cX7_digest 212 = .ok (.iload 6, 2) := by decide +kernel
theorem dX7_digest_214 : decode cX7_digest 214 = .ok (.iconst 0, 1) := by decide +kernel
theorem dX7_digest_215 : decode cX7_digest 215 = .ok (.iconst 0, 1) := by decide +kernel
theorem dX7_digest_216 : decode cX7_digest 216 = .ok (.invokevirtual 139, 3) := by decide +kernel
theorem dX7_digest_219 : decode cX7_digest 219 = .ok (.ladd, 1) := by decide +kernel
theorem dX7_digest_220 : decode cX7_digest 220 = .ok (.lstore_n 1, 1) := by decide +kernel
theorem dX7_digest_221 : decode cX7_digest 221 = .ok (.ldc2_w 86, 3) := by decide +kernel
theorem dX7_digest_224 : decode cX7_digest 224 = .ok (.lload_n 1, 1) := by decide +kernel
theorem dX7_digest_225 : decode cX7_digest 225 = .ok (.lmul, 1) := by decide +kernel
theorem dX7_digest_226 : decode cX7_digest 226 = .ok (.aload_n 0, 1) := by decide +kernel
theorem dX7_digest_227 : decode cX7_digest 227 = .ok (.iload_n 3, 1) := by decide +kernel
theorem dX7_digest_228 : decode cX7_digest 228 = .ok (.iload 5, 2) := by decide +kernel
theorem dX7_digest_230 : decode cX7_digest 230 = .ok (.iload 6, 2) := by decide +kernel
theorem dX7_digest_232 : decode cX7_digest 232 = .ok (.iconst 1, 1) := by decide +kernel
theorem dX7_digest_233 : decode cX7_digest 233 = .ok (.iconst 0, 1) := by decide +kernel
theorem dX7_digest_234 : decode cX7_digest 234 = .ok (.invokevirtual 139, 3) := by decide +kernel
theorem dX7_digest_237 : decode cX7_digest 237 = .ok (.ladd, 1) := by decide +kernel
theorem dX7_digest_238 : decode cX7_digest 238 = .ok (.lstore_n 1, 1) := by decide +kernel
theorem dX7_digest_239 : decode cX7_digest 239 = .ok (.ldc2_w 86, 3) := by decide +kernel
theorem dX7_digest_242 : decode cX7_digest 242 = .ok (.lload_n 1, 1) := by decide +kernel
theorem dX7_digest_243 : decode cX7_digest 243 = .ok (.lmul, 1) := by decide +kernel
theorem dX7_digest_244 : decode cX7_digest 244 = .ok (.aload_n 0, 1) := by decide +kernel
theorem dX7_digest_245 : decode cX7_digest 245 = .ok (.iload_n 3, 1) := by decide +kernel
theorem dX7_digest_246 : decode cX7_digest 246 = .ok (.iload 5, 2) := by decide +kernel
theorem dX7_digest_248 : decode cX7_digest 248 = .ok (.iload 6, 2) := by decide +kernel
theorem dX7_digest_250 : decode cX7_digest 250 = .ok (.iconst 0, 1) := by decide +kernel
theorem dX7_digest_251 : decode cX7_digest 251 = .ok (.iconst 1, 1) := by decide +kernel
theorem dX7_digest_252 : decode cX7_digest 252 = .ok (.invokevirtual 139, 3) := by decide +kernel
theorem dX7_digest_255 : decode cX7_digest 255 = .ok (.ladd, 1) := by decide +kernel
theorem dX7_digest_256 : decode cX7_digest 256 = .ok (.lstore_n 1, 1) := by decide +kernel
theorem dX7_digest_257 : decode cX7_digest 257 = .ok (.iinc 4 1, 3) := by decide +kernel
theorem dX7_digest_260 : decode cX7_digest 260 = .ok (.goto (-95), 3) := by decide +kernel
theorem dX7_digest_263 : decode cX7_digest 263 = .ok (.iinc 3 1, 3) := by decide +kernel
theorem dX7_digest_266 : decode cX7_digest 266 = .ok (.goto (-110), 3) := by decide +kernel
theorem dX7_digest_269 : decode cX7_digest 269 = .ok (.lload_n 1, 1) := by decide +kernel
theorem dX7_digest_270 : decode cX7_digest 270 = .ok (.lreturn, 1) := by decide +kernel
end
section
theorem dL_law_0 : decode cL_law 0 = .ok (.new 7, 3) := by decide +kernel
theorem dL_law_3 : decode cL_law 3 = .ok (.dup, 1) := by decide +kernel
theorem dL_law_4 : decode cL_law 4 = .ok (.invokespecial 9, 3) := by decide +kernel
theorem dL_law_7 : decode cL_law 7 = .ok (.astore_n 1, 1) := by decide +kernel
theorem dL_law_8 : decode cL_law 8 = .ok (.new 10, 3) := by decide +kernel
theorem dL_law_11 : decode cL_law 11 = .ok (.dup, 1) := by decide +kernel
theorem dL_law_12 : decode cL_law 12 = .ok (.invokespecial 12, 3) := by decide +kernel
theorem dL_law_15 : decode cL_law 15 = .ok (.astore_n 2, 1) := by decide +kernel
theorem dL_law_16 : decode cL_law 16 = .ok (.iconst 0, 1) := by decide +kernel
theorem dL_law_17 : decode cL_law 17 = .ok (.istore_n 3, 1) := by decide +kernel
theorem dL_law_18 : decode cL_law 18 = .ok (.iload_n 3, 1) := by decide +kernel
theorem dL_law_19 : decode cL_law 19 = .ok (.aload_n 0, 1) := by decide +kernel
theorem dL_law_20 : decode cL_law 20 = .ok (.arraylength, 1) := by decide +kernel
theorem dL_law_21 : decode cL_law 21 = .ok (.bipush 6, 2) := by decide +kernel
theorem dL_law_23 : decode cL_law 23 = .ok (.isub, 1) := by decide +kernel
theorem dL_law_24 : decode cL_law 24 = .ok (.if_icmp .gt 887, 3) := by decide +kernel
theorem dL_law_27 : decode cL_law 27 = .ok (.aload_n 0, 1) := by decide +kernel
theorem dL_law_28 : decode cL_law 28 = .ok (.iload_n 3, 1) := by decide +kernel
theorem dL_law_29 : decode cL_law 29 = .ok (.iaload, 1) := by decide +kernel
theorem dL_law_30 : decode cL_law 30 = .ok (.bipush 31, 2) := by decide +kernel
theorem dL_law_32 : decode cL_law 32 = .ok (.iand, 1) := by decide +kernel
theorem dL_law_33 : decode cL_law 33 = .ok (.tableswitch 872 0 18 #[91, 134, 157, 200, 233, 276, 309, 352, 375, 409, 473, 556, 619, 672, 736, 769, 812, 835, 858], 91) := by decide +kernel
theorem dL_law_124 : decode cL_law 124 = .ok (.aload_n 1, 1) := by decide +kernel
theorem dL_law_125 : decode cL_law 125 = .ok (.aload_n 0, 1) := by decide +kernel
theorem dL_law_126 : decode cL_law 126 = .ok (.iload_n 3, 1) := by decide +kernel
theorem dL_law_127 : decode cL_law 127 = .ok (.iconst 1, 1) := by decide +kernel
theorem dL_law_128 : decode cL_law 128 = .ok (.iadd, 1) := by decide +kernel
theorem dL_law_129 : decode cL_law 129 = .ok (.iaload, 1) := by decide +kernel
theorem dL_law_130 : decode cL_law 130 = .ok (.aload_n 0, 1) := by decide +kernel
theorem dL_law_131 : decode cL_law 131 = .ok (.iload_n 3, 1) := by decide +kernel
theorem dL_law_132 : decode cL_law 132 = .ok (.iconst 2, 1) := by decide +kernel
theorem dL_law_133 : decode cL_law 133 = .ok (.iadd, 1) := by decide +kernel
theorem dL_law_134 : decode cL_law 134 = .ok (.iaload, 1) := by decide +kernel
theorem dL_law_135 : decode cL_law 135 = .ok (.aload_n 0, 1) := by decide +kernel
theorem dL_law_136 : decode cL_law 136 = .ok (.iload_n 3, 1) := by decide +kernel
theorem dL_law_137 : decode cL_law 137 = .ok (.iconst 3, 1) := by decide +kernel
theorem dL_law_138 : decode cL_law 138 = .ok (.iadd, 1) := by decide +kernel
theorem dL_law_139 : decode cL_law 139 = .ok (.iaload, 1) := by decide +kernel
theorem dL_law_140 : decode cL_law 140 = .ok (.invokevirtual 13, 3) := by decide +kernel
theorem dL_law_143 : decode cL_law 143 = .ok (.aload_n 2, 1) := by decide +kernel
theorem dL_law_144 : decode cL_law 144 = .ok (.aload_n 0, 1) := by decide +kernel
theorem dL_law_145 : decode cL_law 145 = .ok (.iload_n 3, 1) := by decide +kernel
theorem dL_law_146 : decode cL_law 146 = .ok (.iconst 1, 1) := by decide +kernel
theorem dL_law_147 : decode cL_law 147 = .ok (.iadd, 1) := by decide +kernel
theorem dL_law_148 : decode cL_law 148 = .ok (.iaload, 1) := by decide +kernel
theorem dL_law_149 : decode cL_law 149 = .ok (.aload_n 0, 1) := by decide +kernel
theorem dL_law_150 : decode cL_law 150 = .ok (.iload_n 3, 1) := by decide +kernel
theorem dL_law_151 : decode cL_law 151 = .ok (.iconst 2, 1) := by decide +kernel
theorem dL_law_152 : decode cL_law 152 = .ok (.iadd, 1) := by decide +kernel
theorem dL_law_153 : decode cL_law 153 = .ok (.iaload, 1) := by decide +kernel
theorem dL_law_154 : decode cL_law 154 = .ok (.aload_n 0, 1) := by decide +kernel
theorem dL_law_155 : decode cL_law 155 = .ok (.iload_n 3, 1) := by decide +kernel
theorem dL_law_156 : decode cL_law 156 = .ok (.iconst 3, 1) := by decide +kernel
theorem dL_law_157 : decode cL_law 157 = .ok (.iadd, 1) := by decide +kernel
theorem dL_law_158 : decode cL_law 158 = .ok (.iaload, 1) := by decide +kernel
theorem dL_law_159 : decode cL_law 159 = .ok (.invokevirtual 17, 3) := by decide +kernel
theorem dL_law_162 : decode cL_law 162 = .ok (.if_icmp .eq 743, 3) := by decide +kernel
theorem dL_law_165 : decode cL_law 165 = .ok (.iconst 0, 1) := by decide +kernel
theorem dL_law_166 : decode cL_law 166 = .ok (.ireturn, 1) := by decide +kernel
theorem dL_law_167 : decode cL_law 167 = .ok (.aload_n 1, 1) := by decide +kernel
theorem dL_law_168 : decode cL_law 168 = .ok (.aload_n 0, 1) := by decide +kernel
theorem dL_law_169 : decode cL_law 169 = .ok (.iload_n 3, 1) := by decide +kernel
theorem dL_law_170 : decode cL_law 170 = .ok (.iconst 1, 1) := by decide +kernel
theorem dL_law_171 : decode cL_law 171 = .ok (.iadd, 1) := by decide +kernel
theorem dL_law_172 : decode cL_law 172 = .ok (.iaload, 1) := by decide +kernel
theorem dL_law_173 : decode cL_law 173 = .ok (.invokevirtual 18, 3) := by decide +kernel
theorem dL_law_176 : decode cL_law 176 = .ok (.aload_n 2, 1) := by decide +kernel
theorem dL_law_177 : decode cL_law 177 = .ok (.aload_n 0, 1) := by decide +kernel
theorem dL_law_178 : decode cL_law 178 = .ok (.iload_n 3, 1) := by decide +kernel
theorem dL_law_179 : decode cL_law 179 = .ok (.iconst 1, 1) := by decide +kernel
theorem dL_law_180 : decode cL_law 180 = .ok (.iadd, 1) := by decide +kernel
theorem dL_law_181 : decode cL_law 181 = .ok (.iaload, 1) := by decide +kernel
theorem dL_law_182 : decode cL_law 182 = .ok (.invokevirtual 22, 3) := by decide +kernel
theorem dL_law_185 : decode cL_law 185 = .ok (.if_icmp .eq 720, 3) := by decide +kernel
theorem dL_law_188 : decode cL_law 188 = .ok (.iconst 0, 1) := by decide +kernel
theorem dL_law_189 : decode cL_law 189 = .ok (.ireturn, 1) := by decide +kernel
theorem dL_law_190 : decode cL_law 190 = .ok (.aload_n 1, 1) := by decide +kernel
theorem dL_law_191 : decode cL_law 191 = .ok (.aload_n 0, 1) := by decide +kernel
theorem dL_law_192 : decode cL_law 192 = .ok (.iload_n 3, 1) := by decide +kernel
theorem dL_law_193 : decode cL_law 193 = .ok (.iconst 1, 1) := by decide +kernel
theorem dL_law_194 : decode cL_law 194 = .ok (.iadd, 1) := by decide +kernel
theorem dL_law_195 : decode cL_law 195 = .ok (.iaload, 1) := by decide +kernel
theorem dL_law_196 : decode cL_law 196 = .ok (.aload_n 0, 1) := by decide +kernel
theorem dL_law_197 : decode cL_law 197 = .ok (.iload_n 3, 1) := by decide +kernel
theorem dL_law_198 : decode cL_law 198 = .ok (.iconst 2, 1) := by decide +kernel
theorem dL_law_199 : decode cL_law 199 = .ok (.iadd, 1) := by decide +kernel
theorem dL_law_200 : decode cL_law 200 = .ok (.iaload, 1) := by decide +kernel
theorem dL_law_201 : decode cL_law 201 = .ok (.aload_n 0, 1) := by decide +kernel
theorem dL_law_202 : decode cL_law 202 = .ok (.iload_n 3, 1) := by decide +kernel
theorem dL_law_203 : decode cL_law 203 = .ok (.iconst 3, 1) := by decide +kernel
theorem dL_law_204 : decode cL_law 204 = .ok (.iadd, 1) := by decide +kernel
theorem dL_law_205 : decode cL_law 205 = .ok (.iaload, 1) := by decide +kernel
theorem dL_law_206 : decode cL_law 206 = .ok (.invokevirtual 23, 3) := by decide +kernel
theorem dL_law_209 : decode cL_law 209 = .ok (.aload_n 2, 1) := by decide +kernel
theorem dL_law_210 : decode cL_law 210 = .ok (.aload_n 0, 1) := by decide +kernel
theorem dL_law_211 : decode cL_law 211 = .ok (.iload_n 3, 1) := by decide +kernel
theorem dL_law_212 : decode cL_law 212 = .ok (.iconst 1, 1) := by decide +kernel
theorem dL_law_213 : decode cL_law 213 = .ok (.iadd, 1) := by decide +kernel
theorem dL_law_214 : decode cL_law 214 = .ok (.iaload, 1) := by decide +kernel
theorem dL_law_215 : decode cL_law 215 = .ok (.aload_n 0, 1) := by decide +kernel
theorem dL_law_216 : decode cL_law 216 = .ok (.iload_n 3, 1) := by decide +kernel
theorem dL_law_217 : decode cL_law 217 = .ok (.iconst 2, 1) := by decide +kernel
theorem dL_law_218 : decode cL_law 218 = .ok (.iadd, 1) := by decide +kernel
theorem dL_law_219 : decode cL_law 219 = .ok (.iaload, 1) := by decide +kernel
theorem dL_law_220 : decode cL_law 220 = .ok (.aload_n 0, 1) := by decide +kernel
theorem dL_law_221 : decode cL_law 221 = .ok (.iload_n 3, 1) := by decide +kernel
theorem dL_law_222 : decode cL_law 222 = .ok (.iconst 3, 1) := by decide +kernel
theorem dL_law_223 : decode cL_law 223 = .ok (.iadd, 1) := by decide +kernel
theorem dL_law_224 : decode cL_law 224 = .ok (.iaload, 1) := by decide +kernel
theorem dL_law_225 : decode cL_law 225 = .ok (.invokevirtual 26, 3) := by decide +kernel
theorem dL_law_228 : decode cL_law 228 = .ok (.if_icmp .eq 677, 3) := by decide +kernel
theorem dL_law_231 : decode cL_law 231 = .ok (.iconst 0, 1) := by decide +kernel
theorem dL_law_232 : decode cL_law 232 = .ok (.ireturn, 1) := by decide +kernel
theorem dL_law_233 : decode cL_law 233 = .ok (.aload_n 1, 1) := by decide +kernel
theorem dL_law_234 : decode cL_law 234 = .ok (.aload_n 0, 1) := by decide +kernel
theorem dL_law_235 : decode cL_law 235 = .ok (.iload_n 3, 1) := by decide +kernel
theorem dL_law_236 : decode cL_law 236 = .ok (.iconst 1, 1) := by decide +kernel
theorem dL_law_237 : decode cL_law 237 = .ok (.iadd, 1) := by decide +kernel
theorem dL_law_238 : decode cL_law 238 = .ok (.iaload, 1) := by decide +kernel
theorem dL_law_239 : decode cL_law 239 = .ok (.aload_n 0, 1) := by decide +kernel
theorem dL_law_240 : decode cL_law 240 = .ok (.iload_n 3, 1) := by decide +kernel
theorem dL_law_241 : decode cL_law 241 = .ok (.iconst 2, 1) := by decide +kernel
theorem dL_law_242 : decode cL_law 242 = .ok (.iadd, 1) := by decide +kernel
theorem dL_law_243 : decode cL_law 243 = .ok (.iaload, 1) := by decide +kernel
theorem dL_law_244 : decode cL_law 244 = .ok (.invokevirtual 27, 3) := by decide +kernel
theorem dL_law_247 : decode cL_law 247 = .ok (.aload_n 2, 1) := by decide +kernel
theorem dL_law_248 : decode cL_law 248 = .ok (.aload_n 0, 1) := by decide +kernel
theorem dL_law_249 : decode cL_law 249 = .ok (.iload_n 3, 1) := by decide +kernel
theorem dL_law_250 : decode cL_law 250 = .ok (.iconst 1, 1) := by decide +kernel
theorem dL_law_251 : decode cL_law 251 = .ok (.iadd, 1) := by decide +kernel
theorem dL_law_252 : decode cL_law 252 = .ok (.iaload, 1) := by decide +kernel
theorem dL_law_253 : decode cL_law 253 = .ok (.aload_n 0, 1) := by decide +kernel
theorem dL_law_254 : decode cL_law 254 = .ok (.iload_n 3, 1) := by decide +kernel
theorem dL_law_255 : decode cL_law 255 = .ok (.iconst 2, 1) := by decide +kernel
theorem dL_law_256 : decode cL_law 256 = .ok (.iadd, 1) := by decide +kernel
theorem dL_law_257 : decode cL_law 257 = .ok (.iaload, 1) := by decide +kernel
theorem dL_law_258 : decode cL_law 258 = .ok (.invokevirtual 31, 3) := by decide +kernel
theorem dL_law_261 : decode cL_law 261 = .ok (.if_icmp .eq 644, 3) := by decide +kernel
theorem dL_law_264 : decode cL_law 264 = .ok (.iconst 0, 1) := by decide +kernel
theorem dL_law_265 : decode cL_law 265 = .ok (.ireturn, 1) := by decide +kernel
theorem dL_law_266 : decode cL_law 266 = .ok (.aload_n 1, 1) := by decide +kernel
theorem dL_law_267 : decode cL_law 267 = .ok (.aload_n 0, 1) := by decide +kernel
theorem dL_law_268 : decode cL_law 268 = .ok (.iload_n 3, 1) := by decide +kernel
theorem dL_law_269 : decode cL_law 269 = .ok (.iconst 1, 1) := by decide +kernel
theorem dL_law_270 : decode cL_law 270 = .ok (.iadd, 1) := by decide +kernel
theorem dL_law_271 : decode cL_law 271 = .ok (.iaload, 1) := by decide +kernel
theorem dL_law_272 : decode cL_law 272 = .ok (.aload_n 0, 1) := by decide +kernel
theorem dL_law_273 : decode cL_law 273 = .ok (.iload_n 3, 1) := by decide +kernel
theorem dL_law_274 : decode cL_law 274 = .ok (.iconst 2, 1) := by decide +kernel
theorem dL_law_275 : decode cL_law 275 = .ok (.iadd, 1) := by decide +kernel
theorem dL_law_276 : decode cL_law 276 = .ok (.iaload, 1) := by decide +kernel
theorem dL_law_277 : decode cL_law 277 = .ok (.aload_n 0, 1) := by decide +kernel
theorem dL_law_278 : decode cL_law 278 = .ok (.iload_n 3, 1) := by decide +kernel
theorem dL_law_279 : decode cL_law 279 = .ok (.iconst 3, 1) := by decide +kernel
theorem dL_law_280 : decode cL_law 280 = .ok (.iadd, 1) := by decide +kernel
theorem dL_law_281 : decode cL_law 281 = .ok (.iaload, 1) := by decide +kernel
theorem dL_law_282 : decode cL_law 282 = .ok (.invokevirtual 32, 3) := by decide +kernel
theorem dL_law_285 : decode cL_law 285 = .ok (.aload_n 2, 1) := by decide +kernel
theorem dL_law_286 : decode cL_law 286 = .ok (.aload_n 0, 1) := by decide +kernel
theorem dL_law_287 : decode cL_law 287 = .ok (.iload_n 3, 1) := by decide +kernel
theorem dL_law_288 : decode cL_law 288 = .ok (.iconst 1, 1) := by decide +kernel
theorem dL_law_289 : decode cL_law 289 = .ok (.iadd, 1) := by decide +kernel
theorem dL_law_290 : decode cL_law 290 = .ok (.iaload, 1) := by decide +kernel
theorem dL_law_291 : decode cL_law 291 = .ok (.aload_n 0, 1) := by decide +kernel
theorem dL_law_292 : decode cL_law 292 = .ok (.iload_n 3, 1) := by decide +kernel
theorem dL_law_293 : decode cL_law 293 = .ok (.iconst 2, 1) := by decide +kernel
theorem dL_law_294 : decode cL_law 294 = .ok (.iadd, 1) := by decide +kernel
theorem dL_law_295 : decode cL_law 295 = .ok (.iaload, 1) := by decide +kernel
theorem dL_law_296 : decode cL_law 296 = .ok (.aload_n 0, 1) := by decide +kernel
theorem dL_law_297 : decode cL_law 297 = .ok (.iload_n 3, 1) := by decide +kernel
theorem dL_law_298 : decode cL_law 298 = .ok (.iconst 3, 1) := by decide +kernel
theorem dL_law_299 : decode cL_law 299 = .ok (.iadd, 1) := by decide +kernel
theorem dL_law_300 : decode cL_law 300 = .ok (.iaload, 1) := by decide +kernel
theorem dL_law_301 : decode cL_law 301 = .ok (.invokevirtual 35, 3) := by decide +kernel
theorem dL_law_304 : decode cL_law 304 = .ok (.if_icmp .eq 601, 3) := by decide +kernel
theorem dL_law_307 : decode cL_law 307 = .ok (.iconst 0, 1) := by decide +kernel
theorem dL_law_308 : decode cL_law 308 = .ok (.ireturn, 1) := by decide +kernel
theorem dL_law_309 : decode cL_law 309 = .ok (.aload_n 1, 1) := by decide +kernel
theorem dL_law_310 : decode cL_law 310 = .ok (.aload_n 0, 1) := by decide +kernel
theorem dL_law_311 : decode cL_law 311 = .ok (.iload_n 3, 1) := by decide +kernel
theorem dL_law_312 : decode cL_law 312 = .ok (.iconst 1, 1) := by decide +kernel
theorem dL_law_313 : decode cL_law 313 = .ok (.iadd, 1) := by decide +kernel
theorem dL_law_314 : decode cL_law 314 = .ok (.iaload, 1) := by decide +kernel
theorem dL_law_315 : decode cL_law 315 = .ok (.aload_n 0, 1) := by decide +kernel
theorem dL_law_316 : decode cL_law 316 = .ok (.iload_n 3, 1) := by decide +kernel
theorem dL_law_317 : decode cL_law 317 = .ok (.iconst 2, 1) := by decide +kernel
theorem dL_law_318 : decode cL_law 318 = .ok (.iadd, 1) := by decide +kernel
theorem dL_law_319 : decode cL_law 319 = .ok (.iaload, 1) := by decide +kernel
theorem dL_law_320 : decode cL_law 320 = .ok (.invokevirtual 36, 3) := by decide +kernel
theorem dL_law_323 : decode cL_law 323 = .ok (.aload_n 2, 1) := by decide +kernel
theorem dL_law_324 : decode cL_law 324 = .ok (.aload_n 0, 1) := by decide +kernel
theorem dL_law_325 : decode cL_law 325 = .ok (.iload_n 3, 1) := by decide +kernel
theorem dL_law_326 : decode cL_law 326 = .ok (.iconst 1, 1) := by decide +kernel
theorem dL_law_327 : decode cL_law 327 = .ok (.iadd, 1) := by decide +kernel
theorem dL_law_328 : decode cL_law 328 = .ok (.iaload, 1) := by decide +kernel
theorem dL_law_329 : decode cL_law 329 = .ok (.aload_n 0, 1) := by decide +kernel
theorem dL_law_330 : decode cL_law 330 = .ok (.iload_n 3, 1) := by decide +kernel
theorem dL_law_331 : decode cL_law 331 = .ok (.iconst 2, 1) := by decide +kernel
theorem dL_law_332 : decode cL_law 332 = .ok (.iadd, 1) := by decide +kernel
theorem dL_law_333 : decode cL_law 333 = .ok (.iaload, 1) := by decide +kernel
theorem dL_law_334 : decode cL_law 334 = .ok (.invokevirtual 39, 3) := by decide +kernel
theorem dL_law_337 : decode cL_law 337 = .ok (.if_icmp .eq 568, 3) := by decide +kernel
theorem dL_law_340 : decode cL_law 340 = .ok (.iconst 0, 1) := by decide +kernel
theorem dL_law_341 : decode cL_law 341 = .ok (.ireturn, 1) := by decide +kernel
theorem dL_law_342 : decode cL_law 342 = .ok (.aload_n 1, 1) := by decide +kernel
theorem dL_law_343 : decode cL_law 343 = .ok (.aload_n 0, 1) := by decide +kernel
theorem dL_law_344 : decode cL_law 344 = .ok (.iload_n 3, 1) := by decide +kernel
theorem dL_law_345 : decode cL_law 345 = .ok (.iconst 1, 1) := by decide +kernel
theorem dL_law_346 : decode cL_law 346 = .ok (.iadd, 1) := by decide +kernel
theorem dL_law_347 : decode cL_law 347 = .ok (.iaload, 1) := by decide +kernel
theorem dL_law_348 : decode cL_law 348 = .ok (.aload_n 0, 1) := by decide +kernel
theorem dL_law_349 : decode cL_law 349 = .ok (.iload_n 3, 1) := by decide +kernel
theorem dL_law_350 : decode cL_law 350 = .ok (.iconst 2, 1) := by decide +kernel
theorem dL_law_351 : decode cL_law 351 = .ok (.iadd, 1) := by decide +kernel
theorem dL_law_352 : decode cL_law 352 = .ok (.iaload, 1) := by decide +kernel
theorem dL_law_353 : decode cL_law 353 = .ok (.aload_n 0, 1) := by decide +kernel
theorem dL_law_354 : decode cL_law 354 = .ok (.iload_n 3, 1) := by decide +kernel
theorem dL_law_355 : decode cL_law 355 = .ok (.iconst 3, 1) := by decide +kernel
theorem dL_law_356 : decode cL_law 356 = .ok (.iadd, 1) := by decide +kernel
theorem dL_law_357 : decode cL_law 357 = .ok (.iaload, 1) := by decide +kernel
theorem dL_law_358 : decode cL_law 358 = .ok (.invokevirtual 40, 3) := by decide +kernel
theorem dL_law_361 : decode cL_law 361 = .ok (.aload_n 2, 1) := by decide +kernel
theorem dL_law_362 : decode cL_law 362 = .ok (.aload_n 0, 1) := by decide +kernel
theorem dL_law_363 : decode cL_law 363 = .ok (.iload_n 3, 1) := by decide +kernel
theorem dL_law_364 : decode cL_law 364 = .ok (.iconst 1, 1) := by decide +kernel
theorem dL_law_365 : decode cL_law 365 = .ok (.iadd, 1) := by decide +kernel
theorem dL_law_366 : decode cL_law 366 = .ok (.iaload, 1) := by decide +kernel
theorem dL_law_367 : decode cL_law 367 = .ok (.aload_n 0, 1) := by decide +kernel
theorem dL_law_368 : decode cL_law 368 = .ok (.iload_n 3, 1) := by decide +kernel
theorem dL_law_369 : decode cL_law 369 = .ok (.iconst 2, 1) := by decide +kernel
theorem dL_law_370 : decode cL_law 370 = .ok (.iadd, 1) := by decide +kernel
theorem dL_law_371 : decode cL_law 371 = .ok (.iaload, 1) := by decide +kernel
theorem dL_law_372 : decode cL_law 372 = .ok (.aload_n 0, 1) := by decide +kernel
theorem dL_law_373 : decode cL_law 373 = .ok (.iload_n 3, 1) := by decide +kernel
theorem dL_law_374 : decode cL_law 374 = .ok (.iconst 3, 1) := by decide +kernel
theorem dL_law_375 : decode cL_law 375 = .ok (.iadd, 1) := by decide +kernel
theorem dL_law_376 : decode cL_law 376 = .ok (.iaload, 1) := by decide +kernel
theorem dL_law_377 : decode cL_law 377 = .ok (.invokevirtual 43, 3) := by decide +kernel
theorem dL_law_380 : decode cL_law 380 = .ok (.if_icmp .eq 525, 3) := by decide +kernel
theorem dL_law_383 : decode cL_law 383 = .ok (.iconst 0, 1) := by decide +kernel
theorem dL_law_384 : decode cL_law 384 = .ok (.ireturn, 1) := by decide +kernel
theorem dL_law_385 : decode cL_law 385 = .ok (.aload_n 1, 1) := by decide +kernel
theorem dL_law_386 : decode cL_law 386 = .ok (.aload_n 0, 1) := by decide +kernel
theorem dL_law_387 : decode cL_law 387 = .ok (.iload_n 3, 1) := by decide +kernel
theorem dL_law_388 : decode cL_law 388 = .ok (.iconst 1, 1) := by decide +kernel
theorem dL_law_389 : decode cL_law 389 = .ok (.iadd, 1) := by decide +kernel
theorem dL_law_390 : decode cL_law 390 = .ok (.iaload, 1) := by decide +kernel
theorem dL_law_391 : decode cL_law 391 = .ok (.invokevirtual 44, 3) := by decide +kernel
theorem dL_law_394 : decode cL_law 394 = .ok (.aload_n 2, 1) := by decide +kernel
theorem dL_law_395 : decode cL_law 395 = .ok (.aload_n 0, 1) := by decide +kernel
theorem dL_law_396 : decode cL_law 396 = .ok (.iload_n 3, 1) := by decide +kernel
theorem dL_law_397 : decode cL_law 397 = .ok (.iconst 1, 1) := by decide +kernel
theorem dL_law_398 : decode cL_law 398 = .ok (.iadd, 1) := by decide +kernel
theorem dL_law_399 : decode cL_law 399 = .ok (.iaload, 1) := by decide +kernel
theorem dL_law_400 : decode cL_law 400 = .ok (.invokevirtual 47, 3) := by decide +kernel
theorem dL_law_403 : decode cL_law 403 = .ok (.if_icmp .eq 502, 3) := by decide +kernel
theorem dL_law_406 : decode cL_law 406 = .ok (.iconst 0, 1) := by decide +kernel
theorem dL_law_407 : decode cL_law 407 = .ok (.ireturn, 1) := by decide +kernel
theorem dL_law_408 : decode cL_law 408 = .ok (.aload_n 1, 1) := by decide +kernel
theorem dL_law_409 : decode cL_law 409 = .ok (.aload_n 0, 1) := by decide +kernel
theorem dL_law_410 : decode cL_law 410 = .ok (.iload_n 3, 1) := by decide +kernel
theorem dL_law_411 : decode cL_law 411 = .ok (.iconst 1, 1) := by decide +kernel
theorem dL_law_412 : decode cL_law 412 = .ok (.iadd, 1) := by decide +kernel
theorem dL_law_413 : decode cL_law 413 = .ok (.iaload, 1) := by decide +kernel
theorem dL_law_414 : decode cL_law 414 = .ok (.aload_n 0, 1) := by decide +kernel
theorem dL_law_415 : decode cL_law 415 = .ok (.iload_n 3, 1) := by decide +kernel
theorem dL_law_416 : decode cL_law 416 = .ok (.iconst 2, 1) := by decide +kernel
theorem dL_law_417 : decode cL_law 417 = .ok (.iadd, 1) := by decide +kernel
theorem dL_law_418 : decode cL_law 418 = .ok (.iaload, 1) := by decide +kernel
theorem dL_law_419 : decode cL_law 419 = .ok (.invokevirtual 48, 3) := by decide +kernel
theorem dL_law_422 : decode cL_law 422 = .ok (.aload_n 2, 1) := by decide +kernel
theorem dL_law_423 : decode cL_law 423 = .ok (.aload_n 0, 1) := by decide +kernel
theorem dL_law_424 : decode cL_law 424 = .ok (.iload_n 3, 1) := by decide +kernel
theorem dL_law_425 : decode cL_law 425 = .ok (.iconst 1, 1) := by decide +kernel
theorem dL_law_426 : decode cL_law 426 = .ok (.iadd, 1) := by decide +kernel
theorem dL_law_427 : decode cL_law 427 = .ok (.iaload, 1) := by decide +kernel
theorem dL_law_428 : decode cL_law 428 = .ok (.aload_n 0, 1) := by decide +kernel
theorem dL_law_429 : decode cL_law 429 = .ok (.iload_n 3, 1) := by decide +kernel
theorem dL_law_430 : decode cL_law 430 = .ok (.iconst 2, 1) := by decide +kernel
theorem dL_law_431 : decode cL_law 431 = .ok (.iadd, 1) := by decide +kernel
theorem dL_law_432 : decode cL_law 432 = .ok (.iaload, 1) := by decide +kernel
theorem dL_law_433 : decode cL_law 433 = .ok (.invokevirtual 52, 3) := by decide +kernel
theorem dL_law_436 : decode cL_law 436 = .ok (.lcmp, 1) := by decide +kernel
theorem dL_law_437 : decode cL_law 437 = .ok (.ifCond .eq 468, 3) := by decide +kernel
theorem dL_law_440 : decode cL_law 440 = .ok (.iconst 0, 1) := by decide +kernel
theorem dL_law_441 : decode cL_law 441 = .ok (.ireturn, 1) := by decide +kernel
theorem dL_law_442 : decode cL_law 442 = .ok (.aload_n 1, 1) := by decide +kernel
theorem dL_law_443 : decode cL_law 443 = .ok (.aload_n 0, 1) := by decide +kernel
theorem dL_law_444 : decode cL_law 444 = .ok (.iload_n 3, 1) := by decide +kernel
theorem dL_law_445 : decode cL_law 445 = .ok (.iconst 1, 1) := by decide +kernel
theorem dL_law_446 : decode cL_law 446 = .ok (.iadd, 1) := by decide +kernel
theorem dL_law_447 : decode cL_law 447 = .ok (.iaload, 1) := by decide +kernel
theorem dL_law_448 : decode cL_law 448 = .ok (.aload_n 0, 1) := by decide +kernel
theorem dL_law_449 : decode cL_law 449 = .ok (.iload_n 3, 1) := by decide +kernel
theorem dL_law_450 : decode cL_law 450 = .ok (.iconst 2, 1) := by decide +kernel
theorem dL_law_451 : decode cL_law 451 = .ok (.iadd, 1) := by decide +kernel
theorem dL_law_452 : decode cL_law 452 = .ok (.iaload, 1) := by decide +kernel
theorem dL_law_453 : decode cL_law 453 = .ok (.aload_n 0, 1) := by decide +kernel
theorem dL_law_454 : decode cL_law 454 = .ok (.iload_n 3, 1) := by decide +kernel
theorem dL_law_455 : decode cL_law 455 = .ok (.iconst 3, 1) := by decide +kernel
theorem dL_law_456 : decode cL_law 456 = .ok (.iadd, 1) := by decide +kernel
theorem dL_law_457 : decode cL_law 457 = .ok (.iaload, 1) := by decide +kernel
theorem dL_law_458 : decode cL_law 458 = .ok (.aload_n 0, 1) := by decide +kernel
theorem dL_law_459 : decode cL_law 459 = .ok (.iload_n 3, 1) := by decide +kernel
theorem dL_law_460 : decode cL_law 460 = .ok (.iconst 4, 1) := by decide +kernel
theorem dL_law_461 : decode cL_law 461 = .ok (.iadd, 1) := by decide +kernel
theorem dL_law_462 : decode cL_law 462 = .ok (.iaload, 1) := by decide +kernel
theorem dL_law_463 : decode cL_law 463 = .ok (.aload_n 0, 1) := by decide +kernel
theorem dL_law_464 : decode cL_law 464 = .ok (.iload_n 3, 1) := by decide +kernel
theorem dL_law_465 : decode cL_law 465 = .ok (.iconst 5, 1) := by decide +kernel
theorem dL_law_466 : decode cL_law 466 = .ok (.iadd, 1) := by decide +kernel
theorem dL_law_467 : decode cL_law 467 = .ok (.iaload, 1) := by decide +kernel
theorem dL_law_468 : decode cL_law 468 = .ok (.invokevirtual 53, 3) := by decide +kernel
theorem dL_law_471 : decode cL_law 471 = .ok (.aload_n 2, 1) := by decide +kernel
theorem dL_law_472 : decode cL_law 472 = .ok (.aload_n 0, 1) := by decide +kernel
theorem dL_law_473 : decode cL_law 473 = .ok (.iload_n 3, 1) := by decide +kernel
theorem dL_law_474 : decode cL_law 474 = .ok (.iconst 1, 1) := by decide +kernel
theorem dL_law_475 : decode cL_law 475 = .ok (.iadd, 1) := by decide +kernel
theorem dL_law_476 : decode cL_law 476 = .ok (.iaload, 1) := by decide +kernel
theorem dL_law_477 : decode cL_law 477 = .ok (.aload_n 0, 1) := by decide +kernel
theorem dL_law_478 : decode cL_law 478 = .ok (.iload_n 3, 1) := by decide +kernel
theorem dL_law_479 : decode cL_law 479 = .ok (.iconst 2, 1) := by decide +kernel
theorem dL_law_480 : decode cL_law 480 = .ok (.iadd, 1) := by decide +kernel
theorem dL_law_481 : decode cL_law 481 = .ok (.iaload, 1) := by decide +kernel
theorem dL_law_482 : decode cL_law 482 = .ok (.aload_n 0, 1) := by decide +kernel
theorem dL_law_483 : decode cL_law 483 = .ok (.iload_n 3, 1) := by decide +kernel
theorem dL_law_484 : decode cL_law 484 = .ok (.iconst 3, 1) := by decide +kernel
theorem dL_law_485 : decode cL_law 485 = .ok (.iadd, 1) := by decide +kernel
theorem dL_law_486 : decode cL_law 486 = .ok (.iaload, 1) := by decide +kernel
theorem dL_law_487 : decode cL_law 487 = .ok (.aload_n 0, 1) := by decide +kernel
theorem dL_law_488 : decode cL_law 488 = .ok (.iload_n 3, 1) := by decide +kernel
theorem dL_law_489 : decode cL_law 489 = .ok (.iconst 4, 1) := by decide +kernel
theorem dL_law_490 : decode cL_law 490 = .ok (.iadd, 1) := by decide +kernel
theorem dL_law_491 : decode cL_law 491 = .ok (.iaload, 1) := by decide +kernel
theorem dL_law_492 : decode cL_law 492 = .ok (.aload_n 0, 1) := by decide +kernel
theorem dL_law_493 : decode cL_law 493 = .ok (.iload_n 3, 1) := by decide +kernel
theorem dL_law_494 : decode cL_law 494 = .ok (.iconst 5, 1) := by decide +kernel
theorem dL_law_495 : decode cL_law 495 = .ok (.iadd, 1) := by decide +kernel
theorem dL_law_496 : decode cL_law 496 = .ok (.iaload, 1) := by decide +kernel
theorem dL_law_497 : decode cL_law 497 = .ok (.invokevirtual 57, 3) := by decide +kernel
theorem dL_law_500 : decode cL_law 500 = .ok (.lcmp, 1) := by decide +kernel
theorem dL_law_501 : decode cL_law 501 = .ok (.ifCond .eq 404, 3) := by decide +kernel
theorem dL_law_504 : decode cL_law 504 = .ok (.iconst 0, 1) := by decide +kernel
theorem dL_law_505 : decode cL_law 505 = .ok (.ireturn, 1) := by decide +kernel
theorem dL_law_506 : decode cL_law 506 = .ok (.aload_n 1, 1) := by decide +kernel
theorem dL_law_507 : decode cL_law 507 = .ok (.aload_n 0, 1) := by decide +kernel
theorem dL_law_508 : decode cL_law 508 = .ok (.iload_n 3, 1) := by decide +kernel
theorem dL_law_509 : decode cL_law 509 = .ok (.iconst 1, 1) := by decide +kernel
theorem dL_law_510 : decode cL_law 510 = .ok (.iadd, 1) := by decide +kernel
theorem dL_law_511 : decode cL_law 511 = .ok (.iaload, 1) := by decide +kernel
theorem dL_law_512 : decode cL_law 512 = .ok (.aload_n 0, 1) := by decide +kernel
theorem dL_law_513 : decode cL_law 513 = .ok (.iload_n 3, 1) := by decide +kernel
theorem dL_law_514 : decode cL_law 514 = .ok (.iconst 2, 1) := by decide +kernel
theorem dL_law_515 : decode cL_law 515 = .ok (.iadd, 1) := by decide +kernel
theorem dL_law_516 : decode cL_law 516 = .ok (.iaload, 1) := by decide +kernel
theorem dL_law_517 : decode cL_law 517 = .ok (.aload_n 0, 1) := by decide +kernel
theorem dL_law_518 : decode cL_law 518 = .ok (.iload_n 3, 1) := by decide +kernel
theorem dL_law_519 : decode cL_law 519 = .ok (.iconst 3, 1) := by decide +kernel
theorem dL_law_520 : decode cL_law 520 = .ok (.iadd, 1) := by decide +kernel
theorem dL_law_521 : decode cL_law 521 = .ok (.iaload, 1) := by decide +kernel
theorem dL_law_522 : decode cL_law 522 = .ok (.aload_n 0, 1) := by decide +kernel
theorem dL_law_523 : decode cL_law 523 = .ok (.iload_n 3, 1) := by decide +kernel
theorem dL_law_524 : decode cL_law 524 = .ok (.iconst 4, 1) := by decide +kernel
theorem dL_law_525 : decode cL_law 525 = .ok (.iadd, 1) := by decide +kernel
theorem dL_law_526 : decode cL_law 526 = .ok (.iaload, 1) := by decide +kernel
theorem dL_law_527 : decode cL_law 527 = .ok (.i2l, 1) := by decide +kernel
theorem dL_law_528 : decode cL_law 528 = .ok (.bipush 32, 2) := by decide +kernel
theorem dL_law_530 : decode cL_law 530 = .ok (.lshl, 1) := by decide +kernel
theorem dL_law_531 : decode cL_law 531 = .ok (.aload_n 0, 1) := by decide +kernel
theorem dL_law_532 : decode cL_law 532 = .ok (.iload_n 3, 1) := by decide +kernel
theorem dL_law_533 : decode cL_law 533 = .ok (.iconst 5, 1) := by decide +kernel
theorem dL_law_534 : decode cL_law 534 = .ok (.iadd, 1) := by decide +kernel
theorem dL_law_535 : decode cL_law 535 = .ok (.iaload, 1) := by decide +kernel
theorem dL_law_536 : decode cL_law 536 = .ok (.i2l, 1) := by decide +kernel
theorem dL_law_537 : decode cL_law 537 = .ok (.ldc2_w 58, 3) := by decide +kernel
theorem dL_law_540 : decode cL_law 540 = .ok (.land, 1) := by decide +kernel
theorem dL_law_541 : decode cL_law 541 = .ok (.lor, 1) := by decide +kernel
theorem dL_law_542 : decode cL_law 542 = .ok (.invokevirtual 60, 3) := by decide +kernel
theorem dL_law_545 : decode cL_law 545 = .ok (.aload_n 2, 1) := by decide +kernel
theorem dL_law_546 : decode cL_law 546 = .ok (.aload_n 0, 1) := by decide +kernel
theorem dL_law_547 : decode cL_law 547 = .ok (.iload_n 3, 1) := by decide +kernel
theorem dL_law_548 : decode cL_law 548 = .ok (.iconst 1, 1) := by decide +kernel
theorem dL_law_549 : decode cL_law 549 = .ok (.iadd, 1) := by decide +kernel
theorem dL_law_550 : decode cL_law 550 = .ok (.iaload, 1) := by decide +kernel
theorem dL_law_551 : decode cL_law 551 = .ok (.aload_n 0, 1) := by decide +kernel
theorem dL_law_552 : decode cL_law 552 = .ok (.iload_n 3, 1) := by decide +kernel
theorem dL_law_553 : decode cL_law 553 = .ok (.iconst 2, 1) := by decide +kernel
theorem dL_law_554 : decode cL_law 554 = .ok (.iadd, 1) := by decide +kernel
theorem dL_law_555 : decode cL_law 555 = .ok (.iaload, 1) := by decide +kernel
theorem dL_law_556 : decode cL_law 556 = .ok (.aload_n 0, 1) := by decide +kernel
theorem dL_law_557 : decode cL_law 557 = .ok (.iload_n 3, 1) := by decide +kernel
theorem dL_law_558 : decode cL_law 558 = .ok (.iconst 3, 1) := by decide +kernel
theorem dL_law_559 : decode cL_law 559 = .ok (.iadd, 1) := by decide +kernel
theorem dL_law_560 : decode cL_law 560 = .ok (.iaload, 1) := by decide +kernel
theorem dL_law_561 : decode cL_law 561 = .ok (.aload_n 0, 1) := by decide +kernel
theorem dL_law_562 : decode cL_law 562 = .ok (.iload_n 3, 1) := by decide +kernel
theorem dL_law_563 : decode cL_law 563 = .ok (.iconst 4, 1) := by decide +kernel
theorem dL_law_564 : decode cL_law 564 = .ok (.iadd, 1) := by decide +kernel
theorem dL_law_565 : decode cL_law 565 = .ok (.iaload, 1) := by decide +kernel
theorem dL_law_566 : decode cL_law 566 = .ok (.i2l, 1) := by decide +kernel
theorem dL_law_567 : decode cL_law 567 = .ok (.bipush 32, 2) := by decide +kernel
theorem dL_law_569 : decode cL_law 569 = .ok (.lshl, 1) := by decide +kernel
theorem dL_law_570 : decode cL_law 570 = .ok (.aload_n 0, 1) := by decide +kernel
theorem dL_law_571 : decode cL_law 571 = .ok (.iload_n 3, 1) := by decide +kernel
theorem dL_law_572 : decode cL_law 572 = .ok (.iconst 5, 1) := by decide +kernel
theorem dL_law_573 : decode cL_law 573 = .ok (.iadd, 1) := by decide +kernel
theorem dL_law_574 : decode cL_law 574 = .ok (.iaload, 1) := by decide +kernel
theorem dL_law_575 : decode cL_law 575 = .ok (.i2l, 1) := by decide +kernel
theorem dL_law_576 : decode cL_law 576 = .ok (.ldc2_w 58, 3) := by decide +kernel
theorem dL_law_579 : decode cL_law 579 = .ok (.land, 1) := by decide +kernel
theorem dL_law_580 : decode cL_law 580 = .ok (.lor, 1) := by decide +kernel
theorem dL_law_581 : decode cL_law 581 = .ok (.invokevirtual 64, 3) := by decide +kernel
theorem dL_law_584 : decode cL_law 584 = .ok (.if_icmp .eq 321, 3) := by decide +kernel
theorem dL_law_587 : decode cL_law 587 = .ok (.iconst 0, 1) := by decide +kernel
theorem dL_law_588 : decode cL_law 588 = .ok (.ireturn, 1) := by decide +kernel
theorem dL_law_589 : decode cL_law 589 = .ok (.aload_n 1, 1) := by decide +kernel
theorem dL_law_590 : decode cL_law 590 = .ok (.aload_n 0, 1) := by decide +kernel
theorem dL_law_591 : decode cL_law 591 = .ok (.iload_n 3, 1) := by decide +kernel
theorem dL_law_592 : decode cL_law 592 = .ok (.iconst 1, 1) := by decide +kernel
theorem dL_law_593 : decode cL_law 593 = .ok (.iadd, 1) := by decide +kernel
theorem dL_law_594 : decode cL_law 594 = .ok (.iaload, 1) := by decide +kernel
theorem dL_law_595 : decode cL_law 595 = .ok (.aload_n 0, 1) := by decide +kernel
theorem dL_law_596 : decode cL_law 596 = .ok (.iload_n 3, 1) := by decide +kernel
theorem dL_law_597 : decode cL_law 597 = .ok (.iconst 2, 1) := by decide +kernel
theorem dL_law_598 : decode cL_law 598 = .ok (.iadd, 1) := by decide +kernel
theorem dL_law_599 : decode cL_law 599 = .ok (.iaload, 1) := by decide +kernel
theorem dL_law_600 : decode cL_law 600 = .ok (.aload_n 0, 1) := by decide +kernel
theorem dL_law_601 : decode cL_law 601 = .ok (.iload_n 3, 1) := by decide +kernel
theorem dL_law_602 : decode cL_law 602 = .ok (.iconst 3, 1) := by decide +kernel
theorem dL_law_603 : decode cL_law 603 = .ok (.iadd, 1) := by decide +kernel
theorem dL_law_604 : decode cL_law 604 = .ok (.iaload, 1) := by decide +kernel
theorem dL_law_605 : decode cL_law 605 = .ok (.aload_n 0, 1) := by decide +kernel
theorem dL_law_606 : decode cL_law 606 = .ok (.iload_n 3, 1) := by decide +kernel
theorem dL_law_607 : decode cL_law 607 = .ok (.iconst 4, 1) := by decide +kernel
theorem dL_law_608 : decode cL_law 608 = .ok (.iadd, 1) := by decide +kernel
theorem dL_law_609 : decode cL_law 609 = .ok (.iaload, 1) := by decide +kernel
theorem dL_law_610 : decode cL_law 610 = .ok (.aload_n 0, 1) := by decide +kernel
theorem dL_law_611 : decode cL_law 611 = .ok (.iload_n 3, 1) := by decide +kernel
theorem dL_law_612 : decode cL_law 612 = .ok (.iconst 5, 1) := by decide +kernel
theorem dL_law_613 : decode cL_law 613 = .ok (.iadd, 1) := by decide +kernel
theorem dL_law_614 : decode cL_law 614 = .ok (.iaload, 1) := by decide +kernel
theorem dL_law_615 : decode cL_law 615 = .ok (.invokevirtual 65, 3) := by decide +kernel
theorem dL_law_618 : decode cL_law 618 = .ok (.aload_n 2, 1) := by decide +kernel
theorem dL_law_619 : decode cL_law 619 = .ok (.aload_n 0, 1) := by decide +kernel
theorem dL_law_620 : decode cL_law 620 = .ok (.iload_n 3, 1) := by decide +kernel
theorem dL_law_621 : decode cL_law 621 = .ok (.iconst 1, 1) := by decide +kernel
theorem dL_law_622 : decode cL_law 622 = .ok (.iadd, 1) := by decide +kernel
theorem dL_law_623 : decode cL_law 623 = .ok (.iaload, 1) := by decide +kernel
theorem dL_law_624 : decode cL_law 624 = .ok (.aload_n 0, 1) := by decide +kernel
theorem dL_law_625 : decode cL_law 625 = .ok (.iload_n 3, 1) := by decide +kernel
theorem dL_law_626 : decode cL_law 626 = .ok (.iconst 2, 1) := by decide +kernel
theorem dL_law_627 : decode cL_law 627 = .ok (.iadd, 1) := by decide +kernel
theorem dL_law_628 : decode cL_law 628 = .ok (.iaload, 1) := by decide +kernel
theorem dL_law_629 : decode cL_law 629 = .ok (.aload_n 0, 1) := by decide +kernel
theorem dL_law_630 : decode cL_law 630 = .ok (.iload_n 3, 1) := by decide +kernel
theorem dL_law_631 : decode cL_law 631 = .ok (.iconst 3, 1) := by decide +kernel
theorem dL_law_632 : decode cL_law 632 = .ok (.iadd, 1) := by decide +kernel
theorem dL_law_633 : decode cL_law 633 = .ok (.iaload, 1) := by decide +kernel
theorem dL_law_634 : decode cL_law 634 = .ok (.aload_n 0, 1) := by decide +kernel
theorem dL_law_635 : decode cL_law 635 = .ok (.iload_n 3, 1) := by decide +kernel
theorem dL_law_636 : decode cL_law 636 = .ok (.iconst 4, 1) := by decide +kernel
theorem dL_law_637 : decode cL_law 637 = .ok (.iadd, 1) := by decide +kernel
theorem dL_law_638 : decode cL_law 638 = .ok (.iaload, 1) := by decide +kernel
theorem dL_law_639 : decode cL_law 639 = .ok (.aload_n 0, 1) := by decide +kernel
theorem dL_law_640 : decode cL_law 640 = .ok (.iload_n 3, 1) := by decide +kernel
theorem dL_law_641 : decode cL_law 641 = .ok (.iconst 5, 1) := by decide +kernel
theorem dL_law_642 : decode cL_law 642 = .ok (.iadd, 1) := by decide +kernel
theorem dL_law_643 : decode cL_law 643 = .ok (.iaload, 1) := by decide +kernel
theorem dL_law_644 : decode cL_law 644 = .ok (.invokevirtual 69, 3) := by decide +kernel
theorem dL_law_647 : decode cL_law 647 = .ok (.if_icmp .eq 258, 3) := by decide +kernel
theorem dL_law_650 : decode cL_law 650 = .ok (.iconst 0, 1) := by decide +kernel
theorem dL_law_651 : decode cL_law 651 = .ok (.ireturn, 1) := by decide +kernel
theorem dL_law_652 : decode cL_law 652 = .ok (.aload_n 1, 1) := by decide +kernel
theorem dL_law_653 : decode cL_law 653 = .ok (.aload_n 0, 1) := by decide +kernel
theorem dL_law_654 : decode cL_law 654 = .ok (.iload_n 3, 1) := by decide +kernel
theorem dL_law_655 : decode cL_law 655 = .ok (.iconst 1, 1) := by decide +kernel
theorem dL_law_656 : decode cL_law 656 = .ok (.iadd, 1) := by decide +kernel
theorem dL_law_657 : decode cL_law 657 = .ok (.iaload, 1) := by decide +kernel
theorem dL_law_658 : decode cL_law 658 = .ok (.aload_n 0, 1) := by decide +kernel
theorem dL_law_659 : decode cL_law 659 = .ok (.iload_n 3, 1) := by decide +kernel
theorem dL_law_660 : decode cL_law 660 = .ok (.iconst 2, 1) := by decide +kernel
theorem dL_law_661 : decode cL_law 661 = .ok (.iadd, 1) := by decide +kernel
theorem dL_law_662 : decode cL_law 662 = .ok (.iaload, 1) := by decide +kernel
theorem dL_law_663 : decode cL_law 663 = .ok (.aload_n 0, 1) := by decide +kernel
theorem dL_law_664 : decode cL_law 664 = .ok (.iload_n 3, 1) := by decide +kernel
theorem dL_law_665 : decode cL_law 665 = .ok (.iconst 3, 1) := by decide +kernel
theorem dL_law_666 : decode cL_law 666 = .ok (.iadd, 1) := by decide +kernel
theorem dL_law_667 : decode cL_law 667 = .ok (.iaload, 1) := by decide +kernel
theorem dL_law_668 : decode cL_law 668 = .ok (.aload_n 0, 1) := by decide +kernel
theorem dL_law_669 : decode cL_law 669 = .ok (.iload_n 3, 1) := by decide +kernel
theorem dL_law_670 : decode cL_law 670 = .ok (.iconst 4, 1) := by decide +kernel
theorem dL_law_671 : decode cL_law 671 = .ok (.iadd, 1) := by decide +kernel
theorem dL_law_672 : decode cL_law 672 = .ok (.iaload, 1) := by decide +kernel
theorem dL_law_673 : decode cL_law 673 = .ok (.invokevirtual 70, 3) := by decide +kernel
theorem dL_law_676 : decode cL_law 676 = .ok (.aload_n 2, 1) := by decide +kernel
theorem dL_law_677 : decode cL_law 677 = .ok (.aload_n 0, 1) := by decide +kernel
theorem dL_law_678 : decode cL_law 678 = .ok (.iload_n 3, 1) := by decide +kernel
theorem dL_law_679 : decode cL_law 679 = .ok (.iconst 1, 1) := by decide +kernel
theorem dL_law_680 : decode cL_law 680 = .ok (.iadd, 1) := by decide +kernel
theorem dL_law_681 : decode cL_law 681 = .ok (.iaload, 1) := by decide +kernel
theorem dL_law_682 : decode cL_law 682 = .ok (.aload_n 0, 1) := by decide +kernel
theorem dL_law_683 : decode cL_law 683 = .ok (.iload_n 3, 1) := by decide +kernel
theorem dL_law_684 : decode cL_law 684 = .ok (.iconst 2, 1) := by decide +kernel
theorem dL_law_685 : decode cL_law 685 = .ok (.iadd, 1) := by decide +kernel
theorem dL_law_686 : decode cL_law 686 = .ok (.iaload, 1) := by decide +kernel
theorem dL_law_687 : decode cL_law 687 = .ok (.aload_n 0, 1) := by decide +kernel
theorem dL_law_688 : decode cL_law 688 = .ok (.iload_n 3, 1) := by decide +kernel
theorem dL_law_689 : decode cL_law 689 = .ok (.iconst 3, 1) := by decide +kernel
theorem dL_law_690 : decode cL_law 690 = .ok (.iadd, 1) := by decide +kernel
theorem dL_law_691 : decode cL_law 691 = .ok (.iaload, 1) := by decide +kernel
theorem dL_law_692 : decode cL_law 692 = .ok (.aload_n 0, 1) := by decide +kernel
theorem dL_law_693 : decode cL_law 693 = .ok (.iload_n 3, 1) := by decide +kernel
theorem dL_law_694 : decode cL_law 694 = .ok (.iconst 4, 1) := by decide +kernel
theorem dL_law_695 : decode cL_law 695 = .ok (.iadd, 1) := by decide +kernel
theorem dL_law_696 : decode cL_law 696 = .ok (.iaload, 1) := by decide +kernel
theorem dL_law_697 : decode cL_law 697 = .ok (.invokevirtual 74, 3) := by decide +kernel
theorem dL_law_700 : decode cL_law 700 = .ok (.if_icmp .eq 205, 3) := by decide +kernel
theorem dL_law_703 : decode cL_law 703 = .ok (.iconst 0, 1) := by decide +kernel
theorem dL_law_704 : decode cL_law 704 = .ok (.ireturn, 1) := by decide +kernel
theorem dL_law_705 : decode cL_law 705 = .ok (.aload_n 1, 1) := by decide +kernel
theorem dL_law_706 : decode cL_law 706 = .ok (.aload_n 0, 1) := by decide +kernel
theorem dL_law_707 : decode cL_law 707 = .ok (.iload_n 3, 1) := by decide +kernel
theorem dL_law_708 : decode cL_law 708 = .ok (.iconst 1, 1) := by decide +kernel
theorem dL_law_709 : decode cL_law 709 = .ok (.iadd, 1) := by decide +kernel
theorem dL_law_710 : decode cL_law 710 = .ok (.iaload, 1) := by decide +kernel
theorem dL_law_711 : decode cL_law 711 = .ok (.aload_n 0, 1) := by decide +kernel
theorem dL_law_712 : decode cL_law 712 = .ok (.iload_n 3, 1) := by decide +kernel
theorem dL_law_713 : decode cL_law 713 = .ok (.iconst 2, 1) := by decide +kernel
theorem dL_law_714 : decode cL_law 714 = .ok (.iadd, 1) := by decide +kernel
theorem dL_law_715 : decode cL_law 715 = .ok (.iaload, 1) := by decide +kernel
theorem dL_law_716 : decode cL_law 716 = .ok (.aload_n 0, 1) := by decide +kernel
theorem dL_law_717 : decode cL_law 717 = .ok (.iload_n 3, 1) := by decide +kernel
theorem dL_law_718 : decode cL_law 718 = .ok (.iconst 3, 1) := by decide +kernel
theorem dL_law_719 : decode cL_law 719 = .ok (.iadd, 1) := by decide +kernel
theorem dL_law_720 : decode cL_law 720 = .ok (.iaload, 1) := by decide +kernel
theorem dL_law_721 : decode cL_law 721 = .ok (.aload_n 0, 1) := by decide +kernel
theorem dL_law_722 : decode cL_law 722 = .ok (.iload_n 3, 1) := by decide +kernel
theorem dL_law_723 : decode cL_law 723 = .ok (.iconst 4, 1) := by decide +kernel
theorem dL_law_724 : decode cL_law 724 = .ok (.iadd, 1) := by decide +kernel
theorem dL_law_725 : decode cL_law 725 = .ok (.iaload, 1) := by decide +kernel
theorem dL_law_726 : decode cL_law 726 = .ok (.aload_n 0, 1) := by decide +kernel
theorem dL_law_727 : decode cL_law 727 = .ok (.iload_n 3, 1) := by decide +kernel
theorem dL_law_728 : decode cL_law 728 = .ok (.iconst 5, 1) := by decide +kernel
theorem dL_law_729 : decode cL_law 729 = .ok (.iadd, 1) := by decide +kernel
theorem dL_law_730 : decode cL_law 730 = .ok (.iaload, 1) := by decide +kernel
theorem dL_law_731 : decode cL_law 731 = .ok (.invokevirtual 75, 3) := by decide +kernel
theorem dL_law_734 : decode cL_law 734 = .ok (.aload_n 2, 1) := by decide +kernel
theorem dL_law_735 : decode cL_law 735 = .ok (.aload_n 0, 1) := by decide +kernel
theorem dL_law_736 : decode cL_law 736 = .ok (.iload_n 3, 1) := by decide +kernel
theorem dL_law_737 : decode cL_law 737 = .ok (.iconst 1, 1) := by decide +kernel
theorem dL_law_738 : decode cL_law 738 = .ok (.iadd, 1) := by decide +kernel
theorem dL_law_739 : decode cL_law 739 = .ok (.iaload, 1) := by decide +kernel
theorem dL_law_740 : decode cL_law 740 = .ok (.aload_n 0, 1) := by decide +kernel
theorem dL_law_741 : decode cL_law 741 = .ok (.iload_n 3, 1) := by decide +kernel
theorem dL_law_742 : decode cL_law 742 = .ok (.iconst 2, 1) := by decide +kernel
theorem dL_law_743 : decode cL_law 743 = .ok (.iadd, 1) := by decide +kernel
theorem dL_law_744 : decode cL_law 744 = .ok (.iaload, 1) := by decide +kernel
theorem dL_law_745 : decode cL_law 745 = .ok (.aload_n 0, 1) := by decide +kernel
theorem dL_law_746 : decode cL_law 746 = .ok (.iload_n 3, 1) := by decide +kernel
theorem dL_law_747 : decode cL_law 747 = .ok (.iconst 3, 1) := by decide +kernel
theorem dL_law_748 : decode cL_law 748 = .ok (.iadd, 1) := by decide +kernel
theorem dL_law_749 : decode cL_law 749 = .ok (.iaload, 1) := by decide +kernel
theorem dL_law_750 : decode cL_law 750 = .ok (.aload_n 0, 1) := by decide +kernel
theorem dL_law_751 : decode cL_law 751 = .ok (.iload_n 3, 1) := by decide +kernel
theorem dL_law_752 : decode cL_law 752 = .ok (.iconst 4, 1) := by decide +kernel
theorem dL_law_753 : decode cL_law 753 = .ok (.iadd, 1) := by decide +kernel
theorem dL_law_754 : decode cL_law 754 = .ok (.iaload, 1) := by decide +kernel
theorem dL_law_755 : decode cL_law 755 = .ok (.aload_n 0, 1) := by decide +kernel
theorem dL_law_756 : decode cL_law 756 = .ok (.iload_n 3, 1) := by decide +kernel
theorem dL_law_757 : decode cL_law 757 = .ok (.iconst 5, 1) := by decide +kernel
theorem dL_law_758 : decode cL_law 758 = .ok (.iadd, 1) := by decide +kernel
theorem dL_law_759 : decode cL_law 759 = .ok (.iaload, 1) := by decide +kernel
theorem dL_law_760 : decode cL_law 760 = .ok (.invokevirtual 78, 3) := by decide +kernel
theorem dL_law_763 : decode cL_law 763 = .ok (.lcmp, 1) := by decide +kernel
theorem dL_law_764 : decode cL_law 764 = .ok (.ifCond .eq 141, 3) := by decide +kernel
theorem dL_law_767 : decode cL_law 767 = .ok (.iconst 0, 1) := by decide +kernel
theorem dL_law_768 : decode cL_law 768 = .ok (.ireturn, 1) := by decide +kernel
theorem dL_law_769 : decode cL_law 769 = .ok (.aload_n 1, 1) := by decide +kernel
theorem dL_law_770 : decode cL_law 770 = .ok (.aload_n 0, 1) := by decide +kernel
theorem dL_law_771 : decode cL_law 771 = .ok (.iload_n 3, 1) := by decide +kernel
theorem dL_law_772 : decode cL_law 772 = .ok (.iconst 1, 1) := by decide +kernel
theorem dL_law_773 : decode cL_law 773 = .ok (.iadd, 1) := by decide +kernel
theorem dL_law_774 : decode cL_law 774 = .ok (.iaload, 1) := by decide +kernel
theorem dL_law_775 : decode cL_law 775 = .ok (.aload_n 0, 1) := by decide +kernel
theorem dL_law_776 : decode cL_law 776 = .ok (.iload_n 3, 1) := by decide +kernel
theorem dL_law_777 : decode cL_law 777 = .ok (.iconst 2, 1) := by decide +kernel
theorem dL_law_778 : decode cL_law 778 = .ok (.iadd, 1) := by decide +kernel
theorem dL_law_779 : decode cL_law 779 = .ok (.iaload, 1) := by decide +kernel
theorem dL_law_780 : decode cL_law 780 = .ok (.invokevirtual 79, 3) := by decide +kernel
theorem dL_law_783 : decode cL_law 783 = .ok (.aload_n 2, 1) := by decide +kernel
theorem dL_law_784 : decode cL_law 784 = .ok (.aload_n 0, 1) := by decide +kernel
theorem dL_law_785 : decode cL_law 785 = .ok (.iload_n 3, 1) := by decide +kernel
theorem dL_law_786 : decode cL_law 786 = .ok (.iconst 1, 1) := by decide +kernel
theorem dL_law_787 : decode cL_law 787 = .ok (.iadd, 1) := by decide +kernel
theorem dL_law_788 : decode cL_law 788 = .ok (.iaload, 1) := by decide +kernel
theorem dL_law_789 : decode cL_law 789 = .ok (.aload_n 0, 1) := by decide +kernel
theorem dL_law_790 : decode cL_law 790 = .ok (.iload_n 3, 1) := by decide +kernel
theorem dL_law_791 : decode cL_law 791 = .ok (.iconst 2, 1) := by decide +kernel
theorem dL_law_792 : decode cL_law 792 = .ok (.iadd, 1) := by decide +kernel
theorem dL_law_793 : decode cL_law 793 = .ok (.iaload, 1) := by decide +kernel
theorem dL_law_794 : decode cL_law 794 = .ok (.invokevirtual 82, 3) := by decide +kernel
theorem dL_law_797 : decode cL_law 797 = .ok (.if_icmp .eq 108, 3) := by decide +kernel
theorem dL_law_800 : decode cL_law 800 = .ok (.iconst 0, 1) := by decide +kernel
theorem dL_law_801 : decode cL_law 801 = .ok (.ireturn, 1) := by decide +kernel
theorem dL_law_802 : decode cL_law 802 = .ok (.aload_n 1, 1) := by decide +kernel
theorem dL_law_803 : decode cL_law 803 = .ok (.aload_n 0, 1) := by decide +kernel
theorem dL_law_804 : decode cL_law 804 = .ok (.iload_n 3, 1) := by decide +kernel
theorem dL_law_805 : decode cL_law 805 = .ok (.iconst 1, 1) := by decide +kernel
theorem dL_law_806 : decode cL_law 806 = .ok (.iadd, 1) := by decide +kernel
theorem dL_law_807 : decode cL_law 807 = .ok (.iaload, 1) := by decide +kernel
theorem dL_law_808 : decode cL_law 808 = .ok (.aload_n 0, 1) := by decide +kernel
theorem dL_law_809 : decode cL_law 809 = .ok (.iload_n 3, 1) := by decide +kernel
theorem dL_law_810 : decode cL_law 810 = .ok (.iconst 2, 1) := by decide +kernel
theorem dL_law_811 : decode cL_law 811 = .ok (.iadd, 1) := by decide +kernel
theorem dL_law_812 : decode cL_law 812 = .ok (.iaload, 1) := by decide +kernel
theorem dL_law_813 : decode cL_law 813 = .ok (.aload_n 0, 1) := by decide +kernel
theorem dL_law_814 : decode cL_law 814 = .ok (.iload_n 3, 1) := by decide +kernel
theorem dL_law_815 : decode cL_law 815 = .ok (.iconst 3, 1) := by decide +kernel
theorem dL_law_816 : decode cL_law 816 = .ok (.iadd, 1) := by decide +kernel
theorem dL_law_817 : decode cL_law 817 = .ok (.iaload, 1) := by decide +kernel
theorem dL_law_818 : decode cL_law 818 = .ok (.invokevirtual 83, 3) := by decide +kernel
theorem dL_law_821 : decode cL_law 821 = .ok (.aload_n 2, 1) := by decide +kernel
theorem dL_law_822 : decode cL_law 822 = .ok (.aload_n 0, 1) := by decide +kernel
theorem dL_law_823 : decode cL_law 823 = .ok (.iload_n 3, 1) := by decide +kernel
theorem dL_law_824 : decode cL_law 824 = .ok (.iconst 1, 1) := by decide +kernel
theorem dL_law_825 : decode cL_law 825 = .ok (.iadd, 1) := by decide +kernel
theorem dL_law_826 : decode cL_law 826 = .ok (.iaload, 1) := by decide +kernel
theorem dL_law_827 : decode cL_law 827 = .ok (.aload_n 0, 1) := by decide +kernel
theorem dL_law_828 : decode cL_law 828 = .ok (.iload_n 3, 1) := by decide +kernel
theorem dL_law_829 : decode cL_law 829 = .ok (.iconst 2, 1) := by decide +kernel
theorem dL_law_830 : decode cL_law 830 = .ok (.iadd, 1) := by decide +kernel
theorem dL_law_831 : decode cL_law 831 = .ok (.iaload, 1) := by decide +kernel
theorem dL_law_832 : decode cL_law 832 = .ok (.aload_n 0, 1) := by decide +kernel
theorem dL_law_833 : decode cL_law 833 = .ok (.iload_n 3, 1) := by decide +kernel
theorem dL_law_834 : decode cL_law 834 = .ok (.iconst 3, 1) := by decide +kernel
theorem dL_law_835 : decode cL_law 835 = .ok (.iadd, 1) := by decide +kernel
theorem dL_law_836 : decode cL_law 836 = .ok (.iaload, 1) := by decide +kernel
theorem dL_law_837 : decode cL_law 837 = .ok (.invokevirtual 86, 3) := by decide +kernel
theorem dL_law_840 : decode cL_law 840 = .ok (.if_icmp .eq 65, 3) := by decide +kernel
theorem dL_law_843 : decode cL_law 843 = .ok (.iconst 0, 1) := by decide +kernel
theorem dL_law_844 : decode cL_law 844 = .ok (.ireturn, 1) := by decide +kernel
theorem dL_law_845 : decode cL_law 845 = .ok (.aload_n 1, 1) := by decide +kernel
theorem dL_law_846 : decode cL_law 846 = .ok (.aload_n 0, 1) := by decide +kernel
theorem dL_law_847 : decode cL_law 847 = .ok (.iload_n 3, 1) := by decide +kernel
theorem dL_law_848 : decode cL_law 848 = .ok (.iconst 1, 1) := by decide +kernel
theorem dL_law_849 : decode cL_law 849 = .ok (.iadd, 1) := by decide +kernel
theorem dL_law_850 : decode cL_law 850 = .ok (.iaload, 1) := by decide +kernel
theorem dL_law_851 : decode cL_law 851 = .ok (.invokevirtual 87, 3) := by decide +kernel
theorem dL_law_854 : decode cL_law 854 = .ok (.aload_n 2, 1) := by decide +kernel
theorem dL_law_855 : decode cL_law 855 = .ok (.aload_n 0, 1) := by decide +kernel
theorem dL_law_856 : decode cL_law 856 = .ok (.iload_n 3, 1) := by decide +kernel
theorem dL_law_857 : decode cL_law 857 = .ok (.iconst 1, 1) := by decide +kernel
theorem dL_law_858 : decode cL_law 858 = .ok (.iadd, 1) := by decide +kernel
theorem dL_law_859 : decode cL_law 859 = .ok (.iaload, 1) := by decide +kernel
theorem dL_law_860 : decode cL_law 860 = .ok (.invokevirtual 90, 3) := by decide +kernel
theorem dL_law_863 : decode cL_law 863 = .ok (.if_icmp .eq 42, 3) := by decide +kernel
theorem dL_law_866 : decode cL_law 866 = .ok (.iconst 0, 1) := by decide +kernel
theorem dL_law_867 : decode cL_law 867 = .ok (.ireturn, 1) := by decide +kernel
theorem dL_law_868 : decode cL_law 868 = .ok (.aload_n 1, 1) := by decide +kernel
theorem dL_law_869 : decode cL_law 869 = .ok (.aload_n 0, 1) := by decide +kernel
theorem dL_law_870 : decode cL_law 870 = .ok (.iload_n 3, 1) := by decide +kernel
theorem dL_law_871 : decode cL_law 871 = .ok (.iconst 1, 1) := by decide +kernel
theorem dL_law_872 : decode cL_law 872 = .ok (.iadd, 1) := by decide +kernel
theorem dL_law_873 : decode cL_law 873 = .ok (.iaload, 1) := by decide +kernel
theorem dL_law_874 : decode cL_law 874 = .ok (.invokevirtual 91, 3) := by decide +kernel
theorem dL_law_877 : decode cL_law 877 = .ok (.aload_n 2, 1) := by decide +kernel
theorem dL_law_878 : decode cL_law 878 = .ok (.aload_n 0, 1) := by decide +kernel
theorem dL_law_879 : decode cL_law 879 = .ok (.iload_n 3, 1) := by decide +kernel
theorem dL_law_880 : decode cL_law 880 = .ok (.iconst 1, 1) := by decide +kernel
theorem dL_law_881 : decode cL_law 881 = .ok (.iadd, 1) := by decide +kernel
theorem dL_law_882 : decode cL_law 882 = .ok (.iaload, 1) := by decide +kernel
theorem dL_law_883 : decode cL_law 883 = .ok (.invokevirtual 94, 3) := by decide +kernel
theorem dL_law_886 : decode cL_law 886 = .ok (.if_icmp .eq 19, 3) := by decide +kernel
theorem dL_law_889 : decode cL_law 889 = .ok (.iconst 0, 1) := by decide +kernel
theorem dL_law_890 : decode cL_law 890 = .ok (.ireturn, 1) := by decide +kernel
theorem dL_law_891 : decode cL_law 891 = .ok (.aload_n 1, 1) := by decide +kernel
theorem dL_law_892 : decode cL_law 892 = .ok (.invokevirtual 95, 3) := by decide +kernel
theorem dL_law_895 : decode cL_law 895 = .ok (.aload_n 2, 1) := by decide +kernel
theorem dL_law_896 : decode cL_law 896 = .ok (.invokevirtual 99, 3) := by decide +kernel
theorem dL_law_899 : decode cL_law 899 = .ok (.lcmp, 1) := by decide +kernel
theorem dL_law_900 : decode cL_law 900 = .ok (.ifCond .eq 5, 3) := by decide +kernel
theorem dL_law_903 : decode cL_law 903 = .ok (.iconst 0, 1) := by decide +kernel
theorem dL_law_904 : decode cL_law 904 = .ok (.ireturn, 1) := by decide +kernel
theorem dL_law_905 : decode cL_law 905 = .ok (.iinc 3 6, 3) := by decide +kernel
theorem dL_law_908 : decode cL_law 908 = .ok (.goto (-890), 3) := by decide +kernel
theorem dL_law_911 : decode cL_law 911 = .ok (.iconst 1, 1) := by decide +kernel
theorem dL_law_912 : decode cL_law 912 = .ok (.ireturn, 1) := by decide +kernel
end
