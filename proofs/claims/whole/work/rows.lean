section
-- ===== PART A: goes FIRST, ahead of the names: the tables' words, and 'selects' of the private methods out of them =====
/-- a private method of a class that the tables say can be made, by its rows of tables_1 -/
def lw_okq (q : MethodName × Nat) : Prop := (q.1.cls ≠ "java/lang/invoke/MethodHandle" ∧ q.1.cls ≠ "java/lang/invoke/VarHandle") ∧ Cond.instantiable q.1.cls q.2 ∈ tables_1 ∧ Cond.privateMethod q.1 ∈ tables_1 ∧ Cond.instanceMethod q.1 ∈ tables_1
theorem lw_p0 : lw_okq (⟨"FourStrings", "partAt", "(I)LFourStrings$Part;"⟩, 3) := ⟨⟨by decide +kernel, by decide +kernel⟩, List.mem_of_getElem? (i := 10) (by decide +kernel), List.mem_of_getElem? (i := 136) (by decide +kernel), List.mem_of_getElem? (i := 137) (by decide +kernel)⟩
theorem lw_p1 : lw_okq (⟨"FourStrings", "partWith", "(II)LFourStrings$Part;"⟩, 3) := ⟨⟨by decide +kernel, by decide +kernel⟩, List.mem_of_getElem? (i := 10) (by decide +kernel), List.mem_of_getElem? (i := 151) (by decide +kernel), List.mem_of_getElem? (i := 152) (by decide +kernel)⟩
theorem lw_p2 : lw_okq (⟨"FourStrings$Desk", "listPairs", "(IIII)V"⟩, 3) := ⟨⟨by decide +kernel, by decide +kernel⟩, List.mem_of_getElem? (i := 97) (by decide +kernel), List.mem_of_getElem? (i := 176) (by decide +kernel), List.mem_of_getElem? (i := 177) (by decide +kernel)⟩
theorem lw_p3 : lw_okq (⟨"FourStrings$Desk", "insert", "(II)V"⟩, 3) := ⟨⟨by decide +kernel, by decide +kernel⟩, List.mem_of_getElem? (i := 97) (by decide +kernel), List.mem_of_getElem? (i := 201) (by decide +kernel), List.mem_of_getElem? (i := 202) (by decide +kernel)⟩
theorem lw_p4 : lw_okq (⟨"FourStrings$Desk", "listSingles", "(III)V"⟩, 3) := ⟨⟨by decide +kernel, by decide +kernel⟩, List.mem_of_getElem? (i := 97) (by decide +kernel), List.mem_of_getElem? (i := 205) (by decide +kernel), List.mem_of_getElem? (i := 206) (by decide +kernel)⟩
theorem lw_p5 : lw_okq (⟨"FourStrings", "hasFingering", "(LFourStrings$Part;)Z"⟩, 3) := ⟨⟨by decide +kernel, by decide +kernel⟩, List.mem_of_getElem? (i := 10) (by decide +kernel), List.mem_of_getElem? (i := 224) (by decide +kernel), List.mem_of_getElem? (i := 225) (by decide +kernel)⟩
theorem lw_p6 : lw_okq (⟨"FourStrings$Desk", "reckonCosts", "(LFourStrings$Part;IZ)V"⟩, 3) := ⟨⟨by decide +kernel, by decide +kernel⟩, List.mem_of_getElem? (i := 97) (by decide +kernel), List.mem_of_getElem? (i := 233) (by decide +kernel), List.mem_of_getElem? (i := 234) (by decide +kernel)⟩
theorem lw_p7 : lw_okq (⟨"FourStrings$Desk", "leastBehind", "(LFourStrings$Part;II)I"⟩, 3) := ⟨⟨by decide +kernel, by decide +kernel⟩, List.mem_of_getElem? (i := 97) (by decide +kernel), List.mem_of_getElem? (i := 237) (by decide +kernel), List.mem_of_getElem? (i := 238) (by decide +kernel)⟩
theorem lw_p8 : lw_okq (⟨"FourStrings$Desk", "costFrom", "(LFourStrings$Part;III)I"⟩, 3) := ⟨⟨by decide +kernel, by decide +kernel⟩, List.mem_of_getElem? (i := 97) (by decide +kernel), List.mem_of_getElem? (i := 242) (by decide +kernel), List.mem_of_getElem? (i := 243) (by decide +kernel)⟩
theorem lw_p9 : lw_okq (⟨"FourStrings$Desk", "followLeast", "(LFourStrings$Part;)I"⟩, 3) := ⟨⟨by decide +kernel, by decide +kernel⟩, List.mem_of_getElem? (i := 97) (by decide +kernel), List.mem_of_getElem? (i := 275) (by decide +kernel), List.mem_of_getElem? (i := 276) (by decide +kernel)⟩
theorem lw_p10 : lw_okq (⟨"FourStrings$Desk", "leastNext", "(LFourStrings$Part;II)I"⟩, 3) := ⟨⟨by decide +kernel, by decide +kernel⟩, List.mem_of_getElem? (i := 97) (by decide +kernel), List.mem_of_getElem? (i := 279) (by decide +kernel), List.mem_of_getElem? (i := 280) (by decide +kernel)⟩
theorem lw_p11 : lw_okq (⟨"FourStrings$Bowing", "reckonBehind", "(LFourStrings$Part;)V"⟩, 4) := ⟨⟨by decide +kernel, by decide +kernel⟩, List.mem_of_getElem? (i := 25) (by decide +kernel), List.mem_of_getElem? (i := 316) (by decide +kernel), List.mem_of_getElem? (i := 317) (by decide +kernel)⟩
theorem lw_p12 : lw_okq (⟨"FourStrings$Bowing", "costFrom", "(LFourStrings$Part;III)I"⟩, 4) := ⟨⟨by decide +kernel, by decide +kernel⟩, List.mem_of_getElem? (i := 25) (by decide +kernel), List.mem_of_getElem? (i := 320) (by decide +kernel), List.mem_of_getElem? (i := 321) (by decide +kernel)⟩
theorem lw_p13 : lw_okq (⟨"FourStrings$Bowing", "follow", "(LFourStrings$Part;I)V"⟩, 4) := ⟨⟨by decide +kernel, by decide +kernel⟩, List.mem_of_getElem? (i := 25) (by decide +kernel), List.mem_of_getElem? (i := 328) (by decide +kernel), List.mem_of_getElem? (i := 329) (by decide +kernel)⟩
theorem lw_p14 : lw_okq (⟨"FourStrings", "workAllBowings", "()V"⟩, 3) := ⟨⟨by decide +kernel, by decide +kernel⟩, List.mem_of_getElem? (i := 10) (by decide +kernel), List.mem_of_getElem? (i := 368) (by decide +kernel), List.mem_of_getElem? (i := 369) (by decide +kernel)⟩
theorem lw_p15 : lw_okq (⟨"FourStrings", "leastUnion", "()I"⟩, 3) := ⟨⟨by decide +kernel, by decide +kernel⟩, List.mem_of_getElem? (i := 10) (by decide +kernel), List.mem_of_getElem? (i := 372) (by decide +kernel), List.mem_of_getElem? (i := 373) (by decide +kernel)⟩
def lw_privs_1 : List (MethodName × Nat) := [(⟨"FourStrings", "partAt", "(I)LFourStrings$Part;"⟩, 3), (⟨"FourStrings", "partWith", "(II)LFourStrings$Part;"⟩, 3), (⟨"FourStrings$Desk", "listPairs", "(IIII)V"⟩, 3), (⟨"FourStrings$Desk", "insert", "(II)V"⟩, 3), (⟨"FourStrings$Desk", "listSingles", "(III)V"⟩, 3), (⟨"FourStrings", "hasFingering", "(LFourStrings$Part;)Z"⟩, 3), (⟨"FourStrings$Desk", "reckonCosts", "(LFourStrings$Part;IZ)V"⟩, 3), (⟨"FourStrings$Desk", "leastBehind", "(LFourStrings$Part;II)I"⟩, 3), (⟨"FourStrings$Desk", "costFrom", "(LFourStrings$Part;III)I"⟩, 3), (⟨"FourStrings$Desk", "followLeast", "(LFourStrings$Part;)I"⟩, 3), (⟨"FourStrings$Desk", "leastNext", "(LFourStrings$Part;II)I"⟩, 3), (⟨"FourStrings$Bowing", "reckonBehind", "(LFourStrings$Part;)V"⟩, 4), (⟨"FourStrings$Bowing", "costFrom", "(LFourStrings$Part;III)I"⟩, 4), (⟨"FourStrings$Bowing", "follow", "(LFourStrings$Part;I)V"⟩, 4), (⟨"FourStrings", "workAllBowings", "()V"⟩, 3), (⟨"FourStrings", "leastUnion", "()I"⟩, 3)]
theorem lw_r1 : ∀ q ∈ lw_privs_1, lw_okq q := List.forall_mem_cons.mpr ⟨lw_p0, List.forall_mem_cons.mpr ⟨lw_p1, List.forall_mem_cons.mpr ⟨lw_p2, List.forall_mem_cons.mpr ⟨lw_p3, List.forall_mem_cons.mpr ⟨lw_p4, List.forall_mem_cons.mpr ⟨lw_p5, List.forall_mem_cons.mpr ⟨lw_p6, List.forall_mem_cons.mpr ⟨lw_p7, List.forall_mem_cons.mpr ⟨lw_p8, List.forall_mem_cons.mpr ⟨lw_p9, List.forall_mem_cons.mpr ⟨lw_p10, List.forall_mem_cons.mpr ⟨lw_p11, List.forall_mem_cons.mpr ⟨lw_p12, List.forall_mem_cons.mpr ⟨lw_p13, List.forall_mem_cons.mpr ⟨lw_p14, List.forall_mem_cons.mpr ⟨lw_p15, fun _ h => absurd h List.not_mem_nil⟩⟩⟩⟩⟩⟩⟩⟩⟩⟩⟩⟩⟩⟩⟩⟩
theorem lw_p16 : lw_okq (⟨"FourStrings", "unionSum", "(I)I"⟩, 3) := ⟨⟨by decide +kernel, by decide +kernel⟩, List.mem_of_getElem? (i := 10) (by decide +kernel), List.mem_of_getElem? (i := 376) (by decide +kernel), List.mem_of_getElem? (i := 377) (by decide +kernel)⟩
theorem lw_p17 : lw_okq (⟨"FourStrings", "unionBowing", "(II)LFourStrings$Bowing;"⟩, 3) := ⟨⟨by decide +kernel, by decide +kernel⟩, List.mem_of_getElem? (i := 10) (by decide +kernel), List.mem_of_getElem? (i := 380) (by decide +kernel), List.mem_of_getElem? (i := 381) (by decide +kernel)⟩
theorem lw_p18 : lw_okq (⟨"FourStrings", "countUnlike", "(I)I"⟩, 3) := ⟨⟨by decide +kernel, by decide +kernel⟩, List.mem_of_getElem? (i := 10) (by decide +kernel), List.mem_of_getElem? (i := 384) (by decide +kernel), List.mem_of_getElem? (i := 385) (by decide +kernel)⟩
theorem lw_p19 : lw_okq (⟨"FourStrings", "countAlike", "()I"⟩, 3) := ⟨⟨by decide +kernel, by decide +kernel⟩, List.mem_of_getElem? (i := 10) (by decide +kernel), List.mem_of_getElem? (i := 395) (by decide +kernel), List.mem_of_getElem? (i := 396) (by decide +kernel)⟩
theorem lw_p20 : lw_okq (⟨"FourStrings", "countDoubles", "()I"⟩, 3) := ⟨⟨by decide +kernel, by decide +kernel⟩, List.mem_of_getElem? (i := 10) (by decide +kernel), List.mem_of_getElem? (i := 402) (by decide +kernel), List.mem_of_getElem? (i := 403) (by decide +kernel)⟩
theorem lw_p21 : lw_okq (⟨"FourStrings", "countSlurred", "()I"⟩, 3) := ⟨⟨by decide +kernel, by decide +kernel⟩, List.mem_of_getElem? (i := 10) (by decide +kernel), List.mem_of_getElem? (i := 411) (by decide +kernel), List.mem_of_getElem? (i := 412) (by decide +kernel)⟩
theorem lw_p22 : lw_okq (⟨"FourStrings", "countWithoutFingering", "()I"⟩, 3) := ⟨⟨by decide +kernel, by decide +kernel⟩, List.mem_of_getElem? (i := 10) (by decide +kernel), List.mem_of_getElem? (i := 415) (by decide +kernel), List.mem_of_getElem? (i := 416) (by decide +kernel)⟩
theorem lw_p23 : lw_okq (⟨"FourStringsModel", "isNote", "(II)Z"⟩, 18) := ⟨⟨by decide +kernel, by decide +kernel⟩, List.mem_of_getElem? (i := 419) (by decide +kernel), List.mem_of_getElem? (i := 504) (by decide +kernel), List.mem_of_getElem? (i := 505) (by decide +kernel)⟩
theorem lw_p24 : lw_okq (⟨"FourStringsModel", "onset", "(II)I"⟩, 18) := ⟨⟨by decide +kernel, by decide +kernel⟩, List.mem_of_getElem? (i := 419) (by decide +kernel), List.mem_of_getElem? (i := 520) (by decide +kernel), List.mem_of_getElem? (i := 521) (by decide +kernel)⟩
theorem lw_p25 : lw_okq (⟨"FourStringsModel", "findHolds", "(II)V"⟩, 18) := ⟨⟨by decide +kernel, by decide +kernel⟩, List.mem_of_getElem? (i := 419) (by decide +kernel), List.mem_of_getElem? (i := 524) (by decide +kernel), List.mem_of_getElem? (i := 525) (by decide +kernel)⟩
theorem lw_p26 : lw_okq (⟨"FourStringsModel", "findOnes", "(III)V"⟩, 18) := ⟨⟨by decide +kernel, by decide +kernel⟩, List.mem_of_getElem? (i := 419) (by decide +kernel), List.mem_of_getElem? (i := 528) (by decide +kernel), List.mem_of_getElem? (i := 529) (by decide +kernel)⟩
theorem lw_p27 : lw_okq (⟨"FourStringsModel", "keep", "(IIII)V"⟩, 18) := ⟨⟨by decide +kernel, by decide +kernel⟩, List.mem_of_getElem? (i := 419) (by decide +kernel), List.mem_of_getElem? (i := 535) (by decide +kernel), List.mem_of_getElem? (i := 536) (by decide +kernel)⟩
theorem lw_p28 : lw_okq (⟨"FourStringsModel", "findDouble", "(IIII)V"⟩, 18) := ⟨⟨by decide +kernel, by decide +kernel⟩, List.mem_of_getElem? (i := 419) (by decide +kernel), List.mem_of_getElem? (i := 539) (by decide +kernel), List.mem_of_getElem? (i := 540) (by decide +kernel)⟩
theorem lw_p29 : lw_okq (⟨"FourStringsModel", "makeFingers", "(I)Z"⟩, 18) := ⟨⟨by decide +kernel, by decide +kernel⟩, List.mem_of_getElem? (i := 419) (by decide +kernel), List.mem_of_getElem? (i := 551) (by decide +kernel), List.mem_of_getElem? (i := 552) (by decide +kernel)⟩
theorem lw_p30 : lw_okq (⟨"FourStringsModel", "findHardest", "(II)V"⟩, 18) := ⟨⟨by decide +kernel, by decide +kernel⟩, List.mem_of_getElem? (i := 419) (by decide +kernel), List.mem_of_getElem? (i := 555) (by decide +kernel), List.mem_of_getElem? (i := 556) (by decide +kernel)⟩
theorem lw_p31 : lw_okq (⟨"FourStringsModel", "comes", "(IIII)I"⟩, 18) := ⟨⟨by decide +kernel, by decide +kernel⟩, List.mem_of_getElem? (i := 419) (by decide +kernel), List.mem_of_getElem? (i := 560) (by decide +kernel), List.mem_of_getElem? (i := 561) (by decide +kernel)⟩
def lw_privs_2 : List (MethodName × Nat) := [(⟨"FourStrings", "unionSum", "(I)I"⟩, 3), (⟨"FourStrings", "unionBowing", "(II)LFourStrings$Bowing;"⟩, 3), (⟨"FourStrings", "countUnlike", "(I)I"⟩, 3), (⟨"FourStrings", "countAlike", "()I"⟩, 3), (⟨"FourStrings", "countDoubles", "()I"⟩, 3), (⟨"FourStrings", "countSlurred", "()I"⟩, 3), (⟨"FourStrings", "countWithoutFingering", "()I"⟩, 3), (⟨"FourStringsModel", "isNote", "(II)Z"⟩, 18), (⟨"FourStringsModel", "onset", "(II)I"⟩, 18), (⟨"FourStringsModel", "findHolds", "(II)V"⟩, 18), (⟨"FourStringsModel", "findOnes", "(III)V"⟩, 18), (⟨"FourStringsModel", "keep", "(IIII)V"⟩, 18), (⟨"FourStringsModel", "findDouble", "(IIII)V"⟩, 18), (⟨"FourStringsModel", "makeFingers", "(I)Z"⟩, 18), (⟨"FourStringsModel", "findHardest", "(II)V"⟩, 18), (⟨"FourStringsModel", "comes", "(IIII)I"⟩, 18)]
theorem lw_r2 : ∀ q ∈ lw_privs_2, lw_okq q := List.forall_mem_cons.mpr ⟨lw_p16, List.forall_mem_cons.mpr ⟨lw_p17, List.forall_mem_cons.mpr ⟨lw_p18, List.forall_mem_cons.mpr ⟨lw_p19, List.forall_mem_cons.mpr ⟨lw_p20, List.forall_mem_cons.mpr ⟨lw_p21, List.forall_mem_cons.mpr ⟨lw_p22, List.forall_mem_cons.mpr ⟨lw_p23, List.forall_mem_cons.mpr ⟨lw_p24, List.forall_mem_cons.mpr ⟨lw_p25, List.forall_mem_cons.mpr ⟨lw_p26, List.forall_mem_cons.mpr ⟨lw_p27, List.forall_mem_cons.mpr ⟨lw_p28, List.forall_mem_cons.mpr ⟨lw_p29, List.forall_mem_cons.mpr ⟨lw_p30, List.forall_mem_cons.mpr ⟨lw_p31, fun _ h => absurd h List.not_mem_nil⟩⟩⟩⟩⟩⟩⟩⟩⟩⟩⟩⟩⟩⟩⟩⟩
theorem lw_p32 : lw_okq (⟨"FourStringsModel", "is", "(III)Z"⟩, 18) := ⟨⟨by decide +kernel, by decide +kernel⟩, List.mem_of_getElem? (i := 419) (by decide +kernel), List.mem_of_getElem? (i := 570) (by decide +kernel), List.mem_of_getElem? (i := 571) (by decide +kernel)⟩
theorem lw_p33 : lw_okq (⟨"FourStringsModel", "makeBows", "(II)I"⟩, 18) := ⟨⟨by decide +kernel, by decide +kernel⟩, List.mem_of_getElem? (i := 419) (by decide +kernel), List.mem_of_getElem? (i := 586) (by decide +kernel), List.mem_of_getElem? (i := 587) (by decide +kernel)⟩
theorem lw_p34 : lw_okq (⟨"FourStringsModel", "goes", "(IIII)I"⟩, 18) := ⟨⟨by decide +kernel, by decide +kernel⟩, List.mem_of_getElem? (i := 419) (by decide +kernel), List.mem_of_getElem? (i := 590) (by decide +kernel), List.mem_of_getElem? (i := 591) (by decide +kernel)⟩
theorem lw_p35 : lw_okq (⟨"FourStringsModel", "turn", "(IIII)I"⟩, 18) := ⟨⟨by decide +kernel, by decide +kernel⟩, List.mem_of_getElem? (i := 419) (by decide +kernel), List.mem_of_getElem? (i := 594) (by decide +kernel), List.mem_of_getElem? (i := 595) (by decide +kernel)⟩
theorem lw_p36 : lw_okq (⟨"FourStringsModel", "areAlike", "(IIII)Z"⟩, 18) := ⟨⟨by decide +kernel, by decide +kernel⟩, List.mem_of_getElem? (i := 419) (by decide +kernel), List.mem_of_getElem? (i := 610) (by decide +kernel), List.mem_of_getElem? (i := 611) (by decide +kernel)⟩
theorem lw_p37 : lw_okq (⟨"FourStringsModel", "bowAll", "(I)I"⟩, 18) := ⟨⟨by decide +kernel, by decide +kernel⟩, List.mem_of_getElem? (i := 419) (by decide +kernel), List.mem_of_getElem? (i := 618) (by decide +kernel), List.mem_of_getElem? (i := 619) (by decide +kernel)⟩
theorem lw_p38 : lw_okq (⟨"FourStringsModel", "alikes", "(Z)I"⟩, 18) := ⟨⟨by decide +kernel, by decide +kernel⟩, List.mem_of_getElem? (i := 419) (by decide +kernel), List.mem_of_getElem? (i := 622) (by decide +kernel), List.mem_of_getElem? (i := 623) (by decide +kernel)⟩
theorem lw_p39 : lw_okq (⟨"FourStringsModel", "notesThat", "(Z)I"⟩, 18) := ⟨⟨by decide +kernel, by decide +kernel⟩, List.mem_of_getElem? (i := 419) (by decide +kernel), List.mem_of_getElem? (i := 630) (by decide +kernel), List.mem_of_getElem? (i := 631) (by decide +kernel)⟩
theorem lw_p40 : lw_okq (⟨"FourStringsModel", "without", "()I"⟩, 18) := ⟨⟨by decide +kernel, by decide +kernel⟩, List.mem_of_getElem? (i := 419) (by decide +kernel), List.mem_of_getElem? (i := 634) (by decide +kernel), List.mem_of_getElem? (i := 635) (by decide +kernel)⟩
def lw_privs_3 : List (MethodName × Nat) := [(⟨"FourStringsModel", "is", "(III)Z"⟩, 18), (⟨"FourStringsModel", "makeBows", "(II)I"⟩, 18), (⟨"FourStringsModel", "goes", "(IIII)I"⟩, 18), (⟨"FourStringsModel", "turn", "(IIII)I"⟩, 18), (⟨"FourStringsModel", "areAlike", "(IIII)Z"⟩, 18), (⟨"FourStringsModel", "bowAll", "(I)I"⟩, 18), (⟨"FourStringsModel", "alikes", "(Z)I"⟩, 18), (⟨"FourStringsModel", "notesThat", "(Z)I"⟩, 18), (⟨"FourStringsModel", "without", "()I"⟩, 18)]
theorem lw_r3 : ∀ q ∈ lw_privs_3, lw_okq q := List.forall_mem_cons.mpr ⟨lw_p32, List.forall_mem_cons.mpr ⟨lw_p33, List.forall_mem_cons.mpr ⟨lw_p34, List.forall_mem_cons.mpr ⟨lw_p35, List.forall_mem_cons.mpr ⟨lw_p36, List.forall_mem_cons.mpr ⟨lw_p37, List.forall_mem_cons.mpr ⟨lw_p38, List.forall_mem_cons.mpr ⟨lw_p39, List.forall_mem_cons.mpr ⟨lw_p40, fun _ h => absurd h List.not_mem_nil⟩⟩⟩⟩⟩⟩⟩⟩⟩
def lw_privs : List (MethodName × Nat) := lw_privs_1 ++ (lw_privs_2 ++ (lw_privs_3))
def lw_tbl : List Cond := k2_sels lw_privs ++ tables_1
theorem lw_privs_ok : ∀ q ∈ lw_privs, lw_okq q := by
  show ∀ q ∈ lw_privs_1 ++ (lw_privs_2 ++ (lw_privs_3)), lw_okq q
  exact List.forall_mem_append.mpr ⟨lw_r1, List.forall_mem_append.mpr ⟨lw_r2, lw_r3⟩⟩
end
section
def RX0 : String := "FourStrings$Bowing"
def TX0 : u_T := fun k => match k with
  | 0 => ("FourStrings$Bowing", "cost", "I", false)
  | 1 => ("FourStrings$Bowing", "directions", "[I", true)
  | 2 => ("FourStrings$Bowing", "behindDown", "[I", true)
  | _ => ("FourStrings$Bowing", "behindUp", "[I", true)
def tyX0 : Nat → FieldType := fun k => match k with
  | 0 => .int
  | 1 => .array .int
  | 2 => .array .int
  | _ => .array .int
theorem nmX0 : ∀ a, a < 4 → ∀ b, b < 4 → a ≠ b → (TX0 a).2.1 ≠ (TX0 b).2.1 := by decide +kernel
theorem tyX0_ok : ∀ k, k < 4 → parseFieldDescriptor (TX0 k).2.2.1 = some (tyX0 k) := by decide +kernel
abbrev cX0_init : ByteArray := prog_2_method_1_code
def yX0_init : MethodName := ⟨RX0, "<init>", "()V"⟩
abbrev cX0_isThere : ByteArray := prog_2_method_2_code
def yX0_isThere : MethodName := ⟨RX0, "isThere", "()Z"⟩
abbrev cX0_work : ByteArray := prog_2_method_3_code
def yX0_work : MethodName := ⟨RX0, "work", "(LFourStrings$Part;I)V"⟩
abbrev cX0_reckonBehind : ByteArray := prog_2_method_4_code
def yX0_reckonBehind : MethodName := ⟨RX0, "reckonBehind", "(LFourStrings$Part;)V"⟩
abbrev cX0_follow : ByteArray := prog_2_method_5_code
def yX0_follow : MethodName := ⟨RX0, "follow", "(LFourStrings$Part;I)V"⟩
abbrev cX0_costFrom : ByteArray := prog_2_method_6_code
def yX0_costFrom : MethodName := ⟨RX0, "costFrom", "(LFourStrings$Part;III)I"⟩
abbrev cX0_turnCost : ByteArray := prog_2_method_7_code
def yX0_turnCost : MethodName := ⟨RX0, "turnCost", "(LFourStrings$Part;IZ)I"⟩
abbrev cX0_countHooks : ByteArray := prog_2_method_8_code
def yX0_countHooks : MethodName := ⟨RX0, "countHooks", "(LFourStrings$Part;)I"⟩
abbrev cX0_countParted : ByteArray := prog_2_method_9_code
def yX0_countParted : MethodName := ⟨RX0, "countParted", "(LFourStrings$Part;)I"⟩
def RX1 : String := "FourStrings$Desk"
def TX1 : u_T := fun k => match k with
  | 0 => ("FourStrings$Desk", "keys", "[[I", true)
  | 1 => ("FourStrings$Desk", "counts", "[I", true)
  | _ => ("FourStrings$Desk", "costs", "[[I", true)
def tyX1 : Nat → FieldType := fun k => match k with
  | 0 => .array (.array .int)
  | 1 => .array .int
  | _ => .array (.array .int)
theorem nmX1 : ∀ a, a < 3 → ∀ b, b < 3 → a ≠ b → (TX1 a).2.1 ≠ (TX1 b).2.1 := by decide +kernel
theorem tyX1_ok : ∀ k, k < 3 → parseFieldDescriptor (TX1 k).2.2.1 = some (tyX1 k) := by decide +kernel
abbrev cX1_init : ByteArray := prog_3_method_1_code
def yX1_init : MethodName := ⟨RX1, "<init>", "()V"⟩
abbrev cX1_keyAt : ByteArray := prog_3_method_2_code
def yX1_keyAt : MethodName := ⟨RX1, "keyAt", "(II)I"⟩
abbrev cX1_listHolds : ByteArray := prog_3_method_3_code
def yX1_listHolds : MethodName := ⟨RX1, "listHolds", "([ILFourStrings$Part;I)I"⟩
abbrev cX1_listSingles : ByteArray := prog_3_method_4_code
def yX1_listSingles : MethodName := ⟨RX1, "listSingles", "(III)V"⟩
abbrev cX1_listPairs : ByteArray := prog_3_method_5_code
def yX1_listPairs : MethodName := ⟨RX1, "listPairs", "(IIII)V"⟩
abbrev cX1_insert : ByteArray := prog_3_method_6_code
def yX1_insert : MethodName := ⟨RX1, "insert", "(II)V"⟩
abbrev cX1_findFingering : ByteArray := prog_3_method_7_code
def yX1_findFingering : MethodName := ⟨RX1, "findFingering", "([ILFourStrings$Part;)I"⟩
abbrev cX1_reckonCosts : ByteArray := prog_3_method_8_code
def yX1_reckonCosts : MethodName := ⟨RX1, "reckonCosts", "(LFourStrings$Part;IZ)V"⟩
abbrev cX1_leastBehind : ByteArray := prog_3_method_9_code
def yX1_leastBehind : MethodName := ⟨RX1, "leastBehind", "(LFourStrings$Part;II)I"⟩
abbrev cX1_costFrom : ByteArray := prog_3_method_10_code
def yX1_costFrom : MethodName := ⟨RX1, "costFrom", "(LFourStrings$Part;III)I"⟩
abbrev cX1_stepCost : ByteArray := prog_3_method_11_code
def yX1_stepCost : MethodName := ⟨RX1, "stepCost", "(III)I"⟩
abbrev cX1_followLeast : ByteArray := prog_3_method_12_code
def yX1_followLeast : MethodName := ⟨RX1, "followLeast", "(LFourStrings$Part;)I"⟩
abbrev cX1_leastNext : ByteArray := prog_3_method_13_code
def yX1_leastNext : MethodName := ⟨RX1, "leastNext", "(LFourStrings$Part;II)I"⟩
def RX2 : String := "FourStrings$Key"
def TX2 : u_T := fun k => match k with
  | _ => ("", "", "", false)
def tyX2 : Nat → FieldType := fun k => match k with
  | _ => .int
theorem nmX2 : ∀ a, a < 0 → ∀ b, b < 0 → a ≠ b → (TX2 a).2.1 ≠ (TX2 b).2.1 := by decide +kernel
theorem tyX2_ok : ∀ k, k < 0 → parseFieldDescriptor (TX2 k).2.2.1 = some (tyX2 k) := by decide +kernel
abbrev cX2_make : ByteArray := prog_4_method_2_code
def yX2_make : MethodName := ⟨RX2, "make", "(IIII)I"⟩
abbrev cX2_name : ByteArray := prog_4_method_3_code
def yX2_name : MethodName := ⟨RX2, "name", "(I)I"⟩
abbrev cX2_string : ByteArray := prog_4_method_4_code
def yX2_string : MethodName := ⟨RX2, "string", "(I)I"⟩
abbrev cX2_hand : ByteArray := prog_4_method_5_code
def yX2_hand : MethodName := ⟨RX2, "hand", "(I)I"⟩
abbrev cX2_way : ByteArray := prog_4_method_6_code
def yX2_way : MethodName := ⟨RX2, "way", "(I)I"⟩
abbrev cX2_greaterWay : ByteArray := prog_4_method_7_code
def yX2_greaterWay : MethodName := ⟨RX2, "greaterWay", "(I)I"⟩
abbrev cX2_extensions : ByteArray := prog_4_method_8_code
def yX2_extensions : MethodName := ⟨RX2, "extensions", "(I)I"⟩
abbrev cX2_isShift : ByteArray := prog_4_method_9_code
def yX2_isShift : MethodName := ⟨RX2, "isShift", "(II)Z"⟩
def RX3 : String := "FourStrings$Part"
def TX3 : u_T := fun k => match k with
  | 0 => ("FourStrings$Part", "count", "I", false)
  | 1 => ("FourStrings$Part", "pitches", "[I", true)
  | 2 => ("FourStrings$Part", "seconds", "[I", true)
  | 3 => ("FourStrings$Part", "lengths", "[I", true)
  | 4 => ("FourStrings$Part", "onsets", "[I", true)
  | 5 => ("FourStrings$Part", "marks", "[I", true)
  | 6 => ("FourStrings$Part", "fingering", "[I", true)
  | 7 => ("FourStrings$Part", "fingeringCost", "I", false)
  | 8 => ("FourStrings$Part", "isFingered", "Z", false)
  | 9 => ("FourStrings$Part", "down", "LFourStrings$Bowing;", true)
  | _ => ("FourStrings$Part", "up", "LFourStrings$Bowing;", true)
def tyX3 : Nat → FieldType := fun k => match k with
  | 0 => .int
  | 1 => .array .int
  | 2 => .array .int
  | 3 => .array .int
  | 4 => .array .int
  | 5 => .array .int
  | 6 => .array .int
  | 7 => .int
  | 8 => .boolean
  | 9 => .object "FourStrings$Bowing"
  | _ => .object "FourStrings$Bowing"
theorem nmX3 : ∀ a, a < 11 → ∀ b, b < 11 → a ≠ b → (TX3 a).2.1 ≠ (TX3 b).2.1 := by decide +kernel
theorem tyX3_ok : ∀ k, k < 11 → parseFieldDescriptor (TX3 k).2.2.1 = some (tyX3 k) := by decide +kernel
abbrev cX3_init : ByteArray := prog_5_method_1_code
def yX3_init : MethodName := ⟨RX3, "<init>", "()V"⟩
abbrev cX3_append : ByteArray := prog_5_method_2_code
def yX3_append : MethodName := ⟨RX3, "append", "(III)V"⟩
abbrev cX3_isDouble : ByteArray := prog_5_method_3_code
def yX3_isDouble : MethodName := ⟨RX3, "isDouble", "(I)Z"⟩
abbrev cX3_isMarked : ByteArray := prog_5_method_4_code
def yX3_isMarked : MethodName := ⟨RX3, "isMarked", "(II)Z"⟩
abbrev cX3_bowingFrom : ByteArray := prog_5_method_5_code
def yX3_bowingFrom : MethodName := ⟨RX3, "bowingFrom", "(I)LFourStrings$Bowing;"⟩
abbrev cX3_countSlurred : ByteArray := prog_5_method_6_code
def yX3_countSlurred : MethodName := ⟨RX3, "countSlurred", "()I"⟩
abbrev cX3_countDoubles : ByteArray := prog_5_method_7_code
def yX3_countDoubles : MethodName := ⟨RX3, "countDoubles", "()I"⟩
def RX4 : String := "FourStrings$Way"
def TX4 : u_T := fun k => match k with
  | _ => ("", "", "", false)
def tyX4 : Nat → FieldType := fun k => match k with
  | _ => .int
theorem nmX4 : ∀ a, a < 0 → ∀ b, b < 0 → a ≠ b → (TX4 a).2.1 ≠ (TX4 b).2.1 := by decide +kernel
theorem tyX4_ok : ∀ k, k < 0 → parseFieldDescriptor (TX4 k).2.2.1 = some (tyX4 k) := by decide +kernel
abbrev cX4_fingerOf : ByteArray := prog_6_method_2_code
def yX4_fingerOf : MethodName := ⟨RX4, "fingerOf", "(I)I"⟩
abbrev cX4_extension : ByteArray := prog_6_method_3_code
def yX4_extension : MethodName := ⟨RX4, "extension", "(I)I"⟩
abbrev cX4_hand : ByteArray := prog_6_method_4_code
def yX4_hand : MethodName := ⟨RX4, "hand", "(II)I"⟩
abbrev cX4_goTogether : ByteArray := prog_6_method_5_code
def yX4_goTogether : MethodName := ⟨RX4, "goTogether", "(IIII)Z"⟩
def RX5 : String := "FourStrings"
def TX5 : u_T := fun k => match k with
  | 0 => ("FourStrings", "open", "[I", true)
  | 1 => ("FourStrings", "parts", "[LFourStrings$Part;", true)
  | _ => ("FourStrings", "desk", "LFourStrings$Desk;", true)
def tyX5 : Nat → FieldType := fun k => match k with
  | 0 => .array .int
  | 1 => .array (.object "FourStrings$Part")
  | _ => .object "FourStrings$Desk"
theorem nmX5 : ∀ a, a < 3 → ∀ b, b < 3 → a ≠ b → (TX5 a).2.1 ≠ (TX5 b).2.1 := by decide +kernel
theorem tyX5_ok : ∀ k, k < 3 → parseFieldDescriptor (TX5 k).2.2.1 = some (tyX5 k) := by decide +kernel
abbrev cX5_init : ByteArray := prog_1_method_1_code
def yX5_init : MethodName := ⟨RX5, "<init>", "()V"⟩
abbrev cX5_tune : ByteArray := prog_1_method_2_code
def yX5_tune : MethodName := ⟨RX5, "tune", "(II)I"⟩
abbrev cX5_note : ByteArray := prog_1_method_3_code
def yX5_note : MethodName := ⟨RX5, "note", "(IIII)I"⟩
abbrev cX5_stop : ByteArray := prog_1_method_4_code
def yX5_stop : MethodName := ⟨RX5, "stop", "(III)I"⟩
abbrev cX5_mark : ByteArray := prog_1_method_5_code
def yX5_mark : MethodName := ⟨RX5, "mark", "(III)I"⟩
abbrev cX5_cut : ByteArray := prog_1_method_6_code
def yX5_cut : MethodName := ⟨RX5, "cut", "(I)I"⟩
abbrev cX5_of : ByteArray := prog_1_method_7_code
def yX5_of : MethodName := ⟨RX5, "of", "(III)I"⟩
abbrev cX5_hold : ByteArray := prog_1_method_8_code
def yX5_hold : MethodName := ⟨RX5, "hold", "(III)I"⟩
abbrev cX5_hard : ByteArray := prog_1_method_9_code
def yX5_hard : MethodName := ⟨RX5, "hard", "(I)I"⟩
abbrev cX5_finger : ByteArray := prog_1_method_10_code
def yX5_finger : MethodName := ⟨RX5, "finger", "(III)I"⟩
abbrev cX5_shifts : ByteArray := prog_1_method_11_code
def yX5_shifts : MethodName := ⟨RX5, "shifts", "(I)I"⟩
abbrev cX5_bow : ByteArray := prog_1_method_12_code
def yX5_bow : MethodName := ⟨RX5, "bow", "(II)I"⟩
abbrev cX5_stroke : ByteArray := prog_1_method_13_code
def yX5_stroke : MethodName := ⟨RX5, "stroke", "(III)I"⟩
abbrev cX5_strokes : ByteArray := prog_1_method_14_code
def yX5_strokes : MethodName := ⟨RX5, "strokes", "(III)I"⟩
abbrev cX5_alike : ByteArray := prog_1_method_15_code
def yX5_alike : MethodName := ⟨RX5, "alike", "(IIII)I"⟩
abbrev cX5_union : ByteArray := prog_1_method_16_code
def yX5_union : MethodName := ⟨RX5, "union", "(I)I"⟩
abbrev cX5_many : ByteArray := prog_1_method_17_code
def yX5_many : MethodName := ⟨RX5, "many", "(I)I"⟩
abbrev cX5_isOutside : ByteArray := prog_1_method_18_code
def yX5_isOutside : MethodName := ⟨RX5, "isOutside", "(III)Z"⟩
abbrev cX5_marksMayBe : ByteArray := prog_1_method_19_code
def yX5_marksMayBe : MethodName := ⟨RX5, "marksMayBe", "(II)Z"⟩
abbrev cX5_partAt : ByteArray := prog_1_method_20_code
def yX5_partAt : MethodName := ⟨RX5, "partAt", "(I)LFourStrings$Part;"⟩
abbrev cX5_partWith : ByteArray := prog_1_method_21_code
def yX5_partWith : MethodName := ⟨RX5, "partWith", "(II)LFourStrings$Part;"⟩
abbrev cX5_hasFingering : ByteArray := prog_1_method_22_code
def yX5_hasFingering : MethodName := ⟨RX5, "hasFingering", "(LFourStrings$Part;)Z"⟩
abbrev cX5_areAlike : ByteArray := prog_1_method_23_code
def yX5_areAlike : MethodName := ⟨RX5, "areAlike", "(LFourStrings$Part;ILFourStrings$Part;I)Z"⟩
abbrev cX5_workAllBowings : ByteArray := prog_1_method_24_code
def yX5_workAllBowings : MethodName := ⟨RX5, "workAllBowings", "()V"⟩
abbrev cX5_leastUnion : ByteArray := prog_1_method_25_code
def yX5_leastUnion : MethodName := ⟨RX5, "leastUnion", "()I"⟩
abbrev cX5_unionSum : ByteArray := prog_1_method_26_code
def yX5_unionSum : MethodName := ⟨RX5, "unionSum", "(I)I"⟩
abbrev cX5_unionBowing : ByteArray := prog_1_method_27_code
def yX5_unionBowing : MethodName := ⟨RX5, "unionBowing", "(II)LFourStrings$Bowing;"⟩
abbrev cX5_countUnlike : ByteArray := prog_1_method_28_code
def yX5_countUnlike : MethodName := ⟨RX5, "countUnlike", "(I)I"⟩
abbrev cX5_countUnlikeOfTwo : ByteArray := prog_1_method_29_code
def yX5_countUnlikeOfTwo : MethodName := ⟨RX5, "countUnlikeOfTwo", "(LFourStrings$Part;[ILFourStrings$Part;[I)I"⟩
abbrev cX5_countAlike : ByteArray := prog_1_method_30_code
def yX5_countAlike : MethodName := ⟨RX5, "countAlike", "()I"⟩
abbrev cX5_countAlikeOfTwo : ByteArray := prog_1_method_31_code
def yX5_countAlikeOfTwo : MethodName := ⟨RX5, "countAlikeOfTwo", "(LFourStrings$Part;LFourStrings$Part;)I"⟩
abbrev cX5_countDoubles : ByteArray := prog_1_method_32_code
def yX5_countDoubles : MethodName := ⟨RX5, "countDoubles", "()I"⟩
abbrev cX5_countSlurred : ByteArray := prog_1_method_33_code
def yX5_countSlurred : MethodName := ⟨RX5, "countSlurred", "()I"⟩
abbrev cX5_countWithoutFingering : ByteArray := prog_1_method_34_code
def yX5_countWithoutFingering : MethodName := ⟨RX5, "countWithoutFingering", "()I"⟩
def RX6 : String := "FourStringsModel"
def TX6 : u_T := fun k => match k with
  | 0 => ("FourStringsModel", "open", "[I", true)
  | 1 => ("FourStringsModel", "notes", "[I", true)
  | 2 => ("FourStringsModel", "pitch", "[I", true)
  | 3 => ("FourStringsModel", "second", "[I", true)
  | 4 => ("FourStringsModel", "length", "[I", true)
  | 5 => ("FourStringsModel", "marks", "[I", true)
  | 6 => ("FourStringsModel", "holds", "[I", true)
  | 7 => ("FourStringsModel", "name", "[I", true)
  | 8 => ("FourStringsModel", "greater", "[I", true)
  | 9 => ("FourStringsModel", "extra", "[I", true)
  | 10 => ("FourStringsModel", "oneHand", "[I", true)
  | 11 => ("FourStringsModel", "oneLast", "[I", true)
  | 12 => ("FourStringsModel", "ones", "[I", true)
  | 13 => ("FourStringsModel", "hardest", "[I", true)
  | 14 => ("FourStringsModel", "chosen", "[I", true)
  | 15 => ("FourStringsModel", "least", "I", false)
  | 16 => ("FourStringsModel", "costs", "[I", true)
  | _ => ("FourStringsModel", "ways", "[I", true)
def tyX6 : Nat → FieldType := fun k => match k with
  | 0 => .array .int
  | 1 => .array .int
  | 2 => .array .int
  | 3 => .array .int
  | 4 => .array .int
  | 5 => .array .int
  | 6 => .array .int
  | 7 => .array .int
  | 8 => .array .int
  | 9 => .array .int
  | 10 => .array .int
  | 11 => .array .int
  | 12 => .array .int
  | 13 => .array .int
  | 14 => .array .int
  | 15 => .int
  | 16 => .array .int
  | _ => .array .int
theorem nmX6 : ∀ a, a < 18 → ∀ b, b < 18 → a ≠ b → (TX6 a).2.1 ≠ (TX6 b).2.1 := by decide +kernel
theorem tyX6_ok : ∀ k, k < 18 → parseFieldDescriptor (TX6 k).2.2.1 = some (tyX6 k) := by decide +kernel
abbrev cX6_init : ByteArray := prog_8_method_1_code
def yX6_init : MethodName := ⟨RX6, "<init>", "()V"⟩
abbrev cX6_in : ByteArray := prog_8_method_2_code
def yX6_in : MethodName := ⟨RX6, "in", "(III)Z"⟩
abbrev cX6_isPart : ByteArray := prog_8_method_3_code
def yX6_isPart : MethodName := ⟨RX6, "isPart", "(I)Z"⟩
abbrev cX6_isNote : ByteArray := prog_8_method_4_code
def yX6_isNote : MethodName := ⟨RX6, "isNote", "(II)Z"⟩
abbrev cX6_has : ByteArray := prog_8_method_5_code
def yX6_has : MethodName := ⟨RX6, "has", "(II)Z"⟩
abbrev cX6_is : ByteArray := prog_8_method_6_code
def yX6_is : MethodName := ⟨RX6, "is", "(III)Z"⟩
abbrev cX6_tune : ByteArray := prog_8_method_7_code
def yX6_tune : MethodName := ⟨RX6, "tune", "(II)I"⟩
abbrev cX6_areMarks : ByteArray := prog_8_method_8_code
def yX6_areMarks : MethodName := ⟨RX6, "areMarks", "(II)Z"⟩
abbrev cX6_note : ByteArray := prog_8_method_9_code
def yX6_note : MethodName := ⟨RX6, "note", "(IIII)I"⟩
abbrev cX6_stop : ByteArray := prog_8_method_10_code
def yX6_stop : MethodName := ⟨RX6, "stop", "(III)I"⟩
abbrev cX6_mark : ByteArray := prog_8_method_11_code
def yX6_mark : MethodName := ⟨RX6, "mark", "(III)I"⟩
abbrev cX6_cut : ByteArray := prog_8_method_12_code
def yX6_cut : MethodName := ⟨RX6, "cut", "(I)I"⟩
abbrev cX6_onset : ByteArray := prog_8_method_13_code
def yX6_onset : MethodName := ⟨RX6, "onset", "(II)I"⟩
abbrev cX6_findOnes : ByteArray := prog_8_method_14_code
def yX6_findOnes : MethodName := ⟨RX6, "findOnes", "(III)V"⟩
abbrev cX6_keep : ByteArray := prog_8_method_15_code
def yX6_keep : MethodName := ⟨RX6, "keep", "(IIII)V"⟩
abbrev cX6_highs : ByteArray := prog_8_method_16_code
def yX6_highs : MethodName := ⟨RX6, "highs", "(I)I"⟩
abbrev cX6_findDouble : ByteArray := prog_8_method_17_code
def yX6_findDouble : MethodName := ⟨RX6, "findDouble", "(IIII)V"⟩
abbrev cX6_findHolds : ByteArray := prog_8_method_18_code
def yX6_findHolds : MethodName := ⟨RX6, "findHolds", "(II)V"⟩
abbrev cX6_of : ByteArray := prog_8_method_19_code
def yX6_of : MethodName := ⟨RX6, "of", "(III)I"⟩
abbrev cX6_hold : ByteArray := prog_8_method_20_code
def yX6_hold : MethodName := ⟨RX6, "hold", "(III)I"⟩
abbrev cX6_handOf : ByteArray := prog_8_method_21_code
def yX6_handOf : MethodName := ⟨RX6, "handOf", "(I)I"⟩
abbrev cX6_apart : ByteArray := prog_8_method_22_code
def yX6_apart : MethodName := ⟨RX6, "apart", "(II)I"⟩
abbrev cX6_comes : ByteArray := prog_8_method_23_code
def yX6_comes : MethodName := ⟨RX6, "comes", "(IIII)I"⟩
abbrev cX6_findHardest : ByteArray := prog_8_method_24_code
def yX6_findHardest : MethodName := ⟨RX6, "findHardest", "(II)V"⟩
abbrev cX6_makeFingers : ByteArray := prog_8_method_25_code
def yX6_makeFingers : MethodName := ⟨RX6, "makeFingers", "(I)Z"⟩
abbrev cX6_hard : ByteArray := prog_8_method_26_code
def yX6_hard : MethodName := ⟨RX6, "hard", "(I)I"⟩
abbrev cX6_finger : ByteArray := prog_8_method_27_code
def yX6_finger : MethodName := ⟨RX6, "finger", "(III)I"⟩
abbrev cX6_shifts : ByteArray := prog_8_method_28_code
def yX6_shifts : MethodName := ⟨RX6, "shifts", "(I)I"⟩
abbrev cX6_turn : ByteArray := prog_8_method_29_code
def yX6_turn : MethodName := ⟨RX6, "turn", "(IIII)I"⟩
abbrev cX6_goes : ByteArray := prog_8_method_30_code
def yX6_goes : MethodName := ⟨RX6, "goes", "(IIII)I"⟩
abbrev cX6_makeBows : ByteArray := prog_8_method_31_code
def yX6_makeBows : MethodName := ⟨RX6, "makeBows", "(II)I"⟩
abbrev cX6_bow : ByteArray := prog_8_method_32_code
def yX6_bow : MethodName := ⟨RX6, "bow", "(II)I"⟩
abbrev cX6_stroke : ByteArray := prog_8_method_33_code
def yX6_stroke : MethodName := ⟨RX6, "stroke", "(III)I"⟩
abbrev cX6_strokes : ByteArray := prog_8_method_34_code
def yX6_strokes : MethodName := ⟨RX6, "strokes", "(III)I"⟩
abbrev cX6_areAlike : ByteArray := prog_8_method_35_code
def yX6_areAlike : MethodName := ⟨RX6, "areAlike", "(IIII)Z"⟩
abbrev cX6_alike : ByteArray := prog_8_method_36_code
def yX6_alike : MethodName := ⟨RX6, "alike", "(IIII)I"⟩
abbrev cX6_alikes : ByteArray := prog_8_method_37_code
def yX6_alikes : MethodName := ⟨RX6, "alikes", "(Z)I"⟩
abbrev cX6_bowAll : ByteArray := prog_8_method_38_code
def yX6_bowAll : MethodName := ⟨RX6, "bowAll", "(I)I"⟩
abbrev cX6_union : ByteArray := prog_8_method_39_code
def yX6_union : MethodName := ⟨RX6, "union", "(I)I"⟩
abbrev cX6_notesThat : ByteArray := prog_8_method_40_code
def yX6_notesThat : MethodName := ⟨RX6, "notesThat", "(Z)I"⟩
abbrev cX6_without : ByteArray := prog_8_method_41_code
def yX6_without : MethodName := ⟨RX6, "without", "()I"⟩
abbrev cX6_many : ByteArray := prog_8_method_42_code
def yX6_many : MethodName := ⟨RX6, "many", "(I)I"⟩
def RJ9 : String := "java/lang/Math"
def TJ9 : u_T := fun k => match k with
  | _ => ("", "", "", false)
def tyJ9 : Nat → FieldType := fun k => match k with
  | _ => .int
theorem nmJ9 : ∀ a, a < 0 → ∀ b, b < 0 → a ≠ b → (TJ9 a).2.1 ≠ (TJ9 b).2.1 := by decide +kernel
theorem tyJ9_ok : ∀ k, k < 0 → parseFieldDescriptor (TJ9 k).2.2.1 = some (tyJ9 k) := by decide +kernel
abbrev cJ9_abs_0f7a4 : ByteArray := prog_9_method_59_code
def yJ9_abs_0f7a4 : MethodName := ⟨RJ9, "abs", "(I)I"⟩
abbrev cJ9_max_7cf53 : ByteArray := prog_9_method_65_code
def yJ9_max_7cf53 : MethodName := ⟨RJ9, "max", "(II)I"⟩
abbrev cJ9_min_7cf53 : ByteArray := prog_9_method_69_code
def yJ9_min_7cf53 : MethodName := ⟨RJ9, "min", "(II)I"⟩
def RL : String := "FourStringsLaw"
abbrev cL_law : ByteArray := code
def yL_law : MethodName := ⟨RL, "law", "([I)Z"⟩
abbrev cls5 : List vw_C := [(RX0, TX0, 4), (RX1, TX1, 3), (RX3, TX3, 11), (RX5, TX5, 3), (RX6, TX6, 18)]
end
section
theorem dX0_init_0 : decode cX0_init 0 = .ok (.aload_n 0, 1) := by decide +kernel
theorem dX0_init_1 : decode cX0_init 1 = .ok (.invokespecial 3, 3) := by decide +kernel
theorem dX0_init_4 : decode cX0_init 4 = .ok (.aload_n 0, 1) := by decide +kernel
theorem dX0_init_5 : decode cX0_init 5 = .ok (.bipush 12, 2) := by decide +kernel
theorem dX0_init_7 : decode cX0_init 7 = .ok (.newarray .int, 2) := by decide +kernel
theorem dX0_init_9 : decode cX0_init 9 = .ok (.putfield 9, 3) := by decide +kernel
theorem dX0_init_12 : decode cX0_init 12 = .ok (.aload_n 0, 1) := by decide +kernel
theorem dX0_init_13 : decode cX0_init 13 = .ok (.bipush 12, 2) := by decide +kernel
theorem dX0_init_15 : decode cX0_init 15 = .ok (.newarray .int, 2) := by decide +kernel
theorem dX0_init_17 : decode cX0_init 17 = .ok (.putfield 15, 3) := by decide +kernel
theorem dX0_init_20 : decode cX0_init 20 = .ok (.aload_n 0, 1) := by decide +kernel
theorem dX0_init_21 : decode cX0_init 21 = .ok (.bipush 12, 2) := by decide +kernel
theorem dX0_init_23 : decode cX0_init 23 = .ok (.newarray .int, 2) := by decide +kernel
theorem dX0_init_25 : decode cX0_init 25 = .ok (.putfield 18, 3) := by decide +kernel
theorem dX0_init_28 : decode cX0_init 28 = .ok (.return_, 1) := by decide +kernel
theorem dX0_isThere_0 : decode cX0_isThere 0 = .ok (.aload_n 0, 1) := by decide +kernel
theorem dX0_isThere_1 : decode cX0_isThere 1 = .ok (.getfield 21, 3) := by decide +kernel
theorem dX0_isThere_4 : decode cX0_isThere 4 = .ok (.ldc 25, 2) := by decide +kernel
theorem dX0_isThere_6 : decode cX0_isThere 6 = .ok (.if_icmp .ge 7, 3) := by decide +kernel
theorem dX0_isThere_9 : decode cX0_isThere 9 = .ok (.iconst 1, 1) := by decide +kernel
theorem dX0_isThere_10 : decode cX0_isThere 10 = .ok (.goto 4, 3) := by decide +kernel
theorem dX0_isThere_13 : decode cX0_isThere 13 = .ok (.iconst 0, 1) := by decide +kernel
theorem dX0_isThere_14 : decode cX0_isThere 14 = .ok (.ireturn, 1) := by decide +kernel
theorem dX0_work_0 : decode cX0_work 0 = .ok (.aload_n 0, 1) := by decide +kernel
theorem dX0_work_1 : decode cX0_work 1 = .ok (.iconst 0, 1) := by decide +kernel
theorem dX0_work_2 : decode cX0_work 2 = .ok (.putfield 21, 3) := by decide +kernel
theorem dX0_work_5 : decode cX0_work 5 = .ok (.aload_n 1, 1) := by decide +kernel
theorem dX0_work_6 : decode cX0_work 6 = .ok (.getfield 26, 3) := by decide +kernel
theorem dX0_work_9 : decode cX0_work 9 = .ok (.ifCond .gt 4, 3) := by decide +kernel
theorem dX0_work_12 : decode cX0_work 12 = .ok (.return_, 1) := by decide +kernel
theorem dX0_work_13 : decode cX0_work 13 = .ok (.iload_n 2, 1) := by decide +kernel
theorem dX0_work_14 : decode cX0_work 14 = .ok (.iconst 1, 1) := by decide +kernel
theorem dX0_work_15 : decode cX0_work 15 = .ok (.if_icmp .ne 19, 3) := by decide +kernel
theorem dX0_work_18 : decode cX0_work 18 = .ok (.aload_n 1, 1) := by decide +kernel
theorem dX0_work_19 : decode cX0_work 19 = .ok (.iconst 0, 1) := by decide +kernel
theorem dX0_work_20 : decode cX0_work 20 = .ok (.iconst 4, 1) := by decide +kernel
theorem dX0_work_21 : decode cX0_work 21 = .ok (.invokevirtual 31, 3) := by decide +kernel
theorem dX0_work_24 : decode cX0_work 24 = .ok (.ifCond .eq 10, 3) := by decide +kernel
theorem dX0_work_27 : decode cX0_work 27 = .ok (.aload_n 0, 1) := by decide +kernel
theorem dX0_work_28 : decode cX0_work 28 = .ok (.ldc 25, 2) := by decide +kernel
theorem dX0_work_30 : decode cX0_work 30 = .ok (.putfield 21, 3) := by decide +kernel
theorem dX0_work_33 : decode cX0_work 33 = .ok (.return_, 1) := by decide +kernel
theorem dX0_work_34 : decode cX0_work 34 = .ok (.aload_n 0, 1) := by decide +kernel
theorem dX0_work_35 : decode cX0_work 35 = .ok (.aload_n 1, 1) := by decide +kernel
theorem dX0_work_36 : decode cX0_work 36 = .ok (.invokevirtual 35, 3) := by decide +kernel
theorem dX0_work_39 : decode cX0_work 39 = .ok (.aload_n 0, 1) := by decide +kernel
theorem dX0_work_40 : decode cX0_work 40 = .ok (.iload_n 2, 1) := by decide +kernel
theorem dX0_work_41 : decode cX0_work 41 = .ok (.ifCond .ne 12, 3) := by decide +kernel
theorem dX0_work_44 : decode cX0_work 44 = .ok (.aload_n 0, 1) := by decide +kernel
theorem dX0_work_45 : decode cX0_work 45 = .ok (.getfield 15, 3) := by decide +kernel
theorem dX0_work_48 : decode cX0_work 48 = .ok (.iconst 0, 1) := by decide +kernel
theorem dX0_work_49 : decode cX0_work 49 = .ok (.iaload, 1) := by decide +kernel
theorem dX0_work_50 : decode cX0_work 50 = .ok (.goto 9, 3) := by decide +kernel
theorem dX0_work_53 : decode cX0_work 53 = .ok (.aload_n 0, 1) := by decide +kernel
theorem dX0_work_54 : decode cX0_work 54 = .ok (.getfield 18, 3) := by decide +kernel
theorem dX0_work_57 : decode cX0_work 57 = .ok (.iconst 0, 1) := by decide +kernel
theorem dX0_work_58 : decode cX0_work 58 = .ok (.iaload, 1) := by decide +kernel
theorem dX0_work_59 : decode cX0_work 59 = .ok (.putfield 21, 3) := by decide +kernel
theorem dX0_work_62 : decode cX0_work 62 = .ok (.aload_n 0, 1) := by decide +kernel
theorem dX0_work_63 : decode cX0_work 63 = .ok (.aload_n 1, 1) := by decide +kernel
theorem dX0_work_64 : decode cX0_work 64 = .ok (.iload_n 2, 1) := by decide +kernel
theorem dX0_work_65 : decode cX0_work 65 = .ok (.invokevirtual 39, 3) := by decide +kernel
theorem dX0_work_68 : decode cX0_work 68 = .ok (.return_, 1) := by decide +kernel
theorem dX0_reckonBehind_0 : decode cX0_reckonBehind 0 = .ok (.aload_n 1, 1) := by decide +kernel
theorem dX0_reckonBehind_1 : decode cX0_reckonBehind 1 = .ok (.getfield 26, 3) := by decide +kernel
theorem dX0_reckonBehind_4 : decode cX0_reckonBehind 4 = .ok (.iconst 1, 1) := by decide +kernel
theorem dX0_reckonBehind_5 : decode cX0_reckonBehind 5 = .ok (.isub, 1) := by decide +kernel
theorem dX0_reckonBehind_6 : decode cX0_reckonBehind 6 = .ok (.istore_n 2, 1) := by decide +kernel
theorem dX0_reckonBehind_7 : decode cX0_reckonBehind 7 = .ok (.aload_n 0, 1) := by decide +kernel
theorem dX0_reckonBehind_8 : decode cX0_reckonBehind 8 = .ok (.getfield 15, 3) := by decide +kernel
theorem dX0_reckonBehind_11 : decode cX0_reckonBehind 11 = .ok (.iload_n 2, 1) := by decide +kernel
theorem dX0_reckonBehind_12 : decode cX0_reckonBehind 12 = .ok (.iconst 0, 1) := by decide +kernel
theorem dX0_reckonBehind_13 : decode cX0_reckonBehind 13 = .ok (.iastore, 1) := by decide +kernel
theorem dX0_reckonBehind_14 : decode cX0_reckonBehind 14 = .ok (.aload_n 0, 1) := by decide +kernel
theorem dX0_reckonBehind_15 : decode cX0_reckonBehind 15 = .ok (.getfield 18, 3) := by decide +kernel
theorem dX0_reckonBehind_18 : decode cX0_reckonBehind 18 = .ok (.iload_n 2, 1) := by decide +kernel
theorem dX0_reckonBehind_19 : decode cX0_reckonBehind 19 = .ok (.iconst 0, 1) := by decide +kernel
theorem dX0_reckonBehind_20 : decode cX0_reckonBehind 20 = .ok (.iastore, 1) := by decide +kernel
theorem dX0_reckonBehind_21 : decode cX0_reckonBehind 21 = .ok (.iload_n 2, 1) := by decide +kernel
theorem dX0_reckonBehind_22 : decode cX0_reckonBehind 22 = .ok (.istore_n 3, 1) := by decide +kernel
theorem dX0_reckonBehind_23 : decode cX0_reckonBehind 23 = .ok (.iload_n 3, 1) := by decide +kernel
theorem dX0_reckonBehind_24 : decode cX0_reckonBehind 24 = .ok (.ifCond .le 63, 3) := by decide +kernel
theorem dX0_reckonBehind_27 : decode cX0_reckonBehind 27 = .ok (.aload_n 0, 1) := by decide +kernel
theorem dX0_reckonBehind_28 : decode cX0_reckonBehind 28 = .ok (.getfield 15, 3) := by decide +kernel
theorem dX0_reckonBehind_31 : decode cX0_reckonBehind 31 = .ok (.iload_n 3, 1) := by decide +kernel
theorem dX0_reckonBehind_32 : decode cX0_reckonBehind 32 = .ok (.iconst 1, 1) := by decide +kernel
theorem dX0_reckonBehind_33 : decode cX0_reckonBehind 33 = .ok (.isub, 1) := by decide +kernel
theorem dX0_reckonBehind_34 : decode cX0_reckonBehind 34 = .ok (.aload_n 0, 1) := by decide +kernel
theorem dX0_reckonBehind_35 : decode cX0_reckonBehind 35 = .ok (.aload_n 1, 1) := by decide +kernel
theorem dX0_reckonBehind_36 : decode cX0_reckonBehind 36 = .ok (.iload_n 3, 1) := by decide +kernel
theorem dX0_reckonBehind_37 : decode cX0_reckonBehind 37 = .ok (.iconst 0, 1) := by decide +kernel
theorem dX0_reckonBehind_38 : decode cX0_reckonBehind 38 = .ok (.iconst 0, 1) := by decide +kernel
theorem dX0_reckonBehind_39 : decode cX0_reckonBehind 39 = .ok (.invokevirtual 43, 3) := by decide +kernel
theorem dX0_reckonBehind_42 : decode cX0_reckonBehind 42 = .ok (.aload_n 0, 1) := by decide +kernel
theorem dX0_reckonBehind_43 : decode cX0_reckonBehind 43 = .ok (.aload_n 1, 1) := by decide +kernel
theorem dX0_reckonBehind_44 : decode cX0_reckonBehind 44 = .ok (.iload_n 3, 1) := by decide +kernel
theorem dX0_reckonBehind_45 : decode cX0_reckonBehind 45 = .ok (.iconst 0, 1) := by decide +kernel
theorem dX0_reckonBehind_46 : decode cX0_reckonBehind 46 = .ok (.iconst 1, 1) := by decide +kernel
theorem dX0_reckonBehind_47 : decode cX0_reckonBehind 47 = .ok (.invokevirtual 43, 3) := by decide +kernel
theorem dX0_reckonBehind_50 : decode cX0_reckonBehind 50 = .ok (.invokestatic 47, 3) := by decide +kernel
theorem dX0_reckonBehind_53 : decode cX0_reckonBehind 53 = .ok (.iastore, 1) := by decide +kernel
theorem dX0_reckonBehind_54 : decode cX0_reckonBehind 54 = .ok (.aload_n 0, 1) := by decide +kernel
theorem dX0_reckonBehind_55 : decode cX0_reckonBehind 55 = .ok (.getfield 18, 3) := by decide +kernel
theorem dX0_reckonBehind_58 : decode cX0_reckonBehind 58 = .ok (.iload_n 3, 1) := by decide +kernel
theorem dX0_reckonBehind_59 : decode cX0_reckonBehind 59 = .ok (.iconst 1, 1) := by decide +kernel
theorem dX0_reckonBehind_60 : decode cX0_reckonBehind 60 = .ok (.isub, 1) := by decide +kernel
theorem dX0_reckonBehind_61 : decode cX0_reckonBehind 61 = .ok (.aload_n 0, 1) := by decide +kernel
theorem dX0_reckonBehind_62 : decode cX0_reckonBehind 62 = .ok (.aload_n 1, 1) := by decide +kernel
theorem dX0_reckonBehind_63 : decode cX0_reckonBehind 63 = .ok (.iload_n 3, 1) := by decide +kernel
theorem dX0_reckonBehind_64 : decode cX0_reckonBehind 64 = .ok (.iconst 1, 1) := by decide +kernel
theorem dX0_reckonBehind_65 : decode cX0_reckonBehind 65 = .ok (.iconst 0, 1) := by decide +kernel
theorem dX0_reckonBehind_66 : decode cX0_reckonBehind 66 = .ok (.invokevirtual 43, 3) := by decide +kernel
theorem dX0_reckonBehind_69 : decode cX0_reckonBehind 69 = .ok (.aload_n 0, 1) := by decide +kernel
theorem dX0_reckonBehind_70 : decode cX0_reckonBehind 70 = .ok (.aload_n 1, 1) := by decide +kernel
theorem dX0_reckonBehind_71 : decode cX0_reckonBehind 71 = .ok (.iload_n 3, 1) := by decide +kernel
theorem dX0_reckonBehind_72 : decode cX0_reckonBehind 72 = .ok (.iconst 1, 1) := by decide +kernel
theorem dX0_reckonBehind_73 : decode cX0_reckonBehind 73 = .ok (.iconst 1, 1) := by decide +kernel
theorem dX0_reckonBehind_74 : decode cX0_reckonBehind 74 = .ok (.invokevirtual 43, 3) := by decide +kernel
theorem dX0_reckonBehind_77 : decode cX0_reckonBehind 77 = .ok (.invokestatic 47, 3) := by decide +kernel
theorem dX0_reckonBehind_80 : decode cX0_reckonBehind 80 = .ok (.iastore, 1) := by decide +kernel
theorem dX0_reckonBehind_81 : decode cX0_reckonBehind 81 = .ok (.iinc 3 (-1), 3) := by decide +kernel
theorem dX0_reckonBehind_84 : decode cX0_reckonBehind 84 = .ok (.goto (-61), 3) := by decide +kernel
theorem dX0_reckonBehind_87 : decode cX0_reckonBehind 87 = .ok (.return_, 1) := by decide +kernel
theorem dX0_follow_0 : decode cX0_follow 0 = .ok (.aload_n 0, 1) := by decide +kernel
theorem dX0_follow_1 : decode cX0_follow 1 = .ok (.getfield 9, 3) := by decide +kernel
theorem dX0_follow_4 : decode cX0_follow 4 = .ok (.iconst 0, 1) := by decide +kernel
theorem dX0_follow_5 : decode cX0_follow 5 = .ok (.iload_n 2, 1) := by decide +kernel
theorem dX0_follow_6 : decode cX0_follow 6 = .ok (.iastore, 1) := by decide +kernel
theorem dX0_follow_7 : decode cX0_follow 7 = .ok (.iconst 1, 1) := by decide +kernel
theorem dX0_follow_8 : decode cX0_follow 8 = .ok (.istore_n 3, 1) := by decide +kernel
theorem dX0_follow_9 : decode cX0_follow 9 = .ok (.iload_n 3, 1) := by decide +kernel
theorem dX0_follow_10 : decode cX0_follow 10 = .ok (.aload_n 1, 1) := by decide +kernel
theorem dX0_follow_11 : decode cX0_follow 11 = .ok (.getfield 26, 3) := by decide +kernel
theorem dX0_follow_14 : decode cX0_follow 14 = .ok (.if_icmp .ge 63, 3) := by decide +kernel
theorem dX0_follow_17 : decode cX0_follow 17 = .ok (.aload_n 0, 1) := by decide +kernel
theorem dX0_follow_18 : decode cX0_follow 18 = .ok (.getfield 9, 3) := by decide +kernel
theorem dX0_follow_21 : decode cX0_follow 21 = .ok (.iload_n 3, 1) := by decide +kernel
theorem dX0_follow_22 : decode cX0_follow 22 = .ok (.iconst 1, 1) := by decide +kernel
theorem dX0_follow_23 : decode cX0_follow 23 = .ok (.isub, 1) := by decide +kernel
theorem dX0_follow_24 : decode cX0_follow 24 = .ok (.iaload, 1) := by decide +kernel
theorem dX0_follow_25 : decode cX0_follow 25 = .ok (.istore 4, 2) := by decide +kernel
theorem dX0_follow_27 : decode cX0_follow 27 = .ok (.aload_n 0, 1) := by decide +kernel
theorem dX0_follow_28 : decode cX0_follow 28 = .ok (.aload_n 1, 1) := by decide +kernel
theorem dX0_follow_29 : decode cX0_follow 29 = .ok (.iload_n 3, 1) := by decide +kernel
theorem dX0_follow_30 : decode cX0_follow 30 = .ok (.iload 4, 2) := by decide +kernel
theorem dX0_follow_32 : decode cX0_follow 32 = .ok (.iconst 0, 1) := by decide +kernel
theorem dX0_follow_33 : decode cX0_follow 33 = .ok (.invokevirtual 43, 3) := by decide +kernel
theorem dX0_follow_36 : decode cX0_follow 36 = .ok (.aload_n 0, 1) := by decide +kernel
theorem dX0_follow_37 : decode cX0_follow 37 = .ok (.aload_n 1, 1) := by decide +kernel
theorem dX0_follow_38 : decode cX0_follow 38 = .ok (.iload_n 3, 1) := by decide +kernel
theorem dX0_follow_39 : decode cX0_follow 39 = .ok (.iload 4, 2) := by decide +kernel
theorem dX0_follow_41 : decode cX0_follow 41 = .ok (.iconst 1, 1) := by decide +kernel
theorem dX0_follow_42 : decode cX0_follow 42 = .ok (.invokevirtual 43, 3) := by decide +kernel
theorem dX0_follow_45 : decode cX0_follow 45 = .ok (.if_icmp .gt 7, 3) := by decide +kernel
theorem dX0_follow_48 : decode cX0_follow 48 = .ok (.iconst 1, 1) := by decide +kernel
theorem dX0_follow_49 : decode cX0_follow 49 = .ok (.goto 4, 3) := by decide +kernel
theorem dX0_follow_52 : decode cX0_follow 52 = .ok (.iconst 0, 1) := by decide +kernel
theorem dX0_follow_53 : decode cX0_follow 53 = .ok (.istore 5, 2) := by decide +kernel
theorem dX0_follow_55 : decode cX0_follow 55 = .ok (.aload_n 0, 1) := by decide +kernel
theorem dX0_follow_56 : decode cX0_follow 56 = .ok (.getfield 9, 3) := by decide +kernel
theorem dX0_follow_59 : decode cX0_follow 59 = .ok (.iload_n 3, 1) := by decide +kernel
theorem dX0_follow_60 : decode cX0_follow 60 = .ok (.iload 5, 2) := by decide +kernel
theorem dX0_follow_62 : decode cX0_follow 62 = .ok (.ifCond .eq 7, 3) := by decide +kernel
theorem dX0_follow_65 : decode cX0_follow 65 = .ok (.iconst 0, 1) := by decide +kernel
theorem dX0_follow_66 : decode cX0_follow 66 = .ok (.goto 4, 3) := by decide +kernel
theorem dX0_follow_69 : decode cX0_follow 69 = .ok (.iconst 1, 1) := by decide +kernel
theorem dX0_follow_70 : decode cX0_follow 70 = .ok (.iastore, 1) := by decide +kernel
theorem dX0_follow_71 : decode cX0_follow 71 = .ok (.iinc 3 1, 3) := by decide +kernel
theorem dX0_follow_74 : decode cX0_follow 74 = .ok (.goto (-65), 3) := by decide +kernel
theorem dX0_follow_77 : decode cX0_follow 77 = .ok (.return_, 1) := by decide +kernel
theorem dX0_costFrom_0 : decode cX0_costFrom 0 = .ok (.iload 4, 2) := by decide +kernel
theorem dX0_costFrom_2 : decode cX0_costFrom 2 = .ok (.ifCond .ne 25, 3) := by decide +kernel
theorem dX0_costFrom_5 : decode cX0_costFrom 5 = .ok (.aload_n 0, 1) := by decide +kernel
theorem dX0_costFrom_6 : decode cX0_costFrom 6 = .ok (.getfield 15, 3) := by decide +kernel
theorem dX0_costFrom_9 : decode cX0_costFrom 9 = .ok (.iload_n 2, 1) := by decide +kernel
theorem dX0_costFrom_10 : decode cX0_costFrom 10 = .ok (.iaload, 1) := by decide +kernel
theorem dX0_costFrom_11 : decode cX0_costFrom 11 = .ok (.aload_n 1, 1) := by decide +kernel
theorem dX0_costFrom_12 : decode cX0_costFrom 12 = .ok (.iload_n 2, 1) := by decide +kernel
theorem dX0_costFrom_13 : decode cX0_costFrom 13 = .ok (.iload_n 3, 1) := by decide +kernel
theorem dX0_costFrom_14 : decode cX0_costFrom 14 = .ok (.ifCond .ne 7, 3) := by decide +kernel
theorem dX0_costFrom_17 : decode cX0_costFrom 17 = .ok (.iconst 1, 1) := by decide +kernel
theorem dX0_costFrom_18 : decode cX0_costFrom 18 = .ok (.goto 4, 3) := by decide +kernel
theorem dX0_costFrom_21 : decode cX0_costFrom 21 = .ok (.iconst 0, 1) := by decide +kernel
theorem dX0_costFrom_22 : decode cX0_costFrom 22 = .ok (.invokestatic 53, 3) := by decide +kernel
theorem dX0_costFrom_25 : decode cX0_costFrom 25 = .ok (.iadd, 1) := by decide +kernel
theorem dX0_costFrom_26 : decode cX0_costFrom 26 = .ok (.ireturn, 1) := by decide +kernel
theorem dX0_costFrom_27 : decode cX0_costFrom 27 = .ok (.aload_n 1, 1) := by decide +kernel
theorem dX0_costFrom_28 : decode cX0_costFrom 28 = .ok (.iload_n 2, 1) := by decide +kernel
theorem dX0_costFrom_29 : decode cX0_costFrom 29 = .ok (.iconst 4, 1) := by decide +kernel
theorem dX0_costFrom_30 : decode cX0_costFrom 30 = .ok (.invokevirtual 31, 3) := by decide +kernel
theorem dX0_costFrom_33 : decode cX0_costFrom 33 = .ok (.ifCond .eq 6, 3) := by decide +kernel
theorem dX0_costFrom_36 : decode cX0_costFrom 36 = .ok (.ldc 25, 2) := by decide +kernel
theorem dX0_costFrom_38 : decode cX0_costFrom 38 = .ok (.ireturn, 1) := by decide +kernel
theorem dX0_costFrom_39 : decode cX0_costFrom 39 = .ok (.aload_n 0, 1) := by decide +kernel
theorem dX0_costFrom_40 : decode cX0_costFrom 40 = .ok (.getfield 18, 3) := by decide +kernel
theorem dX0_costFrom_43 : decode cX0_costFrom 43 = .ok (.iload_n 2, 1) := by decide +kernel
theorem dX0_costFrom_44 : decode cX0_costFrom 44 = .ok (.iaload, 1) := by decide +kernel
theorem dX0_costFrom_45 : decode cX0_costFrom 45 = .ok (.aload_n 1, 1) := by decide +kernel
theorem dX0_costFrom_46 : decode cX0_costFrom 46 = .ok (.iload_n 2, 1) := by decide +kernel
theorem dX0_costFrom_47 : decode cX0_costFrom 47 = .ok (.iload_n 3, 1) := by decide +kernel
theorem dX0_costFrom_48 : decode cX0_costFrom 48 = .ok (.iconst 1, 1) := by decide +kernel
theorem dX0_costFrom_49 : decode cX0_costFrom 49 = .ok (.if_icmp .ne 7, 3) := by decide +kernel
theorem dX0_costFrom_52 : decode cX0_costFrom 52 = .ok (.iconst 1, 1) := by decide +kernel
theorem dX0_costFrom_53 : decode cX0_costFrom 53 = .ok (.goto 4, 3) := by decide +kernel
theorem dX0_costFrom_56 : decode cX0_costFrom 56 = .ok (.iconst 0, 1) := by decide +kernel
theorem dX0_costFrom_57 : decode cX0_costFrom 57 = .ok (.invokestatic 53, 3) := by decide +kernel
theorem dX0_costFrom_60 : decode cX0_costFrom 60 = .ok (.iadd, 1) := by decide +kernel
theorem dX0_costFrom_61 : decode cX0_costFrom 61 = .ok (.ireturn, 1) := by decide +kernel
theorem dX0_turnCost_0 : decode cX0_turnCost 0 = .ok (.aload_n 0, 1) := by decide +kernel
theorem dX0_turnCost_1 : decode cX0_turnCost 1 = .ok (.iload_n 1, 1) := by decide +kernel
theorem dX0_turnCost_2 : decode cX0_turnCost 2 = .ok (.iconst 2, 1) := by decide +kernel
theorem dX0_turnCost_3 : decode cX0_turnCost 3 = .ok (.invokevirtual 31, 3) := by decide +kernel
theorem dX0_turnCost_6 : decode cX0_turnCost 6 = .ok (.ifCond .eq 13, 3) := by decide +kernel
theorem dX0_turnCost_9 : decode cX0_turnCost 9 = .ok (.iload_n 2, 1) := by decide +kernel
theorem dX0_turnCost_10 : decode cX0_turnCost 10 = .ok (.ifCond .eq 7, 3) := by decide +kernel
theorem dX0_turnCost_13 : decode cX0_turnCost 13 = .ok (.iconst 0, 1) := by decide +kernel
theorem dX0_turnCost_14 : decode cX0_turnCost 14 = .ok (.goto 4, 3) := by decide +kernel
theorem dX0_turnCost_17 : decode cX0_turnCost 17 = .ok (.iconst 2, 1) := by decide +kernel
theorem dX0_turnCost_18 : decode cX0_turnCost 18 = .ok (.ireturn, 1) := by decide +kernel
theorem dX0_turnCost_19 : decode cX0_turnCost 19 = .ok (.iload_n 2, 1) := by decide +kernel
theorem dX0_turnCost_20 : decode cX0_turnCost 20 = .ok (.ifCond .ne 5, 3) := by decide +kernel
theorem dX0_turnCost_23 : decode cX0_turnCost 23 = .ok (.iconst 0, 1) := by decide +kernel
theorem dX0_turnCost_24 : decode cX0_turnCost 24 = .ok (.ireturn, 1) := by decide +kernel
theorem dX0_turnCost_25 : decode cX0_turnCost 25 = .ok (.aload_n 0, 1) := by decide +kernel
theorem dX0_turnCost_26 : decode cX0_turnCost 26 = .ok (.iload_n 1, 1) := by decide +kernel
theorem dX0_turnCost_27 : decode cX0_turnCost 27 = .ok (.iconst 1, 1) := by decide +kernel
theorem dX0_turnCost_28 : decode cX0_turnCost 28 = .ok (.invokevirtual 31, 3) := by decide +kernel
theorem dX0_turnCost_31 : decode cX0_turnCost 31 = .ok (.ifCond .eq 7, 3) := by decide +kernel
theorem dX0_turnCost_34 : decode cX0_turnCost 34 = .ok (.iconst 1, 1) := by decide +kernel
theorem dX0_turnCost_35 : decode cX0_turnCost 35 = .ok (.goto 4, 3) := by decide +kernel
theorem dX0_turnCost_38 : decode cX0_turnCost 38 = .ok (.iconst 3, 1) := by decide +kernel
theorem dX0_turnCost_39 : decode cX0_turnCost 39 = .ok (.ireturn, 1) := by decide +kernel
theorem dX0_countHooks_0 : decode cX0_countHooks 0 = .ok (.iconst 0, 1) := by decide +kernel
theorem dX0_countHooks_1 : decode cX0_countHooks 1 = .ok (.istore_n 2, 1) := by decide +kernel
theorem dX0_countHooks_2 : decode cX0_countHooks 2 = .ok (.iconst 1, 1) := by decide +kernel
theorem dX0_countHooks_3 : decode cX0_countHooks 3 = .ok (.istore_n 3, 1) := by decide +kernel
theorem dX0_countHooks_4 : decode cX0_countHooks 4 = .ok (.iload_n 3, 1) := by decide +kernel
theorem dX0_countHooks_5 : decode cX0_countHooks 5 = .ok (.aload_n 1, 1) := by decide +kernel
theorem dX0_countHooks_6 : decode cX0_countHooks 6 = .ok (.getfield 26, 3) := by decide +kernel
theorem dX0_countHooks_9 : decode cX0_countHooks 9 = .ok (.if_icmp .ge 38, 3) := by decide +kernel
theorem dX0_countHooks_12 : decode cX0_countHooks 12 = .ok (.aload_n 1, 1) := by decide +kernel
theorem dX0_countHooks_13 : decode cX0_countHooks 13 = .ok (.iload_n 3, 1) := by decide +kernel
theorem dX0_countHooks_14 : decode cX0_countHooks 14 = .ok (.iconst 2, 1) := by decide +kernel
theorem dX0_countHooks_15 : decode cX0_countHooks 15 = .ok (.invokevirtual 31, 3) := by decide +kernel
theorem dX0_countHooks_18 : decode cX0_countHooks 18 = .ok (.ifCond .ne 23, 3) := by decide +kernel
theorem dX0_countHooks_21 : decode cX0_countHooks 21 = .ok (.aload_n 0, 1) := by decide +kernel
theorem dX0_countHooks_22 : decode cX0_countHooks 22 = .ok (.getfield 9, 3) := by decide +kernel
theorem dX0_countHooks_25 : decode cX0_countHooks 25 = .ok (.iload_n 3, 1) := by decide +kernel
theorem dX0_countHooks_26 : decode cX0_countHooks 26 = .ok (.iaload, 1) := by decide +kernel
theorem dX0_countHooks_27 : decode cX0_countHooks 27 = .ok (.aload_n 0, 1) := by decide +kernel
theorem dX0_countHooks_28 : decode cX0_countHooks 28 = .ok (.getfield 9, 3) := by decide +kernel
theorem dX0_countHooks_31 : decode cX0_countHooks 31 = .ok (.iload_n 3, 1) := by decide +kernel
theorem dX0_countHooks_32 : decode cX0_countHooks 32 = .ok (.iconst 1, 1) := by decide +kernel
theorem dX0_countHooks_33 : decode cX0_countHooks 33 = .ok (.isub, 1) := by decide +kernel
theorem dX0_countHooks_34 : decode cX0_countHooks 34 = .ok (.iaload, 1) := by decide +kernel
theorem dX0_countHooks_35 : decode cX0_countHooks 35 = .ok (.if_icmp .ne 6, 3) := by decide +kernel
theorem dX0_countHooks_38 : decode cX0_countHooks 38 = .ok (.iinc 2 1, 3) := by decide +kernel
theorem dX0_countHooks_41 : decode cX0_countHooks 41 = .ok (.iinc 3 1, 3) := by decide +kernel
theorem dX0_countHooks_44 : decode cX0_countHooks 44 = .ok (.goto (-40), 3) := by decide +kernel
theorem dX0_countHooks_47 : decode cX0_countHooks 47 = .ok (.iload_n 2, 1) := by decide +kernel
theorem dX0_countHooks_48 : decode cX0_countHooks 48 = .ok (.ireturn, 1) := by decide +kernel
theorem dX0_countParted_0 : decode cX0_countParted 0 = .ok (.iconst 0, 1) := by decide +kernel
theorem dX0_countParted_1 : decode cX0_countParted 1 = .ok (.istore_n 2, 1) := by decide +kernel
theorem dX0_countParted_2 : decode cX0_countParted 2 = .ok (.iconst 1, 1) := by decide +kernel
theorem dX0_countParted_3 : decode cX0_countParted 3 = .ok (.istore_n 3, 1) := by decide +kernel
theorem dX0_countParted_4 : decode cX0_countParted 4 = .ok (.iload_n 3, 1) := by decide +kernel
theorem dX0_countParted_5 : decode cX0_countParted 5 = .ok (.aload_n 1, 1) := by decide +kernel
theorem dX0_countParted_6 : decode cX0_countParted 6 = .ok (.getfield 26, 3) := by decide +kernel
theorem dX0_countParted_9 : decode cX0_countParted 9 = .ok (.if_icmp .ge 38, 3) := by decide +kernel
theorem dX0_countParted_12 : decode cX0_countParted 12 = .ok (.aload_n 1, 1) := by decide +kernel
theorem dX0_countParted_13 : decode cX0_countParted 13 = .ok (.iload_n 3, 1) := by decide +kernel
theorem dX0_countParted_14 : decode cX0_countParted 14 = .ok (.iconst 2, 1) := by decide +kernel
theorem dX0_countParted_15 : decode cX0_countParted 15 = .ok (.invokevirtual 31, 3) := by decide +kernel
theorem dX0_countParted_18 : decode cX0_countParted 18 = .ok (.ifCond .eq 23, 3) := by decide +kernel
theorem dX0_countParted_21 : decode cX0_countParted 21 = .ok (.aload_n 0, 1) := by decide +kernel
theorem dX0_countParted_22 : decode cX0_countParted 22 = .ok (.getfield 9, 3) := by decide +kernel
theorem dX0_countParted_25 : decode cX0_countParted 25 = .ok (.iload_n 3, 1) := by decide +kernel
theorem dX0_countParted_26 : decode cX0_countParted 26 = .ok (.iaload, 1) := by decide +kernel
theorem dX0_countParted_27 : decode cX0_countParted 27 = .ok (.aload_n 0, 1) := by decide +kernel
theorem dX0_countParted_28 : decode cX0_countParted 28 = .ok (.getfield 9, 3) := by decide +kernel
theorem dX0_countParted_31 : decode cX0_countParted 31 = .ok (.iload_n 3, 1) := by decide +kernel
theorem dX0_countParted_32 : decode cX0_countParted 32 = .ok (.iconst 1, 1) := by decide +kernel
theorem dX0_countParted_33 : decode cX0_countParted 33 = .ok (.isub, 1) := by decide +kernel
theorem dX0_countParted_34 : decode cX0_countParted 34 = .ok (.iaload, 1) := by decide +kernel
theorem dX0_countParted_35 : decode cX0_countParted 35 = .ok (.if_icmp .eq 6, 3) := by decide +kernel
theorem dX0_countParted_38 : decode cX0_countParted 38 = .ok (.iinc 2 1, 3) := by decide +kernel
theorem dX0_countParted_41 : decode cX0_countParted 41 = .ok (.iinc 3 1, 3) := by decide +kernel
theorem dX0_countParted_44 : decode cX0_countParted 44 = .ok (.goto (-40), 3) := by decide +kernel
theorem dX0_countParted_47 : decode cX0_countParted 47 = .ok (.iload_n 2, 1) := by decide +kernel
theorem dX0_countParted_48 : decode cX0_countParted 48 = .ok (.ireturn, 1) := by decide +kernel
theorem dX1_init_0 : decode cX1_init 0 = .ok (.aload_n 0, 1) := by decide +kernel
theorem dX1_init_1 : decode cX1_init 1 = .ok (.invokespecial 3, 3) := by decide +kernel
theorem dX1_init_4 : decode cX1_init 4 = .ok (.aload_n 0, 1) := by decide +kernel
theorem dX1_init_5 : decode cX1_init 5 = .ok (.bipush 12, 2) := by decide +kernel
theorem dX1_init_7 : decode cX1_init 7 = .ok (.bipush 60, 2) := by decide +kernel
theorem dX1_init_9 : decode cX1_init 9 = .ok (.multianewarray 11 2, 4) := by decide +kernel
theorem dX1_init_13 : decode cX1_init 13 = .ok (.putfield 13, 3) := by decide +kernel
theorem dX1_init_16 : decode cX1_init 16 = .ok (.aload_n 0, 1) := by decide +kernel
theorem dX1_init_17 : decode cX1_init 17 = .ok (.bipush 12, 2) := by decide +kernel
theorem dX1_init_19 : decode cX1_init 19 = .ok (.newarray .int, 2) := by decide +kernel
theorem dX1_init_21 : decode cX1_init 21 = .ok (.putfield 16, 3) := by decide +kernel
theorem dX1_init_24 : decode cX1_init 24 = .ok (.aload_n 0, 1) := by decide +kernel
theorem dX1_init_25 : decode cX1_init 25 = .ok (.bipush 12, 2) := by decide +kernel
theorem dX1_init_27 : decode cX1_init 27 = .ok (.bipush 60, 2) := by decide +kernel
theorem dX1_init_29 : decode cX1_init 29 = .ok (.multianewarray 11 2, 4) := by decide +kernel
theorem dX1_init_33 : decode cX1_init 33 = .ok (.putfield 20, 3) := by decide +kernel
theorem dX1_init_36 : decode cX1_init 36 = .ok (.return_, 1) := by decide +kernel
theorem dX1_keyAt_0 : decode cX1_keyAt 0 = .ok (.aload_n 0, 1) := by decide +kernel
theorem dX1_keyAt_1 : decode cX1_keyAt 1 = .ok (.getfield 13, 3) := by decide +kernel
theorem dX1_keyAt_4 : decode cX1_keyAt 4 = .ok (.iload_n 1, 1) := by decide +kernel
theorem dX1_keyAt_5 : decode cX1_keyAt 5 = .ok (.aaload, 1) := by decide +kernel
theorem dX1_keyAt_6 : decode cX1_keyAt 6 = .ok (.iload_n 2, 1) := by decide +kernel
theorem dX1_keyAt_7 : decode cX1_keyAt 7 = .ok (.iaload, 1) := by decide +kernel
theorem dX1_keyAt_8 : decode cX1_keyAt 8 = .ok (.ireturn, 1) := by decide +kernel
theorem dX1_listHolds_0 : decode cX1_listHolds 0 = .ok (.aload_n 0, 1) := by decide +kernel
theorem dX1_listHolds_1 : decode cX1_listHolds 1 = .ok (.getfield 16, 3) := by decide +kernel
theorem dX1_listHolds_4 : decode cX1_listHolds 4 = .ok (.iload_n 3, 1) := by decide +kernel
theorem dX1_listHolds_5 : decode cX1_listHolds 5 = .ok (.iconst 0, 1) := by decide +kernel
theorem dX1_listHolds_6 : decode cX1_listHolds 6 = .ok (.iastore, 1) := by decide +kernel
theorem dX1_listHolds_7 : decode cX1_listHolds 7 = .ok (.aload_n 2, 1) := by decide +kernel
theorem dX1_listHolds_8 : decode cX1_listHolds 8 = .ok (.iload_n 3, 1) := by decide +kernel
theorem dX1_listHolds_9 : decode cX1_listHolds 9 = .ok (.invokevirtual 23, 3) := by decide +kernel
theorem dX1_listHolds_12 : decode cX1_listHolds 12 = .ok (.ifCond .eq 85, 3) := by decide +kernel
theorem dX1_listHolds_15 : decode cX1_listHolds 15 = .ok (.iconst 0, 1) := by decide +kernel
theorem dX1_listHolds_16 : decode cX1_listHolds 16 = .ok (.istore 4, 2) := by decide +kernel
theorem dX1_listHolds_18 : decode cX1_listHolds 18 = .ok (.iload 4, 2) := by decide +kernel
theorem dX1_listHolds_20 : decode cX1_listHolds 20 = .ok (.iconst 1, 1) := by decide +kernel
theorem dX1_listHolds_21 : decode cX1_listHolds 21 = .ok (.iadd, 1) := by decide +kernel
theorem dX1_listHolds_22 : decode cX1_listHolds 22 = .ok (.iconst 4, 1) := by decide +kernel
theorem dX1_listHolds_23 : decode cX1_listHolds 23 = .ok (.if_icmp .ge 71, 3) := by decide +kernel
theorem dX1_listHolds_26 : decode cX1_listHolds 26 = .ok (.aload_n 0, 1) := by decide +kernel
theorem dX1_listHolds_27 : decode cX1_listHolds 27 = .ok (.iload_n 3, 1) := by decide +kernel
theorem dX1_listHolds_28 : decode cX1_listHolds 28 = .ok (.iload 4, 2) := by decide +kernel
theorem dX1_listHolds_30 : decode cX1_listHolds 30 = .ok (.aload_n 2, 1) := by decide +kernel
theorem dX1_listHolds_31 : decode cX1_listHolds 31 = .ok (.getfield 29, 3) := by decide +kernel
theorem dX1_listHolds_34 : decode cX1_listHolds 34 = .ok (.iload_n 3, 1) := by decide +kernel
theorem dX1_listHolds_35 : decode cX1_listHolds 35 = .ok (.iaload, 1) := by decide +kernel
theorem dX1_listHolds_36 : decode cX1_listHolds 36 = .ok (.aload_n 1, 1) := by decide +kernel
theorem dX1_listHolds_37 : decode cX1_listHolds 37 = .ok (.iload 4, 2) := by decide +kernel
theorem dX1_listHolds_39 : decode cX1_listHolds 39 = .ok (.iaload, 1) := by decide +kernel
theorem dX1_listHolds_40 : decode cX1_listHolds 40 = .ok (.isub, 1) := by decide +kernel
theorem dX1_listHolds_41 : decode cX1_listHolds 41 = .ok (.aload_n 2, 1) := by decide +kernel
theorem dX1_listHolds_42 : decode cX1_listHolds 42 = .ok (.getfield 32, 3) := by decide +kernel
theorem dX1_listHolds_45 : decode cX1_listHolds 45 = .ok (.iload_n 3, 1) := by decide +kernel
theorem dX1_listHolds_46 : decode cX1_listHolds 46 = .ok (.iaload, 1) := by decide +kernel
theorem dX1_listHolds_47 : decode cX1_listHolds 47 = .ok (.aload_n 1, 1) := by decide +kernel
theorem dX1_listHolds_48 : decode cX1_listHolds 48 = .ok (.iload 4, 2) := by decide +kernel
theorem dX1_listHolds_50 : decode cX1_listHolds 50 = .ok (.iconst 1, 1) := by decide +kernel
theorem dX1_listHolds_51 : decode cX1_listHolds 51 = .ok (.iadd, 1) := by decide +kernel
theorem dX1_listHolds_52 : decode cX1_listHolds 52 = .ok (.iaload, 1) := by decide +kernel
theorem dX1_listHolds_53 : decode cX1_listHolds 53 = .ok (.isub, 1) := by decide +kernel
theorem dX1_listHolds_54 : decode cX1_listHolds 54 = .ok (.invokevirtual 35, 3) := by decide +kernel
theorem dX1_listHolds_57 : decode cX1_listHolds 57 = .ok (.aload_n 0, 1) := by decide +kernel
theorem dX1_listHolds_58 : decode cX1_listHolds 58 = .ok (.iload_n 3, 1) := by decide +kernel
theorem dX1_listHolds_59 : decode cX1_listHolds 59 = .ok (.iload 4, 2) := by decide +kernel
theorem dX1_listHolds_61 : decode cX1_listHolds 61 = .ok (.aload_n 2, 1) := by decide +kernel
theorem dX1_listHolds_62 : decode cX1_listHolds 62 = .ok (.getfield 32, 3) := by decide +kernel
theorem dX1_listHolds_65 : decode cX1_listHolds 65 = .ok (.iload_n 3, 1) := by decide +kernel
theorem dX1_listHolds_66 : decode cX1_listHolds 66 = .ok (.iaload, 1) := by decide +kernel
theorem dX1_listHolds_67 : decode cX1_listHolds 67 = .ok (.aload_n 1, 1) := by decide +kernel
theorem dX1_listHolds_68 : decode cX1_listHolds 68 = .ok (.iload 4, 2) := by decide +kernel
theorem dX1_listHolds_70 : decode cX1_listHolds 70 = .ok (.iaload, 1) := by decide +kernel
theorem dX1_listHolds_71 : decode cX1_listHolds 71 = .ok (.isub, 1) := by decide +kernel
theorem dX1_listHolds_72 : decode cX1_listHolds 72 = .ok (.aload_n 2, 1) := by decide +kernel
theorem dX1_listHolds_73 : decode cX1_listHolds 73 = .ok (.getfield 29, 3) := by decide +kernel
theorem dX1_listHolds_76 : decode cX1_listHolds 76 = .ok (.iload_n 3, 1) := by decide +kernel
theorem dX1_listHolds_77 : decode cX1_listHolds 77 = .ok (.iaload, 1) := by decide +kernel
theorem dX1_listHolds_78 : decode cX1_listHolds 78 = .ok (.aload_n 1, 1) := by decide +kernel
theorem dX1_listHolds_79 : decode cX1_listHolds 79 = .ok (.iload 4, 2) := by decide +kernel
theorem dX1_listHolds_81 : decode cX1_listHolds 81 = .ok (.iconst 1, 1) := by decide +kernel
theorem dX1_listHolds_82 : decode cX1_listHolds 82 = .ok (.iadd, 1) := by decide +kernel
theorem dX1_listHolds_83 : decode cX1_listHolds 83 = .ok (.iaload, 1) := by decide +kernel
theorem dX1_listHolds_84 : decode cX1_listHolds 84 = .ok (.isub, 1) := by decide +kernel
theorem dX1_listHolds_85 : decode cX1_listHolds 85 = .ok (.invokevirtual 35, 3) := by decide +kernel
theorem dX1_listHolds_88 : decode cX1_listHolds 88 = .ok (.iinc 4 1, 3) := by decide +kernel
theorem dX1_listHolds_91 : decode cX1_listHolds 91 = .ok (.goto (-73), 3) := by decide +kernel
theorem dX1_listHolds_94 : decode cX1_listHolds 94 = .ok (.goto 36, 3) := by decide +kernel
theorem dX1_listHolds_97 : decode cX1_listHolds 97 = .ok (.iconst 0, 1) := by decide +kernel
theorem dX1_listHolds_98 : decode cX1_listHolds 98 = .ok (.istore 4, 2) := by decide +kernel
theorem dX1_listHolds_100 : decode cX1_listHolds 100 = .ok (.iload 4, 2) := by decide +kernel
theorem dX1_listHolds_102 : decode cX1_listHolds 102 = .ok (.iconst 4, 1) := by decide +kernel
theorem dX1_listHolds_103 : decode cX1_listHolds 103 = .ok (.if_icmp .ge 27, 3) := by decide +kernel
theorem dX1_listHolds_106 : decode cX1_listHolds 106 = .ok (.aload_n 0, 1) := by decide +kernel
theorem dX1_listHolds_107 : decode cX1_listHolds 107 = .ok (.iload_n 3, 1) := by decide +kernel
theorem dX1_listHolds_108 : decode cX1_listHolds 108 = .ok (.iload 4, 2) := by decide +kernel
theorem dX1_listHolds_110 : decode cX1_listHolds 110 = .ok (.aload_n 2, 1) := by decide +kernel
theorem dX1_listHolds_111 : decode cX1_listHolds 111 = .ok (.getfield 29, 3) := by decide +kernel
theorem dX1_listHolds_114 : decode cX1_listHolds 114 = .ok (.iload_n 3, 1) := by decide +kernel
theorem dX1_listHolds_115 : decode cX1_listHolds 115 = .ok (.iaload, 1) := by decide +kernel
theorem dX1_listHolds_116 : decode cX1_listHolds 116 = .ok (.aload_n 1, 1) := by decide +kernel
theorem dX1_listHolds_117 : decode cX1_listHolds 117 = .ok (.iload 4, 2) := by decide +kernel
theorem dX1_listHolds_119 : decode cX1_listHolds 119 = .ok (.iaload, 1) := by decide +kernel
theorem dX1_listHolds_120 : decode cX1_listHolds 120 = .ok (.isub, 1) := by decide +kernel
theorem dX1_listHolds_121 : decode cX1_listHolds 121 = .ok (.invokevirtual 39, 3) := by decide +kernel
theorem dX1_listHolds_124 : decode cX1_listHolds 124 = .ok (.iinc 4 1, 3) := by decide +kernel
theorem dX1_listHolds_127 : decode cX1_listHolds 127 = .ok (.goto (-27), 3) := by decide +kernel
theorem dX1_listHolds_130 : decode cX1_listHolds 130 = .ok (.aload_n 0, 1) := by decide +kernel
theorem dX1_listHolds_131 : decode cX1_listHolds 131 = .ok (.getfield 16, 3) := by decide +kernel
theorem dX1_listHolds_134 : decode cX1_listHolds 134 = .ok (.iload_n 3, 1) := by decide +kernel
theorem dX1_listHolds_135 : decode cX1_listHolds 135 = .ok (.iaload, 1) := by decide +kernel
theorem dX1_listHolds_136 : decode cX1_listHolds 136 = .ok (.ireturn, 1) := by decide +kernel
theorem dX1_listSingles_0 : decode cX1_listSingles 0 = .ok (.iconst 0, 1) := by decide +kernel
theorem dX1_listSingles_1 : decode cX1_listSingles 1 = .ok (.istore 4, 2) := by decide +kernel
theorem dX1_listSingles_3 : decode cX1_listSingles 3 = .ok (.iload 4, 2) := by decide +kernel
theorem dX1_listSingles_5 : decode cX1_listSingles 5 = .ok (.bipush 10, 2) := by decide +kernel
theorem dX1_listSingles_7 : decode cX1_listSingles 7 = .ok (.if_icmp .ge 36, 3) := by decide +kernel
theorem dX1_listSingles_10 : decode cX1_listSingles 10 = .ok (.iload 4, 2) := by decide +kernel
theorem dX1_listSingles_12 : decode cX1_listSingles 12 = .ok (.iload_n 3, 1) := by decide +kernel
theorem dX1_listSingles_13 : decode cX1_listSingles 13 = .ok (.invokestatic 45, 3) := by decide +kernel
theorem dX1_listSingles_16 : decode cX1_listSingles 16 = .ok (.istore 5, 2) := by decide +kernel
theorem dX1_listSingles_18 : decode cX1_listSingles 18 = .ok (.iload 5, 2) := by decide +kernel
theorem dX1_listSingles_20 : decode cX1_listSingles 20 = .ok (.ifCond .lt 17, 3) := by decide +kernel
theorem dX1_listSingles_23 : decode cX1_listSingles 23 = .ok (.aload_n 0, 1) := by decide +kernel
theorem dX1_listSingles_24 : decode cX1_listSingles 24 = .ok (.iload_n 1, 1) := by decide +kernel
theorem dX1_listSingles_25 : decode cX1_listSingles 25 = .ok (.iload_n 2, 1) := by decide +kernel
theorem dX1_listSingles_26 : decode cX1_listSingles 26 = .ok (.iload 5, 2) := by decide +kernel
theorem dX1_listSingles_28 : decode cX1_listSingles 28 = .ok (.iload 4, 2) := by decide +kernel
theorem dX1_listSingles_30 : decode cX1_listSingles 30 = .ok (.iconst 0, 1) := by decide +kernel
theorem dX1_listSingles_31 : decode cX1_listSingles 31 = .ok (.invokestatic 49, 3) := by decide +kernel
theorem dX1_listSingles_34 : decode cX1_listSingles 34 = .ok (.invokevirtual 55, 3) := by decide +kernel
theorem dX1_listSingles_37 : decode cX1_listSingles 37 = .ok (.iinc 4 1, 3) := by decide +kernel
theorem dX1_listSingles_40 : decode cX1_listSingles 40 = .ok (.goto (-37), 3) := by decide +kernel
theorem dX1_listSingles_43 : decode cX1_listSingles 43 = .ok (.return_, 1) := by decide +kernel
theorem dX1_listPairs_0 : decode cX1_listPairs 0 = .ok (.iconst 0, 1) := by decide +kernel
theorem dX1_listPairs_1 : decode cX1_listPairs 1 = .ok (.istore 5, 2) := by decide +kernel
theorem dX1_listPairs_3 : decode cX1_listPairs 3 = .ok (.iload 5, 2) := by decide +kernel
theorem dX1_listPairs_5 : decode cX1_listPairs 5 = .ok (.bipush 10, 2) := by decide +kernel
theorem dX1_listPairs_7 : decode cX1_listPairs 7 = .ok (.if_icmp .ge 86, 3) := by decide +kernel
theorem dX1_listPairs_10 : decode cX1_listPairs 10 = .ok (.iload 5, 2) := by decide +kernel
theorem dX1_listPairs_12 : decode cX1_listPairs 12 = .ok (.iload_n 3, 1) := by decide +kernel
theorem dX1_listPairs_13 : decode cX1_listPairs 13 = .ok (.invokestatic 45, 3) := by decide +kernel
theorem dX1_listPairs_16 : decode cX1_listPairs 16 = .ok (.istore 6, 2) := by decide +kernel
theorem dX1_listPairs_18 : decode cX1_listPairs 18 = .ok (.iconst 0, 1) := by decide +kernel
theorem dX1_listPairs_19 : decode cX1_listPairs 19 = .ok (.istore 7, 2) := by decide +kernel
theorem dX1_listPairs_21 : decode cX1_listPairs 21 = .ok (.iload 6, 2) := by decide +kernel
theorem dX1_listPairs_23 : decode cX1_listPairs 23 = .ok (.ifCond .lt 64, 3) := by decide +kernel
theorem dX1_listPairs_26 : decode cX1_listPairs 26 = .ok (.iload 7, 2) := by decide +kernel
theorem dX1_listPairs_28 : decode cX1_listPairs 28 = .ok (.bipush 10, 2) := by decide +kernel
theorem dX1_listPairs_30 : decode cX1_listPairs 30 = .ok (.if_icmp .ge 57, 3) := by decide +kernel
theorem dX1_listPairs_33 : decode cX1_listPairs 33 = .ok (.iload 7, 2) := by decide +kernel
theorem dX1_listPairs_35 : decode cX1_listPairs 35 = .ok (.iload 4, 2) := by decide +kernel
theorem dX1_listPairs_37 : decode cX1_listPairs 37 = .ok (.invokestatic 45, 3) := by decide +kernel
theorem dX1_listPairs_40 : decode cX1_listPairs 40 = .ok (.istore 8, 2) := by decide +kernel
theorem dX1_listPairs_42 : decode cX1_listPairs 42 = .ok (.iload 8, 2) := by decide +kernel
theorem dX1_listPairs_44 : decode cX1_listPairs 44 = .ok (.ifCond .lt 37, 3) := by decide +kernel
theorem dX1_listPairs_47 : decode cX1_listPairs 47 = .ok (.iload 5, 2) := by decide +kernel
theorem dX1_listPairs_49 : decode cX1_listPairs 49 = .ok (.iload 6, 2) := by decide +kernel
theorem dX1_listPairs_51 : decode cX1_listPairs 51 = .ok (.iload 7, 2) := by decide +kernel
theorem dX1_listPairs_53 : decode cX1_listPairs 53 = .ok (.iload 8, 2) := by decide +kernel
theorem dX1_listPairs_55 : decode cX1_listPairs 55 = .ok (.invokestatic 59, 3) := by decide +kernel
theorem dX1_listPairs_58 : decode cX1_listPairs 58 = .ok (.ifCond .eq 23, 3) := by decide +kernel
theorem dX1_listPairs_61 : decode cX1_listPairs 61 = .ok (.aload_n 0, 1) := by decide +kernel
theorem dX1_listPairs_62 : decode cX1_listPairs 62 = .ok (.iload_n 1, 1) := by decide +kernel
theorem dX1_listPairs_63 : decode cX1_listPairs 63 = .ok (.iload_n 2, 1) := by decide +kernel
theorem dX1_listPairs_64 : decode cX1_listPairs 64 = .ok (.iload 6, 2) := by decide +kernel
theorem dX1_listPairs_66 : decode cX1_listPairs 66 = .ok (.iload 8, 2) := by decide +kernel
theorem dX1_listPairs_68 : decode cX1_listPairs 68 = .ok (.invokestatic 63, 3) := by decide +kernel
theorem dX1_listPairs_71 : decode cX1_listPairs 71 = .ok (.iload 5, 2) := by decide +kernel
theorem dX1_listPairs_73 : decode cX1_listPairs 73 = .ok (.iload 7, 2) := by decide +kernel
theorem dX1_listPairs_75 : decode cX1_listPairs 75 = .ok (.invokestatic 49, 3) := by decide +kernel
theorem dX1_listPairs_78 : decode cX1_listPairs 78 = .ok (.invokevirtual 55, 3) := by decide +kernel
theorem dX1_listPairs_81 : decode cX1_listPairs 81 = .ok (.iinc 7 1, 3) := by decide +kernel
theorem dX1_listPairs_84 : decode cX1_listPairs 84 = .ok (.goto (-63), 3) := by decide +kernel
theorem dX1_listPairs_87 : decode cX1_listPairs 87 = .ok (.iinc 5 1, 3) := by decide +kernel
theorem dX1_listPairs_90 : decode cX1_listPairs 90 = .ok (.goto (-87), 3) := by decide +kernel
theorem dX1_listPairs_93 : decode cX1_listPairs 93 = .ok (.return_, 1) := by decide +kernel
theorem dX1_insert_0 : decode cX1_insert 0 = .ok (.aload_n 0, 1) := by decide +kernel
theorem dX1_insert_1 : decode cX1_insert 1 = .ok (.getfield 13, 3) := by decide +kernel
theorem dX1_insert_4 : decode cX1_insert 4 = .ok (.iload_n 1, 1) := by decide +kernel
theorem dX1_insert_5 : decode cX1_insert 5 = .ok (.aaload, 1) := by decide +kernel
theorem dX1_insert_6 : decode cX1_insert 6 = .ok (.astore_n 3, 1) := by decide +kernel
theorem dX1_insert_7 : decode cX1_insert 7 = .ok (.aload_n 0, 1) := by decide +kernel
theorem dX1_insert_8 : decode cX1_insert 8 = .ok (.getfield 16, 3) := by decide +kernel
theorem dX1_insert_11 : decode cX1_insert 11 = .ok (.iload_n 1, 1) := by decide +kernel
theorem dX1_insert_12 : decode cX1_insert 12 = .ok (.iaload, 1) := by decide +kernel
theorem dX1_insert_13 : decode cX1_insert 13 = .ok (.istore 4, 2) := by decide +kernel
theorem dX1_insert_15 : decode cX1_insert 15 = .ok (.iload 4, 2) := by decide +kernel
theorem dX1_insert_17 : decode cX1_insert 17 = .ok (.bipush 60, 2) := by decide +kernel
theorem dX1_insert_19 : decode cX1_insert 19 = .ok (.if_icmp .lt 4, 3) := by decide +kernel
theorem dX1_insert_22 : decode cX1_insert 22 = .ok (.return_, 1) := by decide +kernel
theorem dX1_insert_23 : decode cX1_insert 23 = .ok (.iload 4, 2) := by decide +kernel
theorem dX1_insert_25 : decode cX1_insert 25 = .ok (.ifCond .le 29, 3) := by decide +kernel
theorem dX1_insert_28 : decode cX1_insert 28 = .ok (.aload_n 3, 1) := by decide +kernel
theorem dX1_insert_29 : decode cX1_insert 29 = .ok (.iload 4, 2) := by decide +kernel
theorem dX1_insert_31 : decode cX1_insert 31 = .ok (.iconst 1, 1) := by decide +kernel
theorem dX1_insert_32 : decode cX1_insert 32 = .ok (.isub, 1) := by decide +kernel
theorem dX1_insert_33 : decode cX1_insert 33 = .ok (.iaload, 1) := by decide +kernel
theorem dX1_insert_34 : decode cX1_insert 34 = .ok (.iload_n 2, 1) := by decide +kernel
theorem dX1_insert_35 : decode cX1_insert 35 = .ok (.if_icmp .le 19, 3) := by decide +kernel
theorem dX1_insert_38 : decode cX1_insert 38 = .ok (.aload_n 3, 1) := by decide +kernel
theorem dX1_insert_39 : decode cX1_insert 39 = .ok (.iload 4, 2) := by decide +kernel
theorem dX1_insert_41 : decode cX1_insert 41 = .ok (.aload_n 3, 1) := by decide +kernel
theorem dX1_insert_42 : decode cX1_insert 42 = .ok (.iload 4, 2) := by decide +kernel
theorem dX1_insert_44 : decode cX1_insert 44 = .ok (.iconst 1, 1) := by decide +kernel
theorem dX1_insert_45 : decode cX1_insert 45 = .ok (.isub, 1) := by decide +kernel
theorem dX1_insert_46 : decode cX1_insert 46 = .ok (.iaload, 1) := by decide +kernel
theorem dX1_insert_47 : decode cX1_insert 47 = .ok (.iastore, 1) := by decide +kernel
theorem dX1_insert_48 : decode cX1_insert 48 = .ok (.iinc 4 (-1), 3) := by decide +kernel
theorem dX1_insert_51 : decode cX1_insert 51 = .ok (.goto (-28), 3) := by decide +kernel
theorem dX1_insert_54 : decode cX1_insert 54 = .ok (.aload_n 3, 1) := by decide +kernel
theorem dX1_insert_55 : decode cX1_insert 55 = .ok (.iload 4, 2) := by decide +kernel
theorem dX1_insert_57 : decode cX1_insert 57 = .ok (.iload_n 2, 1) := by decide +kernel
theorem dX1_insert_58 : decode cX1_insert 58 = .ok (.iastore, 1) := by decide +kernel
theorem dX1_insert_59 : decode cX1_insert 59 = .ok (.aload_n 0, 1) := by decide +kernel
theorem dX1_insert_60 : decode cX1_insert 60 = .ok (.getfield 16, 3) := by decide +kernel
theorem dX1_insert_63 : decode cX1_insert 63 = .ok (.iload_n 1, 1) := by decide +kernel
theorem dX1_insert_64 : decode cX1_insert 64 = .ok (.dup2, 1) := by decide +kernel
theorem dX1_insert_65 : decode cX1_insert 65 = .ok (.iaload, 1) := by decide +kernel
theorem dX1_insert_66 : decode cX1_insert 66 = .ok (.iconst 1, 1) := by decide +kernel
theorem dX1_insert_67 : decode cX1_insert 67 = .ok (.iadd, 1) := by decide +kernel
theorem dX1_insert_68 : decode cX1_insert 68 = .ok (.iastore, 1) := by decide +kernel
theorem dX1_insert_69 : decode cX1_insert 69 = .ok (.return_, 1) := by decide +kernel
theorem dX1_findFingering_0 : decode cX1_findFingering 0 = .ok (.aload_n 2, 1) := by decide +kernel
theorem dX1_findFingering_1 : decode cX1_findFingering 1 = .ok (.getfield 68, 3) := by decide +kernel
theorem dX1_findFingering_4 : decode cX1_findFingering 4 = .ok (.iconst 1, 1) := by decide +kernel
theorem dX1_findFingering_5 : decode cX1_findFingering 5 = .ok (.isub, 1) := by decide +kernel
theorem dX1_findFingering_6 : decode cX1_findFingering 6 = .ok (.istore_n 3, 1) := by decide +kernel
theorem dX1_findFingering_7 : decode cX1_findFingering 7 = .ok (.iload_n 3, 1) := by decide +kernel
theorem dX1_findFingering_8 : decode cX1_findFingering 8 = .ok (.ifCond .ge 5, 3) := by decide +kernel
theorem dX1_findFingering_11 : decode cX1_findFingering 11 = .ok (.iconst 0, 1) := by decide +kernel
theorem dX1_findFingering_12 : decode cX1_findFingering 12 = .ok (.ireturn, 1) := by decide +kernel
theorem dX1_findFingering_13 : decode cX1_findFingering 13 = .ok (.iload_n 3, 1) := by decide +kernel
theorem dX1_findFingering_14 : decode cX1_findFingering 14 = .ok (.istore 4, 2) := by decide +kernel
theorem dX1_findFingering_16 : decode cX1_findFingering 16 = .ok (.iload 4, 2) := by decide +kernel
theorem dX1_findFingering_18 : decode cX1_findFingering 18 = .ok (.ifCond .lt 36, 3) := by decide +kernel
theorem dX1_findFingering_21 : decode cX1_findFingering 21 = .ok (.aload_n 0, 1) := by decide +kernel
theorem dX1_findFingering_22 : decode cX1_findFingering 22 = .ok (.aload_n 1, 1) := by decide +kernel
theorem dX1_findFingering_23 : decode cX1_findFingering 23 = .ok (.aload_n 2, 1) := by decide +kernel
theorem dX1_findFingering_24 : decode cX1_findFingering 24 = .ok (.iload 4, 2) := by decide +kernel
theorem dX1_findFingering_26 : decode cX1_findFingering 26 = .ok (.invokevirtual 72, 3) := by decide +kernel
theorem dX1_findFingering_29 : decode cX1_findFingering 29 = .ok (.pop, 1) := by decide +kernel
theorem dX1_findFingering_30 : decode cX1_findFingering 30 = .ok (.aload_n 0, 1) := by decide +kernel
theorem dX1_findFingering_31 : decode cX1_findFingering 31 = .ok (.aload_n 2, 1) := by decide +kernel
theorem dX1_findFingering_32 : decode cX1_findFingering 32 = .ok (.iload 4, 2) := by decide +kernel
theorem dX1_findFingering_34 : decode cX1_findFingering 34 = .ok (.iload 4, 2) := by decide +kernel
theorem dX1_findFingering_36 : decode cX1_findFingering 36 = .ok (.iload_n 3, 1) := by decide +kernel
theorem dX1_findFingering_37 : decode cX1_findFingering 37 = .ok (.if_icmp .ne 7, 3) := by decide +kernel
theorem dX1_findFingering_40 : decode cX1_findFingering 40 = .ok (.iconst 1, 1) := by decide +kernel
theorem dX1_findFingering_41 : decode cX1_findFingering 41 = .ok (.goto 4, 3) := by decide +kernel
theorem dX1_findFingering_44 : decode cX1_findFingering 44 = .ok (.iconst 0, 1) := by decide +kernel
theorem dX1_findFingering_45 : decode cX1_findFingering 45 = .ok (.invokevirtual 76, 3) := by decide +kernel
theorem dX1_findFingering_48 : decode cX1_findFingering 48 = .ok (.iinc 4 (-1), 3) := by decide +kernel
theorem dX1_findFingering_51 : decode cX1_findFingering 51 = .ok (.goto (-35), 3) := by decide +kernel
theorem dX1_findFingering_54 : decode cX1_findFingering 54 = .ok (.aload_n 0, 1) := by decide +kernel
theorem dX1_findFingering_55 : decode cX1_findFingering 55 = .ok (.aload_n 2, 1) := by decide +kernel
theorem dX1_findFingering_56 : decode cX1_findFingering 56 = .ok (.invokevirtual 80, 3) := by decide +kernel
theorem dX1_findFingering_59 : decode cX1_findFingering 59 = .ok (.ireturn, 1) := by decide +kernel
theorem dX1_reckonCosts_0 : decode cX1_reckonCosts 0 = .ok (.iconst 0, 1) := by decide +kernel
theorem dX1_reckonCosts_1 : decode cX1_reckonCosts 1 = .ok (.istore 4, 2) := by decide +kernel
theorem dX1_reckonCosts_3 : decode cX1_reckonCosts 3 = .ok (.iload 4, 2) := by decide +kernel
theorem dX1_reckonCosts_5 : decode cX1_reckonCosts 5 = .ok (.aload_n 0, 1) := by decide +kernel
theorem dX1_reckonCosts_6 : decode cX1_reckonCosts 6 = .ok (.getfield 16, 3) := by decide +kernel
theorem dX1_reckonCosts_9 : decode cX1_reckonCosts 9 = .ok (.iload_n 2, 1) := by decide +kernel
theorem dX1_reckonCosts_10 : decode cX1_reckonCosts 10 = .ok (.iaload, 1) := by decide +kernel
theorem dX1_reckonCosts_11 : decode cX1_reckonCosts 11 = .ok (.if_icmp .ge 62, 3) := by decide +kernel
theorem dX1_reckonCosts_14 : decode cX1_reckonCosts 14 = .ok (.aload_n 0, 1) := by decide +kernel
theorem dX1_reckonCosts_15 : decode cX1_reckonCosts 15 = .ok (.getfield 13, 3) := by decide +kernel
theorem dX1_reckonCosts_18 : decode cX1_reckonCosts 18 = .ok (.iload_n 2, 1) := by decide +kernel
theorem dX1_reckonCosts_19 : decode cX1_reckonCosts 19 = .ok (.aaload, 1) := by decide +kernel
theorem dX1_reckonCosts_20 : decode cX1_reckonCosts 20 = .ok (.iload 4, 2) := by decide +kernel
theorem dX1_reckonCosts_22 : decode cX1_reckonCosts 22 = .ok (.iaload, 1) := by decide +kernel
theorem dX1_reckonCosts_23 : decode cX1_reckonCosts 23 = .ok (.istore 5, 2) := by decide +kernel
theorem dX1_reckonCosts_25 : decode cX1_reckonCosts 25 = .ok (.iload_n 3, 1) := by decide +kernel
theorem dX1_reckonCosts_26 : decode cX1_reckonCosts 26 = .ok (.ifCond .eq 7, 3) := by decide +kernel
theorem dX1_reckonCosts_29 : decode cX1_reckonCosts 29 = .ok (.iconst 0, 1) := by decide +kernel
theorem dX1_reckonCosts_30 : decode cX1_reckonCosts 30 = .ok (.goto 13, 3) := by decide +kernel
theorem dX1_reckonCosts_33 : decode cX1_reckonCosts 33 = .ok (.aload_n 0, 1) := by decide +kernel
theorem dX1_reckonCosts_34 : decode cX1_reckonCosts 34 = .ok (.aload_n 1, 1) := by decide +kernel
theorem dX1_reckonCosts_35 : decode cX1_reckonCosts 35 = .ok (.iload_n 2, 1) := by decide +kernel
theorem dX1_reckonCosts_36 : decode cX1_reckonCosts 36 = .ok (.iconst 1, 1) := by decide +kernel
theorem dX1_reckonCosts_37 : decode cX1_reckonCosts 37 = .ok (.iadd, 1) := by decide +kernel
theorem dX1_reckonCosts_38 : decode cX1_reckonCosts 38 = .ok (.iload 5, 2) := by decide +kernel
theorem dX1_reckonCosts_40 : decode cX1_reckonCosts 40 = .ok (.invokevirtual 84, 3) := by decide +kernel
theorem dX1_reckonCosts_43 : decode cX1_reckonCosts 43 = .ok (.istore 6, 2) := by decide +kernel
theorem dX1_reckonCosts_45 : decode cX1_reckonCosts 45 = .ok (.aload_n 0, 1) := by decide +kernel
theorem dX1_reckonCosts_46 : decode cX1_reckonCosts 46 = .ok (.getfield 20, 3) := by decide +kernel
theorem dX1_reckonCosts_49 : decode cX1_reckonCosts 49 = .ok (.iload_n 2, 1) := by decide +kernel
theorem dX1_reckonCosts_50 : decode cX1_reckonCosts 50 = .ok (.aaload, 1) := by decide +kernel
theorem dX1_reckonCosts_51 : decode cX1_reckonCosts 51 = .ok (.iload 4, 2) := by decide +kernel
theorem dX1_reckonCosts_53 : decode cX1_reckonCosts 53 = .ok (.ldc 88, 2) := by decide +kernel
theorem dX1_reckonCosts_55 : decode cX1_reckonCosts 55 = .ok (.iload 5, 2) := by decide +kernel
theorem dX1_reckonCosts_57 : decode cX1_reckonCosts 57 = .ok (.invokestatic 89, 3) := by decide +kernel
theorem dX1_reckonCosts_60 : decode cX1_reckonCosts 60 = .ok (.iload 6, 2) := by decide +kernel
theorem dX1_reckonCosts_62 : decode cX1_reckonCosts 62 = .ok (.iadd, 1) := by decide +kernel
theorem dX1_reckonCosts_63 : decode cX1_reckonCosts 63 = .ok (.invokestatic 93, 3) := by decide +kernel
theorem dX1_reckonCosts_66 : decode cX1_reckonCosts 66 = .ok (.iastore, 1) := by decide +kernel
theorem dX1_reckonCosts_67 : decode cX1_reckonCosts 67 = .ok (.iinc 4 1, 3) := by decide +kernel
theorem dX1_reckonCosts_70 : decode cX1_reckonCosts 70 = .ok (.goto (-67), 3) := by decide +kernel
theorem dX1_reckonCosts_73 : decode cX1_reckonCosts 73 = .ok (.return_, 1) := by decide +kernel
theorem dX1_leastBehind_0 : decode cX1_leastBehind 0 = .ok (.ldc 88, 2) := by decide +kernel
theorem dX1_leastBehind_2 : decode cX1_leastBehind 2 = .ok (.istore 4, 2) := by decide +kernel
theorem dX1_leastBehind_4 : decode cX1_leastBehind 4 = .ok (.iconst 0, 1) := by decide +kernel
theorem dX1_leastBehind_5 : decode cX1_leastBehind 5 = .ok (.istore 5, 2) := by decide +kernel
theorem dX1_leastBehind_7 : decode cX1_leastBehind 7 = .ok (.iload 5, 2) := by decide +kernel
theorem dX1_leastBehind_9 : decode cX1_leastBehind 9 = .ok (.aload_n 0, 1) := by decide +kernel
theorem dX1_leastBehind_10 : decode cX1_leastBehind 10 = .ok (.getfield 16, 3) := by decide +kernel
theorem dX1_leastBehind_13 : decode cX1_leastBehind 13 = .ok (.iload_n 2, 1) := by decide +kernel
theorem dX1_leastBehind_14 : decode cX1_leastBehind 14 = .ok (.iaload, 1) := by decide +kernel
theorem dX1_leastBehind_15 : decode cX1_leastBehind 15 = .ok (.if_icmp .ge 25, 3) := by decide +kernel
theorem dX1_leastBehind_18 : decode cX1_leastBehind 18 = .ok (.iload 4, 2) := by decide +kernel
theorem dX1_leastBehind_20 : decode cX1_leastBehind 20 = .ok (.aload_n 0, 1) := by decide +kernel
theorem dX1_leastBehind_21 : decode cX1_leastBehind 21 = .ok (.aload_n 1, 1) := by decide +kernel
theorem dX1_leastBehind_22 : decode cX1_leastBehind 22 = .ok (.iload_n 2, 1) := by decide +kernel
theorem dX1_leastBehind_23 : decode cX1_leastBehind 23 = .ok (.iload_n 3, 1) := by decide +kernel
theorem dX1_leastBehind_24 : decode cX1_leastBehind 24 = .ok (.iload 5, 2) := by decide +kernel
theorem dX1_leastBehind_26 : decode cX1_leastBehind 26 = .ok (.invokevirtual 96, 3) := by decide +kernel
theorem dX1_leastBehind_29 : decode cX1_leastBehind 29 = .ok (.invokestatic 93, 3) := by decide +kernel
theorem dX1_leastBehind_32 : decode cX1_leastBehind 32 = .ok (.istore 4, 2) := by decide +kernel
theorem dX1_leastBehind_34 : decode cX1_leastBehind 34 = .ok (.iinc 5 1, 3) := by decide +kernel
theorem dX1_leastBehind_37 : decode cX1_leastBehind 37 = .ok (.goto (-30), 3) := by decide +kernel
theorem dX1_leastBehind_40 : decode cX1_leastBehind 40 = .ok (.iload 4, 2) := by decide +kernel
theorem dX1_leastBehind_42 : decode cX1_leastBehind 42 = .ok (.ireturn, 1) := by decide +kernel
theorem dX1_costFrom_0 : decode cX1_costFrom 0 = .ok (.aload_n 0, 1) := by decide +kernel
theorem dX1_costFrom_1 : decode cX1_costFrom 1 = .ok (.getfield 20, 3) := by decide +kernel
theorem dX1_costFrom_4 : decode cX1_costFrom 4 = .ok (.iload_n 2, 1) := by decide +kernel
theorem dX1_costFrom_5 : decode cX1_costFrom 5 = .ok (.aaload, 1) := by decide +kernel
theorem dX1_costFrom_6 : decode cX1_costFrom 6 = .ok (.iload 4, 2) := by decide +kernel
theorem dX1_costFrom_8 : decode cX1_costFrom 8 = .ok (.iaload, 1) := by decide +kernel
theorem dX1_costFrom_9 : decode cX1_costFrom 9 = .ok (.iload_n 3, 1) := by decide +kernel
theorem dX1_costFrom_10 : decode cX1_costFrom 10 = .ok (.aload_n 0, 1) := by decide +kernel
theorem dX1_costFrom_11 : decode cX1_costFrom 11 = .ok (.getfield 13, 3) := by decide +kernel
theorem dX1_costFrom_14 : decode cX1_costFrom 14 = .ok (.iload_n 2, 1) := by decide +kernel
theorem dX1_costFrom_15 : decode cX1_costFrom 15 = .ok (.aaload, 1) := by decide +kernel
theorem dX1_costFrom_16 : decode cX1_costFrom 16 = .ok (.iload 4, 2) := by decide +kernel
theorem dX1_costFrom_18 : decode cX1_costFrom 18 = .ok (.iaload, 1) := by decide +kernel
theorem dX1_costFrom_19 : decode cX1_costFrom 19 = .ok (.aload_n 1, 1) := by decide +kernel
theorem dX1_costFrom_20 : decode cX1_costFrom 20 = .ok (.getfield 100, 3) := by decide +kernel
theorem dX1_costFrom_23 : decode cX1_costFrom 23 = .ok (.iload_n 2, 1) := by decide +kernel
theorem dX1_costFrom_24 : decode cX1_costFrom 24 = .ok (.iaload, 1) := by decide +kernel
theorem dX1_costFrom_25 : decode cX1_costFrom 25 = .ok (.invokestatic 103, 3) := by decide +kernel
theorem dX1_costFrom_28 : decode cX1_costFrom 28 = .ok (.iadd, 1) := by decide +kernel
theorem dX1_costFrom_29 : decode cX1_costFrom 29 = .ok (.ireturn, 1) := by decide +kernel
theorem dX1_stepCost_0 : decode cX1_stepCost 0 = .ok (.iload_n 1, 1) := by decide +kernel
theorem dX1_stepCost_1 : decode cX1_stepCost 1 = .ok (.invokestatic 107, 3) := by decide +kernel
theorem dX1_stepCost_4 : decode cX1_stepCost 4 = .ok (.iload_n 0, 1) := by decide +kernel
theorem dX1_stepCost_5 : decode cX1_stepCost 5 = .ok (.invokestatic 107, 3) := by decide +kernel
theorem dX1_stepCost_8 : decode cX1_stepCost 8 = .ok (.isub, 1) := by decide +kernel
theorem dX1_stepCost_9 : decode cX1_stepCost 9 = .ok (.invokestatic 110, 3) := by decide +kernel
theorem dX1_stepCost_12 : decode cX1_stepCost 12 = .ok (.istore_n 3, 1) := by decide +kernel
theorem dX1_stepCost_13 : decode cX1_stepCost 13 = .ok (.iload_n 0, 1) := by decide +kernel
theorem dX1_stepCost_14 : decode cX1_stepCost 14 = .ok (.iload_n 1, 1) := by decide +kernel
theorem dX1_stepCost_15 : decode cX1_stepCost 15 = .ok (.invokestatic 113, 3) := by decide +kernel
theorem dX1_stepCost_18 : decode cX1_stepCost 18 = .ok (.ifCond .eq 10, 3) := by decide +kernel
theorem dX1_stepCost_21 : decode cX1_stepCost 21 = .ok (.iload_n 2, 1) := by decide +kernel
theorem dX1_stepCost_22 : decode cX1_stepCost 22 = .ok (.bipush 9, 2) := by decide +kernel
theorem dX1_stepCost_24 : decode cX1_stepCost 24 = .ok (.iand, 1) := by decide +kernel
theorem dX1_stepCost_25 : decode cX1_stepCost 25 = .ok (.ifCond .eq 5, 3) := by decide +kernel
theorem dX1_stepCost_28 : decode cX1_stepCost 28 = .ok (.iload_n 3, 1) := by decide +kernel
theorem dX1_stepCost_29 : decode cX1_stepCost 29 = .ok (.ireturn, 1) := by decide +kernel
theorem dX1_stepCost_30 : decode cX1_stepCost 30 = .ok (.iload_n 2, 1) := by decide +kernel
theorem dX1_stepCost_31 : decode cX1_stepCost 31 = .ok (.iconst 2, 1) := by decide +kernel
theorem dX1_stepCost_32 : decode cX1_stepCost 32 = .ok (.iand, 1) := by decide +kernel
theorem dX1_stepCost_33 : decode cX1_stepCost 33 = .ok (.ifCond .eq 6, 3) := by decide +kernel
theorem dX1_stepCost_36 : decode cX1_stepCost 36 = .ok (.ldc 88, 2) := by decide +kernel
theorem dX1_stepCost_38 : decode cX1_stepCost 38 = .ok (.ireturn, 1) := by decide +kernel
theorem dX1_stepCost_39 : decode cX1_stepCost 39 = .ok (.iload_n 3, 1) := by decide +kernel
theorem dX1_stepCost_40 : decode cX1_stepCost 40 = .ok (.iconst 2, 1) := by decide +kernel
theorem dX1_stepCost_41 : decode cX1_stepCost 41 = .ok (.iload_n 1, 1) := by decide +kernel
theorem dX1_stepCost_42 : decode cX1_stepCost 42 = .ok (.invokestatic 117, 3) := by decide +kernel
theorem dX1_stepCost_45 : decode cX1_stepCost 45 = .ok (.iload_n 0, 1) := by decide +kernel
theorem dX1_stepCost_46 : decode cX1_stepCost 46 = .ok (.invokestatic 117, 3) := by decide +kernel
theorem dX1_stepCost_49 : decode cX1_stepCost 49 = .ok (.isub, 1) := by decide +kernel
theorem dX1_stepCost_50 : decode cX1_stepCost 50 = .ok (.invokestatic 110, 3) := by decide +kernel
theorem dX1_stepCost_53 : decode cX1_stepCost 53 = .ok (.imul, 1) := by decide +kernel
theorem dX1_stepCost_54 : decode cX1_stepCost 54 = .ok (.iadd, 1) := by decide +kernel
theorem dX1_stepCost_55 : decode cX1_stepCost 55 = .ok (.ireturn, 1) := by decide +kernel
theorem dX1_followLeast_0 : decode cX1_followLeast 0 = .ok (.ldc 88, 2) := by decide +kernel
theorem dX1_followLeast_2 : decode cX1_followLeast 2 = .ok (.istore_n 2, 1) := by decide +kernel
theorem dX1_followLeast_3 : decode cX1_followLeast 3 = .ok (.iconst 0, 1) := by decide +kernel
theorem dX1_followLeast_4 : decode cX1_followLeast 4 = .ok (.istore_n 3, 1) := by decide +kernel
theorem dX1_followLeast_5 : decode cX1_followLeast 5 = .ok (.iload_n 3, 1) := by decide +kernel
theorem dX1_followLeast_6 : decode cX1_followLeast 6 = .ok (.aload_n 0, 1) := by decide +kernel
theorem dX1_followLeast_7 : decode cX1_followLeast 7 = .ok (.getfield 16, 3) := by decide +kernel
theorem dX1_followLeast_10 : decode cX1_followLeast 10 = .ok (.iconst 0, 1) := by decide +kernel
theorem dX1_followLeast_11 : decode cX1_followLeast 11 = .ok (.iaload, 1) := by decide +kernel
theorem dX1_followLeast_12 : decode cX1_followLeast 12 = .ok (.if_icmp .ge 44, 3) := by decide +kernel
theorem dX1_followLeast_15 : decode cX1_followLeast 15 = .ok (.aload_n 0, 1) := by decide +kernel
theorem dX1_followLeast_16 : decode cX1_followLeast 16 = .ok (.getfield 20, 3) := by decide +kernel
theorem dX1_followLeast_19 : decode cX1_followLeast 19 = .ok (.iconst 0, 1) := by decide +kernel
theorem dX1_followLeast_20 : decode cX1_followLeast 20 = .ok (.aaload, 1) := by decide +kernel
theorem dX1_followLeast_21 : decode cX1_followLeast 21 = .ok (.iload_n 3, 1) := by decide +kernel
theorem dX1_followLeast_22 : decode cX1_followLeast 22 = .ok (.iaload, 1) := by decide +kernel
theorem dX1_followLeast_23 : decode cX1_followLeast 23 = .ok (.iload_n 2, 1) := by decide +kernel
theorem dX1_followLeast_24 : decode cX1_followLeast 24 = .ok (.if_icmp .ge 26, 3) := by decide +kernel
theorem dX1_followLeast_27 : decode cX1_followLeast 27 = .ok (.aload_n 0, 1) := by decide +kernel
theorem dX1_followLeast_28 : decode cX1_followLeast 28 = .ok (.getfield 20, 3) := by decide +kernel
theorem dX1_followLeast_31 : decode cX1_followLeast 31 = .ok (.iconst 0, 1) := by decide +kernel
theorem dX1_followLeast_32 : decode cX1_followLeast 32 = .ok (.aaload, 1) := by decide +kernel
theorem dX1_followLeast_33 : decode cX1_followLeast 33 = .ok (.iload_n 3, 1) := by decide +kernel
theorem dX1_followLeast_34 : decode cX1_followLeast 34 = .ok (.iaload, 1) := by decide +kernel
theorem dX1_followLeast_35 : decode cX1_followLeast 35 = .ok (.istore_n 2, 1) := by decide +kernel
theorem dX1_followLeast_36 : decode cX1_followLeast 36 = .ok (.aload_n 1, 1) := by decide +kernel
theorem dX1_followLeast_37 : decode cX1_followLeast 37 = .ok (.getfield 119, 3) := by decide +kernel
theorem dX1_followLeast_40 : decode cX1_followLeast 40 = .ok (.iconst 0, 1) := by decide +kernel
theorem dX1_followLeast_41 : decode cX1_followLeast 41 = .ok (.aload_n 0, 1) := by decide +kernel
theorem dX1_followLeast_42 : decode cX1_followLeast 42 = .ok (.getfield 13, 3) := by decide +kernel
theorem dX1_followLeast_45 : decode cX1_followLeast 45 = .ok (.iconst 0, 1) := by decide +kernel
theorem dX1_followLeast_46 : decode cX1_followLeast 46 = .ok (.aaload, 1) := by decide +kernel
theorem dX1_followLeast_47 : decode cX1_followLeast 47 = .ok (.iload_n 3, 1) := by decide +kernel
theorem dX1_followLeast_48 : decode cX1_followLeast 48 = .ok (.iaload, 1) := by decide +kernel
theorem dX1_followLeast_49 : decode cX1_followLeast 49 = .ok (.iastore, 1) := by decide +kernel
theorem dX1_followLeast_50 : decode cX1_followLeast 50 = .ok (.iinc 3 1, 3) := by decide +kernel
theorem dX1_followLeast_53 : decode cX1_followLeast 53 = .ok (.goto (-48), 3) := by decide +kernel
theorem dX1_followLeast_56 : decode cX1_followLeast 56 = .ok (.iconst 1, 1) := by decide +kernel
theorem dX1_followLeast_57 : decode cX1_followLeast 57 = .ok (.istore_n 3, 1) := by decide +kernel
theorem dX1_followLeast_58 : decode cX1_followLeast 58 = .ok (.iload_n 3, 1) := by decide +kernel
theorem dX1_followLeast_59 : decode cX1_followLeast 59 = .ok (.aload_n 1, 1) := by decide +kernel
theorem dX1_followLeast_60 : decode cX1_followLeast 60 = .ok (.getfield 68, 3) := by decide +kernel
theorem dX1_followLeast_63 : decode cX1_followLeast 63 = .ok (.if_icmp .ge 35, 3) := by decide +kernel
theorem dX1_followLeast_66 : decode cX1_followLeast 66 = .ok (.iload_n 2, 1) := by decide +kernel
theorem dX1_followLeast_67 : decode cX1_followLeast 67 = .ok (.ldc 88, 2) := by decide +kernel
theorem dX1_followLeast_69 : decode cX1_followLeast 69 = .ok (.if_icmp .ge 29, 3) := by decide +kernel
theorem dX1_followLeast_72 : decode cX1_followLeast 72 = .ok (.aload_n 1, 1) := by decide +kernel
theorem dX1_followLeast_73 : decode cX1_followLeast 73 = .ok (.getfield 119, 3) := by decide +kernel
theorem dX1_followLeast_76 : decode cX1_followLeast 76 = .ok (.iload_n 3, 1) := by decide +kernel
theorem dX1_followLeast_77 : decode cX1_followLeast 77 = .ok (.aload_n 0, 1) := by decide +kernel
theorem dX1_followLeast_78 : decode cX1_followLeast 78 = .ok (.aload_n 1, 1) := by decide +kernel
theorem dX1_followLeast_79 : decode cX1_followLeast 79 = .ok (.iload_n 3, 1) := by decide +kernel
theorem dX1_followLeast_80 : decode cX1_followLeast 80 = .ok (.aload_n 1, 1) := by decide +kernel
theorem dX1_followLeast_81 : decode cX1_followLeast 81 = .ok (.getfield 119, 3) := by decide +kernel
theorem dX1_followLeast_84 : decode cX1_followLeast 84 = .ok (.iload_n 3, 1) := by decide +kernel
theorem dX1_followLeast_85 : decode cX1_followLeast 85 = .ok (.iconst 1, 1) := by decide +kernel
theorem dX1_followLeast_86 : decode cX1_followLeast 86 = .ok (.isub, 1) := by decide +kernel
theorem dX1_followLeast_87 : decode cX1_followLeast 87 = .ok (.iaload, 1) := by decide +kernel
theorem dX1_followLeast_88 : decode cX1_followLeast 88 = .ok (.invokevirtual 122, 3) := by decide +kernel
theorem dX1_followLeast_91 : decode cX1_followLeast 91 = .ok (.iastore, 1) := by decide +kernel
theorem dX1_followLeast_92 : decode cX1_followLeast 92 = .ok (.iinc 3 1, 3) := by decide +kernel
theorem dX1_followLeast_95 : decode cX1_followLeast 95 = .ok (.goto (-37), 3) := by decide +kernel
theorem dX1_followLeast_98 : decode cX1_followLeast 98 = .ok (.iload_n 2, 1) := by decide +kernel
theorem dX1_followLeast_99 : decode cX1_followLeast 99 = .ok (.ireturn, 1) := by decide +kernel
theorem dX1_leastNext_0 : decode cX1_leastNext 0 = .ok (.ldc 88, 2) := by decide +kernel
theorem dX1_leastNext_2 : decode cX1_leastNext 2 = .ok (.istore 4, 2) := by decide +kernel
theorem dX1_leastNext_4 : decode cX1_leastNext 4 = .ok (.iconst 0, 1) := by decide +kernel
theorem dX1_leastNext_5 : decode cX1_leastNext 5 = .ok (.istore 5, 2) := by decide +kernel
theorem dX1_leastNext_7 : decode cX1_leastNext 7 = .ok (.iconst 0, 1) := by decide +kernel
theorem dX1_leastNext_8 : decode cX1_leastNext 8 = .ok (.istore 6, 2) := by decide +kernel
theorem dX1_leastNext_10 : decode cX1_leastNext 10 = .ok (.iload 6, 2) := by decide +kernel
theorem dX1_leastNext_12 : decode cX1_leastNext 12 = .ok (.aload_n 0, 1) := by decide +kernel
theorem dX1_leastNext_13 : decode cX1_leastNext 13 = .ok (.getfield 16, 3) := by decide +kernel
theorem dX1_leastNext_16 : decode cX1_leastNext 16 = .ok (.iload_n 2, 1) := by decide +kernel
theorem dX1_leastNext_17 : decode cX1_leastNext 17 = .ok (.iaload, 1) := by decide +kernel
theorem dX1_leastNext_18 : decode cX1_leastNext 18 = .ok (.if_icmp .ge 42, 3) := by decide +kernel
theorem dX1_leastNext_21 : decode cX1_leastNext 21 = .ok (.aload_n 0, 1) := by decide +kernel
theorem dX1_leastNext_22 : decode cX1_leastNext 22 = .ok (.aload_n 1, 1) := by decide +kernel
theorem dX1_leastNext_23 : decode cX1_leastNext 23 = .ok (.iload_n 2, 1) := by decide +kernel
theorem dX1_leastNext_24 : decode cX1_leastNext 24 = .ok (.iload_n 3, 1) := by decide +kernel
theorem dX1_leastNext_25 : decode cX1_leastNext 25 = .ok (.iload 6, 2) := by decide +kernel
theorem dX1_leastNext_27 : decode cX1_leastNext 27 = .ok (.invokevirtual 96, 3) := by decide +kernel
theorem dX1_leastNext_30 : decode cX1_leastNext 30 = .ok (.istore 7, 2) := by decide +kernel
theorem dX1_leastNext_32 : decode cX1_leastNext 32 = .ok (.iload 7, 2) := by decide +kernel
theorem dX1_leastNext_34 : decode cX1_leastNext 34 = .ok (.iload 4, 2) := by decide +kernel
theorem dX1_leastNext_36 : decode cX1_leastNext 36 = .ok (.if_icmp .ge 18, 3) := by decide +kernel
theorem dX1_leastNext_39 : decode cX1_leastNext 39 = .ok (.iload 7, 2) := by decide +kernel
theorem dX1_leastNext_41 : decode cX1_leastNext 41 = .ok (.istore 4, 2) := by decide +kernel
theorem dX1_leastNext_43 : decode cX1_leastNext 43 = .ok (.aload_n 0, 1) := by decide +kernel
theorem dX1_leastNext_44 : decode cX1_leastNext 44 = .ok (.getfield 13, 3) := by decide +kernel
theorem dX1_leastNext_47 : decode cX1_leastNext 47 = .ok (.iload_n 2, 1) := by decide +kernel
theorem dX1_leastNext_48 : decode cX1_leastNext 48 = .ok (.aaload, 1) := by decide +kernel
theorem dX1_leastNext_49 : decode cX1_leastNext 49 = .ok (.iload 6, 2) := by decide +kernel
theorem dX1_leastNext_51 : decode cX1_leastNext 51 = .ok (.iaload, 1) := by decide +kernel
theorem dX1_leastNext_52 : decode cX1_leastNext 52 = .ok (.istore 5, 2) := by decide +kernel
theorem dX1_leastNext_54 : decode cX1_leastNext 54 = .ok (.iinc 6 1, 3) := by decide +kernel
theorem dX1_leastNext_57 : decode cX1_leastNext 57 = .ok (.goto (-47), 3) := by decide +kernel
theorem dX1_leastNext_60 : decode cX1_leastNext 60 = .ok (.iload 5, 2) := by decide +kernel
theorem dX1_leastNext_62 : decode cX1_leastNext 62 = .ok (.ireturn, 1) := by decide +kernel
theorem dX2_make_0 : decode cX2_make 0 = .ok (.sipush 1000, 3) := by decide +kernel
theorem dX2_make_3 : decode cX2_make 3 = .ok (.iload_n 0, 1) := by decide +kernel
theorem dX2_make_4 : decode cX2_make 4 = .ok (.imul, 1) := by decide +kernel
theorem dX2_make_5 : decode cX2_make 5 = .ok (.bipush 10, 2) := by decide +kernel
theorem dX2_make_7 : decode cX2_make 7 = .ok (.iload_n 1, 1) := by decide +kernel
theorem dX2_make_8 : decode cX2_make 8 = .ok (.imul, 1) := by decide +kernel
theorem dX2_make_9 : decode cX2_make 9 = .ok (.iadd, 1) := by decide +kernel
theorem dX2_make_10 : decode cX2_make 10 = .ok (.iload_n 2, 1) := by decide +kernel
theorem dX2_make_11 : decode cX2_make 11 = .ok (.iadd, 1) := by decide +kernel
theorem dX2_make_12 : decode cX2_make 12 = .ok (.bipush 10, 2) := by decide +kernel
theorem dX2_make_14 : decode cX2_make 14 = .ok (.imul, 1) := by decide +kernel
theorem dX2_make_15 : decode cX2_make 15 = .ok (.iload_n 3, 1) := by decide +kernel
theorem dX2_make_16 : decode cX2_make 16 = .ok (.iadd, 1) := by decide +kernel
theorem dX2_make_17 : decode cX2_make 17 = .ok (.ireturn, 1) := by decide +kernel
theorem dX2_name_0 : decode cX2_name 0 = .ok (.iload_n 0, 1) := by decide +kernel
theorem dX2_name_1 : decode cX2_name 1 = .ok (.bipush 10, 2) := by decide +kernel
theorem dX2_name_3 : decode cX2_name 3 = .ok (.idiv, 1) := by decide +kernel
theorem dX2_name_4 : decode cX2_name 4 = .ok (.ireturn, 1) := by decide +kernel
theorem dX2_string_0 : decode cX2_string 0 = .ok (.iload_n 0, 1) := by decide +kernel
theorem dX2_string_1 : decode cX2_string 1 = .ok (.sipush 10000, 3) := by decide +kernel
theorem dX2_string_4 : decode cX2_string 4 = .ok (.idiv, 1) := by decide +kernel
theorem dX2_string_5 : decode cX2_string 5 = .ok (.ireturn, 1) := by decide +kernel
theorem dX2_hand_0 : decode cX2_hand 0 = .ok (.iload_n 0, 1) := by decide +kernel
theorem dX2_hand_1 : decode cX2_hand 1 = .ok (.bipush 100, 2) := by decide +kernel
theorem dX2_hand_3 : decode cX2_hand 3 = .ok (.idiv, 1) := by decide +kernel
theorem dX2_hand_4 : decode cX2_hand 4 = .ok (.bipush 100, 2) := by decide +kernel
theorem dX2_hand_6 : decode cX2_hand 6 = .ok (.irem, 1) := by decide +kernel
theorem dX2_hand_7 : decode cX2_hand 7 = .ok (.ireturn, 1) := by decide +kernel
theorem dX2_way_0 : decode cX2_way 0 = .ok (.iload_n 0, 1) := by decide +kernel
theorem dX2_way_1 : decode cX2_way 1 = .ok (.bipush 10, 2) := by decide +kernel
theorem dX2_way_3 : decode cX2_way 3 = .ok (.idiv, 1) := by decide +kernel
theorem dX2_way_4 : decode cX2_way 4 = .ok (.bipush 10, 2) := by decide +kernel
theorem dX2_way_6 : decode cX2_way 6 = .ok (.irem, 1) := by decide +kernel
theorem dX2_way_7 : decode cX2_way 7 = .ok (.ireturn, 1) := by decide +kernel
theorem dX2_greaterWay_0 : decode cX2_greaterWay 0 = .ok (.iload_n 0, 1) := by decide +kernel
theorem dX2_greaterWay_1 : decode cX2_greaterWay 1 = .ok (.bipush 10, 2) := by decide +kernel
theorem dX2_greaterWay_3 : decode cX2_greaterWay 3 = .ok (.irem, 1) := by decide +kernel
theorem dX2_greaterWay_4 : decode cX2_greaterWay 4 = .ok (.ireturn, 1) := by decide +kernel
theorem dX2_extensions_0 : decode cX2_extensions 0 = .ok (.iload_n 0, 1) := by decide +kernel
theorem dX2_extensions_1 : decode cX2_extensions 1 = .ok (.invokestatic 7, 3) := by decide +kernel
theorem dX2_extensions_4 : decode cX2_extensions 4 = .ok (.invokestatic 13, 3) := by decide +kernel
theorem dX2_extensions_7 : decode cX2_extensions 7 = .ok (.iload_n 0, 1) := by decide +kernel
theorem dX2_extensions_8 : decode cX2_extensions 8 = .ok (.invokestatic 18, 3) := by decide +kernel
theorem dX2_extensions_11 : decode cX2_extensions 11 = .ok (.invokestatic 13, 3) := by decide +kernel
theorem dX2_extensions_14 : decode cX2_extensions 14 = .ok (.iadd, 1) := by decide +kernel
theorem dX2_extensions_15 : decode cX2_extensions 15 = .ok (.ireturn, 1) := by decide +kernel
theorem dX2_isShift_0 : decode cX2_isShift 0 = .ok (.iload_n 0, 1) := by decide +kernel
theorem dX2_isShift_1 : decode cX2_isShift 1 = .ok (.invokestatic 21, 3) := by decide +kernel
theorem dX2_isShift_4 : decode cX2_isShift 4 = .ok (.ifCond .eq 25, 3) := by decide +kernel
theorem dX2_isShift_7 : decode cX2_isShift 7 = .ok (.iload_n 1, 1) := by decide +kernel
theorem dX2_isShift_8 : decode cX2_isShift 8 = .ok (.invokestatic 21, 3) := by decide +kernel
theorem dX2_isShift_11 : decode cX2_isShift 11 = .ok (.ifCond .eq 18, 3) := by decide +kernel
theorem dX2_isShift_14 : decode cX2_isShift 14 = .ok (.iload_n 0, 1) := by decide +kernel
theorem dX2_isShift_15 : decode cX2_isShift 15 = .ok (.invokestatic 21, 3) := by decide +kernel
theorem dX2_isShift_18 : decode cX2_isShift 18 = .ok (.iload_n 1, 1) := by decide +kernel
theorem dX2_isShift_19 : decode cX2_isShift 19 = .ok (.invokestatic 21, 3) := by decide +kernel
theorem dX2_isShift_22 : decode cX2_isShift 22 = .ok (.if_icmp .eq 7, 3) := by decide +kernel
theorem dX2_isShift_25 : decode cX2_isShift 25 = .ok (.iconst 1, 1) := by decide +kernel
theorem dX2_isShift_26 : decode cX2_isShift 26 = .ok (.goto 4, 3) := by decide +kernel
theorem dX2_isShift_29 : decode cX2_isShift 29 = .ok (.iconst 0, 1) := by decide +kernel
theorem dX2_isShift_30 : decode cX2_isShift 30 = .ok (.ireturn, 1) := by decide +kernel
theorem dX3_init_0 : decode cX3_init 0 = .ok (.aload_n 0, 1) := by decide +kernel
theorem dX3_init_1 : decode cX3_init 1 = .ok (.invokespecial 3, 3) := by decide +kernel
theorem dX3_init_4 : decode cX3_init 4 = .ok (.aload_n 0, 1) := by decide +kernel
theorem dX3_init_5 : decode cX3_init 5 = .ok (.bipush 12, 2) := by decide +kernel
theorem dX3_init_7 : decode cX3_init 7 = .ok (.newarray .int, 2) := by decide +kernel
theorem dX3_init_9 : decode cX3_init 9 = .ok (.putfield 9, 3) := by decide +kernel
theorem dX3_init_12 : decode cX3_init 12 = .ok (.aload_n 0, 1) := by decide +kernel
theorem dX3_init_13 : decode cX3_init 13 = .ok (.bipush 12, 2) := by decide +kernel
theorem dX3_init_15 : decode cX3_init 15 = .ok (.newarray .int, 2) := by decide +kernel
theorem dX3_init_17 : decode cX3_init 17 = .ok (.putfield 15, 3) := by decide +kernel
theorem dX3_init_20 : decode cX3_init 20 = .ok (.aload_n 0, 1) := by decide +kernel
theorem dX3_init_21 : decode cX3_init 21 = .ok (.bipush 12, 2) := by decide +kernel
theorem dX3_init_23 : decode cX3_init 23 = .ok (.newarray .int, 2) := by decide +kernel
theorem dX3_init_25 : decode cX3_init 25 = .ok (.putfield 18, 3) := by decide +kernel
theorem dX3_init_28 : decode cX3_init 28 = .ok (.aload_n 0, 1) := by decide +kernel
theorem dX3_init_29 : decode cX3_init 29 = .ok (.bipush 12, 2) := by decide +kernel
theorem dX3_init_31 : decode cX3_init 31 = .ok (.newarray .int, 2) := by decide +kernel
theorem dX3_init_33 : decode cX3_init 33 = .ok (.putfield 21, 3) := by decide +kernel
theorem dX3_init_36 : decode cX3_init 36 = .ok (.aload_n 0, 1) := by decide +kernel
theorem dX3_init_37 : decode cX3_init 37 = .ok (.bipush 12, 2) := by decide +kernel
theorem dX3_init_39 : decode cX3_init 39 = .ok (.newarray .int, 2) := by decide +kernel
theorem dX3_init_41 : decode cX3_init 41 = .ok (.putfield 24, 3) := by decide +kernel
theorem dX3_init_44 : decode cX3_init 44 = .ok (.aload_n 0, 1) := by decide +kernel
theorem dX3_init_45 : decode cX3_init 45 = .ok (.bipush 12, 2) := by decide +kernel
theorem dX3_init_47 : decode cX3_init 47 = .ok (.newarray .int, 2) := by decide +kernel
theorem dX3_init_49 : decode cX3_init 49 = .ok (.putfield 27, 3) := by decide +kernel
theorem dX3_init_52 : decode cX3_init 52 = .ok (.aload_n 0, 1) := by decide +kernel
theorem dX3_init_53 : decode cX3_init 53 = .ok (.new 30, 3) := by decide +kernel
theorem dX3_init_56 : decode cX3_init 56 = .ok (.dup, 1) := by decide +kernel
theorem dX3_init_57 : decode cX3_init 57 = .ok (.invokespecial 32, 3) := by decide +kernel
theorem dX3_init_60 : decode cX3_init 60 = .ok (.putfield 33, 3) := by decide +kernel
theorem dX3_init_63 : decode cX3_init 63 = .ok (.aload_n 0, 1) := by decide +kernel
theorem dX3_init_64 : decode cX3_init 64 = .ok (.new 30, 3) := by decide +kernel
theorem dX3_init_67 : decode cX3_init 67 = .ok (.dup, 1) := by decide +kernel
theorem dX3_init_68 : decode cX3_init 68 = .ok (.invokespecial 32, 3) := by decide +kernel
theorem dX3_init_71 : decode cX3_init 71 = .ok (.putfield 37, 3) := by decide +kernel
theorem dX3_init_74 : decode cX3_init 74 = .ok (.return_, 1) := by decide +kernel
theorem dX3_append_0 : decode cX3_append 0 = .ok (.aload_n 0, 1) := by decide +kernel
theorem dX3_append_1 : decode cX3_append 1 = .ok (.getfield 40, 3) := by decide +kernel
theorem dX3_append_4 : decode cX3_append 4 = .ok (.ifCond .lt 12, 3) := by decide +kernel
theorem dX3_append_7 : decode cX3_append 7 = .ok (.aload_n 0, 1) := by decide +kernel
theorem dX3_append_8 : decode cX3_append 8 = .ok (.getfield 40, 3) := by decide +kernel
theorem dX3_append_11 : decode cX3_append 11 = .ok (.bipush 12, 2) := by decide +kernel
theorem dX3_append_13 : decode cX3_append 13 = .ok (.if_icmp .lt 4, 3) := by decide +kernel
theorem dX3_append_16 : decode cX3_append 16 = .ok (.return_, 1) := by decide +kernel
theorem dX3_append_17 : decode cX3_append 17 = .ok (.aload_n 0, 1) := by decide +kernel
theorem dX3_append_18 : decode cX3_append 18 = .ok (.getfield 9, 3) := by decide +kernel
theorem dX3_append_21 : decode cX3_append 21 = .ok (.aload_n 0, 1) := by decide +kernel
theorem dX3_append_22 : decode cX3_append 22 = .ok (.getfield 40, 3) := by decide +kernel
theorem dX3_append_25 : decode cX3_append 25 = .ok (.iload_n 1, 1) := by decide +kernel
theorem dX3_append_26 : decode cX3_append 26 = .ok (.iastore, 1) := by decide +kernel
theorem dX3_append_27 : decode cX3_append 27 = .ok (.aload_n 0, 1) := by decide +kernel
theorem dX3_append_28 : decode cX3_append 28 = .ok (.getfield 15, 3) := by decide +kernel
theorem dX3_append_31 : decode cX3_append 31 = .ok (.aload_n 0, 1) := by decide +kernel
theorem dX3_append_32 : decode cX3_append 32 = .ok (.getfield 40, 3) := by decide +kernel
theorem dX3_append_35 : decode cX3_append 35 = .ok (.iconst (-1), 1) := by decide +kernel
theorem dX3_append_36 : decode cX3_append 36 = .ok (.iastore, 1) := by decide +kernel
theorem dX3_append_37 : decode cX3_append 37 = .ok (.aload_n 0, 1) := by decide +kernel
theorem dX3_append_38 : decode cX3_append 38 = .ok (.getfield 18, 3) := by decide +kernel
theorem dX3_append_41 : decode cX3_append 41 = .ok (.aload_n 0, 1) := by decide +kernel
theorem dX3_append_42 : decode cX3_append 42 = .ok (.getfield 40, 3) := by decide +kernel
theorem dX3_append_45 : decode cX3_append 45 = .ok (.iload_n 2, 1) := by decide +kernel
theorem dX3_append_46 : decode cX3_append 46 = .ok (.iastore, 1) := by decide +kernel
theorem dX3_append_47 : decode cX3_append 47 = .ok (.aload_n 0, 1) := by decide +kernel
theorem dX3_append_48 : decode cX3_append 48 = .ok (.getfield 21, 3) := by decide +kernel
theorem dX3_append_51 : decode cX3_append 51 = .ok (.aload_n 0, 1) := by decide +kernel
theorem dX3_append_52 : decode cX3_append 52 = .ok (.getfield 40, 3) := by decide +kernel
theorem dX3_append_55 : decode cX3_append 55 = .ok (.aload_n 0, 1) := by decide +kernel
theorem dX3_append_56 : decode cX3_append 56 = .ok (.getfield 40, 3) := by decide +kernel
theorem dX3_append_59 : decode cX3_append 59 = .ok (.ifCond .ne 7, 3) := by decide +kernel
theorem dX3_append_62 : decode cX3_append 62 = .ok (.iconst 0, 1) := by decide +kernel
theorem dX3_append_63 : decode cX3_append 63 = .ok (.goto 26, 3) := by decide +kernel
theorem dX3_append_66 : decode cX3_append 66 = .ok (.aload_n 0, 1) := by decide +kernel
theorem dX3_append_67 : decode cX3_append 67 = .ok (.getfield 21, 3) := by decide +kernel
theorem dX3_append_70 : decode cX3_append 70 = .ok (.aload_n 0, 1) := by decide +kernel
theorem dX3_append_71 : decode cX3_append 71 = .ok (.getfield 40, 3) := by decide +kernel
theorem dX3_append_74 : decode cX3_append 74 = .ok (.iconst 1, 1) := by decide +kernel
theorem dX3_append_75 : decode cX3_append 75 = .ok (.isub, 1) := by decide +kernel
theorem dX3_append_76 : decode cX3_append 76 = .ok (.iaload, 1) := by decide +kernel
theorem dX3_append_77 : decode cX3_append 77 = .ok (.aload_n 0, 1) := by decide +kernel
theorem dX3_append_78 : decode cX3_append 78 = .ok (.getfield 18, 3) := by decide +kernel
theorem dX3_append_81 : decode cX3_append 81 = .ok (.aload_n 0, 1) := by decide +kernel
theorem dX3_append_82 : decode cX3_append 82 = .ok (.getfield 40, 3) := by decide +kernel
theorem dX3_append_85 : decode cX3_append 85 = .ok (.iconst 1, 1) := by decide +kernel
theorem dX3_append_86 : decode cX3_append 86 = .ok (.isub, 1) := by decide +kernel
theorem dX3_append_87 : decode cX3_append 87 = .ok (.iaload, 1) := by decide +kernel
theorem dX3_append_88 : decode cX3_append 88 = .ok (.iadd, 1) := by decide +kernel
theorem dX3_append_89 : decode cX3_append 89 = .ok (.iastore, 1) := by decide +kernel
theorem dX3_append_90 : decode cX3_append 90 = .ok (.aload_n 0, 1) := by decide +kernel
theorem dX3_append_91 : decode cX3_append 91 = .ok (.getfield 24, 3) := by decide +kernel
theorem dX3_append_94 : decode cX3_append 94 = .ok (.aload_n 0, 1) := by decide +kernel
theorem dX3_append_95 : decode cX3_append 95 = .ok (.getfield 40, 3) := by decide +kernel
theorem dX3_append_98 : decode cX3_append 98 = .ok (.iload_n 3, 1) := by decide +kernel
theorem dX3_append_99 : decode cX3_append 99 = .ok (.iastore, 1) := by decide +kernel
theorem dX3_append_100 : decode cX3_append 100 = .ok (.aload_n 0, 1) := by decide +kernel
theorem dX3_append_101 : decode cX3_append 101 = .ok (.dup, 1) := by decide +kernel
theorem dX3_append_102 : decode cX3_append 102 = .ok (.getfield 40, 3) := by decide +kernel
theorem dX3_append_105 : decode cX3_append 105 = .ok (.iconst 1, 1) := by decide +kernel
theorem dX3_append_106 : decode cX3_append 106 = .ok (.iadd, 1) := by decide +kernel
theorem dX3_append_107 : decode cX3_append 107 = .ok (.putfield 40, 3) := by decide +kernel
theorem dX3_append_110 : decode cX3_append 110 = .ok (.aload_n 0, 1) := by decide +kernel
theorem dX3_append_111 : decode cX3_append 111 = .ok (.iconst 0, 1) := by decide +kernel
theorem dX3_append_112 : decode cX3_append 112 = .ok (.putfield 44, 3) := by decide +kernel
theorem dX3_append_115 : decode cX3_append 115 = .ok (.return_, 1) := by decide +kernel
theorem dX3_isDouble_0 : decode cX3_isDouble 0 = .ok (.aload_n 0, 1) := by decide +kernel
theorem dX3_isDouble_1 : decode cX3_isDouble 1 = .ok (.getfield 15, 3) := by decide +kernel
theorem dX3_isDouble_4 : decode cX3_isDouble 4 = .ok (.iload_n 1, 1) := by decide +kernel
theorem dX3_isDouble_5 : decode cX3_isDouble 5 = .ok (.iaload, 1) := by decide +kernel
theorem dX3_isDouble_6 : decode cX3_isDouble 6 = .ok (.iconst (-1), 1) := by decide +kernel
theorem dX3_isDouble_7 : decode cX3_isDouble 7 = .ok (.if_icmp .eq 7, 3) := by decide +kernel
theorem dX3_isDouble_10 : decode cX3_isDouble 10 = .ok (.iconst 1, 1) := by decide +kernel
theorem dX3_isDouble_11 : decode cX3_isDouble 11 = .ok (.goto 4, 3) := by decide +kernel
theorem dX3_isDouble_14 : decode cX3_isDouble 14 = .ok (.iconst 0, 1) := by decide +kernel
theorem dX3_isDouble_15 : decode cX3_isDouble 15 = .ok (.ireturn, 1) := by decide +kernel
theorem dX3_isMarked_0 : decode cX3_isMarked 0 = .ok (.aload_n 0, 1) := by decide +kernel
theorem dX3_isMarked_1 : decode cX3_isMarked 1 = .ok (.getfield 24, 3) := by decide +kernel
theorem dX3_isMarked_4 : decode cX3_isMarked 4 = .ok (.iload_n 1, 1) := by decide +kernel
theorem dX3_isMarked_5 : decode cX3_isMarked 5 = .ok (.iaload, 1) := by decide +kernel
theorem dX3_isMarked_6 : decode cX3_isMarked 6 = .ok (.iload_n 2, 1) := by decide +kernel
theorem dX3_isMarked_7 : decode cX3_isMarked 7 = .ok (.iand, 1) := by decide +kernel
theorem dX3_isMarked_8 : decode cX3_isMarked 8 = .ok (.ifCond .eq 7, 3) := by decide +kernel
theorem dX3_isMarked_11 : decode cX3_isMarked 11 = .ok (.iconst 1, 1) := by decide +kernel
theorem dX3_isMarked_12 : decode cX3_isMarked 12 = .ok (.goto 4, 3) := by decide +kernel
theorem dX3_isMarked_15 : decode cX3_isMarked 15 = .ok (.iconst 0, 1) := by decide +kernel
theorem dX3_isMarked_16 : decode cX3_isMarked 16 = .ok (.ireturn, 1) := by decide +kernel
theorem dX3_bowingFrom_0 : decode cX3_bowingFrom 0 = .ok (.iload_n 1, 1) := by decide +kernel
theorem dX3_bowingFrom_1 : decode cX3_bowingFrom 1 = .ok (.ifCond .ne 10, 3) := by decide +kernel
theorem dX3_bowingFrom_4 : decode cX3_bowingFrom 4 = .ok (.aload_n 0, 1) := by decide +kernel
theorem dX3_bowingFrom_5 : decode cX3_bowingFrom 5 = .ok (.getfield 33, 3) := by decide +kernel
theorem dX3_bowingFrom_8 : decode cX3_bowingFrom 8 = .ok (.goto 7, 3) := by decide +kernel
theorem dX3_bowingFrom_11 : decode cX3_bowingFrom 11 = .ok (.aload_n 0, 1) := by decide +kernel
theorem dX3_bowingFrom_12 : decode cX3_bowingFrom 12 = .ok (.getfield 37, 3) := by decide +kernel
theorem dX3_bowingFrom_15 : decode cX3_bowingFrom 15 = .ok (.areturn, 1) := by decide +kernel
theorem dX3_countSlurred_0 : decode cX3_countSlurred 0 = .ok (.iconst 0, 1) := by decide +kernel
theorem dX3_countSlurred_1 : decode cX3_countSlurred 1 = .ok (.istore_n 1, 1) := by decide +kernel
theorem dX3_countSlurred_2 : decode cX3_countSlurred 2 = .ok (.iconst 0, 1) := by decide +kernel
theorem dX3_countSlurred_3 : decode cX3_countSlurred 3 = .ok (.istore_n 2, 1) := by decide +kernel
theorem dX3_countSlurred_4 : decode cX3_countSlurred 4 = .ok (.iload_n 2, 1) := by decide +kernel
theorem dX3_countSlurred_5 : decode cX3_countSlurred 5 = .ok (.aload_n 0, 1) := by decide +kernel
theorem dX3_countSlurred_6 : decode cX3_countSlurred 6 = .ok (.getfield 40, 3) := by decide +kernel
theorem dX3_countSlurred_9 : decode cX3_countSlurred 9 = .ok (.if_icmp .ge 21, 3) := by decide +kernel
theorem dX3_countSlurred_12 : decode cX3_countSlurred 12 = .ok (.aload_n 0, 1) := by decide +kernel
theorem dX3_countSlurred_13 : decode cX3_countSlurred 13 = .ok (.iload_n 2, 1) := by decide +kernel
theorem dX3_countSlurred_14 : decode cX3_countSlurred 14 = .ok (.iconst 2, 1) := by decide +kernel
theorem dX3_countSlurred_15 : decode cX3_countSlurred 15 = .ok (.invokevirtual 48, 3) := by decide +kernel
theorem dX3_countSlurred_18 : decode cX3_countSlurred 18 = .ok (.ifCond .eq 6, 3) := by decide +kernel
theorem dX3_countSlurred_21 : decode cX3_countSlurred 21 = .ok (.iinc 1 1, 3) := by decide +kernel
theorem dX3_countSlurred_24 : decode cX3_countSlurred 24 = .ok (.iinc 2 1, 3) := by decide +kernel
theorem dX3_countSlurred_27 : decode cX3_countSlurred 27 = .ok (.goto (-23), 3) := by decide +kernel
theorem dX3_countSlurred_30 : decode cX3_countSlurred 30 = .ok (.iload_n 1, 1) := by decide +kernel
theorem dX3_countSlurred_31 : decode cX3_countSlurred 31 = .ok (.ireturn, 1) := by decide +kernel
theorem dX3_countDoubles_0 : decode cX3_countDoubles 0 = .ok (.iconst 0, 1) := by decide +kernel
theorem dX3_countDoubles_1 : decode cX3_countDoubles 1 = .ok (.istore_n 1, 1) := by decide +kernel
theorem dX3_countDoubles_2 : decode cX3_countDoubles 2 = .ok (.iconst 0, 1) := by decide +kernel
theorem dX3_countDoubles_3 : decode cX3_countDoubles 3 = .ok (.istore_n 2, 1) := by decide +kernel
theorem dX3_countDoubles_4 : decode cX3_countDoubles 4 = .ok (.iload_n 2, 1) := by decide +kernel
theorem dX3_countDoubles_5 : decode cX3_countDoubles 5 = .ok (.aload_n 0, 1) := by decide +kernel
theorem dX3_countDoubles_6 : decode cX3_countDoubles 6 = .ok (.getfield 40, 3) := by decide +kernel
theorem dX3_countDoubles_9 : decode cX3_countDoubles 9 = .ok (.if_icmp .ge 20, 3) := by decide +kernel
theorem dX3_countDoubles_12 : decode cX3_countDoubles 12 = .ok (.aload_n 0, 1) := by decide +kernel
theorem dX3_countDoubles_13 : decode cX3_countDoubles 13 = .ok (.iload_n 2, 1) := by decide +kernel
theorem dX3_countDoubles_14 : decode cX3_countDoubles 14 = .ok (.invokevirtual 52, 3) := by decide +kernel
theorem dX3_countDoubles_17 : decode cX3_countDoubles 17 = .ok (.ifCond .eq 6, 3) := by decide +kernel
theorem dX3_countDoubles_20 : decode cX3_countDoubles 20 = .ok (.iinc 1 1, 3) := by decide +kernel
theorem dX3_countDoubles_23 : decode cX3_countDoubles 23 = .ok (.iinc 2 1, 3) := by decide +kernel
theorem dX3_countDoubles_26 : decode cX3_countDoubles 26 = .ok (.goto (-22), 3) := by decide +kernel
theorem dX3_countDoubles_29 : decode cX3_countDoubles 29 = .ok (.iload_n 1, 1) := by decide +kernel
theorem dX3_countDoubles_30 : decode cX3_countDoubles 30 = .ok (.ireturn, 1) := by decide +kernel
theorem dX4_fingerOf_0 : decode cX4_fingerOf 0 = .ok (.iload_n 0, 1) := by decide +kernel
theorem dX4_fingerOf_1 : decode cX4_fingerOf 1 = .ok (.iconst 5, 1) := by decide +kernel
theorem dX4_fingerOf_2 : decode cX4_fingerOf 2 = .ok (.irem, 1) := by decide +kernel
theorem dX4_fingerOf_3 : decode cX4_fingerOf 3 = .ok (.ireturn, 1) := by decide +kernel
theorem dX4_extension_0 : decode cX4_extension 0 = .ok (.iload_n 0, 1) := by decide +kernel
theorem dX4_extension_1 : decode cX4_extension 1 = .ok (.iconst 5, 1) := by decide +kernel
theorem dX4_extension_2 : decode cX4_extension 2 = .ok (.idiv, 1) := by decide +kernel
theorem dX4_extension_3 : decode cX4_extension 3 = .ok (.ireturn, 1) := by decide +kernel
theorem dX4_hand_0 : decode cX4_hand 0 = .ok (.iload_n 0, 1) := by decide +kernel
theorem dX4_hand_1 : decode cX4_hand 1 = .ok (.ifCond .ne 13, 3) := by decide +kernel
theorem dX4_hand_4 : decode cX4_hand 4 = .ok (.iload_n 1, 1) := by decide +kernel
theorem dX4_hand_5 : decode cX4_hand 5 = .ok (.ifCond .ne 7, 3) := by decide +kernel
theorem dX4_hand_8 : decode cX4_hand 8 = .ok (.iconst 0, 1) := by decide +kernel
theorem dX4_hand_9 : decode cX4_hand 9 = .ok (.goto 4, 3) := by decide +kernel
theorem dX4_hand_12 : decode cX4_hand 12 = .ok (.iconst (-1), 1) := by decide +kernel
theorem dX4_hand_13 : decode cX4_hand 13 = .ok (.ireturn, 1) := by decide +kernel
theorem dX4_hand_14 : decode cX4_hand 14 = .ok (.iload_n 0, 1) := by decide +kernel
theorem dX4_hand_15 : decode cX4_hand 15 = .ok (.iconst 1, 1) := by decide +kernel
theorem dX4_hand_16 : decode cX4_hand 16 = .ok (.bipush 9, 2) := by decide +kernel
theorem dX4_hand_18 : decode cX4_hand 18 = .ok (.invokestatic 9, 3) := by decide +kernel
theorem dX4_hand_21 : decode cX4_hand 21 = .ok (.ifCond .ne 8, 3) := by decide +kernel
theorem dX4_hand_24 : decode cX4_hand 24 = .ok (.iload_n 0, 1) := by decide +kernel
theorem dX4_hand_25 : decode cX4_hand 25 = .ok (.iconst 5, 1) := by decide +kernel
theorem dX4_hand_26 : decode cX4_hand 26 = .ok (.if_icmp .ne 5, 3) := by decide +kernel
theorem dX4_hand_29 : decode cX4_hand 29 = .ok (.iconst (-1), 1) := by decide +kernel
theorem dX4_hand_30 : decode cX4_hand 30 = .ok (.ireturn, 1) := by decide +kernel
theorem dX4_hand_31 : decode cX4_hand 31 = .ok (.iload_n 1, 1) := by decide +kernel
theorem dX4_hand_32 : decode cX4_hand 32 = .ok (.getstatic 15, 3) := by decide +kernel
theorem dX4_hand_35 : decode cX4_hand 35 = .ok (.iload_n 0, 1) := by decide +kernel
theorem dX4_hand_36 : decode cX4_hand 36 = .ok (.invokestatic 19, 3) := by decide +kernel
theorem dX4_hand_39 : decode cX4_hand 39 = .ok (.iaload, 1) := by decide +kernel
theorem dX4_hand_40 : decode cX4_hand 40 = .ok (.isub, 1) := by decide +kernel
theorem dX4_hand_41 : decode cX4_hand 41 = .ok (.iload_n 0, 1) := by decide +kernel
theorem dX4_hand_42 : decode cX4_hand 42 = .ok (.invokestatic 23, 3) := by decide +kernel
theorem dX4_hand_45 : decode cX4_hand 45 = .ok (.isub, 1) := by decide +kernel
theorem dX4_hand_46 : decode cX4_hand 46 = .ok (.istore_n 2, 1) := by decide +kernel
theorem dX4_hand_47 : decode cX4_hand 47 = .ok (.iload_n 2, 1) := by decide +kernel
theorem dX4_hand_48 : decode cX4_hand 48 = .ok (.iconst 1, 1) := by decide +kernel
theorem dX4_hand_49 : decode cX4_hand 49 = .ok (.bipush 12, 2) := by decide +kernel
theorem dX4_hand_51 : decode cX4_hand 51 = .ok (.invokestatic 9, 3) := by decide +kernel
theorem dX4_hand_54 : decode cX4_hand 54 = .ok (.ifCond .eq 7, 3) := by decide +kernel
theorem dX4_hand_57 : decode cX4_hand 57 = .ok (.iconst (-1), 1) := by decide +kernel
theorem dX4_hand_58 : decode cX4_hand 58 = .ok (.goto 4, 3) := by decide +kernel
theorem dX4_hand_61 : decode cX4_hand 61 = .ok (.iload_n 2, 1) := by decide +kernel
theorem dX4_hand_62 : decode cX4_hand 62 = .ok (.ireturn, 1) := by decide +kernel
theorem dX4_goTogether_0 : decode cX4_goTogether 0 = .ok (.iload_n 0, 1) := by decide +kernel
theorem dX4_goTogether_1 : decode cX4_goTogether 1 = .ok (.ifCond .eq 7, 3) := by decide +kernel
theorem dX4_goTogether_4 : decode cX4_goTogether 4 = .ok (.iload_n 2, 1) := by decide +kernel
theorem dX4_goTogether_5 : decode cX4_goTogether 5 = .ok (.ifCond .ne 5, 3) := by decide +kernel
theorem dX4_goTogether_8 : decode cX4_goTogether 8 = .ok (.iconst 1, 1) := by decide +kernel
theorem dX4_goTogether_9 : decode cX4_goTogether 9 = .ok (.ireturn, 1) := by decide +kernel
theorem dX4_goTogether_10 : decode cX4_goTogether 10 = .ok (.iload_n 1, 1) := by decide +kernel
theorem dX4_goTogether_11 : decode cX4_goTogether 11 = .ok (.iload_n 3, 1) := by decide +kernel
theorem dX4_goTogether_12 : decode cX4_goTogether 12 = .ok (.if_icmp .ne 23, 3) := by decide +kernel
theorem dX4_goTogether_15 : decode cX4_goTogether 15 = .ok (.iload_n 0, 1) := by decide +kernel
theorem dX4_goTogether_16 : decode cX4_goTogether 16 = .ok (.iload_n 2, 1) := by decide +kernel
theorem dX4_goTogether_17 : decode cX4_goTogether 17 = .ok (.if_icmp .eq 14, 3) := by decide +kernel
theorem dX4_goTogether_20 : decode cX4_goTogether 20 = .ok (.iload_n 0, 1) := by decide +kernel
theorem dX4_goTogether_21 : decode cX4_goTogether 21 = .ok (.invokestatic 19, 3) := by decide +kernel
theorem dX4_goTogether_24 : decode cX4_goTogether 24 = .ok (.iload_n 2, 1) := by decide +kernel
theorem dX4_goTogether_25 : decode cX4_goTogether 25 = .ok (.invokestatic 19, 3) := by decide +kernel
theorem dX4_goTogether_28 : decode cX4_goTogether 28 = .ok (.if_icmp .eq 7, 3) := by decide +kernel
theorem dX4_goTogether_31 : decode cX4_goTogether 31 = .ok (.iconst 1, 1) := by decide +kernel
theorem dX4_goTogether_32 : decode cX4_goTogether 32 = .ok (.goto 4, 3) := by decide +kernel
theorem dX4_goTogether_35 : decode cX4_goTogether 35 = .ok (.iconst 0, 1) := by decide +kernel
theorem dX4_goTogether_36 : decode cX4_goTogether 36 = .ok (.ireturn, 1) := by decide +kernel
end
section
theorem dX5_init_0 : decode cX5_init 0 = .ok (.aload_n 0, 1) := by decide +kernel
theorem dX5_init_1 : decode cX5_init 1 = .ok (.invokespecial 1, 3) := by decide +kernel
theorem dX5_init_4 : decode cX5_init 4 = .ok (.aload_n 0, 1) := by decide +kernel
theorem dX5_init_5 : decode cX5_init 5 = .ok (.iconst 4, 1) := by decide +kernel
theorem dX5_init_6 : decode cX5_init 6 = .ok (.newarray .int, 2) := by decide +kernel
theorem dX5_init_8 : decode cX5_init 8 = .ok (.dup, 1) := by decide +kernel
theorem dX5_init_9 : decode cX5_init 9 = .ok (.iconst 0, 1) := by decide +kernel
theorem dX5_init_10 : decode cX5_init 10 = .ok (.iconst 0, 1) := by decide +kernel
theorem dX5_init_11 : decode cX5_init 11 = .ok (.iastore, 1) := by decide +kernel
theorem dX5_init_12 : decode cX5_init 12 = .ok (.dup, 1) := by decide +kernel
theorem dX5_init_13 : decode cX5_init 13 = .ok (.iconst 1, 1) := by decide +kernel
theorem dX5_init_14 : decode cX5_init 14 = .ok (.bipush 7, 2) := by decide +kernel
theorem dX5_init_16 : decode cX5_init 16 = .ok (.iastore, 1) := by decide +kernel
theorem dX5_init_17 : decode cX5_init 17 = .ok (.dup, 1) := by decide +kernel
theorem dX5_init_18 : decode cX5_init 18 = .ok (.iconst 2, 1) := by decide +kernel
theorem dX5_init_19 : decode cX5_init 19 = .ok (.bipush 14, 2) := by decide +kernel
theorem dX5_init_21 : decode cX5_init 21 = .ok (.iastore, 1) := by decide +kernel
theorem dX5_init_22 : decode cX5_init 22 = .ok (.dup, 1) := by decide +kernel
theorem dX5_init_23 : decode cX5_init 23 = .ok (.iconst 3, 1) := by decide +kernel
theorem dX5_init_24 : decode cX5_init 24 = .ok (.bipush 21, 2) := by decide +kernel
theorem dX5_init_26 : decode cX5_init 26 = .ok (.iastore, 1) := by decide +kernel
theorem dX5_init_27 : decode cX5_init 27 = .ok (.putfield 7, 3) := by decide +kernel
theorem dX5_init_30 : decode cX5_init 30 = .ok (.aload_n 0, 1) := by decide +kernel
theorem dX5_init_31 : decode cX5_init 31 = .ok (.iconst 3, 1) := by decide +kernel
theorem dX5_init_32 : decode cX5_init 32 = .ok (.anewarray 13, 3) := by decide +kernel
theorem dX5_init_35 : decode cX5_init 35 = .ok (.dup, 1) := by decide +kernel
theorem dX5_init_36 : decode cX5_init 36 = .ok (.iconst 0, 1) := by decide +kernel
theorem dX5_init_37 : decode cX5_init 37 = .ok (.new 13, 3) := by decide +kernel
theorem dX5_init_40 : decode cX5_init 40 = .ok (.dup, 1) := by decide +kernel
theorem dX5_init_41 : decode cX5_init 41 = .ok (.invokespecial 15, 3) := by decide +kernel
theorem dX5_init_44 : decode cX5_init 44 = .ok (.aastore, 1) := by decide +kernel
theorem dX5_init_45 : decode cX5_init 45 = .ok (.dup, 1) := by decide +kernel
theorem dX5_init_46 : decode cX5_init 46 = .ok (.iconst 1, 1) := by decide +kernel
theorem dX5_init_47 : decode cX5_init 47 = .ok (.new 13, 3) := by decide +kernel
theorem dX5_init_50 : decode cX5_init 50 = .ok (.dup, 1) := by decide +kernel
theorem dX5_init_51 : decode cX5_init 51 = .ok (.invokespecial 15, 3) := by decide +kernel
theorem dX5_init_54 : decode cX5_init 54 = .ok (.aastore, 1) := by decide +kernel
theorem dX5_init_55 : decode cX5_init 55 = .ok (.dup, 1) := by decide +kernel
theorem dX5_init_56 : decode cX5_init 56 = .ok (.iconst 2, 1) := by decide +kernel
theorem dX5_init_57 : decode cX5_init 57 = .ok (.new 13, 3) := by decide +kernel
theorem dX5_init_60 : decode cX5_init 60 = .ok (.dup, 1) := by decide +kernel
theorem dX5_init_61 : decode cX5_init 61 = .ok (.invokespecial 15, 3) := by decide +kernel
theorem dX5_init_64 : decode cX5_init 64 = .ok (.aastore, 1) := by decide +kernel
theorem dX5_init_65 : decode cX5_init 65 = .ok (.putfield 16, 3) := by decide +kernel
theorem dX5_init_68 : decode cX5_init 68 = .ok (.aload_n 0, 1) := by decide +kernel
theorem dX5_init_69 : decode cX5_init 69 = .ok (.new 20, 3) := by decide +kernel
theorem dX5_init_72 : decode cX5_init 72 = .ok (.dup, 1) := by decide +kernel
theorem dX5_init_73 : decode cX5_init 73 = .ok (.invokespecial 22, 3) := by decide +kernel
theorem dX5_init_76 : decode cX5_init 76 = .ok (.putfield 23, 3) := by decide +kernel
theorem dX5_init_79 : decode cX5_init 79 = .ok (.return_, 1) := by decide +kernel
theorem dX5_tune_0 : decode cX5_tune 0 = .ok (.iload_n 1, 1) := by decide +kernel
theorem dX5_tune_1 : decode cX5_tune 1 = .ok (.iconst 0, 1) := by decide +kernel
theorem dX5_tune_2 : decode cX5_tune 2 = .ok (.iconst 3, 1) := by decide +kernel
theorem dX5_tune_3 : decode cX5_tune 3 = .ok (.invokestatic 27, 3) := by decide +kernel
theorem dX5_tune_6 : decode cX5_tune 6 = .ok (.ifCond .ne 13, 3) := by decide +kernel
theorem dX5_tune_9 : decode cX5_tune 9 = .ok (.iload_n 2, 1) := by decide +kernel
theorem dX5_tune_10 : decode cX5_tune 10 = .ok (.iconst 0, 1) := by decide +kernel
theorem dX5_tune_11 : decode cX5_tune 11 = .ok (.bipush 60, 2) := by decide +kernel
theorem dX5_tune_13 : decode cX5_tune 13 = .ok (.invokestatic 27, 3) := by decide +kernel
theorem dX5_tune_16 : decode cX5_tune 16 = .ok (.ifCond .eq 5, 3) := by decide +kernel
theorem dX5_tune_19 : decode cX5_tune 19 = .ok (.iconst (-1), 1) := by decide +kernel
theorem dX5_tune_20 : decode cX5_tune 20 = .ok (.ireturn, 1) := by decide +kernel
theorem dX5_tune_21 : decode cX5_tune 21 = .ok (.aload_n 0, 1) := by decide +kernel
theorem dX5_tune_22 : decode cX5_tune 22 = .ok (.getfield 7, 3) := by decide +kernel
theorem dX5_tune_25 : decode cX5_tune 25 = .ok (.iload_n 1, 1) := by decide +kernel
theorem dX5_tune_26 : decode cX5_tune 26 = .ok (.iaload, 1) := by decide +kernel
theorem dX5_tune_27 : decode cX5_tune 27 = .ok (.istore_n 3, 1) := by decide +kernel
theorem dX5_tune_28 : decode cX5_tune 28 = .ok (.aload_n 0, 1) := by decide +kernel
theorem dX5_tune_29 : decode cX5_tune 29 = .ok (.getfield 7, 3) := by decide +kernel
theorem dX5_tune_32 : decode cX5_tune 32 = .ok (.iload_n 1, 1) := by decide +kernel
theorem dX5_tune_33 : decode cX5_tune 33 = .ok (.iload_n 2, 1) := by decide +kernel
theorem dX5_tune_34 : decode cX5_tune 34 = .ok (.iastore, 1) := by decide +kernel
theorem dX5_tune_35 : decode cX5_tune 35 = .ok (.iconst 0, 1) := by decide +kernel
theorem dX5_tune_36 : decode cX5_tune 36 = .ok (.istore 4, 2) := by decide +kernel
theorem dX5_tune_38 : decode cX5_tune 38 = .ok (.iload 4, 2) := by decide +kernel
theorem dX5_tune_40 : decode cX5_tune 40 = .ok (.iconst 3, 1) := by decide +kernel
theorem dX5_tune_41 : decode cX5_tune 41 = .ok (.if_icmp .ge 20, 3) := by decide +kernel
theorem dX5_tune_44 : decode cX5_tune 44 = .ok (.aload_n 0, 1) := by decide +kernel
theorem dX5_tune_45 : decode cX5_tune 45 = .ok (.getfield 16, 3) := by decide +kernel
theorem dX5_tune_48 : decode cX5_tune 48 = .ok (.iload 4, 2) := by decide +kernel
theorem dX5_tune_50 : decode cX5_tune 50 = .ok (.aaload, 1) := by decide +kernel
theorem dX5_tune_51 : decode cX5_tune 51 = .ok (.iconst 0, 1) := by decide +kernel
theorem dX5_tune_52 : decode cX5_tune 52 = .ok (.putfield 31, 3) := by decide +kernel
theorem dX5_tune_55 : decode cX5_tune 55 = .ok (.iinc 4 1, 3) := by decide +kernel
theorem dX5_tune_58 : decode cX5_tune 58 = .ok (.goto (-20), 3) := by decide +kernel
theorem dX5_tune_61 : decode cX5_tune 61 = .ok (.iload_n 3, 1) := by decide +kernel
theorem dX5_tune_62 : decode cX5_tune 62 = .ok (.ireturn, 1) := by decide +kernel
theorem dX5_note_0 : decode cX5_note 0 = .ok (.aload_n 0, 1) := by decide +kernel
theorem dX5_note_1 : decode cX5_note 1 = .ok (.iload_n 1, 1) := by decide +kernel
theorem dX5_note_2 : decode cX5_note 2 = .ok (.invokevirtual 35, 3) := by decide +kernel
theorem dX5_note_5 : decode cX5_note 5 = .ok (.astore 5, 2) := by decide +kernel
theorem dX5_note_7 : decode cX5_note 7 = .ok (.aload 5, 2) := by decide +kernel
theorem dX5_note_9 : decode cX5_note 9 = .ok (.ifnull 34, 3) := by decide +kernel
theorem dX5_note_12 : decode cX5_note 12 = .ok (.iload_n 2, 1) := by decide +kernel
theorem dX5_note_13 : decode cX5_note 13 = .ok (.iconst 0, 1) := by decide +kernel
theorem dX5_note_14 : decode cX5_note 14 = .ok (.bipush 80, 2) := by decide +kernel
theorem dX5_note_16 : decode cX5_note 16 = .ok (.invokestatic 27, 3) := by decide +kernel
theorem dX5_note_19 : decode cX5_note 19 = .ok (.ifCond .ne 24, 3) := by decide +kernel
theorem dX5_note_22 : decode cX5_note 22 = .ok (.iload_n 3, 1) := by decide +kernel
theorem dX5_note_23 : decode cX5_note 23 = .ok (.iconst 1, 1) := by decide +kernel
theorem dX5_note_24 : decode cX5_note 24 = .ok (.bipush 16, 2) := by decide +kernel
theorem dX5_note_26 : decode cX5_note 26 = .ok (.invokestatic 27, 3) := by decide +kernel
theorem dX5_note_29 : decode cX5_note 29 = .ok (.ifCond .ne 14, 3) := by decide +kernel
theorem dX5_note_32 : decode cX5_note 32 = .ok (.iload 4, 2) := by decide +kernel
theorem dX5_note_34 : decode cX5_note 34 = .ok (.iconst 0, 1) := by decide +kernel
theorem dX5_note_35 : decode cX5_note 35 = .ok (.bipush 15, 2) := by decide +kernel
theorem dX5_note_37 : decode cX5_note 37 = .ok (.invokestatic 27, 3) := by decide +kernel
theorem dX5_note_40 : decode cX5_note 40 = .ok (.ifCond .eq 5, 3) := by decide +kernel
theorem dX5_note_43 : decode cX5_note 43 = .ok (.iconst (-1), 1) := by decide +kernel
theorem dX5_note_44 : decode cX5_note 44 = .ok (.ireturn, 1) := by decide +kernel
theorem dX5_note_45 : decode cX5_note 45 = .ok (.aload 5, 2) := by decide +kernel
theorem dX5_note_47 : decode cX5_note 47 = .ok (.getfield 39, 3) := by decide +kernel
theorem dX5_note_50 : decode cX5_note 50 = .ok (.iload 4, 2) := by decide +kernel
theorem dX5_note_52 : decode cX5_note 52 = .ok (.invokestatic 43, 3) := by decide +kernel
theorem dX5_note_55 : decode cX5_note 55 = .ok (.ifCond .ne 6, 3) := by decide +kernel
theorem dX5_note_58 : decode cX5_note 58 = .ok (.bipush (-4), 2) := by decide +kernel
theorem dX5_note_60 : decode cX5_note 60 = .ok (.ireturn, 1) := by decide +kernel
theorem dX5_note_61 : decode cX5_note 61 = .ok (.aload 5, 2) := by decide +kernel
theorem dX5_note_63 : decode cX5_note 63 = .ok (.getfield 39, 3) := by decide +kernel
theorem dX5_note_66 : decode cX5_note 66 = .ok (.bipush 12, 2) := by decide +kernel
theorem dX5_note_68 : decode cX5_note 68 = .ok (.if_icmp .lt 6, 3) := by decide +kernel
theorem dX5_note_71 : decode cX5_note 71 = .ok (.bipush (-2), 2) := by decide +kernel
theorem dX5_note_73 : decode cX5_note 73 = .ok (.ireturn, 1) := by decide +kernel
theorem dX5_note_74 : decode cX5_note 74 = .ok (.aload 5, 2) := by decide +kernel
theorem dX5_note_76 : decode cX5_note 76 = .ok (.iload_n 2, 1) := by decide +kernel
theorem dX5_note_77 : decode cX5_note 77 = .ok (.iload_n 3, 1) := by decide +kernel
theorem dX5_note_78 : decode cX5_note 78 = .ok (.iload 4, 2) := by decide +kernel
theorem dX5_note_80 : decode cX5_note 80 = .ok (.invokevirtual 47, 3) := by decide +kernel
theorem dX5_note_83 : decode cX5_note 83 = .ok (.aload 5, 2) := by decide +kernel
theorem dX5_note_85 : decode cX5_note 85 = .ok (.getfield 39, 3) := by decide +kernel
theorem dX5_note_88 : decode cX5_note 88 = .ok (.iconst 1, 1) := by decide +kernel
theorem dX5_note_89 : decode cX5_note 89 = .ok (.isub, 1) := by decide +kernel
theorem dX5_note_90 : decode cX5_note 90 = .ok (.ireturn, 1) := by decide +kernel
theorem dX5_stop_0 : decode cX5_stop 0 = .ok (.aload_n 0, 1) := by decide +kernel
theorem dX5_stop_1 : decode cX5_stop 1 = .ok (.iload_n 1, 1) := by decide +kernel
theorem dX5_stop_2 : decode cX5_stop 2 = .ok (.iload_n 2, 1) := by decide +kernel
theorem dX5_stop_3 : decode cX5_stop 3 = .ok (.invokevirtual 51, 3) := by decide +kernel
theorem dX5_stop_6 : decode cX5_stop 6 = .ok (.astore 4, 2) := by decide +kernel
theorem dX5_stop_8 : decode cX5_stop 8 = .ok (.aload 4, 2) := by decide +kernel
theorem dX5_stop_10 : decode cX5_stop 10 = .ok (.ifnonnull 6, 3) := by decide +kernel
theorem dX5_stop_13 : decode cX5_stop 13 = .ok (.bipush (-9), 2) := by decide +kernel
theorem dX5_stop_15 : decode cX5_stop 15 = .ok (.ireturn, 1) := by decide +kernel
theorem dX5_stop_16 : decode cX5_stop 16 = .ok (.iload_n 3, 1) := by decide +kernel
theorem dX5_stop_17 : decode cX5_stop 17 = .ok (.iconst (-1), 1) := by decide +kernel
theorem dX5_stop_18 : decode cX5_stop 18 = .ok (.if_icmp .eq 24, 3) := by decide +kernel
theorem dX5_stop_21 : decode cX5_stop 21 = .ok (.iload_n 3, 1) := by decide +kernel
theorem dX5_stop_22 : decode cX5_stop 22 = .ok (.aload 4, 2) := by decide +kernel
theorem dX5_stop_24 : decode cX5_stop 24 = .ok (.getfield 55, 3) := by decide +kernel
theorem dX5_stop_27 : decode cX5_stop 27 = .ok (.iload_n 2, 1) := by decide +kernel
theorem dX5_stop_28 : decode cX5_stop 28 = .ok (.iaload, 1) := by decide +kernel
theorem dX5_stop_29 : decode cX5_stop 29 = .ok (.iconst 1, 1) := by decide +kernel
theorem dX5_stop_30 : decode cX5_stop 30 = .ok (.iadd, 1) := by decide +kernel
theorem dX5_stop_31 : decode cX5_stop 31 = .ok (.bipush 80, 2) := by decide +kernel
theorem dX5_stop_33 : decode cX5_stop 33 = .ok (.invokestatic 27, 3) := by decide +kernel
theorem dX5_stop_36 : decode cX5_stop 36 = .ok (.ifCond .eq 6, 3) := by decide +kernel
theorem dX5_stop_39 : decode cX5_stop 39 = .ok (.bipush (-9), 2) := by decide +kernel
theorem dX5_stop_41 : decode cX5_stop 41 = .ok (.ireturn, 1) := by decide +kernel
theorem dX5_stop_42 : decode cX5_stop 42 = .ok (.aload 4, 2) := by decide +kernel
theorem dX5_stop_44 : decode cX5_stop 44 = .ok (.getfield 58, 3) := by decide +kernel
theorem dX5_stop_47 : decode cX5_stop 47 = .ok (.iload_n 2, 1) := by decide +kernel
theorem dX5_stop_48 : decode cX5_stop 48 = .ok (.iaload, 1) := by decide +kernel
theorem dX5_stop_49 : decode cX5_stop 49 = .ok (.istore 5, 2) := by decide +kernel
theorem dX5_stop_51 : decode cX5_stop 51 = .ok (.aload 4, 2) := by decide +kernel
theorem dX5_stop_53 : decode cX5_stop 53 = .ok (.getfield 58, 3) := by decide +kernel
theorem dX5_stop_56 : decode cX5_stop 56 = .ok (.iload_n 2, 1) := by decide +kernel
theorem dX5_stop_57 : decode cX5_stop 57 = .ok (.iload_n 3, 1) := by decide +kernel
theorem dX5_stop_58 : decode cX5_stop 58 = .ok (.iastore, 1) := by decide +kernel
theorem dX5_stop_59 : decode cX5_stop 59 = .ok (.aload 4, 2) := by decide +kernel
theorem dX5_stop_61 : decode cX5_stop 61 = .ok (.iconst 0, 1) := by decide +kernel
theorem dX5_stop_62 : decode cX5_stop 62 = .ok (.putfield 31, 3) := by decide +kernel
theorem dX5_stop_65 : decode cX5_stop 65 = .ok (.iload 5, 2) := by decide +kernel
theorem dX5_stop_67 : decode cX5_stop 67 = .ok (.ireturn, 1) := by decide +kernel
theorem dX5_mark_0 : decode cX5_mark 0 = .ok (.aload_n 0, 1) := by decide +kernel
theorem dX5_mark_1 : decode cX5_mark 1 = .ok (.iload_n 1, 1) := by decide +kernel
theorem dX5_mark_2 : decode cX5_mark 2 = .ok (.iload_n 2, 1) := by decide +kernel
theorem dX5_mark_3 : decode cX5_mark 3 = .ok (.invokevirtual 51, 3) := by decide +kernel
theorem dX5_mark_6 : decode cX5_mark 6 = .ok (.astore 4, 2) := by decide +kernel
theorem dX5_mark_8 : decode cX5_mark 8 = .ok (.aload 4, 2) := by decide +kernel
theorem dX5_mark_10 : decode cX5_mark 10 = .ok (.ifnull 13, 3) := by decide +kernel
theorem dX5_mark_13 : decode cX5_mark 13 = .ok (.iload_n 3, 1) := by decide +kernel
theorem dX5_mark_14 : decode cX5_mark 14 = .ok (.iconst 0, 1) := by decide +kernel
theorem dX5_mark_15 : decode cX5_mark 15 = .ok (.bipush 15, 2) := by decide +kernel
theorem dX5_mark_17 : decode cX5_mark 17 = .ok (.invokestatic 27, 3) := by decide +kernel
theorem dX5_mark_20 : decode cX5_mark 20 = .ok (.ifCond .eq 5, 3) := by decide +kernel
theorem dX5_mark_23 : decode cX5_mark 23 = .ok (.iconst (-1), 1) := by decide +kernel
theorem dX5_mark_24 : decode cX5_mark 24 = .ok (.ireturn, 1) := by decide +kernel
theorem dX5_mark_25 : decode cX5_mark 25 = .ok (.iload_n 2, 1) := by decide +kernel
theorem dX5_mark_26 : decode cX5_mark 26 = .ok (.iload_n 3, 1) := by decide +kernel
theorem dX5_mark_27 : decode cX5_mark 27 = .ok (.invokestatic 43, 3) := by decide +kernel
theorem dX5_mark_30 : decode cX5_mark 30 = .ok (.ifCond .ne 6, 3) := by decide +kernel
theorem dX5_mark_33 : decode cX5_mark 33 = .ok (.bipush (-4), 2) := by decide +kernel
theorem dX5_mark_35 : decode cX5_mark 35 = .ok (.ireturn, 1) := by decide +kernel
theorem dX5_mark_36 : decode cX5_mark 36 = .ok (.aload 4, 2) := by decide +kernel
theorem dX5_mark_38 : decode cX5_mark 38 = .ok (.getfield 61, 3) := by decide +kernel
theorem dX5_mark_41 : decode cX5_mark 41 = .ok (.iload_n 2, 1) := by decide +kernel
theorem dX5_mark_42 : decode cX5_mark 42 = .ok (.iaload, 1) := by decide +kernel
theorem dX5_mark_43 : decode cX5_mark 43 = .ok (.istore 5, 2) := by decide +kernel
theorem dX5_mark_45 : decode cX5_mark 45 = .ok (.aload 4, 2) := by decide +kernel
theorem dX5_mark_47 : decode cX5_mark 47 = .ok (.getfield 61, 3) := by decide +kernel
theorem dX5_mark_50 : decode cX5_mark 50 = .ok (.iload_n 2, 1) := by decide +kernel
theorem dX5_mark_51 : decode cX5_mark 51 = .ok (.iload_n 3, 1) := by decide +kernel
theorem dX5_mark_52 : decode cX5_mark 52 = .ok (.iastore, 1) := by decide +kernel
theorem dX5_mark_53 : decode cX5_mark 53 = .ok (.aload 4, 2) := by decide +kernel
theorem dX5_mark_55 : decode cX5_mark 55 = .ok (.iconst 0, 1) := by decide +kernel
theorem dX5_mark_56 : decode cX5_mark 56 = .ok (.putfield 31, 3) := by decide +kernel
theorem dX5_mark_59 : decode cX5_mark 59 = .ok (.iload 5, 2) := by decide +kernel
theorem dX5_mark_61 : decode cX5_mark 61 = .ok (.ireturn, 1) := by decide +kernel
theorem dX5_cut_0 : decode cX5_cut 0 = .ok (.aload_n 0, 1) := by decide +kernel
theorem dX5_cut_1 : decode cX5_cut 1 = .ok (.iload_n 1, 1) := by decide +kernel
theorem dX5_cut_2 : decode cX5_cut 2 = .ok (.invokevirtual 35, 3) := by decide +kernel
theorem dX5_cut_5 : decode cX5_cut 5 = .ok (.astore_n 2, 1) := by decide +kernel
theorem dX5_cut_6 : decode cX5_cut 6 = .ok (.aload_n 2, 1) := by decide +kernel
theorem dX5_cut_7 : decode cX5_cut 7 = .ok (.ifnonnull 5, 3) := by decide +kernel
theorem dX5_cut_10 : decode cX5_cut 10 = .ok (.iconst (-1), 1) := by decide +kernel
theorem dX5_cut_11 : decode cX5_cut 11 = .ok (.ireturn, 1) := by decide +kernel
theorem dX5_cut_12 : decode cX5_cut 12 = .ok (.aload_n 2, 1) := by decide +kernel
theorem dX5_cut_13 : decode cX5_cut 13 = .ok (.getfield 39, 3) := by decide +kernel
theorem dX5_cut_16 : decode cX5_cut 16 = .ok (.ifCond .gt 6, 3) := by decide +kernel
theorem dX5_cut_19 : decode cX5_cut 19 = .ok (.bipush (-3), 2) := by decide +kernel
theorem dX5_cut_21 : decode cX5_cut 21 = .ok (.ireturn, 1) := by decide +kernel
theorem dX5_cut_22 : decode cX5_cut 22 = .ok (.aload_n 2, 1) := by decide +kernel
theorem dX5_cut_23 : decode cX5_cut 23 = .ok (.dup, 1) := by decide +kernel
theorem dX5_cut_24 : decode cX5_cut 24 = .ok (.getfield 39, 3) := by decide +kernel
theorem dX5_cut_27 : decode cX5_cut 27 = .ok (.iconst 1, 1) := by decide +kernel
theorem dX5_cut_28 : decode cX5_cut 28 = .ok (.isub, 1) := by decide +kernel
theorem dX5_cut_29 : decode cX5_cut 29 = .ok (.putfield 39, 3) := by decide +kernel
theorem dX5_cut_32 : decode cX5_cut 32 = .ok (.aload_n 2, 1) := by decide +kernel
theorem dX5_cut_33 : decode cX5_cut 33 = .ok (.iconst 0, 1) := by decide +kernel
theorem dX5_cut_34 : decode cX5_cut 34 = .ok (.putfield 31, 3) := by decide +kernel
theorem dX5_cut_37 : decode cX5_cut 37 = .ok (.aload_n 2, 1) := by decide +kernel
theorem dX5_cut_38 : decode cX5_cut 38 = .ok (.getfield 39, 3) := by decide +kernel
theorem dX5_cut_41 : decode cX5_cut 41 = .ok (.ireturn, 1) := by decide +kernel
theorem dX5_of_0 : decode cX5_of 0 = .ok (.aload_n 0, 1) := by decide +kernel
theorem dX5_of_1 : decode cX5_of 1 = .ok (.iload_n 1, 1) := by decide +kernel
theorem dX5_of_2 : decode cX5_of 2 = .ok (.iload_n 2, 1) := by decide +kernel
theorem dX5_of_3 : decode cX5_of 3 = .ok (.invokevirtual 51, 3) := by decide +kernel
theorem dX5_of_6 : decode cX5_of 6 = .ok (.astore 4, 2) := by decide +kernel
theorem dX5_of_8 : decode cX5_of 8 = .ok (.aload 4, 2) := by decide +kernel
theorem dX5_of_10 : decode cX5_of 10 = .ok (.ifnonnull 5, 3) := by decide +kernel
theorem dX5_of_13 : decode cX5_of 13 = .ok (.iconst (-1), 1) := by decide +kernel
theorem dX5_of_14 : decode cX5_of 14 = .ok (.ireturn, 1) := by decide +kernel
theorem dX5_of_15 : decode cX5_of 15 = .ok (.iload_n 3, 1) := by decide +kernel
theorem dX5_of_16 : decode cX5_of 16 = .ok (.tableswitch 109 0 5 #[40, 48, 56, 64, 86, 94], 40) := by decide +kernel
theorem dX5_of_56 : decode cX5_of 56 = .ok (.aload 4, 2) := by decide +kernel
theorem dX5_of_58 : decode cX5_of 58 = .ok (.getfield 55, 3) := by decide +kernel
theorem dX5_of_61 : decode cX5_of 61 = .ok (.iload_n 2, 1) := by decide +kernel
theorem dX5_of_62 : decode cX5_of 62 = .ok (.iaload, 1) := by decide +kernel
theorem dX5_of_63 : decode cX5_of 63 = .ok (.ireturn, 1) := by decide +kernel
theorem dX5_of_64 : decode cX5_of 64 = .ok (.aload 4, 2) := by decide +kernel
theorem dX5_of_66 : decode cX5_of 66 = .ok (.getfield 64, 3) := by decide +kernel
theorem dX5_of_69 : decode cX5_of 69 = .ok (.iload_n 2, 1) := by decide +kernel
theorem dX5_of_70 : decode cX5_of 70 = .ok (.iaload, 1) := by decide +kernel
theorem dX5_of_71 : decode cX5_of 71 = .ok (.ireturn, 1) := by decide +kernel
theorem dX5_of_72 : decode cX5_of 72 = .ok (.aload 4, 2) := by decide +kernel
theorem dX5_of_74 : decode cX5_of 74 = .ok (.getfield 61, 3) := by decide +kernel
theorem dX5_of_77 : decode cX5_of 77 = .ok (.iload_n 2, 1) := by decide +kernel
theorem dX5_of_78 : decode cX5_of 78 = .ok (.iaload, 1) := by decide +kernel
theorem dX5_of_79 : decode cX5_of 79 = .ok (.ireturn, 1) := by decide +kernel
theorem dX5_of_80 : decode cX5_of 80 = .ok (.aload 4, 2) := by decide +kernel
theorem dX5_of_82 : decode cX5_of 82 = .ok (.iload_n 2, 1) := by decide +kernel
theorem dX5_of_83 : decode cX5_of 83 = .ok (.invokevirtual 67, 3) := by decide +kernel
theorem dX5_of_86 : decode cX5_of 86 = .ok (.ifCond .eq 13, 3) := by decide +kernel
theorem dX5_of_89 : decode cX5_of 89 = .ok (.aload 4, 2) := by decide +kernel
theorem dX5_of_91 : decode cX5_of 91 = .ok (.getfield 58, 3) := by decide +kernel
theorem dX5_of_94 : decode cX5_of 94 = .ok (.iload_n 2, 1) := by decide +kernel
theorem dX5_of_95 : decode cX5_of 95 = .ok (.iaload, 1) := by decide +kernel
theorem dX5_of_96 : decode cX5_of 96 = .ok (.goto 5, 3) := by decide +kernel
theorem dX5_of_99 : decode cX5_of 99 = .ok (.bipush (-3), 2) := by decide +kernel
theorem dX5_of_101 : decode cX5_of 101 = .ok (.ireturn, 1) := by decide +kernel
theorem dX5_of_102 : decode cX5_of 102 = .ok (.aload 4, 2) := by decide +kernel
theorem dX5_of_104 : decode cX5_of 104 = .ok (.getfield 71, 3) := by decide +kernel
theorem dX5_of_107 : decode cX5_of 107 = .ok (.iload_n 2, 1) := by decide +kernel
theorem dX5_of_108 : decode cX5_of 108 = .ok (.iaload, 1) := by decide +kernel
theorem dX5_of_109 : decode cX5_of 109 = .ok (.ireturn, 1) := by decide +kernel
theorem dX5_of_110 : decode cX5_of 110 = .ok (.aload_n 0, 1) := by decide +kernel
theorem dX5_of_111 : decode cX5_of 111 = .ok (.getfield 23, 3) := by decide +kernel
theorem dX5_of_114 : decode cX5_of 114 = .ok (.aload_n 0, 1) := by decide +kernel
theorem dX5_of_115 : decode cX5_of 115 = .ok (.getfield 7, 3) := by decide +kernel
theorem dX5_of_118 : decode cX5_of 118 = .ok (.aload 4, 2) := by decide +kernel
theorem dX5_of_120 : decode cX5_of 120 = .ok (.iload_n 2, 1) := by decide +kernel
theorem dX5_of_121 : decode cX5_of 121 = .ok (.invokevirtual 74, 3) := by decide +kernel
theorem dX5_of_124 : decode cX5_of 124 = .ok (.ireturn, 1) := by decide +kernel
theorem dX5_of_125 : decode cX5_of 125 = .ok (.iconst (-1), 1) := by decide +kernel
theorem dX5_of_126 : decode cX5_of 126 = .ok (.ireturn, 1) := by decide +kernel
theorem dX5_hold_0 : decode cX5_hold 0 = .ok (.aload_n 0, 1) := by decide +kernel
theorem dX5_hold_1 : decode cX5_hold 1 = .ok (.iload_n 1, 1) := by decide +kernel
theorem dX5_hold_2 : decode cX5_hold 2 = .ok (.iload_n 2, 1) := by decide +kernel
theorem dX5_hold_3 : decode cX5_hold 3 = .ok (.invokevirtual 51, 3) := by decide +kernel
theorem dX5_hold_6 : decode cX5_hold 6 = .ok (.astore 4, 2) := by decide +kernel
theorem dX5_hold_8 : decode cX5_hold 8 = .ok (.aload 4, 2) := by decide +kernel
theorem dX5_hold_10 : decode cX5_hold 10 = .ok (.ifnonnull 5, 3) := by decide +kernel
theorem dX5_hold_13 : decode cX5_hold 13 = .ok (.iconst (-1), 1) := by decide +kernel
theorem dX5_hold_14 : decode cX5_hold 14 = .ok (.ireturn, 1) := by decide +kernel
theorem dX5_hold_15 : decode cX5_hold 15 = .ok (.aload_n 0, 1) := by decide +kernel
theorem dX5_hold_16 : decode cX5_hold 16 = .ok (.getfield 23, 3) := by decide +kernel
theorem dX5_hold_19 : decode cX5_hold 19 = .ok (.aload_n 0, 1) := by decide +kernel
theorem dX5_hold_20 : decode cX5_hold 20 = .ok (.getfield 7, 3) := by decide +kernel
theorem dX5_hold_23 : decode cX5_hold 23 = .ok (.aload 4, 2) := by decide +kernel
theorem dX5_hold_25 : decode cX5_hold 25 = .ok (.iload_n 2, 1) := by decide +kernel
theorem dX5_hold_26 : decode cX5_hold 26 = .ok (.invokevirtual 74, 3) := by decide +kernel
theorem dX5_hold_29 : decode cX5_hold 29 = .ok (.istore 5, 2) := by decide +kernel
theorem dX5_hold_31 : decode cX5_hold 31 = .ok (.iload_n 3, 1) := by decide +kernel
theorem dX5_hold_32 : decode cX5_hold 32 = .ok (.iconst 0, 1) := by decide +kernel
theorem dX5_hold_33 : decode cX5_hold 33 = .ok (.iload 5, 2) := by decide +kernel
theorem dX5_hold_35 : decode cX5_hold 35 = .ok (.iconst 1, 1) := by decide +kernel
theorem dX5_hold_36 : decode cX5_hold 36 = .ok (.isub, 1) := by decide +kernel
theorem dX5_hold_37 : decode cX5_hold 37 = .ok (.invokestatic 27, 3) := by decide +kernel
theorem dX5_hold_40 : decode cX5_hold 40 = .ok (.ifCond .eq 8, 3) := by decide +kernel
theorem dX5_hold_43 : decode cX5_hold 43 = .ok (.bipush (-3), 2) := by decide +kernel
theorem dX5_hold_45 : decode cX5_hold 45 = .ok (.goto 15, 3) := by decide +kernel
theorem dX5_hold_48 : decode cX5_hold 48 = .ok (.aload_n 0, 1) := by decide +kernel
theorem dX5_hold_49 : decode cX5_hold 49 = .ok (.getfield 23, 3) := by decide +kernel
theorem dX5_hold_52 : decode cX5_hold 52 = .ok (.iload_n 2, 1) := by decide +kernel
theorem dX5_hold_53 : decode cX5_hold 53 = .ok (.iload_n 3, 1) := by decide +kernel
theorem dX5_hold_54 : decode cX5_hold 54 = .ok (.invokevirtual 78, 3) := by decide +kernel
theorem dX5_hold_57 : decode cX5_hold 57 = .ok (.invokestatic 82, 3) := by decide +kernel
theorem dX5_hold_60 : decode cX5_hold 60 = .ok (.ireturn, 1) := by decide +kernel
theorem dX5_hard_0 : decode cX5_hard 0 = .ok (.aload_n 0, 1) := by decide +kernel
theorem dX5_hard_1 : decode cX5_hard 1 = .ok (.iload_n 1, 1) := by decide +kernel
theorem dX5_hard_2 : decode cX5_hard 2 = .ok (.invokevirtual 35, 3) := by decide +kernel
theorem dX5_hard_5 : decode cX5_hard 5 = .ok (.astore_n 2, 1) := by decide +kernel
theorem dX5_hard_6 : decode cX5_hard 6 = .ok (.aload_n 2, 1) := by decide +kernel
theorem dX5_hard_7 : decode cX5_hard 7 = .ok (.ifnonnull 5, 3) := by decide +kernel
theorem dX5_hard_10 : decode cX5_hard 10 = .ok (.iconst (-1), 1) := by decide +kernel
theorem dX5_hard_11 : decode cX5_hard 11 = .ok (.ireturn, 1) := by decide +kernel
theorem dX5_hard_12 : decode cX5_hard 12 = .ok (.aload_n 0, 1) := by decide +kernel
theorem dX5_hard_13 : decode cX5_hard 13 = .ok (.aload_n 2, 1) := by decide +kernel
theorem dX5_hard_14 : decode cX5_hard 14 = .ok (.invokevirtual 88, 3) := by decide +kernel
theorem dX5_hard_17 : decode cX5_hard 17 = .ok (.ifCond .eq 10, 3) := by decide +kernel
theorem dX5_hard_20 : decode cX5_hard 20 = .ok (.aload_n 2, 1) := by decide +kernel
theorem dX5_hard_21 : decode cX5_hard 21 = .ok (.getfield 92, 3) := by decide +kernel
theorem dX5_hard_24 : decode cX5_hard 24 = .ok (.goto 5, 3) := by decide +kernel
theorem dX5_hard_27 : decode cX5_hard 27 = .ok (.bipush (-3), 2) := by decide +kernel
theorem dX5_hard_29 : decode cX5_hard 29 = .ok (.ireturn, 1) := by decide +kernel
theorem dX5_finger_0 : decode cX5_finger 0 = .ok (.aload_n 0, 1) := by decide +kernel
theorem dX5_finger_1 : decode cX5_finger 1 = .ok (.iload_n 1, 1) := by decide +kernel
theorem dX5_finger_2 : decode cX5_finger 2 = .ok (.iload_n 2, 1) := by decide +kernel
theorem dX5_finger_3 : decode cX5_finger 3 = .ok (.invokevirtual 51, 3) := by decide +kernel
theorem dX5_finger_6 : decode cX5_finger 6 = .ok (.astore 4, 2) := by decide +kernel
theorem dX5_finger_8 : decode cX5_finger 8 = .ok (.aload 4, 2) := by decide +kernel
theorem dX5_finger_10 : decode cX5_finger 10 = .ok (.ifnull 12, 3) := by decide +kernel
theorem dX5_finger_13 : decode cX5_finger 13 = .ok (.iload_n 3, 1) := by decide +kernel
theorem dX5_finger_14 : decode cX5_finger 14 = .ok (.iconst 0, 1) := by decide +kernel
theorem dX5_finger_15 : decode cX5_finger 15 = .ok (.iconst 5, 1) := by decide +kernel
theorem dX5_finger_16 : decode cX5_finger 16 = .ok (.invokestatic 27, 3) := by decide +kernel
theorem dX5_finger_19 : decode cX5_finger 19 = .ok (.ifCond .eq 5, 3) := by decide +kernel
theorem dX5_finger_22 : decode cX5_finger 22 = .ok (.iconst (-1), 1) := by decide +kernel
theorem dX5_finger_23 : decode cX5_finger 23 = .ok (.ireturn, 1) := by decide +kernel
theorem dX5_finger_24 : decode cX5_finger 24 = .ok (.aload_n 0, 1) := by decide +kernel
theorem dX5_finger_25 : decode cX5_finger 25 = .ok (.aload 4, 2) := by decide +kernel
theorem dX5_finger_27 : decode cX5_finger 27 = .ok (.invokevirtual 88, 3) := by decide +kernel
theorem dX5_finger_30 : decode cX5_finger 30 = .ok (.ifCond .ne 6, 3) := by decide +kernel
theorem dX5_finger_33 : decode cX5_finger 33 = .ok (.bipush (-3), 2) := by decide +kernel
theorem dX5_finger_35 : decode cX5_finger 35 = .ok (.ireturn, 1) := by decide +kernel
theorem dX5_finger_36 : decode cX5_finger 36 = .ok (.aload 4, 2) := by decide +kernel
theorem dX5_finger_38 : decode cX5_finger 38 = .ok (.getfield 95, 3) := by decide +kernel
theorem dX5_finger_41 : decode cX5_finger 41 = .ok (.iload_n 2, 1) := by decide +kernel
theorem dX5_finger_42 : decode cX5_finger 42 = .ok (.iaload, 1) := by decide +kernel
theorem dX5_finger_43 : decode cX5_finger 43 = .ok (.istore 5, 2) := by decide +kernel
theorem dX5_finger_45 : decode cX5_finger 45 = .ok (.iload_n 3, 1) := by decide +kernel
theorem dX5_finger_46 : decode cX5_finger 46 = .ok (.tableswitch 87 0 4 #[34, 40, 46, 55, 64], 34) := by decide +kernel
theorem dX5_finger_80 : decode cX5_finger 80 = .ok (.iload 5, 2) := by decide +kernel
theorem dX5_finger_82 : decode cX5_finger 82 = .ok (.invokestatic 98, 3) := by decide +kernel
theorem dX5_finger_85 : decode cX5_finger 85 = .ok (.ireturn, 1) := by decide +kernel
theorem dX5_finger_86 : decode cX5_finger 86 = .ok (.iload 5, 2) := by decide +kernel
theorem dX5_finger_88 : decode cX5_finger 88 = .ok (.invokestatic 101, 3) := by decide +kernel
theorem dX5_finger_91 : decode cX5_finger 91 = .ok (.ireturn, 1) := by decide +kernel
theorem dX5_finger_92 : decode cX5_finger 92 = .ok (.iload 5, 2) := by decide +kernel
theorem dX5_finger_94 : decode cX5_finger 94 = .ok (.invokestatic 104, 3) := by decide +kernel
theorem dX5_finger_97 : decode cX5_finger 97 = .ok (.invokestatic 107, 3) := by decide +kernel
theorem dX5_finger_100 : decode cX5_finger 100 = .ok (.ireturn, 1) := by decide +kernel
theorem dX5_finger_101 : decode cX5_finger 101 = .ok (.iload 5, 2) := by decide +kernel
theorem dX5_finger_103 : decode cX5_finger 103 = .ok (.invokestatic 104, 3) := by decide +kernel
theorem dX5_finger_106 : decode cX5_finger 106 = .ok (.invokestatic 112, 3) := by decide +kernel
theorem dX5_finger_109 : decode cX5_finger 109 = .ok (.ireturn, 1) := by decide +kernel
theorem dX5_finger_110 : decode cX5_finger 110 = .ok (.aload 4, 2) := by decide +kernel
theorem dX5_finger_112 : decode cX5_finger 112 = .ok (.iload_n 2, 1) := by decide +kernel
theorem dX5_finger_113 : decode cX5_finger 113 = .ok (.invokevirtual 67, 3) := by decide +kernel
theorem dX5_finger_116 : decode cX5_finger 116 = .ok (.ifCond .eq 14, 3) := by decide +kernel
theorem dX5_finger_119 : decode cX5_finger 119 = .ok (.iload 5, 2) := by decide +kernel
theorem dX5_finger_121 : decode cX5_finger 121 = .ok (.invokestatic 115, 3) := by decide +kernel
theorem dX5_finger_124 : decode cX5_finger 124 = .ok (.invokestatic 107, 3) := by decide +kernel
theorem dX5_finger_127 : decode cX5_finger 127 = .ok (.goto 5, 3) := by decide +kernel
theorem dX5_finger_130 : decode cX5_finger 130 = .ok (.bipush (-3), 2) := by decide +kernel
theorem dX5_finger_132 : decode cX5_finger 132 = .ok (.ireturn, 1) := by decide +kernel
theorem dX5_finger_133 : decode cX5_finger 133 = .ok (.aload 4, 2) := by decide +kernel
theorem dX5_finger_135 : decode cX5_finger 135 = .ok (.iload_n 2, 1) := by decide +kernel
theorem dX5_finger_136 : decode cX5_finger 136 = .ok (.invokevirtual 67, 3) := by decide +kernel
theorem dX5_finger_139 : decode cX5_finger 139 = .ok (.ifCond .eq 14, 3) := by decide +kernel
theorem dX5_finger_142 : decode cX5_finger 142 = .ok (.iload 5, 2) := by decide +kernel
theorem dX5_finger_144 : decode cX5_finger 144 = .ok (.invokestatic 115, 3) := by decide +kernel
theorem dX5_finger_147 : decode cX5_finger 147 = .ok (.invokestatic 112, 3) := by decide +kernel
theorem dX5_finger_150 : decode cX5_finger 150 = .ok (.goto 5, 3) := by decide +kernel
theorem dX5_finger_153 : decode cX5_finger 153 = .ok (.bipush (-3), 2) := by decide +kernel
theorem dX5_finger_155 : decode cX5_finger 155 = .ok (.ireturn, 1) := by decide +kernel
theorem dX5_shifts_0 : decode cX5_shifts 0 = .ok (.aload_n 0, 1) := by decide +kernel
theorem dX5_shifts_1 : decode cX5_shifts 1 = .ok (.iload_n 1, 1) := by decide +kernel
theorem dX5_shifts_2 : decode cX5_shifts 2 = .ok (.invokevirtual 35, 3) := by decide +kernel
theorem dX5_shifts_5 : decode cX5_shifts 5 = .ok (.astore_n 2, 1) := by decide +kernel
theorem dX5_shifts_6 : decode cX5_shifts 6 = .ok (.aload_n 2, 1) := by decide +kernel
theorem dX5_shifts_7 : decode cX5_shifts 7 = .ok (.ifnonnull 5, 3) := by decide +kernel
theorem dX5_shifts_10 : decode cX5_shifts 10 = .ok (.iconst (-1), 1) := by decide +kernel
theorem dX5_shifts_11 : decode cX5_shifts 11 = .ok (.ireturn, 1) := by decide +kernel
theorem dX5_shifts_12 : decode cX5_shifts 12 = .ok (.aload_n 0, 1) := by decide +kernel
theorem dX5_shifts_13 : decode cX5_shifts 13 = .ok (.aload_n 2, 1) := by decide +kernel
theorem dX5_shifts_14 : decode cX5_shifts 14 = .ok (.invokevirtual 88, 3) := by decide +kernel
theorem dX5_shifts_17 : decode cX5_shifts 17 = .ok (.ifCond .ne 6, 3) := by decide +kernel
theorem dX5_shifts_20 : decode cX5_shifts 20 = .ok (.bipush (-3), 2) := by decide +kernel
theorem dX5_shifts_22 : decode cX5_shifts 22 = .ok (.ireturn, 1) := by decide +kernel
theorem dX5_shifts_23 : decode cX5_shifts 23 = .ok (.iconst 0, 1) := by decide +kernel
theorem dX5_shifts_24 : decode cX5_shifts 24 = .ok (.istore_n 3, 1) := by decide +kernel
theorem dX5_shifts_25 : decode cX5_shifts 25 = .ok (.iconst 1, 1) := by decide +kernel
theorem dX5_shifts_26 : decode cX5_shifts 26 = .ok (.istore 4, 2) := by decide +kernel
theorem dX5_shifts_28 : decode cX5_shifts 28 = .ok (.iload 4, 2) := by decide +kernel
theorem dX5_shifts_30 : decode cX5_shifts 30 = .ok (.aload_n 2, 1) := by decide +kernel
theorem dX5_shifts_31 : decode cX5_shifts 31 = .ok (.getfield 39, 3) := by decide +kernel
theorem dX5_shifts_34 : decode cX5_shifts 34 = .ok (.if_icmp .ge 34, 3) := by decide +kernel
theorem dX5_shifts_37 : decode cX5_shifts 37 = .ok (.aload_n 2, 1) := by decide +kernel
theorem dX5_shifts_38 : decode cX5_shifts 38 = .ok (.getfield 95, 3) := by decide +kernel
theorem dX5_shifts_41 : decode cX5_shifts 41 = .ok (.iload 4, 2) := by decide +kernel
theorem dX5_shifts_43 : decode cX5_shifts 43 = .ok (.iconst 1, 1) := by decide +kernel
theorem dX5_shifts_44 : decode cX5_shifts 44 = .ok (.isub, 1) := by decide +kernel
theorem dX5_shifts_45 : decode cX5_shifts 45 = .ok (.iaload, 1) := by decide +kernel
theorem dX5_shifts_46 : decode cX5_shifts 46 = .ok (.aload_n 2, 1) := by decide +kernel
theorem dX5_shifts_47 : decode cX5_shifts 47 = .ok (.getfield 95, 3) := by decide +kernel
theorem dX5_shifts_50 : decode cX5_shifts 50 = .ok (.iload 4, 2) := by decide +kernel
theorem dX5_shifts_52 : decode cX5_shifts 52 = .ok (.iaload, 1) := by decide +kernel
theorem dX5_shifts_53 : decode cX5_shifts 53 = .ok (.invokestatic 118, 3) := by decide +kernel
theorem dX5_shifts_56 : decode cX5_shifts 56 = .ok (.ifCond .eq 6, 3) := by decide +kernel
theorem dX5_shifts_59 : decode cX5_shifts 59 = .ok (.iinc 3 1, 3) := by decide +kernel
theorem dX5_shifts_62 : decode cX5_shifts 62 = .ok (.iinc 4 1, 3) := by decide +kernel
theorem dX5_shifts_65 : decode cX5_shifts 65 = .ok (.goto (-37), 3) := by decide +kernel
theorem dX5_shifts_68 : decode cX5_shifts 68 = .ok (.iload_n 3, 1) := by decide +kernel
theorem dX5_shifts_69 : decode cX5_shifts 69 = .ok (.ireturn, 1) := by decide +kernel
theorem dX5_bow_0 : decode cX5_bow 0 = .ok (.aload_n 0, 1) := by decide +kernel
theorem dX5_bow_1 : decode cX5_bow 1 = .ok (.iload_n 1, 1) := by decide +kernel
theorem dX5_bow_2 : decode cX5_bow 2 = .ok (.invokevirtual 35, 3) := by decide +kernel
theorem dX5_bow_5 : decode cX5_bow 5 = .ok (.astore_n 3, 1) := by decide +kernel
theorem dX5_bow_6 : decode cX5_bow 6 = .ok (.aload_n 3, 1) := by decide +kernel
theorem dX5_bow_7 : decode cX5_bow 7 = .ok (.ifnull 12, 3) := by decide +kernel
theorem dX5_bow_10 : decode cX5_bow 10 = .ok (.iload_n 2, 1) := by decide +kernel
theorem dX5_bow_11 : decode cX5_bow 11 = .ok (.iconst 0, 1) := by decide +kernel
theorem dX5_bow_12 : decode cX5_bow 12 = .ok (.iconst 1, 1) := by decide +kernel
theorem dX5_bow_13 : decode cX5_bow 13 = .ok (.invokestatic 27, 3) := by decide +kernel
theorem dX5_bow_16 : decode cX5_bow 16 = .ok (.ifCond .eq 5, 3) := by decide +kernel
theorem dX5_bow_19 : decode cX5_bow 19 = .ok (.iconst (-1), 1) := by decide +kernel
theorem dX5_bow_20 : decode cX5_bow 20 = .ok (.ireturn, 1) := by decide +kernel
theorem dX5_bow_21 : decode cX5_bow 21 = .ok (.aload_n 3, 1) := by decide +kernel
theorem dX5_bow_22 : decode cX5_bow 22 = .ok (.iload_n 2, 1) := by decide +kernel
theorem dX5_bow_23 : decode cX5_bow 23 = .ok (.invokevirtual 121, 3) := by decide +kernel
theorem dX5_bow_26 : decode cX5_bow 26 = .ok (.astore 4, 2) := by decide +kernel
theorem dX5_bow_28 : decode cX5_bow 28 = .ok (.aload 4, 2) := by decide +kernel
theorem dX5_bow_30 : decode cX5_bow 30 = .ok (.aload_n 3, 1) := by decide +kernel
theorem dX5_bow_31 : decode cX5_bow 31 = .ok (.iload_n 2, 1) := by decide +kernel
theorem dX5_bow_32 : decode cX5_bow 32 = .ok (.invokevirtual 125, 3) := by decide +kernel
theorem dX5_bow_35 : decode cX5_bow 35 = .ok (.aload 4, 2) := by decide +kernel
theorem dX5_bow_37 : decode cX5_bow 37 = .ok (.invokevirtual 131, 3) := by decide +kernel
theorem dX5_bow_40 : decode cX5_bow 40 = .ok (.ifCond .eq 11, 3) := by decide +kernel
theorem dX5_bow_43 : decode cX5_bow 43 = .ok (.aload 4, 2) := by decide +kernel
theorem dX5_bow_45 : decode cX5_bow 45 = .ok (.getfield 135, 3) := by decide +kernel
theorem dX5_bow_48 : decode cX5_bow 48 = .ok (.goto 5, 3) := by decide +kernel
theorem dX5_bow_51 : decode cX5_bow 51 = .ok (.bipush (-3), 2) := by decide +kernel
theorem dX5_bow_53 : decode cX5_bow 53 = .ok (.ireturn, 1) := by decide +kernel
theorem dX5_stroke_0 : decode cX5_stroke 0 = .ok (.aload_n 0, 1) := by decide +kernel
theorem dX5_stroke_1 : decode cX5_stroke 1 = .ok (.iload_n 1, 1) := by decide +kernel
theorem dX5_stroke_2 : decode cX5_stroke 2 = .ok (.iload_n 2, 1) := by decide +kernel
theorem dX5_stroke_3 : decode cX5_stroke 3 = .ok (.invokevirtual 51, 3) := by decide +kernel
theorem dX5_stroke_6 : decode cX5_stroke 6 = .ok (.astore 4, 2) := by decide +kernel
theorem dX5_stroke_8 : decode cX5_stroke 8 = .ok (.aload 4, 2) := by decide +kernel
theorem dX5_stroke_10 : decode cX5_stroke 10 = .ok (.ifnull 12, 3) := by decide +kernel
theorem dX5_stroke_13 : decode cX5_stroke 13 = .ok (.iload_n 3, 1) := by decide +kernel
theorem dX5_stroke_14 : decode cX5_stroke 14 = .ok (.iconst 0, 1) := by decide +kernel
theorem dX5_stroke_15 : decode cX5_stroke 15 = .ok (.iconst 1, 1) := by decide +kernel
theorem dX5_stroke_16 : decode cX5_stroke 16 = .ok (.invokestatic 27, 3) := by decide +kernel
theorem dX5_stroke_19 : decode cX5_stroke 19 = .ok (.ifCond .eq 5, 3) := by decide +kernel
theorem dX5_stroke_22 : decode cX5_stroke 22 = .ok (.iconst (-1), 1) := by decide +kernel
theorem dX5_stroke_23 : decode cX5_stroke 23 = .ok (.ireturn, 1) := by decide +kernel
theorem dX5_stroke_24 : decode cX5_stroke 24 = .ok (.aload 4, 2) := by decide +kernel
theorem dX5_stroke_26 : decode cX5_stroke 26 = .ok (.iload_n 3, 1) := by decide +kernel
theorem dX5_stroke_27 : decode cX5_stroke 27 = .ok (.invokevirtual 121, 3) := by decide +kernel
theorem dX5_stroke_30 : decode cX5_stroke 30 = .ok (.astore 5, 2) := by decide +kernel
theorem dX5_stroke_32 : decode cX5_stroke 32 = .ok (.aload 5, 2) := by decide +kernel
theorem dX5_stroke_34 : decode cX5_stroke 34 = .ok (.aload 4, 2) := by decide +kernel
theorem dX5_stroke_36 : decode cX5_stroke 36 = .ok (.iload_n 3, 1) := by decide +kernel
theorem dX5_stroke_37 : decode cX5_stroke 37 = .ok (.invokevirtual 125, 3) := by decide +kernel
theorem dX5_stroke_40 : decode cX5_stroke 40 = .ok (.aload 5, 2) := by decide +kernel
theorem dX5_stroke_42 : decode cX5_stroke 42 = .ok (.invokevirtual 131, 3) := by decide +kernel
theorem dX5_stroke_45 : decode cX5_stroke 45 = .ok (.ifCond .eq 13, 3) := by decide +kernel
theorem dX5_stroke_48 : decode cX5_stroke 48 = .ok (.aload 5, 2) := by decide +kernel
theorem dX5_stroke_50 : decode cX5_stroke 50 = .ok (.getfield 138, 3) := by decide +kernel
theorem dX5_stroke_53 : decode cX5_stroke 53 = .ok (.iload_n 2, 1) := by decide +kernel
theorem dX5_stroke_54 : decode cX5_stroke 54 = .ok (.iaload, 1) := by decide +kernel
theorem dX5_stroke_55 : decode cX5_stroke 55 = .ok (.goto 5, 3) := by decide +kernel
theorem dX5_stroke_58 : decode cX5_stroke 58 = .ok (.bipush (-3), 2) := by decide +kernel
theorem dX5_stroke_60 : decode cX5_stroke 60 = .ok (.ireturn, 1) := by decide +kernel
theorem dX5_strokes_0 : decode cX5_strokes 0 = .ok (.aload_n 0, 1) := by decide +kernel
theorem dX5_strokes_1 : decode cX5_strokes 1 = .ok (.iload_n 1, 1) := by decide +kernel
theorem dX5_strokes_2 : decode cX5_strokes 2 = .ok (.invokevirtual 35, 3) := by decide +kernel
theorem dX5_strokes_5 : decode cX5_strokes 5 = .ok (.astore 4, 2) := by decide +kernel
theorem dX5_strokes_7 : decode cX5_strokes 7 = .ok (.aload 4, 2) := by decide +kernel
theorem dX5_strokes_9 : decode cX5_strokes 9 = .ok (.ifnull 21, 3) := by decide +kernel
theorem dX5_strokes_12 : decode cX5_strokes 12 = .ok (.iload_n 2, 1) := by decide +kernel
theorem dX5_strokes_13 : decode cX5_strokes 13 = .ok (.iconst 0, 1) := by decide +kernel
theorem dX5_strokes_14 : decode cX5_strokes 14 = .ok (.iconst 1, 1) := by decide +kernel
theorem dX5_strokes_15 : decode cX5_strokes 15 = .ok (.invokestatic 27, 3) := by decide +kernel
theorem dX5_strokes_18 : decode cX5_strokes 18 = .ok (.ifCond .ne 12, 3) := by decide +kernel
theorem dX5_strokes_21 : decode cX5_strokes 21 = .ok (.iload_n 3, 1) := by decide +kernel
theorem dX5_strokes_22 : decode cX5_strokes 22 = .ok (.iconst 0, 1) := by decide +kernel
theorem dX5_strokes_23 : decode cX5_strokes 23 = .ok (.iconst 2, 1) := by decide +kernel
theorem dX5_strokes_24 : decode cX5_strokes 24 = .ok (.invokestatic 27, 3) := by decide +kernel
theorem dX5_strokes_27 : decode cX5_strokes 27 = .ok (.ifCond .eq 5, 3) := by decide +kernel
theorem dX5_strokes_30 : decode cX5_strokes 30 = .ok (.iconst (-1), 1) := by decide +kernel
theorem dX5_strokes_31 : decode cX5_strokes 31 = .ok (.ireturn, 1) := by decide +kernel
theorem dX5_strokes_32 : decode cX5_strokes 32 = .ok (.aload 4, 2) := by decide +kernel
theorem dX5_strokes_34 : decode cX5_strokes 34 = .ok (.iload_n 2, 1) := by decide +kernel
theorem dX5_strokes_35 : decode cX5_strokes 35 = .ok (.invokevirtual 121, 3) := by decide +kernel
theorem dX5_strokes_38 : decode cX5_strokes 38 = .ok (.astore 5, 2) := by decide +kernel
theorem dX5_strokes_40 : decode cX5_strokes 40 = .ok (.aload 5, 2) := by decide +kernel
theorem dX5_strokes_42 : decode cX5_strokes 42 = .ok (.aload 4, 2) := by decide +kernel
theorem dX5_strokes_44 : decode cX5_strokes 44 = .ok (.iload_n 2, 1) := by decide +kernel
theorem dX5_strokes_45 : decode cX5_strokes 45 = .ok (.invokevirtual 125, 3) := by decide +kernel
theorem dX5_strokes_48 : decode cX5_strokes 48 = .ok (.aload 5, 2) := by decide +kernel
theorem dX5_strokes_50 : decode cX5_strokes 50 = .ok (.invokevirtual 131, 3) := by decide +kernel
theorem dX5_strokes_53 : decode cX5_strokes 53 = .ok (.ifCond .ne 6, 3) := by decide +kernel
theorem dX5_strokes_56 : decode cX5_strokes 56 = .ok (.bipush (-3), 2) := by decide +kernel
theorem dX5_strokes_58 : decode cX5_strokes 58 = .ok (.ireturn, 1) := by decide +kernel
theorem dX5_strokes_59 : decode cX5_strokes 59 = .ok (.iload_n 3, 1) := by decide +kernel
theorem dX5_strokes_60 : decode cX5_strokes 60 = .ok (.ifCond .ne 11, 3) := by decide +kernel
theorem dX5_strokes_63 : decode cX5_strokes 63 = .ok (.aload 5, 2) := by decide +kernel
theorem dX5_strokes_65 : decode cX5_strokes 65 = .ok (.aload 4, 2) := by decide +kernel
theorem dX5_strokes_67 : decode cX5_strokes 67 = .ok (.invokevirtual 141, 3) := by decide +kernel
theorem dX5_strokes_70 : decode cX5_strokes 70 = .ok (.ireturn, 1) := by decide +kernel
theorem dX5_strokes_71 : decode cX5_strokes 71 = .ok (.aload 5, 2) := by decide +kernel
theorem dX5_strokes_73 : decode cX5_strokes 73 = .ok (.aload 4, 2) := by decide +kernel
theorem dX5_strokes_75 : decode cX5_strokes 75 = .ok (.invokevirtual 145, 3) := by decide +kernel
theorem dX5_strokes_78 : decode cX5_strokes 78 = .ok (.istore 6, 2) := by decide +kernel
theorem dX5_strokes_80 : decode cX5_strokes 80 = .ok (.iload_n 3, 1) := by decide +kernel
theorem dX5_strokes_81 : decode cX5_strokes 81 = .ok (.iconst 1, 1) := by decide +kernel
theorem dX5_strokes_82 : decode cX5_strokes 82 = .ok (.if_icmp .ne 8, 3) := by decide +kernel
theorem dX5_strokes_85 : decode cX5_strokes 85 = .ok (.iload 6, 2) := by decide +kernel
theorem dX5_strokes_87 : decode cX5_strokes 87 = .ok (.goto 17, 3) := by decide +kernel
theorem dX5_strokes_90 : decode cX5_strokes 90 = .ok (.iload 6, 2) := by decide +kernel
theorem dX5_strokes_92 : decode cX5_strokes 92 = .ok (.aload 4, 2) := by decide +kernel
theorem dX5_strokes_94 : decode cX5_strokes 94 = .ok (.getfield 39, 3) := by decide +kernel
theorem dX5_strokes_97 : decode cX5_strokes 97 = .ok (.iadd, 1) := by decide +kernel
theorem dX5_strokes_98 : decode cX5_strokes 98 = .ok (.aload 4, 2) := by decide +kernel
theorem dX5_strokes_100 : decode cX5_strokes 100 = .ok (.invokevirtual 148, 3) := by decide +kernel
theorem dX5_strokes_103 : decode cX5_strokes 103 = .ok (.isub, 1) := by decide +kernel
theorem dX5_strokes_104 : decode cX5_strokes 104 = .ok (.ireturn, 1) := by decide +kernel
theorem dX5_alike_0 : decode cX5_alike 0 = .ok (.aload_n 0, 1) := by decide +kernel
theorem dX5_alike_1 : decode cX5_alike 1 = .ok (.iload_n 1, 1) := by decide +kernel
theorem dX5_alike_2 : decode cX5_alike 2 = .ok (.iload_n 2, 1) := by decide +kernel
theorem dX5_alike_3 : decode cX5_alike 3 = .ok (.invokevirtual 51, 3) := by decide +kernel
theorem dX5_alike_6 : decode cX5_alike 6 = .ok (.astore 5, 2) := by decide +kernel
theorem dX5_alike_8 : decode cX5_alike 8 = .ok (.aload_n 0, 1) := by decide +kernel
theorem dX5_alike_9 : decode cX5_alike 9 = .ok (.iload_n 3, 1) := by decide +kernel
theorem dX5_alike_10 : decode cX5_alike 10 = .ok (.iload 4, 2) := by decide +kernel
theorem dX5_alike_12 : decode cX5_alike 12 = .ok (.invokevirtual 51, 3) := by decide +kernel
theorem dX5_alike_15 : decode cX5_alike 15 = .ok (.astore 6, 2) := by decide +kernel
theorem dX5_alike_17 : decode cX5_alike 17 = .ok (.aload 5, 2) := by decide +kernel
theorem dX5_alike_19 : decode cX5_alike 19 = .ok (.ifnull 13, 3) := by decide +kernel
theorem dX5_alike_22 : decode cX5_alike 22 = .ok (.aload 6, 2) := by decide +kernel
theorem dX5_alike_24 : decode cX5_alike 24 = .ok (.ifnull 8, 3) := by decide +kernel
theorem dX5_alike_27 : decode cX5_alike 27 = .ok (.iload_n 1, 1) := by decide +kernel
theorem dX5_alike_28 : decode cX5_alike 28 = .ok (.iload_n 3, 1) := by decide +kernel
theorem dX5_alike_29 : decode cX5_alike 29 = .ok (.if_icmp .ne 5, 3) := by decide +kernel
theorem dX5_alike_32 : decode cX5_alike 32 = .ok (.iconst (-1), 1) := by decide +kernel
theorem dX5_alike_33 : decode cX5_alike 33 = .ok (.ireturn, 1) := by decide +kernel
theorem dX5_alike_34 : decode cX5_alike 34 = .ok (.aload 5, 2) := by decide +kernel
theorem dX5_alike_36 : decode cX5_alike 36 = .ok (.iload_n 2, 1) := by decide +kernel
theorem dX5_alike_37 : decode cX5_alike 37 = .ok (.aload 6, 2) := by decide +kernel
theorem dX5_alike_39 : decode cX5_alike 39 = .ok (.iload 4, 2) := by decide +kernel
theorem dX5_alike_41 : decode cX5_alike 41 = .ok (.invokestatic 152, 3) := by decide +kernel
theorem dX5_alike_44 : decode cX5_alike 44 = .ok (.ifCond .eq 7, 3) := by decide +kernel
theorem dX5_alike_47 : decode cX5_alike 47 = .ok (.iconst 1, 1) := by decide +kernel
theorem dX5_alike_48 : decode cX5_alike 48 = .ok (.goto 4, 3) := by decide +kernel
theorem dX5_alike_51 : decode cX5_alike 51 = .ok (.iconst 0, 1) := by decide +kernel
theorem dX5_alike_52 : decode cX5_alike 52 = .ok (.ireturn, 1) := by decide +kernel
theorem dX5_union_0 : decode cX5_union 0 = .ok (.iload_n 1, 1) := by decide +kernel
theorem dX5_union_1 : decode cX5_union 1 = .ok (.iconst 0, 1) := by decide +kernel
theorem dX5_union_2 : decode cX5_union 2 = .ok (.iconst 2, 1) := by decide +kernel
theorem dX5_union_3 : decode cX5_union 3 = .ok (.invokestatic 27, 3) := by decide +kernel
theorem dX5_union_6 : decode cX5_union 6 = .ok (.ifCond .eq 5, 3) := by decide +kernel
theorem dX5_union_9 : decode cX5_union 9 = .ok (.iconst (-1), 1) := by decide +kernel
theorem dX5_union_10 : decode cX5_union 10 = .ok (.ireturn, 1) := by decide +kernel
theorem dX5_union_11 : decode cX5_union 11 = .ok (.aload_n 0, 1) := by decide +kernel
theorem dX5_union_12 : decode cX5_union 12 = .ok (.invokevirtual 156, 3) := by decide +kernel
theorem dX5_union_15 : decode cX5_union 15 = .ok (.aload_n 0, 1) := by decide +kernel
theorem dX5_union_16 : decode cX5_union 16 = .ok (.invokevirtual 159, 3) := by decide +kernel
theorem dX5_union_19 : decode cX5_union 19 = .ok (.istore_n 2, 1) := by decide +kernel
theorem dX5_union_20 : decode cX5_union 20 = .ok (.iload_n 1, 1) := by decide +kernel
theorem dX5_union_21 : decode cX5_union 21 = .ok (.ifCond .ne 5, 3) := by decide +kernel
theorem dX5_union_24 : decode cX5_union 24 = .ok (.iload_n 2, 1) := by decide +kernel
theorem dX5_union_25 : decode cX5_union 25 = .ok (.ireturn, 1) := by decide +kernel
theorem dX5_union_26 : decode cX5_union 26 = .ok (.iload_n 1, 1) := by decide +kernel
theorem dX5_union_27 : decode cX5_union 27 = .ok (.iconst 1, 1) := by decide +kernel
theorem dX5_union_28 : decode cX5_union 28 = .ok (.if_icmp .ne 11, 3) := by decide +kernel
theorem dX5_union_31 : decode cX5_union 31 = .ok (.aload_n 0, 1) := by decide +kernel
theorem dX5_union_32 : decode cX5_union 32 = .ok (.iload_n 2, 1) := by decide +kernel
theorem dX5_union_33 : decode cX5_union 33 = .ok (.invokevirtual 162, 3) := by decide +kernel
theorem dX5_union_36 : decode cX5_union 36 = .ok (.goto 8, 3) := by decide +kernel
theorem dX5_union_39 : decode cX5_union 39 = .ok (.aload_n 0, 1) := by decide +kernel
theorem dX5_union_40 : decode cX5_union 40 = .ok (.iload_n 2, 1) := by decide +kernel
theorem dX5_union_41 : decode cX5_union 41 = .ok (.invokevirtual 165, 3) := by decide +kernel
theorem dX5_union_44 : decode cX5_union 44 = .ok (.ireturn, 1) := by decide +kernel
theorem dX5_many_0 : decode cX5_many 0 = .ok (.iload_n 1, 1) := by decide +kernel
theorem dX5_many_1 : decode cX5_many 1 = .ok (.tableswitch 73 0 6 #[43, 43, 43, 53, 58, 63, 68], 43) := by decide +kernel
theorem dX5_many_44 : decode cX5_many 44 = .ok (.aload_n 0, 1) := by decide +kernel
theorem dX5_many_45 : decode cX5_many 45 = .ok (.getfield 16, 3) := by decide +kernel
theorem dX5_many_48 : decode cX5_many 48 = .ok (.iload_n 1, 1) := by decide +kernel
theorem dX5_many_49 : decode cX5_many 49 = .ok (.aaload, 1) := by decide +kernel
theorem dX5_many_50 : decode cX5_many 50 = .ok (.getfield 39, 3) := by decide +kernel
theorem dX5_many_53 : decode cX5_many 53 = .ok (.ireturn, 1) := by decide +kernel
theorem dX5_many_54 : decode cX5_many 54 = .ok (.aload_n 0, 1) := by decide +kernel
theorem dX5_many_55 : decode cX5_many 55 = .ok (.invokevirtual 168, 3) := by decide +kernel
theorem dX5_many_58 : decode cX5_many 58 = .ok (.ireturn, 1) := by decide +kernel
theorem dX5_many_59 : decode cX5_many 59 = .ok (.aload_n 0, 1) := by decide +kernel
theorem dX5_many_60 : decode cX5_many 60 = .ok (.invokevirtual 171, 3) := by decide +kernel
theorem dX5_many_63 : decode cX5_many 63 = .ok (.ireturn, 1) := by decide +kernel
theorem dX5_many_64 : decode cX5_many 64 = .ok (.aload_n 0, 1) := by decide +kernel
theorem dX5_many_65 : decode cX5_many 65 = .ok (.invokevirtual 174, 3) := by decide +kernel
theorem dX5_many_68 : decode cX5_many 68 = .ok (.ireturn, 1) := by decide +kernel
theorem dX5_many_69 : decode cX5_many 69 = .ok (.aload_n 0, 1) := by decide +kernel
theorem dX5_many_70 : decode cX5_many 70 = .ok (.invokevirtual 175, 3) := by decide +kernel
theorem dX5_many_73 : decode cX5_many 73 = .ok (.ireturn, 1) := by decide +kernel
theorem dX5_many_74 : decode cX5_many 74 = .ok (.iconst (-1), 1) := by decide +kernel
theorem dX5_many_75 : decode cX5_many 75 = .ok (.ireturn, 1) := by decide +kernel
theorem dX5_isOutside_0 : decode cX5_isOutside 0 = .ok (.iload_n 0, 1) := by decide +kernel
theorem dX5_isOutside_1 : decode cX5_isOutside 1 = .ok (.iload_n 1, 1) := by decide +kernel
theorem dX5_isOutside_2 : decode cX5_isOutside 2 = .ok (.if_icmp .lt 8, 3) := by decide +kernel
theorem dX5_isOutside_5 : decode cX5_isOutside 5 = .ok (.iload_n 0, 1) := by decide +kernel
theorem dX5_isOutside_6 : decode cX5_isOutside 6 = .ok (.iload_n 2, 1) := by decide +kernel
theorem dX5_isOutside_7 : decode cX5_isOutside 7 = .ok (.if_icmp .le 7, 3) := by decide +kernel
theorem dX5_isOutside_10 : decode cX5_isOutside 10 = .ok (.iconst 1, 1) := by decide +kernel
theorem dX5_isOutside_11 : decode cX5_isOutside 11 = .ok (.goto 4, 3) := by decide +kernel
theorem dX5_isOutside_14 : decode cX5_isOutside 14 = .ok (.iconst 0, 1) := by decide +kernel
theorem dX5_isOutside_15 : decode cX5_isOutside 15 = .ok (.ireturn, 1) := by decide +kernel
theorem dX5_marksMayBe_0 : decode cX5_marksMayBe 0 = .ok (.iload_n 1, 1) := by decide +kernel
theorem dX5_marksMayBe_1 : decode cX5_marksMayBe 1 = .ok (.iconst 2, 1) := by decide +kernel
theorem dX5_marksMayBe_2 : decode cX5_marksMayBe 2 = .ok (.iand, 1) := by decide +kernel
theorem dX5_marksMayBe_3 : decode cX5_marksMayBe 3 = .ok (.ifCond .eq 7, 3) := by decide +kernel
theorem dX5_marksMayBe_6 : decode cX5_marksMayBe 6 = .ok (.iconst 1, 1) := by decide +kernel
theorem dX5_marksMayBe_7 : decode cX5_marksMayBe 7 = .ok (.goto 4, 3) := by decide +kernel
theorem dX5_marksMayBe_10 : decode cX5_marksMayBe 10 = .ok (.iconst 0, 1) := by decide +kernel
theorem dX5_marksMayBe_11 : decode cX5_marksMayBe 11 = .ok (.istore_n 2, 1) := by decide +kernel
theorem dX5_marksMayBe_12 : decode cX5_marksMayBe 12 = .ok (.iload_n 1, 1) := by decide +kernel
theorem dX5_marksMayBe_13 : decode cX5_marksMayBe 13 = .ok (.iconst 1, 1) := by decide +kernel
theorem dX5_marksMayBe_14 : decode cX5_marksMayBe 14 = .ok (.iand, 1) := by decide +kernel
theorem dX5_marksMayBe_15 : decode cX5_marksMayBe 15 = .ok (.ifCond .eq 7, 3) := by decide +kernel
theorem dX5_marksMayBe_18 : decode cX5_marksMayBe 18 = .ok (.iconst 1, 1) := by decide +kernel
theorem dX5_marksMayBe_19 : decode cX5_marksMayBe 19 = .ok (.goto 4, 3) := by decide +kernel
theorem dX5_marksMayBe_22 : decode cX5_marksMayBe 22 = .ok (.iconst 0, 1) := by decide +kernel
theorem dX5_marksMayBe_23 : decode cX5_marksMayBe 23 = .ok (.istore_n 3, 1) := by decide +kernel
theorem dX5_marksMayBe_24 : decode cX5_marksMayBe 24 = .ok (.iload_n 2, 1) := by decide +kernel
theorem dX5_marksMayBe_25 : decode cX5_marksMayBe 25 = .ok (.ifCond .eq 11, 3) := by decide +kernel
theorem dX5_marksMayBe_28 : decode cX5_marksMayBe 28 = .ok (.iload_n 0, 1) := by decide +kernel
theorem dX5_marksMayBe_29 : decode cX5_marksMayBe 29 = .ok (.ifCond .le 11, 3) := by decide +kernel
theorem dX5_marksMayBe_32 : decode cX5_marksMayBe 32 = .ok (.iload_n 3, 1) := by decide +kernel
theorem dX5_marksMayBe_33 : decode cX5_marksMayBe 33 = .ok (.ifCond .ne 7, 3) := by decide +kernel
theorem dX5_marksMayBe_36 : decode cX5_marksMayBe 36 = .ok (.iconst 1, 1) := by decide +kernel
theorem dX5_marksMayBe_37 : decode cX5_marksMayBe 37 = .ok (.goto 4, 3) := by decide +kernel
theorem dX5_marksMayBe_40 : decode cX5_marksMayBe 40 = .ok (.iconst 0, 1) := by decide +kernel
theorem dX5_marksMayBe_41 : decode cX5_marksMayBe 41 = .ok (.ireturn, 1) := by decide +kernel
theorem dX5_partAt_0 : decode cX5_partAt 0 = .ok (.iload_n 1, 1) := by decide +kernel
theorem dX5_partAt_1 : decode cX5_partAt 1 = .ok (.iconst 0, 1) := by decide +kernel
theorem dX5_partAt_2 : decode cX5_partAt 2 = .ok (.iconst 2, 1) := by decide +kernel
theorem dX5_partAt_3 : decode cX5_partAt 3 = .ok (.invokestatic 27, 3) := by decide +kernel
theorem dX5_partAt_6 : decode cX5_partAt 6 = .ok (.ifCond .eq 7, 3) := by decide +kernel
theorem dX5_partAt_9 : decode cX5_partAt 9 = .ok (.aconst_null, 1) := by decide +kernel
theorem dX5_partAt_10 : decode cX5_partAt 10 = .ok (.goto 9, 3) := by decide +kernel
theorem dX5_partAt_13 : decode cX5_partAt 13 = .ok (.aload_n 0, 1) := by decide +kernel
theorem dX5_partAt_14 : decode cX5_partAt 14 = .ok (.getfield 16, 3) := by decide +kernel
theorem dX5_partAt_17 : decode cX5_partAt 17 = .ok (.iload_n 1, 1) := by decide +kernel
theorem dX5_partAt_18 : decode cX5_partAt 18 = .ok (.aaload, 1) := by decide +kernel
theorem dX5_partAt_19 : decode cX5_partAt 19 = .ok (.areturn, 1) := by decide +kernel
theorem dX5_partWith_0 : decode cX5_partWith 0 = .ok (.aload_n 0, 1) := by decide +kernel
theorem dX5_partWith_1 : decode cX5_partWith 1 = .ok (.iload_n 1, 1) := by decide +kernel
theorem dX5_partWith_2 : decode cX5_partWith 2 = .ok (.invokevirtual 35, 3) := by decide +kernel
theorem dX5_partWith_5 : decode cX5_partWith 5 = .ok (.astore_n 3, 1) := by decide +kernel
theorem dX5_partWith_6 : decode cX5_partWith 6 = .ok (.aload_n 3, 1) := by decide +kernel
theorem dX5_partWith_7 : decode cX5_partWith 7 = .ok (.ifnull 17, 3) := by decide +kernel
theorem dX5_partWith_10 : decode cX5_partWith 10 = .ok (.iload_n 2, 1) := by decide +kernel
theorem dX5_partWith_11 : decode cX5_partWith 11 = .ok (.iconst 0, 1) := by decide +kernel
theorem dX5_partWith_12 : decode cX5_partWith 12 = .ok (.aload_n 3, 1) := by decide +kernel
theorem dX5_partWith_13 : decode cX5_partWith 13 = .ok (.getfield 39, 3) := by decide +kernel
theorem dX5_partWith_16 : decode cX5_partWith 16 = .ok (.iconst 1, 1) := by decide +kernel
theorem dX5_partWith_17 : decode cX5_partWith 17 = .ok (.isub, 1) := by decide +kernel
theorem dX5_partWith_18 : decode cX5_partWith 18 = .ok (.invokestatic 27, 3) := by decide +kernel
theorem dX5_partWith_21 : decode cX5_partWith 21 = .ok (.ifCond .eq 7, 3) := by decide +kernel
theorem dX5_partWith_24 : decode cX5_partWith 24 = .ok (.aconst_null, 1) := by decide +kernel
theorem dX5_partWith_25 : decode cX5_partWith 25 = .ok (.goto 4, 3) := by decide +kernel
theorem dX5_partWith_28 : decode cX5_partWith 28 = .ok (.aload_n 3, 1) := by decide +kernel
theorem dX5_partWith_29 : decode cX5_partWith 29 = .ok (.areturn, 1) := by decide +kernel
theorem dX5_hasFingering_0 : decode cX5_hasFingering 0 = .ok (.aload_n 1, 1) := by decide +kernel
theorem dX5_hasFingering_1 : decode cX5_hasFingering 1 = .ok (.getfield 31, 3) := by decide +kernel
theorem dX5_hasFingering_4 : decode cX5_hasFingering 4 = .ok (.ifCond .ne 24, 3) := by decide +kernel
theorem dX5_hasFingering_7 : decode cX5_hasFingering 7 = .ok (.aload_n 1, 1) := by decide +kernel
theorem dX5_hasFingering_8 : decode cX5_hasFingering 8 = .ok (.aload_n 0, 1) := by decide +kernel
theorem dX5_hasFingering_9 : decode cX5_hasFingering 9 = .ok (.getfield 23, 3) := by decide +kernel
theorem dX5_hasFingering_12 : decode cX5_hasFingering 12 = .ok (.aload_n 0, 1) := by decide +kernel
theorem dX5_hasFingering_13 : decode cX5_hasFingering 13 = .ok (.getfield 7, 3) := by decide +kernel
theorem dX5_hasFingering_16 : decode cX5_hasFingering 16 = .ok (.aload_n 1, 1) := by decide +kernel
theorem dX5_hasFingering_17 : decode cX5_hasFingering 17 = .ok (.invokevirtual 178, 3) := by decide +kernel
theorem dX5_hasFingering_20 : decode cX5_hasFingering 20 = .ok (.putfield 92, 3) := by decide +kernel
theorem dX5_hasFingering_23 : decode cX5_hasFingering 23 = .ok (.aload_n 1, 1) := by decide +kernel
theorem dX5_hasFingering_24 : decode cX5_hasFingering 24 = .ok (.iconst 1, 1) := by decide +kernel
theorem dX5_hasFingering_25 : decode cX5_hasFingering 25 = .ok (.putfield 31, 3) := by decide +kernel
theorem dX5_hasFingering_28 : decode cX5_hasFingering 28 = .ok (.aload_n 1, 1) := by decide +kernel
theorem dX5_hasFingering_29 : decode cX5_hasFingering 29 = .ok (.getfield 92, 3) := by decide +kernel
theorem dX5_hasFingering_32 : decode cX5_hasFingering 32 = .ok (.ldc 182, 2) := by decide +kernel
theorem dX5_hasFingering_34 : decode cX5_hasFingering 34 = .ok (.if_icmp .ge 7, 3) := by decide +kernel
theorem dX5_hasFingering_37 : decode cX5_hasFingering 37 = .ok (.iconst 1, 1) := by decide +kernel
theorem dX5_hasFingering_38 : decode cX5_hasFingering 38 = .ok (.goto 4, 3) := by decide +kernel
theorem dX5_hasFingering_41 : decode cX5_hasFingering 41 = .ok (.iconst 0, 1) := by decide +kernel
theorem dX5_hasFingering_42 : decode cX5_hasFingering 42 = .ok (.ireturn, 1) := by decide +kernel
theorem dX5_areAlike_0 : decode cX5_areAlike 0 = .ok (.aload_n 0, 1) := by decide +kernel
theorem dX5_areAlike_1 : decode cX5_areAlike 1 = .ok (.getfield 71, 3) := by decide +kernel
theorem dX5_areAlike_4 : decode cX5_areAlike 4 = .ok (.iload_n 1, 1) := by decide +kernel
theorem dX5_areAlike_5 : decode cX5_areAlike 5 = .ok (.iaload, 1) := by decide +kernel
theorem dX5_areAlike_6 : decode cX5_areAlike 6 = .ok (.aload_n 2, 1) := by decide +kernel
theorem dX5_areAlike_7 : decode cX5_areAlike 7 = .ok (.getfield 71, 3) := by decide +kernel
theorem dX5_areAlike_10 : decode cX5_areAlike 10 = .ok (.iload_n 3, 1) := by decide +kernel
theorem dX5_areAlike_11 : decode cX5_areAlike 11 = .ok (.iaload, 1) := by decide +kernel
theorem dX5_areAlike_12 : decode cX5_areAlike 12 = .ok (.if_icmp .ne 22, 3) := by decide +kernel
theorem dX5_areAlike_15 : decode cX5_areAlike 15 = .ok (.aload_n 0, 1) := by decide +kernel
theorem dX5_areAlike_16 : decode cX5_areAlike 16 = .ok (.getfield 64, 3) := by decide +kernel
theorem dX5_areAlike_19 : decode cX5_areAlike 19 = .ok (.iload_n 1, 1) := by decide +kernel
theorem dX5_areAlike_20 : decode cX5_areAlike 20 = .ok (.iaload, 1) := by decide +kernel
theorem dX5_areAlike_21 : decode cX5_areAlike 21 = .ok (.aload_n 2, 1) := by decide +kernel
theorem dX5_areAlike_22 : decode cX5_areAlike 22 = .ok (.getfield 64, 3) := by decide +kernel
theorem dX5_areAlike_25 : decode cX5_areAlike 25 = .ok (.iload_n 3, 1) := by decide +kernel
theorem dX5_areAlike_26 : decode cX5_areAlike 26 = .ok (.iaload, 1) := by decide +kernel
theorem dX5_areAlike_27 : decode cX5_areAlike 27 = .ok (.if_icmp .ne 7, 3) := by decide +kernel
theorem dX5_areAlike_30 : decode cX5_areAlike 30 = .ok (.iconst 1, 1) := by decide +kernel
theorem dX5_areAlike_31 : decode cX5_areAlike 31 = .ok (.goto 4, 3) := by decide +kernel
theorem dX5_areAlike_34 : decode cX5_areAlike 34 = .ok (.iconst 0, 1) := by decide +kernel
theorem dX5_areAlike_35 : decode cX5_areAlike 35 = .ok (.ireturn, 1) := by decide +kernel
theorem dX5_workAllBowings_0 : decode cX5_workAllBowings 0 = .ok (.iconst 0, 1) := by decide +kernel
theorem dX5_workAllBowings_1 : decode cX5_workAllBowings 1 = .ok (.istore_n 1, 1) := by decide +kernel
theorem dX5_workAllBowings_2 : decode cX5_workAllBowings 2 = .ok (.iload_n 1, 1) := by decide +kernel
theorem dX5_workAllBowings_3 : decode cX5_workAllBowings 3 = .ok (.iconst 3, 1) := by decide +kernel
theorem dX5_workAllBowings_4 : decode cX5_workAllBowings 4 = .ok (.if_icmp .ge 47, 3) := by decide +kernel
theorem dX5_workAllBowings_7 : decode cX5_workAllBowings 7 = .ok (.aload_n 0, 1) := by decide +kernel
theorem dX5_workAllBowings_8 : decode cX5_workAllBowings 8 = .ok (.getfield 16, 3) := by decide +kernel
theorem dX5_workAllBowings_11 : decode cX5_workAllBowings 11 = .ok (.iload_n 1, 1) := by decide +kernel
theorem dX5_workAllBowings_12 : decode cX5_workAllBowings 12 = .ok (.aaload, 1) := by decide +kernel
theorem dX5_workAllBowings_13 : decode cX5_workAllBowings 13 = .ok (.getfield 183, 3) := by decide +kernel
theorem dX5_workAllBowings_16 : decode cX5_workAllBowings 16 = .ok (.aload_n 0, 1) := by decide +kernel
theorem dX5_workAllBowings_17 : decode cX5_workAllBowings 17 = .ok (.getfield 16, 3) := by decide +kernel
theorem dX5_workAllBowings_20 : decode cX5_workAllBowings 20 = .ok (.iload_n 1, 1) := by decide +kernel
theorem dX5_workAllBowings_21 : decode cX5_workAllBowings 21 = .ok (.aaload, 1) := by decide +kernel
theorem dX5_workAllBowings_22 : decode cX5_workAllBowings 22 = .ok (.iconst 0, 1) := by decide +kernel
theorem dX5_workAllBowings_23 : decode cX5_workAllBowings 23 = .ok (.invokevirtual 125, 3) := by decide +kernel
theorem dX5_workAllBowings_26 : decode cX5_workAllBowings 26 = .ok (.aload_n 0, 1) := by decide +kernel
theorem dX5_workAllBowings_27 : decode cX5_workAllBowings 27 = .ok (.getfield 16, 3) := by decide +kernel
theorem dX5_workAllBowings_30 : decode cX5_workAllBowings 30 = .ok (.iload_n 1, 1) := by decide +kernel
theorem dX5_workAllBowings_31 : decode cX5_workAllBowings 31 = .ok (.aaload, 1) := by decide +kernel
theorem dX5_workAllBowings_32 : decode cX5_workAllBowings 32 = .ok (.getfield 187, 3) := by decide +kernel
theorem dX5_workAllBowings_35 : decode cX5_workAllBowings 35 = .ok (.aload_n 0, 1) := by decide +kernel
theorem dX5_workAllBowings_36 : decode cX5_workAllBowings 36 = .ok (.getfield 16, 3) := by decide +kernel
theorem dX5_workAllBowings_39 : decode cX5_workAllBowings 39 = .ok (.iload_n 1, 1) := by decide +kernel
theorem dX5_workAllBowings_40 : decode cX5_workAllBowings 40 = .ok (.aaload, 1) := by decide +kernel
theorem dX5_workAllBowings_41 : decode cX5_workAllBowings 41 = .ok (.iconst 1, 1) := by decide +kernel
theorem dX5_workAllBowings_42 : decode cX5_workAllBowings 42 = .ok (.invokevirtual 125, 3) := by decide +kernel
theorem dX5_workAllBowings_45 : decode cX5_workAllBowings 45 = .ok (.iinc 1 1, 3) := by decide +kernel
theorem dX5_workAllBowings_48 : decode cX5_workAllBowings 48 = .ok (.goto (-46), 3) := by decide +kernel
theorem dX5_workAllBowings_51 : decode cX5_workAllBowings 51 = .ok (.return_, 1) := by decide +kernel
theorem dX5_leastUnion_0 : decode cX5_leastUnion 0 = .ok (.iconst 0, 1) := by decide +kernel
theorem dX5_leastUnion_1 : decode cX5_leastUnion 1 = .ok (.istore_n 1, 1) := by decide +kernel
theorem dX5_leastUnion_2 : decode cX5_leastUnion 2 = .ok (.aload_n 0, 1) := by decide +kernel
theorem dX5_leastUnion_3 : decode cX5_leastUnion 3 = .ok (.iconst 0, 1) := by decide +kernel
theorem dX5_leastUnion_4 : decode cX5_leastUnion 4 = .ok (.invokevirtual 162, 3) := by decide +kernel
theorem dX5_leastUnion_7 : decode cX5_leastUnion 7 = .ok (.istore_n 2, 1) := by decide +kernel
theorem dX5_leastUnion_8 : decode cX5_leastUnion 8 = .ok (.iconst 1, 1) := by decide +kernel
theorem dX5_leastUnion_9 : decode cX5_leastUnion 9 = .ok (.istore_n 3, 1) := by decide +kernel
theorem dX5_leastUnion_10 : decode cX5_leastUnion 10 = .ok (.iload_n 3, 1) := by decide +kernel
theorem dX5_leastUnion_11 : decode cX5_leastUnion 11 = .ok (.bipush 8, 2) := by decide +kernel
theorem dX5_leastUnion_13 : decode cX5_leastUnion 13 = .ok (.if_icmp .ge 27, 3) := by decide +kernel
theorem dX5_leastUnion_16 : decode cX5_leastUnion 16 = .ok (.aload_n 0, 1) := by decide +kernel
theorem dX5_leastUnion_17 : decode cX5_leastUnion 17 = .ok (.iload_n 3, 1) := by decide +kernel
theorem dX5_leastUnion_18 : decode cX5_leastUnion 18 = .ok (.invokevirtual 162, 3) := by decide +kernel
theorem dX5_leastUnion_21 : decode cX5_leastUnion 21 = .ok (.istore 4, 2) := by decide +kernel
theorem dX5_leastUnion_23 : decode cX5_leastUnion 23 = .ok (.iload 4, 2) := by decide +kernel
theorem dX5_leastUnion_25 : decode cX5_leastUnion 25 = .ok (.iload_n 2, 1) := by decide +kernel
theorem dX5_leastUnion_26 : decode cX5_leastUnion 26 = .ok (.if_icmp .ge 8, 3) := by decide +kernel
theorem dX5_leastUnion_29 : decode cX5_leastUnion 29 = .ok (.iload_n 3, 1) := by decide +kernel
theorem dX5_leastUnion_30 : decode cX5_leastUnion 30 = .ok (.istore_n 1, 1) := by decide +kernel
theorem dX5_leastUnion_31 : decode cX5_leastUnion 31 = .ok (.iload 4, 2) := by decide +kernel
theorem dX5_leastUnion_33 : decode cX5_leastUnion 33 = .ok (.istore_n 2, 1) := by decide +kernel
theorem dX5_leastUnion_34 : decode cX5_leastUnion 34 = .ok (.iinc 3 1, 3) := by decide +kernel
theorem dX5_leastUnion_37 : decode cX5_leastUnion 37 = .ok (.goto (-27), 3) := by decide +kernel
theorem dX5_leastUnion_40 : decode cX5_leastUnion 40 = .ok (.iload_n 1, 1) := by decide +kernel
theorem dX5_leastUnion_41 : decode cX5_leastUnion 41 = .ok (.ireturn, 1) := by decide +kernel
theorem dX5_unionSum_0 : decode cX5_unionSum 0 = .ok (.iconst 0, 1) := by decide +kernel
theorem dX5_unionSum_1 : decode cX5_unionSum 1 = .ok (.istore_n 2, 1) := by decide +kernel
theorem dX5_unionSum_2 : decode cX5_unionSum 2 = .ok (.iconst 0, 1) := by decide +kernel
theorem dX5_unionSum_3 : decode cX5_unionSum 3 = .ok (.istore_n 3, 1) := by decide +kernel
theorem dX5_unionSum_4 : decode cX5_unionSum 4 = .ok (.iload_n 3, 1) := by decide +kernel
theorem dX5_unionSum_5 : decode cX5_unionSum 5 = .ok (.iconst 3, 1) := by decide +kernel
theorem dX5_unionSum_6 : decode cX5_unionSum 6 = .ok (.if_icmp .ge 21, 3) := by decide +kernel
theorem dX5_unionSum_9 : decode cX5_unionSum 9 = .ok (.iload_n 2, 1) := by decide +kernel
theorem dX5_unionSum_10 : decode cX5_unionSum 10 = .ok (.aload_n 0, 1) := by decide +kernel
theorem dX5_unionSum_11 : decode cX5_unionSum 11 = .ok (.iload_n 1, 1) := by decide +kernel
theorem dX5_unionSum_12 : decode cX5_unionSum 12 = .ok (.iload_n 3, 1) := by decide +kernel
theorem dX5_unionSum_13 : decode cX5_unionSum 13 = .ok (.invokevirtual 190, 3) := by decide +kernel
theorem dX5_unionSum_16 : decode cX5_unionSum 16 = .ok (.getfield 135, 3) := by decide +kernel
theorem dX5_unionSum_19 : decode cX5_unionSum 19 = .ok (.iadd, 1) := by decide +kernel
theorem dX5_unionSum_20 : decode cX5_unionSum 20 = .ok (.istore_n 2, 1) := by decide +kernel
theorem dX5_unionSum_21 : decode cX5_unionSum 21 = .ok (.iinc 3 1, 3) := by decide +kernel
theorem dX5_unionSum_24 : decode cX5_unionSum 24 = .ok (.goto (-20), 3) := by decide +kernel
theorem dX5_unionSum_27 : decode cX5_unionSum 27 = .ok (.iload_n 2, 1) := by decide +kernel
theorem dX5_unionSum_28 : decode cX5_unionSum 28 = .ok (.ldc 182, 2) := by decide +kernel
theorem dX5_unionSum_30 : decode cX5_unionSum 30 = .ok (.if_icmp .lt 8, 3) := by decide +kernel
theorem dX5_unionSum_33 : decode cX5_unionSum 33 = .ok (.ldc 182, 2) := by decide +kernel
theorem dX5_unionSum_35 : decode cX5_unionSum 35 = .ok (.goto 12, 3) := by decide +kernel
theorem dX5_unionSum_38 : decode cX5_unionSum 38 = .ok (.iload_n 2, 1) := by decide +kernel
theorem dX5_unionSum_39 : decode cX5_unionSum 39 = .ok (.iconst 4, 1) := by decide +kernel
theorem dX5_unionSum_40 : decode cX5_unionSum 40 = .ok (.aload_n 0, 1) := by decide +kernel
theorem dX5_unionSum_41 : decode cX5_unionSum 41 = .ok (.iload_n 1, 1) := by decide +kernel
theorem dX5_unionSum_42 : decode cX5_unionSum 42 = .ok (.invokevirtual 165, 3) := by decide +kernel
theorem dX5_unionSum_45 : decode cX5_unionSum 45 = .ok (.imul, 1) := by decide +kernel
theorem dX5_unionSum_46 : decode cX5_unionSum 46 = .ok (.iadd, 1) := by decide +kernel
theorem dX5_unionSum_47 : decode cX5_unionSum 47 = .ok (.ireturn, 1) := by decide +kernel
theorem dX5_unionBowing_0 : decode cX5_unionBowing 0 = .ok (.aload_n 0, 1) := by decide +kernel
theorem dX5_unionBowing_1 : decode cX5_unionBowing 1 = .ok (.getfield 16, 3) := by decide +kernel
theorem dX5_unionBowing_4 : decode cX5_unionBowing 4 = .ok (.iload_n 2, 1) := by decide +kernel
theorem dX5_unionBowing_5 : decode cX5_unionBowing 5 = .ok (.aaload, 1) := by decide +kernel
theorem dX5_unionBowing_6 : decode cX5_unionBowing 6 = .ok (.iload_n 1, 1) := by decide +kernel
theorem dX5_unionBowing_7 : decode cX5_unionBowing 7 = .ok (.iload_n 2, 1) := by decide +kernel
theorem dX5_unionBowing_8 : decode cX5_unionBowing 8 = .ok (.ishr, 1) := by decide +kernel
theorem dX5_unionBowing_9 : decode cX5_unionBowing 9 = .ok (.iconst 1, 1) := by decide +kernel
theorem dX5_unionBowing_10 : decode cX5_unionBowing 10 = .ok (.iand, 1) := by decide +kernel
theorem dX5_unionBowing_11 : decode cX5_unionBowing 11 = .ok (.invokevirtual 121, 3) := by decide +kernel
theorem dX5_unionBowing_14 : decode cX5_unionBowing 14 = .ok (.areturn, 1) := by decide +kernel
theorem dX5_countUnlike_0 : decode cX5_countUnlike 0 = .ok (.iconst 0, 1) := by decide +kernel
theorem dX5_countUnlike_1 : decode cX5_countUnlike 1 = .ok (.istore_n 2, 1) := by decide +kernel
theorem dX5_countUnlike_2 : decode cX5_countUnlike 2 = .ok (.iconst 0, 1) := by decide +kernel
theorem dX5_countUnlike_3 : decode cX5_countUnlike 3 = .ok (.istore_n 3, 1) := by decide +kernel
theorem dX5_countUnlike_4 : decode cX5_countUnlike 4 = .ok (.iload_n 3, 1) := by decide +kernel
theorem dX5_countUnlike_5 : decode cX5_countUnlike 5 = .ok (.iconst 3, 1) := by decide +kernel
theorem dX5_countUnlike_6 : decode cX5_countUnlike 6 = .ok (.if_icmp .ge 72, 3) := by decide +kernel
theorem dX5_countUnlike_9 : decode cX5_countUnlike 9 = .ok (.iload_n 3, 1) := by decide +kernel
theorem dX5_countUnlike_10 : decode cX5_countUnlike 10 = .ok (.iconst 1, 1) := by decide +kernel
theorem dX5_countUnlike_11 : decode cX5_countUnlike 11 = .ok (.iadd, 1) := by decide +kernel
theorem dX5_countUnlike_12 : decode cX5_countUnlike 12 = .ok (.istore 4, 2) := by decide +kernel
theorem dX5_countUnlike_14 : decode cX5_countUnlike 14 = .ok (.iload 4, 2) := by decide +kernel
theorem dX5_countUnlike_16 : decode cX5_countUnlike 16 = .ok (.iconst 3, 1) := by decide +kernel
theorem dX5_countUnlike_17 : decode cX5_countUnlike 17 = .ok (.if_icmp .ge 55, 3) := by decide +kernel
theorem dX5_countUnlike_20 : decode cX5_countUnlike 20 = .ok (.aload_n 0, 1) := by decide +kernel
theorem dX5_countUnlike_21 : decode cX5_countUnlike 21 = .ok (.iload_n 1, 1) := by decide +kernel
theorem dX5_countUnlike_22 : decode cX5_countUnlike 22 = .ok (.iload_n 3, 1) := by decide +kernel
theorem dX5_countUnlike_23 : decode cX5_countUnlike 23 = .ok (.invokevirtual 190, 3) := by decide +kernel
theorem dX5_countUnlike_26 : decode cX5_countUnlike 26 = .ok (.getfield 138, 3) := by decide +kernel
theorem dX5_countUnlike_29 : decode cX5_countUnlike 29 = .ok (.astore 5, 2) := by decide +kernel
theorem dX5_countUnlike_31 : decode cX5_countUnlike 31 = .ok (.aload_n 0, 1) := by decide +kernel
theorem dX5_countUnlike_32 : decode cX5_countUnlike 32 = .ok (.iload_n 1, 1) := by decide +kernel
theorem dX5_countUnlike_33 : decode cX5_countUnlike 33 = .ok (.iload 4, 2) := by decide +kernel
theorem dX5_countUnlike_35 : decode cX5_countUnlike 35 = .ok (.invokevirtual 190, 3) := by decide +kernel
theorem dX5_countUnlike_38 : decode cX5_countUnlike 38 = .ok (.getfield 138, 3) := by decide +kernel
theorem dX5_countUnlike_41 : decode cX5_countUnlike 41 = .ok (.astore 6, 2) := by decide +kernel
theorem dX5_countUnlike_43 : decode cX5_countUnlike 43 = .ok (.iload_n 2, 1) := by decide +kernel
theorem dX5_countUnlike_44 : decode cX5_countUnlike 44 = .ok (.aload_n 0, 1) := by decide +kernel
theorem dX5_countUnlike_45 : decode cX5_countUnlike 45 = .ok (.getfield 16, 3) := by decide +kernel
theorem dX5_countUnlike_48 : decode cX5_countUnlike 48 = .ok (.iload_n 3, 1) := by decide +kernel
theorem dX5_countUnlike_49 : decode cX5_countUnlike 49 = .ok (.aaload, 1) := by decide +kernel
theorem dX5_countUnlike_50 : decode cX5_countUnlike 50 = .ok (.aload 5, 2) := by decide +kernel
theorem dX5_countUnlike_52 : decode cX5_countUnlike 52 = .ok (.aload_n 0, 1) := by decide +kernel
theorem dX5_countUnlike_53 : decode cX5_countUnlike 53 = .ok (.getfield 16, 3) := by decide +kernel
theorem dX5_countUnlike_56 : decode cX5_countUnlike 56 = .ok (.iload 4, 2) := by decide +kernel
theorem dX5_countUnlike_58 : decode cX5_countUnlike 58 = .ok (.aaload, 1) := by decide +kernel
theorem dX5_countUnlike_59 : decode cX5_countUnlike 59 = .ok (.aload 6, 2) := by decide +kernel
theorem dX5_countUnlike_61 : decode cX5_countUnlike 61 = .ok (.invokestatic 194, 3) := by decide +kernel
theorem dX5_countUnlike_64 : decode cX5_countUnlike 64 = .ok (.iadd, 1) := by decide +kernel
theorem dX5_countUnlike_65 : decode cX5_countUnlike 65 = .ok (.istore_n 2, 1) := by decide +kernel
theorem dX5_countUnlike_66 : decode cX5_countUnlike 66 = .ok (.iinc 4 1, 3) := by decide +kernel
theorem dX5_countUnlike_69 : decode cX5_countUnlike 69 = .ok (.goto (-55), 3) := by decide +kernel
theorem dX5_countUnlike_72 : decode cX5_countUnlike 72 = .ok (.iinc 3 1, 3) := by decide +kernel
theorem dX5_countUnlike_75 : decode cX5_countUnlike 75 = .ok (.goto (-71), 3) := by decide +kernel
theorem dX5_countUnlike_78 : decode cX5_countUnlike 78 = .ok (.iload_n 2, 1) := by decide +kernel
theorem dX5_countUnlike_79 : decode cX5_countUnlike 79 = .ok (.ireturn, 1) := by decide +kernel
theorem dX5_countUnlikeOfTwo_0 : decode cX5_countUnlikeOfTwo 0 = .ok (.iconst 0, 1) := by decide +kernel
theorem dX5_countUnlikeOfTwo_1 : decode cX5_countUnlikeOfTwo 1 = .ok (.istore 4, 2) := by decide +kernel
theorem dX5_countUnlikeOfTwo_3 : decode cX5_countUnlikeOfTwo 3 = .ok (.iconst 0, 1) := by decide +kernel
theorem dX5_countUnlikeOfTwo_4 : decode cX5_countUnlikeOfTwo 4 = .ok (.istore 5, 2) := by decide +kernel
theorem dX5_countUnlikeOfTwo_6 : decode cX5_countUnlikeOfTwo 6 = .ok (.iload 5, 2) := by decide +kernel
theorem dX5_countUnlikeOfTwo_8 : decode cX5_countUnlikeOfTwo 8 = .ok (.aload_n 0, 1) := by decide +kernel
theorem dX5_countUnlikeOfTwo_9 : decode cX5_countUnlikeOfTwo 9 = .ok (.getfield 39, 3) := by decide +kernel
theorem dX5_countUnlikeOfTwo_12 : decode cX5_countUnlikeOfTwo 12 = .ok (.if_icmp .ge 53, 3) := by decide +kernel
theorem dX5_countUnlikeOfTwo_15 : decode cX5_countUnlikeOfTwo 15 = .ok (.iconst 0, 1) := by decide +kernel
theorem dX5_countUnlikeOfTwo_16 : decode cX5_countUnlikeOfTwo 16 = .ok (.istore 6, 2) := by decide +kernel
theorem dX5_countUnlikeOfTwo_18 : decode cX5_countUnlikeOfTwo 18 = .ok (.iload 6, 2) := by decide +kernel
theorem dX5_countUnlikeOfTwo_20 : decode cX5_countUnlikeOfTwo 20 = .ok (.aload_n 2, 1) := by decide +kernel
theorem dX5_countUnlikeOfTwo_21 : decode cX5_countUnlikeOfTwo 21 = .ok (.getfield 39, 3) := by decide +kernel
theorem dX5_countUnlikeOfTwo_24 : decode cX5_countUnlikeOfTwo 24 = .ok (.if_icmp .ge 35, 3) := by decide +kernel
theorem dX5_countUnlikeOfTwo_27 : decode cX5_countUnlikeOfTwo 27 = .ok (.aload_n 0, 1) := by decide +kernel
theorem dX5_countUnlikeOfTwo_28 : decode cX5_countUnlikeOfTwo 28 = .ok (.iload 5, 2) := by decide +kernel
theorem dX5_countUnlikeOfTwo_30 : decode cX5_countUnlikeOfTwo 30 = .ok (.aload_n 2, 1) := by decide +kernel
theorem dX5_countUnlikeOfTwo_31 : decode cX5_countUnlikeOfTwo 31 = .ok (.iload 6, 2) := by decide +kernel
theorem dX5_countUnlikeOfTwo_33 : decode cX5_countUnlikeOfTwo 33 = .ok (.invokestatic 152, 3) := by decide +kernel
theorem dX5_countUnlikeOfTwo_36 : decode cX5_countUnlikeOfTwo 36 = .ok (.ifCond .eq 17, 3) := by decide +kernel
theorem dX5_countUnlikeOfTwo_39 : decode cX5_countUnlikeOfTwo 39 = .ok (.aload_n 1, 1) := by decide +kernel
theorem dX5_countUnlikeOfTwo_40 : decode cX5_countUnlikeOfTwo 40 = .ok (.iload 5, 2) := by decide +kernel
theorem dX5_countUnlikeOfTwo_42 : decode cX5_countUnlikeOfTwo 42 = .ok (.iaload, 1) := by decide +kernel
theorem dX5_countUnlikeOfTwo_43 : decode cX5_countUnlikeOfTwo 43 = .ok (.aload_n 3, 1) := by decide +kernel
theorem dX5_countUnlikeOfTwo_44 : decode cX5_countUnlikeOfTwo 44 = .ok (.iload 6, 2) := by decide +kernel
theorem dX5_countUnlikeOfTwo_46 : decode cX5_countUnlikeOfTwo 46 = .ok (.iaload, 1) := by decide +kernel
theorem dX5_countUnlikeOfTwo_47 : decode cX5_countUnlikeOfTwo 47 = .ok (.if_icmp .eq 6, 3) := by decide +kernel
theorem dX5_countUnlikeOfTwo_50 : decode cX5_countUnlikeOfTwo 50 = .ok (.iinc 4 1, 3) := by decide +kernel
theorem dX5_countUnlikeOfTwo_53 : decode cX5_countUnlikeOfTwo 53 = .ok (.iinc 6 1, 3) := by decide +kernel
theorem dX5_countUnlikeOfTwo_56 : decode cX5_countUnlikeOfTwo 56 = .ok (.goto (-38), 3) := by decide +kernel
theorem dX5_countUnlikeOfTwo_59 : decode cX5_countUnlikeOfTwo 59 = .ok (.iinc 5 1, 3) := by decide +kernel
theorem dX5_countUnlikeOfTwo_62 : decode cX5_countUnlikeOfTwo 62 = .ok (.goto (-56), 3) := by decide +kernel
theorem dX5_countUnlikeOfTwo_65 : decode cX5_countUnlikeOfTwo 65 = .ok (.iload 4, 2) := by decide +kernel
theorem dX5_countUnlikeOfTwo_67 : decode cX5_countUnlikeOfTwo 67 = .ok (.ireturn, 1) := by decide +kernel
theorem dX5_countAlike_0 : decode cX5_countAlike 0 = .ok (.iconst 0, 1) := by decide +kernel
theorem dX5_countAlike_1 : decode cX5_countAlike 1 = .ok (.istore_n 1, 1) := by decide +kernel
theorem dX5_countAlike_2 : decode cX5_countAlike 2 = .ok (.iconst 0, 1) := by decide +kernel
theorem dX5_countAlike_3 : decode cX5_countAlike 3 = .ok (.istore_n 2, 1) := by decide +kernel
theorem dX5_countAlike_4 : decode cX5_countAlike 4 = .ok (.iload_n 2, 1) := by decide +kernel
theorem dX5_countAlike_5 : decode cX5_countAlike 5 = .ok (.iconst 3, 1) := by decide +kernel
theorem dX5_countAlike_6 : decode cX5_countAlike 6 = .ok (.if_icmp .ge 42, 3) := by decide +kernel
theorem dX5_countAlike_9 : decode cX5_countAlike 9 = .ok (.iload_n 2, 1) := by decide +kernel
theorem dX5_countAlike_10 : decode cX5_countAlike 10 = .ok (.iconst 1, 1) := by decide +kernel
theorem dX5_countAlike_11 : decode cX5_countAlike 11 = .ok (.iadd, 1) := by decide +kernel
theorem dX5_countAlike_12 : decode cX5_countAlike 12 = .ok (.istore_n 3, 1) := by decide +kernel
theorem dX5_countAlike_13 : decode cX5_countAlike 13 = .ok (.iload_n 3, 1) := by decide +kernel
theorem dX5_countAlike_14 : decode cX5_countAlike 14 = .ok (.iconst 3, 1) := by decide +kernel
theorem dX5_countAlike_15 : decode cX5_countAlike 15 = .ok (.if_icmp .ge 27, 3) := by decide +kernel
theorem dX5_countAlike_18 : decode cX5_countAlike 18 = .ok (.iload_n 1, 1) := by decide +kernel
theorem dX5_countAlike_19 : decode cX5_countAlike 19 = .ok (.aload_n 0, 1) := by decide +kernel
theorem dX5_countAlike_20 : decode cX5_countAlike 20 = .ok (.getfield 16, 3) := by decide +kernel
theorem dX5_countAlike_23 : decode cX5_countAlike 23 = .ok (.iload_n 2, 1) := by decide +kernel
theorem dX5_countAlike_24 : decode cX5_countAlike 24 = .ok (.aaload, 1) := by decide +kernel
theorem dX5_countAlike_25 : decode cX5_countAlike 25 = .ok (.aload_n 0, 1) := by decide +kernel
theorem dX5_countAlike_26 : decode cX5_countAlike 26 = .ok (.getfield 16, 3) := by decide +kernel
theorem dX5_countAlike_29 : decode cX5_countAlike 29 = .ok (.iload_n 3, 1) := by decide +kernel
theorem dX5_countAlike_30 : decode cX5_countAlike 30 = .ok (.aaload, 1) := by decide +kernel
theorem dX5_countAlike_31 : decode cX5_countAlike 31 = .ok (.invokestatic 198, 3) := by decide +kernel
theorem dX5_countAlike_34 : decode cX5_countAlike 34 = .ok (.iadd, 1) := by decide +kernel
theorem dX5_countAlike_35 : decode cX5_countAlike 35 = .ok (.istore_n 1, 1) := by decide +kernel
theorem dX5_countAlike_36 : decode cX5_countAlike 36 = .ok (.iinc 3 1, 3) := by decide +kernel
theorem dX5_countAlike_39 : decode cX5_countAlike 39 = .ok (.goto (-26), 3) := by decide +kernel
theorem dX5_countAlike_42 : decode cX5_countAlike 42 = .ok (.iinc 2 1, 3) := by decide +kernel
theorem dX5_countAlike_45 : decode cX5_countAlike 45 = .ok (.goto (-41), 3) := by decide +kernel
theorem dX5_countAlike_48 : decode cX5_countAlike 48 = .ok (.iload_n 1, 1) := by decide +kernel
theorem dX5_countAlike_49 : decode cX5_countAlike 49 = .ok (.ireturn, 1) := by decide +kernel
theorem dX5_countAlikeOfTwo_0 : decode cX5_countAlikeOfTwo 0 = .ok (.iconst 0, 1) := by decide +kernel
theorem dX5_countAlikeOfTwo_1 : decode cX5_countAlikeOfTwo 1 = .ok (.istore_n 2, 1) := by decide +kernel
theorem dX5_countAlikeOfTwo_2 : decode cX5_countAlikeOfTwo 2 = .ok (.iconst 0, 1) := by decide +kernel
theorem dX5_countAlikeOfTwo_3 : decode cX5_countAlikeOfTwo 3 = .ok (.istore_n 3, 1) := by decide +kernel
theorem dX5_countAlikeOfTwo_4 : decode cX5_countAlikeOfTwo 4 = .ok (.iload_n 3, 1) := by decide +kernel
theorem dX5_countAlikeOfTwo_5 : decode cX5_countAlikeOfTwo 5 = .ok (.aload_n 0, 1) := by decide +kernel
theorem dX5_countAlikeOfTwo_6 : decode cX5_countAlikeOfTwo 6 = .ok (.getfield 39, 3) := by decide +kernel
theorem dX5_countAlikeOfTwo_9 : decode cX5_countAlikeOfTwo 9 = .ok (.if_icmp .ge 41, 3) := by decide +kernel
theorem dX5_countAlikeOfTwo_12 : decode cX5_countAlikeOfTwo 12 = .ok (.iconst 0, 1) := by decide +kernel
theorem dX5_countAlikeOfTwo_13 : decode cX5_countAlikeOfTwo 13 = .ok (.istore 4, 2) := by decide +kernel
theorem dX5_countAlikeOfTwo_15 : decode cX5_countAlikeOfTwo 15 = .ok (.iload 4, 2) := by decide +kernel
theorem dX5_countAlikeOfTwo_17 : decode cX5_countAlikeOfTwo 17 = .ok (.aload_n 1, 1) := by decide +kernel
theorem dX5_countAlikeOfTwo_18 : decode cX5_countAlikeOfTwo 18 = .ok (.getfield 39, 3) := by decide +kernel
theorem dX5_countAlikeOfTwo_21 : decode cX5_countAlikeOfTwo 21 = .ok (.if_icmp .ge 23, 3) := by decide +kernel
theorem dX5_countAlikeOfTwo_24 : decode cX5_countAlikeOfTwo 24 = .ok (.aload_n 0, 1) := by decide +kernel
theorem dX5_countAlikeOfTwo_25 : decode cX5_countAlikeOfTwo 25 = .ok (.iload_n 3, 1) := by decide +kernel
theorem dX5_countAlikeOfTwo_26 : decode cX5_countAlikeOfTwo 26 = .ok (.aload_n 1, 1) := by decide +kernel
theorem dX5_countAlikeOfTwo_27 : decode cX5_countAlikeOfTwo 27 = .ok (.iload 4, 2) := by decide +kernel
theorem dX5_countAlikeOfTwo_29 : decode cX5_countAlikeOfTwo 29 = .ok (.invokestatic 152, 3) := by decide +kernel
theorem dX5_countAlikeOfTwo_32 : decode cX5_countAlikeOfTwo 32 = .ok (.ifCond .eq 6, 3) := by decide +kernel
theorem dX5_countAlikeOfTwo_35 : decode cX5_countAlikeOfTwo 35 = .ok (.iinc 2 1, 3) := by decide +kernel
theorem dX5_countAlikeOfTwo_38 : decode cX5_countAlikeOfTwo 38 = .ok (.iinc 4 1, 3) := by decide +kernel
theorem dX5_countAlikeOfTwo_41 : decode cX5_countAlikeOfTwo 41 = .ok (.goto (-26), 3) := by decide +kernel
theorem dX5_countAlikeOfTwo_44 : decode cX5_countAlikeOfTwo 44 = .ok (.iinc 3 1, 3) := by decide +kernel
theorem dX5_countAlikeOfTwo_47 : decode cX5_countAlikeOfTwo 47 = .ok (.goto (-43), 3) := by decide +kernel
theorem dX5_countAlikeOfTwo_50 : decode cX5_countAlikeOfTwo 50 = .ok (.iload_n 2, 1) := by decide +kernel
theorem dX5_countAlikeOfTwo_51 : decode cX5_countAlikeOfTwo 51 = .ok (.ireturn, 1) := by decide +kernel
theorem dX5_countDoubles_0 : decode cX5_countDoubles 0 = .ok (.iconst 0, 1) := by decide +kernel
theorem dX5_countDoubles_1 : decode cX5_countDoubles 1 = .ok (.istore_n 1, 1) := by decide +kernel
theorem dX5_countDoubles_2 : decode cX5_countDoubles 2 = .ok (.iconst 0, 1) := by decide +kernel
theorem dX5_countDoubles_3 : decode cX5_countDoubles 3 = .ok (.istore_n 2, 1) := by decide +kernel
theorem dX5_countDoubles_4 : decode cX5_countDoubles 4 = .ok (.iload_n 2, 1) := by decide +kernel
theorem dX5_countDoubles_5 : decode cX5_countDoubles 5 = .ok (.iconst 3, 1) := by decide +kernel
theorem dX5_countDoubles_6 : decode cX5_countDoubles 6 = .ok (.if_icmp .ge 21, 3) := by decide +kernel
theorem dX5_countDoubles_9 : decode cX5_countDoubles 9 = .ok (.iload_n 1, 1) := by decide +kernel
theorem dX5_countDoubles_10 : decode cX5_countDoubles 10 = .ok (.aload_n 0, 1) := by decide +kernel
theorem dX5_countDoubles_11 : decode cX5_countDoubles 11 = .ok (.getfield 16, 3) := by decide +kernel
theorem dX5_countDoubles_14 : decode cX5_countDoubles 14 = .ok (.iload_n 2, 1) := by decide +kernel
theorem dX5_countDoubles_15 : decode cX5_countDoubles 15 = .ok (.aaload, 1) := by decide +kernel
theorem dX5_countDoubles_16 : decode cX5_countDoubles 16 = .ok (.invokevirtual 202, 3) := by decide +kernel
theorem dX5_countDoubles_19 : decode cX5_countDoubles 19 = .ok (.iadd, 1) := by decide +kernel
theorem dX5_countDoubles_20 : decode cX5_countDoubles 20 = .ok (.istore_n 1, 1) := by decide +kernel
theorem dX5_countDoubles_21 : decode cX5_countDoubles 21 = .ok (.iinc 2 1, 3) := by decide +kernel
theorem dX5_countDoubles_24 : decode cX5_countDoubles 24 = .ok (.goto (-20), 3) := by decide +kernel
theorem dX5_countDoubles_27 : decode cX5_countDoubles 27 = .ok (.iload_n 1, 1) := by decide +kernel
theorem dX5_countDoubles_28 : decode cX5_countDoubles 28 = .ok (.ireturn, 1) := by decide +kernel
theorem dX5_countSlurred_0 : decode cX5_countSlurred 0 = .ok (.iconst 0, 1) := by decide +kernel
theorem dX5_countSlurred_1 : decode cX5_countSlurred 1 = .ok (.istore_n 1, 1) := by decide +kernel
theorem dX5_countSlurred_2 : decode cX5_countSlurred 2 = .ok (.iconst 0, 1) := by decide +kernel
theorem dX5_countSlurred_3 : decode cX5_countSlurred 3 = .ok (.istore_n 2, 1) := by decide +kernel
theorem dX5_countSlurred_4 : decode cX5_countSlurred 4 = .ok (.iload_n 2, 1) := by decide +kernel
theorem dX5_countSlurred_5 : decode cX5_countSlurred 5 = .ok (.iconst 3, 1) := by decide +kernel
theorem dX5_countSlurred_6 : decode cX5_countSlurred 6 = .ok (.if_icmp .ge 21, 3) := by decide +kernel
theorem dX5_countSlurred_9 : decode cX5_countSlurred 9 = .ok (.iload_n 1, 1) := by decide +kernel
theorem dX5_countSlurred_10 : decode cX5_countSlurred 10 = .ok (.aload_n 0, 1) := by decide +kernel
theorem dX5_countSlurred_11 : decode cX5_countSlurred 11 = .ok (.getfield 16, 3) := by decide +kernel
theorem dX5_countSlurred_14 : decode cX5_countSlurred 14 = .ok (.iload_n 2, 1) := by decide +kernel
theorem dX5_countSlurred_15 : decode cX5_countSlurred 15 = .ok (.aaload, 1) := by decide +kernel
theorem dX5_countSlurred_16 : decode cX5_countSlurred 16 = .ok (.invokevirtual 148, 3) := by decide +kernel
theorem dX5_countSlurred_19 : decode cX5_countSlurred 19 = .ok (.iadd, 1) := by decide +kernel
theorem dX5_countSlurred_20 : decode cX5_countSlurred 20 = .ok (.istore_n 1, 1) := by decide +kernel
theorem dX5_countSlurred_21 : decode cX5_countSlurred 21 = .ok (.iinc 2 1, 3) := by decide +kernel
theorem dX5_countSlurred_24 : decode cX5_countSlurred 24 = .ok (.goto (-20), 3) := by decide +kernel
theorem dX5_countSlurred_27 : decode cX5_countSlurred 27 = .ok (.iload_n 1, 1) := by decide +kernel
theorem dX5_countSlurred_28 : decode cX5_countSlurred 28 = .ok (.ireturn, 1) := by decide +kernel
theorem dX5_countWithoutFingering_0 : decode cX5_countWithoutFingering 0 = .ok (.iconst 0, 1) := by decide +kernel
theorem dX5_countWithoutFingering_1 : decode cX5_countWithoutFingering 1 = .ok (.istore_n 1, 1) := by decide +kernel
theorem dX5_countWithoutFingering_2 : decode cX5_countWithoutFingering 2 = .ok (.iconst 0, 1) := by decide +kernel
theorem dX5_countWithoutFingering_3 : decode cX5_countWithoutFingering 3 = .ok (.istore_n 2, 1) := by decide +kernel
theorem dX5_countWithoutFingering_4 : decode cX5_countWithoutFingering 4 = .ok (.iload_n 2, 1) := by decide +kernel
theorem dX5_countWithoutFingering_5 : decode cX5_countWithoutFingering 5 = .ok (.iconst 3, 1) := by decide +kernel
theorem dX5_countWithoutFingering_6 : decode cX5_countWithoutFingering 6 = .ok (.if_icmp .ge 25, 3) := by decide +kernel
theorem dX5_countWithoutFingering_9 : decode cX5_countWithoutFingering 9 = .ok (.aload_n 0, 1) := by decide +kernel
theorem dX5_countWithoutFingering_10 : decode cX5_countWithoutFingering 10 = .ok (.aload_n 0, 1) := by decide +kernel
theorem dX5_countWithoutFingering_11 : decode cX5_countWithoutFingering 11 = .ok (.getfield 16, 3) := by decide +kernel
theorem dX5_countWithoutFingering_14 : decode cX5_countWithoutFingering 14 = .ok (.iload_n 2, 1) := by decide +kernel
theorem dX5_countWithoutFingering_15 : decode cX5_countWithoutFingering 15 = .ok (.aaload, 1) := by decide +kernel
theorem dX5_countWithoutFingering_16 : decode cX5_countWithoutFingering 16 = .ok (.invokevirtual 88, 3) := by decide +kernel
theorem dX5_countWithoutFingering_19 : decode cX5_countWithoutFingering 19 = .ok (.ifCond .ne 6, 3) := by decide +kernel
theorem dX5_countWithoutFingering_22 : decode cX5_countWithoutFingering 22 = .ok (.iinc 1 1, 3) := by decide +kernel
theorem dX5_countWithoutFingering_25 : decode cX5_countWithoutFingering 25 = .ok (.iinc 2 1, 3) := by decide +kernel
theorem dX5_countWithoutFingering_28 : decode cX5_countWithoutFingering 28 = .ok (.goto (-24), 3) := by decide +kernel
theorem dX5_countWithoutFingering_31 : decode cX5_countWithoutFingering 31 = .ok (.iload_n 1, 1) := by decide +kernel
theorem dX5_countWithoutFingering_32 : decode cX5_countWithoutFingering 32 = .ok (.ireturn, 1) := by decide +kernel
end
section
theorem dX6_init_0 : decode cX6_init 0 = .ok (.aload_n 0, 1) := by decide +kernel
theorem dX6_init_1 : decode cX6_init 1 = .ok (.invokespecial 1, 3) := by decide +kernel
theorem dX6_init_4 : decode cX6_init 4 = .ok (.aload_n 0, 1) := by decide +kernel
theorem dX6_init_5 : decode cX6_init 5 = .ok (.iconst 4, 1) := by decide +kernel
theorem dX6_init_6 : decode cX6_init 6 = .ok (.newarray .int, 2) := by decide +kernel
theorem dX6_init_8 : decode cX6_init 8 = .ok (.putfield 7, 3) := by decide +kernel
theorem dX6_init_11 : decode cX6_init 11 = .ok (.aload_n 0, 1) := by decide +kernel
theorem dX6_init_12 : decode cX6_init 12 = .ok (.iconst 3, 1) := by decide +kernel
theorem dX6_init_13 : decode cX6_init 13 = .ok (.newarray .int, 2) := by decide +kernel
theorem dX6_init_15 : decode cX6_init 15 = .ok (.putfield 13, 3) := by decide +kernel
theorem dX6_init_18 : decode cX6_init 18 = .ok (.aload_n 0, 1) := by decide +kernel
theorem dX6_init_19 : decode cX6_init 19 = .ok (.bipush 36, 2) := by decide +kernel
theorem dX6_init_21 : decode cX6_init 21 = .ok (.newarray .int, 2) := by decide +kernel
theorem dX6_init_23 : decode cX6_init 23 = .ok (.putfield 16, 3) := by decide +kernel
theorem dX6_init_26 : decode cX6_init 26 = .ok (.aload_n 0, 1) := by decide +kernel
theorem dX6_init_27 : decode cX6_init 27 = .ok (.bipush 36, 2) := by decide +kernel
theorem dX6_init_29 : decode cX6_init 29 = .ok (.newarray .int, 2) := by decide +kernel
theorem dX6_init_31 : decode cX6_init 31 = .ok (.putfield 19, 3) := by decide +kernel
theorem dX6_init_34 : decode cX6_init 34 = .ok (.aload_n 0, 1) := by decide +kernel
theorem dX6_init_35 : decode cX6_init 35 = .ok (.bipush 36, 2) := by decide +kernel
theorem dX6_init_37 : decode cX6_init 37 = .ok (.newarray .int, 2) := by decide +kernel
theorem dX6_init_39 : decode cX6_init 39 = .ok (.putfield 22, 3) := by decide +kernel
theorem dX6_init_42 : decode cX6_init 42 = .ok (.aload_n 0, 1) := by decide +kernel
theorem dX6_init_43 : decode cX6_init 43 = .ok (.bipush 36, 2) := by decide +kernel
theorem dX6_init_45 : decode cX6_init 45 = .ok (.newarray .int, 2) := by decide +kernel
theorem dX6_init_47 : decode cX6_init 47 = .ok (.putfield 25, 3) := by decide +kernel
theorem dX6_init_50 : decode cX6_init 50 = .ok (.aload_n 0, 1) := by decide +kernel
theorem dX6_init_51 : decode cX6_init 51 = .ok (.bipush 12, 2) := by decide +kernel
theorem dX6_init_53 : decode cX6_init 53 = .ok (.newarray .int, 2) := by decide +kernel
theorem dX6_init_55 : decode cX6_init 55 = .ok (.putfield 28, 3) := by decide +kernel
theorem dX6_init_58 : decode cX6_init 58 = .ok (.aload_n 0, 1) := by decide +kernel
theorem dX6_init_59 : decode cX6_init 59 = .ok (.sipush 6000, 3) := by decide +kernel
theorem dX6_init_62 : decode cX6_init 62 = .ok (.newarray .int, 2) := by decide +kernel
theorem dX6_init_64 : decode cX6_init 64 = .ok (.putfield 31, 3) := by decide +kernel
theorem dX6_init_67 : decode cX6_init 67 = .ok (.aload_n 0, 1) := by decide +kernel
theorem dX6_init_68 : decode cX6_init 68 = .ok (.sipush 6000, 3) := by decide +kernel
theorem dX6_init_71 : decode cX6_init 71 = .ok (.newarray .int, 2) := by decide +kernel
theorem dX6_init_73 : decode cX6_init 73 = .ok (.putfield 34, 3) := by decide +kernel
theorem dX6_init_76 : decode cX6_init 76 = .ok (.aload_n 0, 1) := by decide +kernel
theorem dX6_init_77 : decode cX6_init 77 = .ok (.sipush 6000, 3) := by decide +kernel
theorem dX6_init_80 : decode cX6_init 80 = .ok (.newarray .int, 2) := by decide +kernel
theorem dX6_init_82 : decode cX6_init 82 = .ok (.putfield 37, 3) := by decide +kernel
theorem dX6_init_85 : decode cX6_init 85 = .ok (.aload_n 0, 1) := by decide +kernel
theorem dX6_init_86 : decode cX6_init 86 = .ok (.bipush 18, 2) := by decide +kernel
theorem dX6_init_88 : decode cX6_init 88 = .ok (.newarray .int, 2) := by decide +kernel
theorem dX6_init_90 : decode cX6_init 90 = .ok (.putfield 40, 3) := by decide +kernel
theorem dX6_init_93 : decode cX6_init 93 = .ok (.aload_n 0, 1) := by decide +kernel
theorem dX6_init_94 : decode cX6_init 94 = .ok (.bipush 18, 2) := by decide +kernel
theorem dX6_init_96 : decode cX6_init 96 = .ok (.newarray .int, 2) := by decide +kernel
theorem dX6_init_98 : decode cX6_init 98 = .ok (.putfield 43, 3) := by decide +kernel
theorem dX6_init_101 : decode cX6_init 101 = .ok (.aload_n 0, 1) := by decide +kernel
theorem dX6_init_102 : decode cX6_init 102 = .ok (.iconst 2, 1) := by decide +kernel
theorem dX6_init_103 : decode cX6_init 103 = .ok (.newarray .int, 2) := by decide +kernel
theorem dX6_init_105 : decode cX6_init 105 = .ok (.putfield 46, 3) := by decide +kernel
theorem dX6_init_108 : decode cX6_init 108 = .ok (.aload_n 0, 1) := by decide +kernel
theorem dX6_init_109 : decode cX6_init 109 = .ok (.sipush 6000, 3) := by decide +kernel
theorem dX6_init_112 : decode cX6_init 112 = .ok (.newarray .int, 2) := by decide +kernel
theorem dX6_init_114 : decode cX6_init 114 = .ok (.putfield 49, 3) := by decide +kernel
theorem dX6_init_117 : decode cX6_init 117 = .ok (.aload_n 0, 1) := by decide +kernel
theorem dX6_init_118 : decode cX6_init 118 = .ok (.bipush 12, 2) := by decide +kernel
theorem dX6_init_120 : decode cX6_init 120 = .ok (.newarray .int, 2) := by decide +kernel
theorem dX6_init_122 : decode cX6_init 122 = .ok (.putfield 52, 3) := by decide +kernel
theorem dX6_init_125 : decode cX6_init 125 = .ok (.aload_n 0, 1) := by decide +kernel
theorem dX6_init_126 : decode cX6_init 126 = .ok (.bipush 24, 2) := by decide +kernel
theorem dX6_init_128 : decode cX6_init 128 = .ok (.newarray .int, 2) := by decide +kernel
theorem dX6_init_130 : decode cX6_init 130 = .ok (.putfield 55, 3) := by decide +kernel
theorem dX6_init_133 : decode cX6_init 133 = .ok (.aload_n 0, 1) := by decide +kernel
theorem dX6_init_134 : decode cX6_init 134 = .ok (.bipush 36, 2) := by decide +kernel
theorem dX6_init_136 : decode cX6_init 136 = .ok (.newarray .int, 2) := by decide +kernel
theorem dX6_init_138 : decode cX6_init 138 = .ok (.putfield 58, 3) := by decide +kernel
theorem dX6_init_141 : decode cX6_init 141 = .ok (.iconst 0, 1) := by decide +kernel
theorem dX6_init_142 : decode cX6_init 142 = .ok (.istore_n 1, 1) := by decide +kernel
theorem dX6_init_143 : decode cX6_init 143 = .ok (.iload_n 1, 1) := by decide +kernel
theorem dX6_init_144 : decode cX6_init 144 = .ok (.iconst 4, 1) := by decide +kernel
theorem dX6_init_145 : decode cX6_init 145 = .ok (.if_icmp .ge 19, 3) := by decide +kernel
theorem dX6_init_148 : decode cX6_init 148 = .ok (.aload_n 0, 1) := by decide +kernel
theorem dX6_init_149 : decode cX6_init 149 = .ok (.getfield 7, 3) := by decide +kernel
theorem dX6_init_152 : decode cX6_init 152 = .ok (.iload_n 1, 1) := by decide +kernel
theorem dX6_init_153 : decode cX6_init 153 = .ok (.bipush 7, 2) := by decide +kernel
theorem dX6_init_155 : decode cX6_init 155 = .ok (.iload_n 1, 1) := by decide +kernel
theorem dX6_init_156 : decode cX6_init 156 = .ok (.imul, 1) := by decide +kernel
theorem dX6_init_157 : decode cX6_init 157 = .ok (.iastore, 1) := by decide +kernel
theorem dX6_init_158 : decode cX6_init 158 = .ok (.iinc 1 1, 3) := by decide +kernel
theorem dX6_init_161 : decode cX6_init 161 = .ok (.goto (-18), 3) := by decide +kernel
theorem dX6_init_164 : decode cX6_init 164 = .ok (.return_, 1) := by decide +kernel
theorem dX6_in_0 : decode cX6_in 0 = .ok (.iload_n 0, 1) := by decide +kernel
theorem dX6_in_1 : decode cX6_in 1 = .ok (.iload_n 1, 1) := by decide +kernel
theorem dX6_in_2 : decode cX6_in 2 = .ok (.if_icmp .lt 12, 3) := by decide +kernel
theorem dX6_in_5 : decode cX6_in 5 = .ok (.iload_n 0, 1) := by decide +kernel
theorem dX6_in_6 : decode cX6_in 6 = .ok (.iload_n 2, 1) := by decide +kernel
theorem dX6_in_7 : decode cX6_in 7 = .ok (.if_icmp .gt 7, 3) := by decide +kernel
theorem dX6_in_10 : decode cX6_in 10 = .ok (.iconst 1, 1) := by decide +kernel
theorem dX6_in_11 : decode cX6_in 11 = .ok (.goto 4, 3) := by decide +kernel
theorem dX6_in_14 : decode cX6_in 14 = .ok (.iconst 0, 1) := by decide +kernel
theorem dX6_in_15 : decode cX6_in 15 = .ok (.ireturn, 1) := by decide +kernel
theorem dX6_isPart_0 : decode cX6_isPart 0 = .ok (.iload_n 0, 1) := by decide +kernel
theorem dX6_isPart_1 : decode cX6_isPart 1 = .ok (.iconst 0, 1) := by decide +kernel
theorem dX6_isPart_2 : decode cX6_isPart 2 = .ok (.iconst 2, 1) := by decide +kernel
theorem dX6_isPart_3 : decode cX6_isPart 3 = .ok (.invokestatic 61, 3) := by decide +kernel
theorem dX6_isPart_6 : decode cX6_isPart 6 = .ok (.ireturn, 1) := by decide +kernel
theorem dX6_isNote_0 : decode cX6_isNote 0 = .ok (.iload_n 1, 1) := by decide +kernel
theorem dX6_isNote_1 : decode cX6_isNote 1 = .ok (.invokestatic 65, 3) := by decide +kernel
theorem dX6_isNote_4 : decode cX6_isNote 4 = .ok (.ifCond .eq 23, 3) := by decide +kernel
theorem dX6_isNote_7 : decode cX6_isNote 7 = .ok (.iload_n 2, 1) := by decide +kernel
theorem dX6_isNote_8 : decode cX6_isNote 8 = .ok (.iconst 0, 1) := by decide +kernel
theorem dX6_isNote_9 : decode cX6_isNote 9 = .ok (.aload_n 0, 1) := by decide +kernel
theorem dX6_isNote_10 : decode cX6_isNote 10 = .ok (.getfield 13, 3) := by decide +kernel
theorem dX6_isNote_13 : decode cX6_isNote 13 = .ok (.iload_n 1, 1) := by decide +kernel
theorem dX6_isNote_14 : decode cX6_isNote 14 = .ok (.iaload, 1) := by decide +kernel
theorem dX6_isNote_15 : decode cX6_isNote 15 = .ok (.iconst 1, 1) := by decide +kernel
theorem dX6_isNote_16 : decode cX6_isNote 16 = .ok (.isub, 1) := by decide +kernel
theorem dX6_isNote_17 : decode cX6_isNote 17 = .ok (.invokestatic 61, 3) := by decide +kernel
theorem dX6_isNote_20 : decode cX6_isNote 20 = .ok (.ifCond .eq 7, 3) := by decide +kernel
theorem dX6_isNote_23 : decode cX6_isNote 23 = .ok (.iconst 1, 1) := by decide +kernel
theorem dX6_isNote_24 : decode cX6_isNote 24 = .ok (.goto 4, 3) := by decide +kernel
theorem dX6_isNote_27 : decode cX6_isNote 27 = .ok (.iconst 0, 1) := by decide +kernel
theorem dX6_isNote_28 : decode cX6_isNote 28 = .ok (.ireturn, 1) := by decide +kernel
theorem dX6_has_0 : decode cX6_has 0 = .ok (.iload_n 0, 1) := by decide +kernel
theorem dX6_has_1 : decode cX6_has 1 = .ok (.iload_n 1, 1) := by decide +kernel
theorem dX6_has_2 : decode cX6_has 2 = .ok (.iand, 1) := by decide +kernel
theorem dX6_has_3 : decode cX6_has 3 = .ok (.ifCond .eq 7, 3) := by decide +kernel
theorem dX6_has_6 : decode cX6_has 6 = .ok (.iconst 1, 1) := by decide +kernel
theorem dX6_has_7 : decode cX6_has 7 = .ok (.goto 4, 3) := by decide +kernel
theorem dX6_has_10 : decode cX6_has 10 = .ok (.iconst 0, 1) := by decide +kernel
theorem dX6_has_11 : decode cX6_has 11 = .ok (.ireturn, 1) := by decide +kernel
theorem dX6_is_0 : decode cX6_is 0 = .ok (.aload_n 0, 1) := by decide +kernel
theorem dX6_is_1 : decode cX6_is 1 = .ok (.getfield 25, 3) := by decide +kernel
theorem dX6_is_4 : decode cX6_is 4 = .ok (.bipush 12, 2) := by decide +kernel
theorem dX6_is_6 : decode cX6_is 6 = .ok (.iload_n 1, 1) := by decide +kernel
theorem dX6_is_7 : decode cX6_is 7 = .ok (.imul, 1) := by decide +kernel
theorem dX6_is_8 : decode cX6_is 8 = .ok (.iload_n 2, 1) := by decide +kernel
theorem dX6_is_9 : decode cX6_is 9 = .ok (.iadd, 1) := by decide +kernel
theorem dX6_is_10 : decode cX6_is 10 = .ok (.iaload, 1) := by decide +kernel
theorem dX6_is_11 : decode cX6_is 11 = .ok (.iload_n 3, 1) := by decide +kernel
theorem dX6_is_12 : decode cX6_is 12 = .ok (.invokestatic 69, 3) := by decide +kernel
theorem dX6_is_15 : decode cX6_is 15 = .ok (.ireturn, 1) := by decide +kernel
theorem dX6_tune_0 : decode cX6_tune 0 = .ok (.iload_n 1, 1) := by decide +kernel
theorem dX6_tune_1 : decode cX6_tune 1 = .ok (.iconst 0, 1) := by decide +kernel
theorem dX6_tune_2 : decode cX6_tune 2 = .ok (.iconst 3, 1) := by decide +kernel
theorem dX6_tune_3 : decode cX6_tune 3 = .ok (.invokestatic 61, 3) := by decide +kernel
theorem dX6_tune_6 : decode cX6_tune 6 = .ok (.ifCond .eq 13, 3) := by decide +kernel
theorem dX6_tune_9 : decode cX6_tune 9 = .ok (.iload_n 2, 1) := by decide +kernel
theorem dX6_tune_10 : decode cX6_tune 10 = .ok (.iconst 0, 1) := by decide +kernel
theorem dX6_tune_11 : decode cX6_tune 11 = .ok (.bipush 60, 2) := by decide +kernel
theorem dX6_tune_13 : decode cX6_tune 13 = .ok (.invokestatic 61, 3) := by decide +kernel
theorem dX6_tune_16 : decode cX6_tune 16 = .ok (.ifCond .ne 5, 3) := by decide +kernel
theorem dX6_tune_19 : decode cX6_tune 19 = .ok (.iconst (-1), 1) := by decide +kernel
theorem dX6_tune_20 : decode cX6_tune 20 = .ok (.ireturn, 1) := by decide +kernel
theorem dX6_tune_21 : decode cX6_tune 21 = .ok (.aload_n 0, 1) := by decide +kernel
theorem dX6_tune_22 : decode cX6_tune 22 = .ok (.getfield 7, 3) := by decide +kernel
theorem dX6_tune_25 : decode cX6_tune 25 = .ok (.iload_n 1, 1) := by decide +kernel
theorem dX6_tune_26 : decode cX6_tune 26 = .ok (.iaload, 1) := by decide +kernel
theorem dX6_tune_27 : decode cX6_tune 27 = .ok (.istore_n 3, 1) := by decide +kernel
theorem dX6_tune_28 : decode cX6_tune 28 = .ok (.aload_n 0, 1) := by decide +kernel
theorem dX6_tune_29 : decode cX6_tune 29 = .ok (.getfield 7, 3) := by decide +kernel
theorem dX6_tune_32 : decode cX6_tune 32 = .ok (.iload_n 1, 1) := by decide +kernel
theorem dX6_tune_33 : decode cX6_tune 33 = .ok (.iload_n 2, 1) := by decide +kernel
theorem dX6_tune_34 : decode cX6_tune 34 = .ok (.iastore, 1) := by decide +kernel
theorem dX6_tune_35 : decode cX6_tune 35 = .ok (.iload_n 3, 1) := by decide +kernel
theorem dX6_tune_36 : decode cX6_tune 36 = .ok (.ireturn, 1) := by decide +kernel
theorem dX6_areMarks_0 : decode cX6_areMarks 0 = .ok (.iload_n 1, 1) := by decide +kernel
theorem dX6_areMarks_1 : decode cX6_areMarks 1 = .ok (.iconst 2, 1) := by decide +kernel
theorem dX6_areMarks_2 : decode cX6_areMarks 2 = .ok (.invokestatic 69, 3) := by decide +kernel
theorem dX6_areMarks_5 : decode cX6_areMarks 5 = .ok (.ifCond .eq 15, 3) := by decide +kernel
theorem dX6_areMarks_8 : decode cX6_areMarks 8 = .ok (.iload_n 0, 1) := by decide +kernel
theorem dX6_areMarks_9 : decode cX6_areMarks 9 = .ok (.ifCond .le 15, 3) := by decide +kernel
theorem dX6_areMarks_12 : decode cX6_areMarks 12 = .ok (.iload_n 1, 1) := by decide +kernel
theorem dX6_areMarks_13 : decode cX6_areMarks 13 = .ok (.iconst 1, 1) := by decide +kernel
theorem dX6_areMarks_14 : decode cX6_areMarks 14 = .ok (.invokestatic 69, 3) := by decide +kernel
theorem dX6_areMarks_17 : decode cX6_areMarks 17 = .ok (.ifCond .ne 7, 3) := by decide +kernel
theorem dX6_areMarks_20 : decode cX6_areMarks 20 = .ok (.iconst 1, 1) := by decide +kernel
theorem dX6_areMarks_21 : decode cX6_areMarks 21 = .ok (.goto 4, 3) := by decide +kernel
theorem dX6_areMarks_24 : decode cX6_areMarks 24 = .ok (.iconst 0, 1) := by decide +kernel
theorem dX6_areMarks_25 : decode cX6_areMarks 25 = .ok (.ireturn, 1) := by decide +kernel
theorem dX6_note_0 : decode cX6_note 0 = .ok (.iload_n 1, 1) := by decide +kernel
theorem dX6_note_1 : decode cX6_note 1 = .ok (.invokestatic 65, 3) := by decide +kernel
theorem dX6_note_4 : decode cX6_note 4 = .ok (.ifCond .eq 34, 3) := by decide +kernel
theorem dX6_note_7 : decode cX6_note 7 = .ok (.iload_n 2, 1) := by decide +kernel
theorem dX6_note_8 : decode cX6_note 8 = .ok (.iconst 0, 1) := by decide +kernel
theorem dX6_note_9 : decode cX6_note 9 = .ok (.bipush 80, 2) := by decide +kernel
theorem dX6_note_11 : decode cX6_note 11 = .ok (.invokestatic 61, 3) := by decide +kernel
theorem dX6_note_14 : decode cX6_note 14 = .ok (.ifCond .eq 24, 3) := by decide +kernel
theorem dX6_note_17 : decode cX6_note 17 = .ok (.iload_n 3, 1) := by decide +kernel
theorem dX6_note_18 : decode cX6_note 18 = .ok (.iconst 1, 1) := by decide +kernel
theorem dX6_note_19 : decode cX6_note 19 = .ok (.bipush 16, 2) := by decide +kernel
theorem dX6_note_21 : decode cX6_note 21 = .ok (.invokestatic 61, 3) := by decide +kernel
theorem dX6_note_24 : decode cX6_note 24 = .ok (.ifCond .eq 14, 3) := by decide +kernel
theorem dX6_note_27 : decode cX6_note 27 = .ok (.iload 4, 2) := by decide +kernel
theorem dX6_note_29 : decode cX6_note 29 = .ok (.iconst 0, 1) := by decide +kernel
theorem dX6_note_30 : decode cX6_note 30 = .ok (.bipush 15, 2) := by decide +kernel
theorem dX6_note_32 : decode cX6_note 32 = .ok (.invokestatic 61, 3) := by decide +kernel
theorem dX6_note_35 : decode cX6_note 35 = .ok (.ifCond .ne 5, 3) := by decide +kernel
theorem dX6_note_38 : decode cX6_note 38 = .ok (.iconst (-1), 1) := by decide +kernel
theorem dX6_note_39 : decode cX6_note 39 = .ok (.ireturn, 1) := by decide +kernel
theorem dX6_note_40 : decode cX6_note 40 = .ok (.aload_n 0, 1) := by decide +kernel
theorem dX6_note_41 : decode cX6_note 41 = .ok (.getfield 13, 3) := by decide +kernel
theorem dX6_note_44 : decode cX6_note 44 = .ok (.iload_n 1, 1) := by decide +kernel
theorem dX6_note_45 : decode cX6_note 45 = .ok (.iaload, 1) := by decide +kernel
theorem dX6_note_46 : decode cX6_note 46 = .ok (.iload 4, 2) := by decide +kernel
theorem dX6_note_48 : decode cX6_note 48 = .ok (.invokestatic 73, 3) := by decide +kernel
theorem dX6_note_51 : decode cX6_note 51 = .ok (.ifCond .ne 6, 3) := by decide +kernel
theorem dX6_note_54 : decode cX6_note 54 = .ok (.bipush (-4), 2) := by decide +kernel
theorem dX6_note_56 : decode cX6_note 56 = .ok (.ireturn, 1) := by decide +kernel
theorem dX6_note_57 : decode cX6_note 57 = .ok (.aload_n 0, 1) := by decide +kernel
theorem dX6_note_58 : decode cX6_note 58 = .ok (.getfield 13, 3) := by decide +kernel
theorem dX6_note_61 : decode cX6_note 61 = .ok (.iload_n 1, 1) := by decide +kernel
theorem dX6_note_62 : decode cX6_note 62 = .ok (.iaload, 1) := by decide +kernel
theorem dX6_note_63 : decode cX6_note 63 = .ok (.bipush 12, 2) := by decide +kernel
theorem dX6_note_65 : decode cX6_note 65 = .ok (.if_icmp .ne 6, 3) := by decide +kernel
theorem dX6_note_68 : decode cX6_note 68 = .ok (.bipush (-2), 2) := by decide +kernel
theorem dX6_note_70 : decode cX6_note 70 = .ok (.ireturn, 1) := by decide +kernel
theorem dX6_note_71 : decode cX6_note 71 = .ok (.bipush 12, 2) := by decide +kernel
theorem dX6_note_73 : decode cX6_note 73 = .ok (.iload_n 1, 1) := by decide +kernel
theorem dX6_note_74 : decode cX6_note 74 = .ok (.imul, 1) := by decide +kernel
theorem dX6_note_75 : decode cX6_note 75 = .ok (.aload_n 0, 1) := by decide +kernel
theorem dX6_note_76 : decode cX6_note 76 = .ok (.getfield 13, 3) := by decide +kernel
theorem dX6_note_79 : decode cX6_note 79 = .ok (.iload_n 1, 1) := by decide +kernel
theorem dX6_note_80 : decode cX6_note 80 = .ok (.iaload, 1) := by decide +kernel
theorem dX6_note_81 : decode cX6_note 81 = .ok (.iadd, 1) := by decide +kernel
theorem dX6_note_82 : decode cX6_note 82 = .ok (.istore 5, 2) := by decide +kernel
theorem dX6_note_84 : decode cX6_note 84 = .ok (.aload_n 0, 1) := by decide +kernel
theorem dX6_note_85 : decode cX6_note 85 = .ok (.getfield 16, 3) := by decide +kernel
theorem dX6_note_88 : decode cX6_note 88 = .ok (.iload 5, 2) := by decide +kernel
theorem dX6_note_90 : decode cX6_note 90 = .ok (.iload_n 2, 1) := by decide +kernel
theorem dX6_note_91 : decode cX6_note 91 = .ok (.iastore, 1) := by decide +kernel
theorem dX6_note_92 : decode cX6_note 92 = .ok (.aload_n 0, 1) := by decide +kernel
theorem dX6_note_93 : decode cX6_note 93 = .ok (.getfield 19, 3) := by decide +kernel
theorem dX6_note_96 : decode cX6_note 96 = .ok (.iload 5, 2) := by decide +kernel
theorem dX6_note_98 : decode cX6_note 98 = .ok (.iconst (-1), 1) := by decide +kernel
theorem dX6_note_99 : decode cX6_note 99 = .ok (.iastore, 1) := by decide +kernel
theorem dX6_note_100 : decode cX6_note 100 = .ok (.aload_n 0, 1) := by decide +kernel
theorem dX6_note_101 : decode cX6_note 101 = .ok (.getfield 22, 3) := by decide +kernel
theorem dX6_note_104 : decode cX6_note 104 = .ok (.iload 5, 2) := by decide +kernel
theorem dX6_note_106 : decode cX6_note 106 = .ok (.iload_n 3, 1) := by decide +kernel
theorem dX6_note_107 : decode cX6_note 107 = .ok (.iastore, 1) := by decide +kernel
theorem dX6_note_108 : decode cX6_note 108 = .ok (.aload_n 0, 1) := by decide +kernel
theorem dX6_note_109 : decode cX6_note 109 = .ok (.getfield 25, 3) := by decide +kernel
theorem dX6_note_112 : decode cX6_note 112 = .ok (.iload 5, 2) := by decide +kernel
theorem dX6_note_114 : decode cX6_note 114 = .ok (.iload 4, 2) := by decide +kernel
theorem dX6_note_116 : decode cX6_note 116 = .ok (.iastore, 1) := by decide +kernel
theorem dX6_note_117 : decode cX6_note 117 = .ok (.aload_n 0, 1) := by decide +kernel
theorem dX6_note_118 : decode cX6_note 118 = .ok (.getfield 13, 3) := by decide +kernel
theorem dX6_note_121 : decode cX6_note 121 = .ok (.iload_n 1, 1) := by decide +kernel
theorem dX6_note_122 : decode cX6_note 122 = .ok (.dup2, 1) := by decide +kernel
theorem dX6_note_123 : decode cX6_note 123 = .ok (.iaload, 1) := by decide +kernel
theorem dX6_note_124 : decode cX6_note 124 = .ok (.iconst 1, 1) := by decide +kernel
theorem dX6_note_125 : decode cX6_note 125 = .ok (.iadd, 1) := by decide +kernel
theorem dX6_note_126 : decode cX6_note 126 = .ok (.iastore, 1) := by decide +kernel
theorem dX6_note_127 : decode cX6_note 127 = .ok (.aload_n 0, 1) := by decide +kernel
theorem dX6_note_128 : decode cX6_note 128 = .ok (.getfield 13, 3) := by decide +kernel
theorem dX6_note_131 : decode cX6_note 131 = .ok (.iload_n 1, 1) := by decide +kernel
theorem dX6_note_132 : decode cX6_note 132 = .ok (.iaload, 1) := by decide +kernel
theorem dX6_note_133 : decode cX6_note 133 = .ok (.iconst 1, 1) := by decide +kernel
theorem dX6_note_134 : decode cX6_note 134 = .ok (.isub, 1) := by decide +kernel
theorem dX6_note_135 : decode cX6_note 135 = .ok (.ireturn, 1) := by decide +kernel
theorem dX6_stop_0 : decode cX6_stop 0 = .ok (.aload_n 0, 1) := by decide +kernel
theorem dX6_stop_1 : decode cX6_stop 1 = .ok (.iload_n 1, 1) := by decide +kernel
theorem dX6_stop_2 : decode cX6_stop 2 = .ok (.iload_n 2, 1) := by decide +kernel
theorem dX6_stop_3 : decode cX6_stop 3 = .ok (.invokevirtual 76, 3) := by decide +kernel
theorem dX6_stop_6 : decode cX6_stop 6 = .ok (.ifCond .ne 6, 3) := by decide +kernel
theorem dX6_stop_9 : decode cX6_stop 9 = .ok (.bipush (-9), 2) := by decide +kernel
theorem dX6_stop_11 : decode cX6_stop 11 = .ok (.ireturn, 1) := by decide +kernel
theorem dX6_stop_12 : decode cX6_stop 12 = .ok (.bipush 12, 2) := by decide +kernel
theorem dX6_stop_14 : decode cX6_stop 14 = .ok (.iload_n 1, 1) := by decide +kernel
theorem dX6_stop_15 : decode cX6_stop 15 = .ok (.imul, 1) := by decide +kernel
theorem dX6_stop_16 : decode cX6_stop 16 = .ok (.iload_n 2, 1) := by decide +kernel
theorem dX6_stop_17 : decode cX6_stop 17 = .ok (.iadd, 1) := by decide +kernel
theorem dX6_stop_18 : decode cX6_stop 18 = .ok (.istore 4, 2) := by decide +kernel
theorem dX6_stop_20 : decode cX6_stop 20 = .ok (.iload_n 3, 1) := by decide +kernel
theorem dX6_stop_21 : decode cX6_stop 21 = .ok (.iconst (-1), 1) := by decide +kernel
theorem dX6_stop_22 : decode cX6_stop 22 = .ok (.if_icmp .eq 24, 3) := by decide +kernel
theorem dX6_stop_25 : decode cX6_stop 25 = .ok (.iload_n 3, 1) := by decide +kernel
theorem dX6_stop_26 : decode cX6_stop 26 = .ok (.aload_n 0, 1) := by decide +kernel
theorem dX6_stop_27 : decode cX6_stop 27 = .ok (.getfield 16, 3) := by decide +kernel
theorem dX6_stop_30 : decode cX6_stop 30 = .ok (.iload 4, 2) := by decide +kernel
theorem dX6_stop_32 : decode cX6_stop 32 = .ok (.iaload, 1) := by decide +kernel
theorem dX6_stop_33 : decode cX6_stop 33 = .ok (.iconst 1, 1) := by decide +kernel
theorem dX6_stop_34 : decode cX6_stop 34 = .ok (.iadd, 1) := by decide +kernel
theorem dX6_stop_35 : decode cX6_stop 35 = .ok (.bipush 80, 2) := by decide +kernel
theorem dX6_stop_37 : decode cX6_stop 37 = .ok (.invokestatic 61, 3) := by decide +kernel
theorem dX6_stop_40 : decode cX6_stop 40 = .ok (.ifCond .ne 6, 3) := by decide +kernel
theorem dX6_stop_43 : decode cX6_stop 43 = .ok (.bipush (-9), 2) := by decide +kernel
theorem dX6_stop_45 : decode cX6_stop 45 = .ok (.ireturn, 1) := by decide +kernel
theorem dX6_stop_46 : decode cX6_stop 46 = .ok (.aload_n 0, 1) := by decide +kernel
theorem dX6_stop_47 : decode cX6_stop 47 = .ok (.getfield 19, 3) := by decide +kernel
theorem dX6_stop_50 : decode cX6_stop 50 = .ok (.iload 4, 2) := by decide +kernel
theorem dX6_stop_52 : decode cX6_stop 52 = .ok (.iaload, 1) := by decide +kernel
theorem dX6_stop_53 : decode cX6_stop 53 = .ok (.istore 5, 2) := by decide +kernel
theorem dX6_stop_55 : decode cX6_stop 55 = .ok (.aload_n 0, 1) := by decide +kernel
theorem dX6_stop_56 : decode cX6_stop 56 = .ok (.getfield 19, 3) := by decide +kernel
theorem dX6_stop_59 : decode cX6_stop 59 = .ok (.iload 4, 2) := by decide +kernel
theorem dX6_stop_61 : decode cX6_stop 61 = .ok (.iload_n 3, 1) := by decide +kernel
theorem dX6_stop_62 : decode cX6_stop 62 = .ok (.iastore, 1) := by decide +kernel
theorem dX6_stop_63 : decode cX6_stop 63 = .ok (.iload 5, 2) := by decide +kernel
theorem dX6_stop_65 : decode cX6_stop 65 = .ok (.ireturn, 1) := by decide +kernel
theorem dX6_mark_0 : decode cX6_mark 0 = .ok (.aload_n 0, 1) := by decide +kernel
theorem dX6_mark_1 : decode cX6_mark 1 = .ok (.iload_n 1, 1) := by decide +kernel
theorem dX6_mark_2 : decode cX6_mark 2 = .ok (.iload_n 2, 1) := by decide +kernel
theorem dX6_mark_3 : decode cX6_mark 3 = .ok (.invokevirtual 76, 3) := by decide +kernel
theorem dX6_mark_6 : decode cX6_mark 6 = .ok (.ifCond .eq 13, 3) := by decide +kernel
theorem dX6_mark_9 : decode cX6_mark 9 = .ok (.iload_n 3, 1) := by decide +kernel
theorem dX6_mark_10 : decode cX6_mark 10 = .ok (.iconst 0, 1) := by decide +kernel
theorem dX6_mark_11 : decode cX6_mark 11 = .ok (.bipush 15, 2) := by decide +kernel
theorem dX6_mark_13 : decode cX6_mark 13 = .ok (.invokestatic 61, 3) := by decide +kernel
theorem dX6_mark_16 : decode cX6_mark 16 = .ok (.ifCond .ne 5, 3) := by decide +kernel
theorem dX6_mark_19 : decode cX6_mark 19 = .ok (.iconst (-1), 1) := by decide +kernel
theorem dX6_mark_20 : decode cX6_mark 20 = .ok (.ireturn, 1) := by decide +kernel
theorem dX6_mark_21 : decode cX6_mark 21 = .ok (.iload_n 2, 1) := by decide +kernel
theorem dX6_mark_22 : decode cX6_mark 22 = .ok (.iload_n 3, 1) := by decide +kernel
theorem dX6_mark_23 : decode cX6_mark 23 = .ok (.invokestatic 73, 3) := by decide +kernel
theorem dX6_mark_26 : decode cX6_mark 26 = .ok (.ifCond .ne 6, 3) := by decide +kernel
theorem dX6_mark_29 : decode cX6_mark 29 = .ok (.bipush (-4), 2) := by decide +kernel
theorem dX6_mark_31 : decode cX6_mark 31 = .ok (.ireturn, 1) := by decide +kernel
theorem dX6_mark_32 : decode cX6_mark 32 = .ok (.bipush 12, 2) := by decide +kernel
theorem dX6_mark_34 : decode cX6_mark 34 = .ok (.iload_n 1, 1) := by decide +kernel
theorem dX6_mark_35 : decode cX6_mark 35 = .ok (.imul, 1) := by decide +kernel
theorem dX6_mark_36 : decode cX6_mark 36 = .ok (.iload_n 2, 1) := by decide +kernel
theorem dX6_mark_37 : decode cX6_mark 37 = .ok (.iadd, 1) := by decide +kernel
theorem dX6_mark_38 : decode cX6_mark 38 = .ok (.istore 4, 2) := by decide +kernel
theorem dX6_mark_40 : decode cX6_mark 40 = .ok (.aload_n 0, 1) := by decide +kernel
theorem dX6_mark_41 : decode cX6_mark 41 = .ok (.getfield 25, 3) := by decide +kernel
theorem dX6_mark_44 : decode cX6_mark 44 = .ok (.iload 4, 2) := by decide +kernel
theorem dX6_mark_46 : decode cX6_mark 46 = .ok (.iaload, 1) := by decide +kernel
theorem dX6_mark_47 : decode cX6_mark 47 = .ok (.istore 5, 2) := by decide +kernel
theorem dX6_mark_49 : decode cX6_mark 49 = .ok (.aload_n 0, 1) := by decide +kernel
theorem dX6_mark_50 : decode cX6_mark 50 = .ok (.getfield 25, 3) := by decide +kernel
theorem dX6_mark_53 : decode cX6_mark 53 = .ok (.iload 4, 2) := by decide +kernel
theorem dX6_mark_55 : decode cX6_mark 55 = .ok (.iload_n 3, 1) := by decide +kernel
theorem dX6_mark_56 : decode cX6_mark 56 = .ok (.iastore, 1) := by decide +kernel
theorem dX6_mark_57 : decode cX6_mark 57 = .ok (.iload 5, 2) := by decide +kernel
theorem dX6_mark_59 : decode cX6_mark 59 = .ok (.ireturn, 1) := by decide +kernel
theorem dX6_cut_0 : decode cX6_cut 0 = .ok (.iload_n 1, 1) := by decide +kernel
theorem dX6_cut_1 : decode cX6_cut 1 = .ok (.invokestatic 65, 3) := by decide +kernel
theorem dX6_cut_4 : decode cX6_cut 4 = .ok (.ifCond .ne 5, 3) := by decide +kernel
theorem dX6_cut_7 : decode cX6_cut 7 = .ok (.iconst (-1), 1) := by decide +kernel
theorem dX6_cut_8 : decode cX6_cut 8 = .ok (.ireturn, 1) := by decide +kernel
theorem dX6_cut_9 : decode cX6_cut 9 = .ok (.aload_n 0, 1) := by decide +kernel
theorem dX6_cut_10 : decode cX6_cut 10 = .ok (.getfield 13, 3) := by decide +kernel
theorem dX6_cut_13 : decode cX6_cut 13 = .ok (.iload_n 1, 1) := by decide +kernel
theorem dX6_cut_14 : decode cX6_cut 14 = .ok (.iaload, 1) := by decide +kernel
theorem dX6_cut_15 : decode cX6_cut 15 = .ok (.ifCond .ne 6, 3) := by decide +kernel
theorem dX6_cut_18 : decode cX6_cut 18 = .ok (.bipush (-3), 2) := by decide +kernel
theorem dX6_cut_20 : decode cX6_cut 20 = .ok (.ireturn, 1) := by decide +kernel
theorem dX6_cut_21 : decode cX6_cut 21 = .ok (.aload_n 0, 1) := by decide +kernel
theorem dX6_cut_22 : decode cX6_cut 22 = .ok (.getfield 13, 3) := by decide +kernel
theorem dX6_cut_25 : decode cX6_cut 25 = .ok (.iload_n 1, 1) := by decide +kernel
theorem dX6_cut_26 : decode cX6_cut 26 = .ok (.dup2, 1) := by decide +kernel
theorem dX6_cut_27 : decode cX6_cut 27 = .ok (.iaload, 1) := by decide +kernel
theorem dX6_cut_28 : decode cX6_cut 28 = .ok (.iconst 1, 1) := by decide +kernel
theorem dX6_cut_29 : decode cX6_cut 29 = .ok (.isub, 1) := by decide +kernel
theorem dX6_cut_30 : decode cX6_cut 30 = .ok (.iastore, 1) := by decide +kernel
theorem dX6_cut_31 : decode cX6_cut 31 = .ok (.aload_n 0, 1) := by decide +kernel
theorem dX6_cut_32 : decode cX6_cut 32 = .ok (.getfield 13, 3) := by decide +kernel
theorem dX6_cut_35 : decode cX6_cut 35 = .ok (.iload_n 1, 1) := by decide +kernel
theorem dX6_cut_36 : decode cX6_cut 36 = .ok (.iaload, 1) := by decide +kernel
theorem dX6_cut_37 : decode cX6_cut 37 = .ok (.ireturn, 1) := by decide +kernel
theorem dX6_onset_0 : decode cX6_onset 0 = .ok (.iconst 0, 1) := by decide +kernel
theorem dX6_onset_1 : decode cX6_onset 1 = .ok (.istore_n 3, 1) := by decide +kernel
theorem dX6_onset_2 : decode cX6_onset 2 = .ok (.iconst 0, 1) := by decide +kernel
theorem dX6_onset_3 : decode cX6_onset 3 = .ok (.istore 4, 2) := by decide +kernel
theorem dX6_onset_5 : decode cX6_onset 5 = .ok (.iload 4, 2) := by decide +kernel
theorem dX6_onset_7 : decode cX6_onset 7 = .ok (.iload_n 2, 1) := by decide +kernel
theorem dX6_onset_8 : decode cX6_onset 8 = .ok (.if_icmp .ge 24, 3) := by decide +kernel
theorem dX6_onset_11 : decode cX6_onset 11 = .ok (.iload_n 3, 1) := by decide +kernel
theorem dX6_onset_12 : decode cX6_onset 12 = .ok (.aload_n 0, 1) := by decide +kernel
theorem dX6_onset_13 : decode cX6_onset 13 = .ok (.getfield 22, 3) := by decide +kernel
theorem dX6_onset_16 : decode cX6_onset 16 = .ok (.bipush 12, 2) := by decide +kernel
theorem dX6_onset_18 : decode cX6_onset 18 = .ok (.iload_n 1, 1) := by decide +kernel
theorem dX6_onset_19 : decode cX6_onset 19 = .ok (.imul, 1) := by decide +kernel
theorem dX6_onset_20 : decode cX6_onset 20 = .ok (.iload 4, 2) := by decide +kernel
theorem dX6_onset_22 : decode cX6_onset 22 = .ok (.iadd, 1) := by decide +kernel
theorem dX6_onset_23 : decode cX6_onset 23 = .ok (.iaload, 1) := by decide +kernel
theorem dX6_onset_24 : decode cX6_onset 24 = .ok (.iadd, 1) := by decide +kernel
theorem dX6_onset_25 : decode cX6_onset 25 = .ok (.istore_n 3, 1) := by decide +kernel
theorem dX6_onset_26 : decode cX6_onset 26 = .ok (.iinc 4 1, 3) := by decide +kernel
theorem dX6_onset_29 : decode cX6_onset 29 = .ok (.goto (-24), 3) := by decide +kernel
theorem dX6_onset_32 : decode cX6_onset 32 = .ok (.iload_n 3, 1) := by decide +kernel
theorem dX6_onset_33 : decode cX6_onset 33 = .ok (.ireturn, 1) := by decide +kernel
theorem dX6_findOnes_0 : decode cX6_findOnes 0 = .ok (.iconst 0, 1) := by decide +kernel
theorem dX6_findOnes_1 : decode cX6_findOnes 1 = .ok (.istore 4, 2) := by decide +kernel
theorem dX6_findOnes_3 : decode cX6_findOnes 3 = .ok (.iload_n 3, 1) := by decide +kernel
theorem dX6_findOnes_4 : decode cX6_findOnes 4 = .ok (.aload_n 0, 1) := by decide +kernel
theorem dX6_findOnes_5 : decode cX6_findOnes 5 = .ok (.getfield 7, 3) := by decide +kernel
theorem dX6_findOnes_8 : decode cX6_findOnes 8 = .ok (.iload_n 2, 1) := by decide +kernel
theorem dX6_findOnes_9 : decode cX6_findOnes 9 = .ok (.iaload, 1) := by decide +kernel
theorem dX6_findOnes_10 : decode cX6_findOnes 10 = .ok (.isub, 1) := by decide +kernel
theorem dX6_findOnes_11 : decode cX6_findOnes 11 = .ok (.istore 5, 2) := by decide +kernel
theorem dX6_findOnes_13 : decode cX6_findOnes 13 = .ok (.iload 5, 2) := by decide +kernel
theorem dX6_findOnes_15 : decode cX6_findOnes 15 = .ok (.ifCond .ne 26, 3) := by decide +kernel
theorem dX6_findOnes_18 : decode cX6_findOnes 18 = .ok (.aload_n 0, 1) := by decide +kernel
theorem dX6_findOnes_19 : decode cX6_findOnes 19 = .ok (.getfield 40, 3) := by decide +kernel
theorem dX6_findOnes_22 : decode cX6_findOnes 22 = .ok (.bipush 9, 2) := by decide +kernel
theorem dX6_findOnes_24 : decode cX6_findOnes 24 = .ok (.iload_n 1, 1) := by decide +kernel
theorem dX6_findOnes_25 : decode cX6_findOnes 25 = .ok (.imul, 1) := by decide +kernel
theorem dX6_findOnes_26 : decode cX6_findOnes 26 = .ok (.iconst 0, 1) := by decide +kernel
theorem dX6_findOnes_27 : decode cX6_findOnes 27 = .ok (.iastore, 1) := by decide +kernel
theorem dX6_findOnes_28 : decode cX6_findOnes 28 = .ok (.aload_n 0, 1) := by decide +kernel
theorem dX6_findOnes_29 : decode cX6_findOnes 29 = .ok (.getfield 43, 3) := by decide +kernel
theorem dX6_findOnes_32 : decode cX6_findOnes 32 = .ok (.bipush 9, 2) := by decide +kernel
theorem dX6_findOnes_34 : decode cX6_findOnes 34 = .ok (.iload_n 1, 1) := by decide +kernel
theorem dX6_findOnes_35 : decode cX6_findOnes 35 = .ok (.imul, 1) := by decide +kernel
theorem dX6_findOnes_36 : decode cX6_findOnes 36 = .ok (.iconst 0, 1) := by decide +kernel
theorem dX6_findOnes_37 : decode cX6_findOnes 37 = .ok (.iastore, 1) := by decide +kernel
theorem dX6_findOnes_38 : decode cX6_findOnes 38 = .ok (.iconst 1, 1) := by decide +kernel
theorem dX6_findOnes_39 : decode cX6_findOnes 39 = .ok (.istore 4, 2) := by decide +kernel
theorem dX6_findOnes_41 : decode cX6_findOnes 41 = .ok (.iconst 1, 1) := by decide +kernel
theorem dX6_findOnes_42 : decode cX6_findOnes 42 = .ok (.istore 6, 2) := by decide +kernel
theorem dX6_findOnes_44 : decode cX6_findOnes 44 = .ok (.iload 6, 2) := by decide +kernel
theorem dX6_findOnes_46 : decode cX6_findOnes 46 = .ok (.iconst 4, 1) := by decide +kernel
theorem dX6_findOnes_47 : decode cX6_findOnes 47 = .ok (.if_icmp .gt 95, 3) := by decide +kernel
theorem dX6_findOnes_50 : decode cX6_findOnes 50 = .ok (.iconst 0, 1) := by decide +kernel
theorem dX6_findOnes_51 : decode cX6_findOnes 51 = .ok (.istore 7, 2) := by decide +kernel
theorem dX6_findOnes_53 : decode cX6_findOnes 53 = .ok (.iload 7, 2) := by decide +kernel
theorem dX6_findOnes_55 : decode cX6_findOnes 55 = .ok (.iconst 2, 1) := by decide +kernel
theorem dX6_findOnes_56 : decode cX6_findOnes 56 = .ok (.if_icmp .ge 80, 3) := by decide +kernel
theorem dX6_findOnes_59 : decode cX6_findOnes 59 = .ok (.iload 5, 2) := by decide +kernel
theorem dX6_findOnes_61 : decode cX6_findOnes 61 = .ok (.iload 7, 2) := by decide +kernel
theorem dX6_findOnes_63 : decode cX6_findOnes 63 = .ok (.isub, 1) := by decide +kernel
theorem dX6_findOnes_64 : decode cX6_findOnes 64 = .ok (.iload 6, 2) := by decide +kernel
theorem dX6_findOnes_66 : decode cX6_findOnes 66 = .ok (.iconst 4, 1) := by decide +kernel
theorem dX6_findOnes_67 : decode cX6_findOnes 67 = .ok (.if_icmp .ne 7, 3) := by decide +kernel
theorem dX6_findOnes_70 : decode cX6_findOnes 70 = .ok (.iconst 5, 1) := by decide +kernel
theorem dX6_findOnes_71 : decode cX6_findOnes 71 = .ok (.goto 9, 3) := by decide +kernel
theorem dX6_findOnes_74 : decode cX6_findOnes 74 = .ok (.iconst 2, 1) := by decide +kernel
theorem dX6_findOnes_75 : decode cX6_findOnes 75 = .ok (.iload 6, 2) := by decide +kernel
theorem dX6_findOnes_77 : decode cX6_findOnes 77 = .ok (.imul, 1) := by decide +kernel
theorem dX6_findOnes_78 : decode cX6_findOnes 78 = .ok (.iconst 2, 1) := by decide +kernel
theorem dX6_findOnes_79 : decode cX6_findOnes 79 = .ok (.isub, 1) := by decide +kernel
theorem dX6_findOnes_80 : decode cX6_findOnes 80 = .ok (.isub, 1) := by decide +kernel
theorem dX6_findOnes_81 : decode cX6_findOnes 81 = .ok (.istore 8, 2) := by decide +kernel
theorem dX6_findOnes_83 : decode cX6_findOnes 83 = .ok (.iload 8, 2) := by decide +kernel
theorem dX6_findOnes_85 : decode cX6_findOnes 85 = .ok (.iconst 1, 1) := by decide +kernel
theorem dX6_findOnes_86 : decode cX6_findOnes 86 = .ok (.bipush 12, 2) := by decide +kernel
theorem dX6_findOnes_88 : decode cX6_findOnes 88 = .ok (.invokestatic 61, 3) := by decide +kernel
theorem dX6_findOnes_91 : decode cX6_findOnes 91 = .ok (.ifCond .eq 39, 3) := by decide +kernel
theorem dX6_findOnes_94 : decode cX6_findOnes 94 = .ok (.aload_n 0, 1) := by decide +kernel
theorem dX6_findOnes_95 : decode cX6_findOnes 95 = .ok (.getfield 40, 3) := by decide +kernel
theorem dX6_findOnes_98 : decode cX6_findOnes 98 = .ok (.bipush 9, 2) := by decide +kernel
theorem dX6_findOnes_100 : decode cX6_findOnes 100 = .ok (.iload_n 1, 1) := by decide +kernel
theorem dX6_findOnes_101 : decode cX6_findOnes 101 = .ok (.imul, 1) := by decide +kernel
theorem dX6_findOnes_102 : decode cX6_findOnes 102 = .ok (.iload 4, 2) := by decide +kernel
theorem dX6_findOnes_104 : decode cX6_findOnes 104 = .ok (.iadd, 1) := by decide +kernel
theorem dX6_findOnes_105 : decode cX6_findOnes 105 = .ok (.iload 8, 2) := by decide +kernel
theorem dX6_findOnes_107 : decode cX6_findOnes 107 = .ok (.iastore, 1) := by decide +kernel
theorem dX6_findOnes_108 : decode cX6_findOnes 108 = .ok (.aload_n 0, 1) := by decide +kernel
theorem dX6_findOnes_109 : decode cX6_findOnes 109 = .ok (.getfield 43, 3) := by decide +kernel
theorem dX6_findOnes_112 : decode cX6_findOnes 112 = .ok (.bipush 9, 2) := by decide +kernel
theorem dX6_findOnes_114 : decode cX6_findOnes 114 = .ok (.iload_n 1, 1) := by decide +kernel
theorem dX6_findOnes_115 : decode cX6_findOnes 115 = .ok (.imul, 1) := by decide +kernel
theorem dX6_findOnes_116 : decode cX6_findOnes 116 = .ok (.iload 4, 2) := by decide +kernel
theorem dX6_findOnes_118 : decode cX6_findOnes 118 = .ok (.iadd, 1) := by decide +kernel
theorem dX6_findOnes_119 : decode cX6_findOnes 119 = .ok (.iload 6, 2) := by decide +kernel
theorem dX6_findOnes_121 : decode cX6_findOnes 121 = .ok (.iconst 5, 1) := by decide +kernel
theorem dX6_findOnes_122 : decode cX6_findOnes 122 = .ok (.iload 7, 2) := by decide +kernel
theorem dX6_findOnes_124 : decode cX6_findOnes 124 = .ok (.imul, 1) := by decide +kernel
theorem dX6_findOnes_125 : decode cX6_findOnes 125 = .ok (.iadd, 1) := by decide +kernel
theorem dX6_findOnes_126 : decode cX6_findOnes 126 = .ok (.iastore, 1) := by decide +kernel
theorem dX6_findOnes_127 : decode cX6_findOnes 127 = .ok (.iinc 4 1, 3) := by decide +kernel
theorem dX6_findOnes_130 : decode cX6_findOnes 130 = .ok (.iinc 7 1, 3) := by decide +kernel
theorem dX6_findOnes_133 : decode cX6_findOnes 133 = .ok (.goto (-80), 3) := by decide +kernel
theorem dX6_findOnes_136 : decode cX6_findOnes 136 = .ok (.iinc 6 1, 3) := by decide +kernel
theorem dX6_findOnes_139 : decode cX6_findOnes 139 = .ok (.goto (-95), 3) := by decide +kernel
theorem dX6_findOnes_142 : decode cX6_findOnes 142 = .ok (.aload_n 0, 1) := by decide +kernel
theorem dX6_findOnes_143 : decode cX6_findOnes 143 = .ok (.getfield 46, 3) := by decide +kernel
theorem dX6_findOnes_146 : decode cX6_findOnes 146 = .ok (.iload_n 1, 1) := by decide +kernel
theorem dX6_findOnes_147 : decode cX6_findOnes 147 = .ok (.iload 4, 2) := by decide +kernel
theorem dX6_findOnes_149 : decode cX6_findOnes 149 = .ok (.iastore, 1) := by decide +kernel
theorem dX6_findOnes_150 : decode cX6_findOnes 150 = .ok (.return_, 1) := by decide +kernel
theorem dX6_keep_0 : decode cX6_keep 0 = .ok (.sipush 500, 3) := by decide +kernel
theorem dX6_keep_3 : decode cX6_keep 3 = .ok (.iload_n 1, 1) := by decide +kernel
theorem dX6_keep_4 : decode cX6_keep 4 = .ok (.imul, 1) := by decide +kernel
theorem dX6_keep_5 : decode cX6_keep 5 = .ok (.aload_n 0, 1) := by decide +kernel
theorem dX6_keep_6 : decode cX6_keep 6 = .ok (.getfield 28, 3) := by decide +kernel
theorem dX6_keep_9 : decode cX6_keep 9 = .ok (.iload_n 1, 1) := by decide +kernel
theorem dX6_keep_10 : decode cX6_keep 10 = .ok (.iaload, 1) := by decide +kernel
theorem dX6_keep_11 : decode cX6_keep 11 = .ok (.iadd, 1) := by decide +kernel
theorem dX6_keep_12 : decode cX6_keep 12 = .ok (.istore 5, 2) := by decide +kernel
theorem dX6_keep_14 : decode cX6_keep 14 = .ok (.iload 5, 2) := by decide +kernel
theorem dX6_keep_16 : decode cX6_keep 16 = .ok (.sipush 500, 3) := by decide +kernel
theorem dX6_keep_19 : decode cX6_keep 19 = .ok (.iload_n 1, 1) := by decide +kernel
theorem dX6_keep_20 : decode cX6_keep 20 = .ok (.imul, 1) := by decide +kernel
theorem dX6_keep_21 : decode cX6_keep 21 = .ok (.if_icmp .le 96, 3) := by decide +kernel
theorem dX6_keep_24 : decode cX6_keep 24 = .ok (.aload_n 0, 1) := by decide +kernel
theorem dX6_keep_25 : decode cX6_keep 25 = .ok (.getfield 31, 3) := by decide +kernel
theorem dX6_keep_28 : decode cX6_keep 28 = .ok (.iload 5, 2) := by decide +kernel
theorem dX6_keep_30 : decode cX6_keep 30 = .ok (.iconst 1, 1) := by decide +kernel
theorem dX6_keep_31 : decode cX6_keep 31 = .ok (.isub, 1) := by decide +kernel
theorem dX6_keep_32 : decode cX6_keep 32 = .ok (.iaload, 1) := by decide +kernel
theorem dX6_keep_33 : decode cX6_keep 33 = .ok (.iload_n 2, 1) := by decide +kernel
theorem dX6_keep_34 : decode cX6_keep 34 = .ok (.if_icmp .gt 29, 3) := by decide +kernel
theorem dX6_keep_37 : decode cX6_keep 37 = .ok (.aload_n 0, 1) := by decide +kernel
theorem dX6_keep_38 : decode cX6_keep 38 = .ok (.getfield 31, 3) := by decide +kernel
theorem dX6_keep_41 : decode cX6_keep 41 = .ok (.iload 5, 2) := by decide +kernel
theorem dX6_keep_43 : decode cX6_keep 43 = .ok (.iconst 1, 1) := by decide +kernel
theorem dX6_keep_44 : decode cX6_keep 44 = .ok (.isub, 1) := by decide +kernel
theorem dX6_keep_45 : decode cX6_keep 45 = .ok (.iaload, 1) := by decide +kernel
theorem dX6_keep_46 : decode cX6_keep 46 = .ok (.iload_n 2, 1) := by decide +kernel
theorem dX6_keep_47 : decode cX6_keep 47 = .ok (.if_icmp .ne 70, 3) := by decide +kernel
theorem dX6_keep_50 : decode cX6_keep 50 = .ok (.aload_n 0, 1) := by decide +kernel
theorem dX6_keep_51 : decode cX6_keep 51 = .ok (.getfield 34, 3) := by decide +kernel
theorem dX6_keep_54 : decode cX6_keep 54 = .ok (.iload 5, 2) := by decide +kernel
theorem dX6_keep_56 : decode cX6_keep 56 = .ok (.iconst 1, 1) := by decide +kernel
theorem dX6_keep_57 : decode cX6_keep 57 = .ok (.isub, 1) := by decide +kernel
theorem dX6_keep_58 : decode cX6_keep 58 = .ok (.iaload, 1) := by decide +kernel
theorem dX6_keep_59 : decode cX6_keep 59 = .ok (.iload_n 3, 1) := by decide +kernel
theorem dX6_keep_60 : decode cX6_keep 60 = .ok (.if_icmp .le 57, 3) := by decide +kernel
theorem dX6_keep_63 : decode cX6_keep 63 = .ok (.aload_n 0, 1) := by decide +kernel
theorem dX6_keep_64 : decode cX6_keep 64 = .ok (.getfield 31, 3) := by decide +kernel
theorem dX6_keep_67 : decode cX6_keep 67 = .ok (.iload 5, 2) := by decide +kernel
theorem dX6_keep_69 : decode cX6_keep 69 = .ok (.aload_n 0, 1) := by decide +kernel
theorem dX6_keep_70 : decode cX6_keep 70 = .ok (.getfield 31, 3) := by decide +kernel
theorem dX6_keep_73 : decode cX6_keep 73 = .ok (.iload 5, 2) := by decide +kernel
theorem dX6_keep_75 : decode cX6_keep 75 = .ok (.iconst 1, 1) := by decide +kernel
theorem dX6_keep_76 : decode cX6_keep 76 = .ok (.isub, 1) := by decide +kernel
theorem dX6_keep_77 : decode cX6_keep 77 = .ok (.iaload, 1) := by decide +kernel
theorem dX6_keep_78 : decode cX6_keep 78 = .ok (.iastore, 1) := by decide +kernel
theorem dX6_keep_79 : decode cX6_keep 79 = .ok (.aload_n 0, 1) := by decide +kernel
theorem dX6_keep_80 : decode cX6_keep 80 = .ok (.getfield 34, 3) := by decide +kernel
theorem dX6_keep_83 : decode cX6_keep 83 = .ok (.iload 5, 2) := by decide +kernel
theorem dX6_keep_85 : decode cX6_keep 85 = .ok (.aload_n 0, 1) := by decide +kernel
theorem dX6_keep_86 : decode cX6_keep 86 = .ok (.getfield 34, 3) := by decide +kernel
theorem dX6_keep_89 : decode cX6_keep 89 = .ok (.iload 5, 2) := by decide +kernel
theorem dX6_keep_91 : decode cX6_keep 91 = .ok (.iconst 1, 1) := by decide +kernel
theorem dX6_keep_92 : decode cX6_keep 92 = .ok (.isub, 1) := by decide +kernel
theorem dX6_keep_93 : decode cX6_keep 93 = .ok (.iaload, 1) := by decide +kernel
theorem dX6_keep_94 : decode cX6_keep 94 = .ok (.iastore, 1) := by decide +kernel
theorem dX6_keep_95 : decode cX6_keep 95 = .ok (.aload_n 0, 1) := by decide +kernel
theorem dX6_keep_96 : decode cX6_keep 96 = .ok (.getfield 37, 3) := by decide +kernel
theorem dX6_keep_99 : decode cX6_keep 99 = .ok (.iload 5, 2) := by decide +kernel
theorem dX6_keep_101 : decode cX6_keep 101 = .ok (.aload_n 0, 1) := by decide +kernel
theorem dX6_keep_102 : decode cX6_keep 102 = .ok (.getfield 37, 3) := by decide +kernel
theorem dX6_keep_105 : decode cX6_keep 105 = .ok (.iload 5, 2) := by decide +kernel
theorem dX6_keep_107 : decode cX6_keep 107 = .ok (.iconst 1, 1) := by decide +kernel
theorem dX6_keep_108 : decode cX6_keep 108 = .ok (.isub, 1) := by decide +kernel
theorem dX6_keep_109 : decode cX6_keep 109 = .ok (.iaload, 1) := by decide +kernel
theorem dX6_keep_110 : decode cX6_keep 110 = .ok (.iastore, 1) := by decide +kernel
theorem dX6_keep_111 : decode cX6_keep 111 = .ok (.iinc 5 (-1), 3) := by decide +kernel
theorem dX6_keep_114 : decode cX6_keep 114 = .ok (.goto (-100), 3) := by decide +kernel
theorem dX6_keep_117 : decode cX6_keep 117 = .ok (.aload_n 0, 1) := by decide +kernel
theorem dX6_keep_118 : decode cX6_keep 118 = .ok (.getfield 31, 3) := by decide +kernel
theorem dX6_keep_121 : decode cX6_keep 121 = .ok (.iload 5, 2) := by decide +kernel
theorem dX6_keep_123 : decode cX6_keep 123 = .ok (.iload_n 2, 1) := by decide +kernel
theorem dX6_keep_124 : decode cX6_keep 124 = .ok (.iastore, 1) := by decide +kernel
theorem dX6_keep_125 : decode cX6_keep 125 = .ok (.aload_n 0, 1) := by decide +kernel
theorem dX6_keep_126 : decode cX6_keep 126 = .ok (.getfield 34, 3) := by decide +kernel
theorem dX6_keep_129 : decode cX6_keep 129 = .ok (.iload 5, 2) := by decide +kernel
theorem dX6_keep_131 : decode cX6_keep 131 = .ok (.iload_n 3, 1) := by decide +kernel
theorem dX6_keep_132 : decode cX6_keep 132 = .ok (.iastore, 1) := by decide +kernel
theorem dX6_keep_133 : decode cX6_keep 133 = .ok (.aload_n 0, 1) := by decide +kernel
theorem dX6_keep_134 : decode cX6_keep 134 = .ok (.getfield 37, 3) := by decide +kernel
theorem dX6_keep_137 : decode cX6_keep 137 = .ok (.iload 5, 2) := by decide +kernel
theorem dX6_keep_139 : decode cX6_keep 139 = .ok (.iload 4, 2) := by decide +kernel
theorem dX6_keep_141 : decode cX6_keep 141 = .ok (.iastore, 1) := by decide +kernel
theorem dX6_keep_142 : decode cX6_keep 142 = .ok (.aload_n 0, 1) := by decide +kernel
theorem dX6_keep_143 : decode cX6_keep 143 = .ok (.getfield 28, 3) := by decide +kernel
theorem dX6_keep_146 : decode cX6_keep 146 = .ok (.iload_n 1, 1) := by decide +kernel
theorem dX6_keep_147 : decode cX6_keep 147 = .ok (.dup2, 1) := by decide +kernel
theorem dX6_keep_148 : decode cX6_keep 148 = .ok (.iaload, 1) := by decide +kernel
theorem dX6_keep_149 : decode cX6_keep 149 = .ok (.iconst 1, 1) := by decide +kernel
theorem dX6_keep_150 : decode cX6_keep 150 = .ok (.iadd, 1) := by decide +kernel
theorem dX6_keep_151 : decode cX6_keep 151 = .ok (.iastore, 1) := by decide +kernel
theorem dX6_keep_152 : decode cX6_keep 152 = .ok (.return_, 1) := by decide +kernel
theorem dX6_highs_0 : decode cX6_highs 0 = .ok (.iload_n 0, 1) := by decide +kernel
theorem dX6_highs_1 : decode cX6_highs 1 = .ok (.iconst 4, 1) := by decide +kernel
theorem dX6_highs_2 : decode cX6_highs 2 = .ok (.if_icmp .le 7, 3) := by decide +kernel
theorem dX6_highs_5 : decode cX6_highs 5 = .ok (.iconst 1, 1) := by decide +kernel
theorem dX6_highs_6 : decode cX6_highs 6 = .ok (.goto 4, 3) := by decide +kernel
theorem dX6_highs_9 : decode cX6_highs 9 = .ok (.iconst 0, 1) := by decide +kernel
theorem dX6_highs_10 : decode cX6_highs 10 = .ok (.ireturn, 1) := by decide +kernel
theorem dX6_findDouble_0 : decode cX6_findDouble 0 = .ok (.aload_n 0, 1) := by decide +kernel
theorem dX6_findDouble_1 : decode cX6_findDouble 1 = .ok (.iconst 0, 1) := by decide +kernel
theorem dX6_findDouble_2 : decode cX6_findDouble 2 = .ok (.iload_n 2, 1) := by decide +kernel
theorem dX6_findDouble_3 : decode cX6_findDouble 3 = .ok (.iload_n 3, 1) := by decide +kernel
theorem dX6_findDouble_4 : decode cX6_findDouble 4 = .ok (.invokevirtual 79, 3) := by decide +kernel
theorem dX6_findDouble_7 : decode cX6_findDouble 7 = .ok (.aload_n 0, 1) := by decide +kernel
theorem dX6_findDouble_8 : decode cX6_findDouble 8 = .ok (.iconst 1, 1) := by decide +kernel
theorem dX6_findDouble_9 : decode cX6_findDouble 9 = .ok (.iload_n 2, 1) := by decide +kernel
theorem dX6_findDouble_10 : decode cX6_findDouble 10 = .ok (.iconst 1, 1) := by decide +kernel
theorem dX6_findDouble_11 : decode cX6_findDouble 11 = .ok (.iadd, 1) := by decide +kernel
theorem dX6_findDouble_12 : decode cX6_findDouble 12 = .ok (.iload 4, 2) := by decide +kernel
theorem dX6_findDouble_14 : decode cX6_findDouble 14 = .ok (.invokevirtual 79, 3) := by decide +kernel
theorem dX6_findDouble_17 : decode cX6_findDouble 17 = .ok (.iconst 0, 1) := by decide +kernel
theorem dX6_findDouble_18 : decode cX6_findDouble 18 = .ok (.istore 5, 2) := by decide +kernel
theorem dX6_findDouble_20 : decode cX6_findDouble 20 = .ok (.iload 5, 2) := by decide +kernel
theorem dX6_findDouble_22 : decode cX6_findDouble 22 = .ok (.aload_n 0, 1) := by decide +kernel
theorem dX6_findDouble_23 : decode cX6_findDouble 23 = .ok (.getfield 46, 3) := by decide +kernel
theorem dX6_findDouble_26 : decode cX6_findDouble 26 = .ok (.iconst 0, 1) := by decide +kernel
theorem dX6_findDouble_27 : decode cX6_findDouble 27 = .ok (.iaload, 1) := by decide +kernel
theorem dX6_findDouble_28 : decode cX6_findDouble 28 = .ok (.if_icmp .ge 235, 3) := by decide +kernel
theorem dX6_findDouble_31 : decode cX6_findDouble 31 = .ok (.bipush 9, 2) := by decide +kernel
theorem dX6_findDouble_33 : decode cX6_findDouble 33 = .ok (.istore 6, 2) := by decide +kernel
theorem dX6_findDouble_35 : decode cX6_findDouble 35 = .ok (.iload 6, 2) := by decide +kernel
theorem dX6_findDouble_37 : decode cX6_findDouble 37 = .ok (.bipush 9, 2) := by decide +kernel
theorem dX6_findDouble_39 : decode cX6_findDouble 39 = .ok (.aload_n 0, 1) := by decide +kernel
theorem dX6_findDouble_40 : decode cX6_findDouble 40 = .ok (.getfield 46, 3) := by decide +kernel
theorem dX6_findDouble_43 : decode cX6_findDouble 43 = .ok (.iconst 1, 1) := by decide +kernel
theorem dX6_findDouble_44 : decode cX6_findDouble 44 = .ok (.iaload, 1) := by decide +kernel
theorem dX6_findDouble_45 : decode cX6_findDouble 45 = .ok (.iadd, 1) := by decide +kernel
theorem dX6_findDouble_46 : decode cX6_findDouble 46 = .ok (.if_icmp .ge 211, 3) := by decide +kernel
theorem dX6_findDouble_49 : decode cX6_findDouble 49 = .ok (.aload_n 0, 1) := by decide +kernel
theorem dX6_findDouble_50 : decode cX6_findDouble 50 = .ok (.getfield 43, 3) := by decide +kernel
theorem dX6_findDouble_53 : decode cX6_findDouble 53 = .ok (.iload 5, 2) := by decide +kernel
theorem dX6_findDouble_55 : decode cX6_findDouble 55 = .ok (.iaload, 1) := by decide +kernel
theorem dX6_findDouble_56 : decode cX6_findDouble 56 = .ok (.ifCond .le 17, 3) := by decide +kernel
theorem dX6_findDouble_59 : decode cX6_findDouble 59 = .ok (.aload_n 0, 1) := by decide +kernel
theorem dX6_findDouble_60 : decode cX6_findDouble 60 = .ok (.getfield 43, 3) := by decide +kernel
theorem dX6_findDouble_63 : decode cX6_findDouble 63 = .ok (.iload 6, 2) := by decide +kernel
theorem dX6_findDouble_65 : decode cX6_findDouble 65 = .ok (.iaload, 1) := by decide +kernel
theorem dX6_findDouble_66 : decode cX6_findDouble 66 = .ok (.ifCond .le 7, 3) := by decide +kernel
theorem dX6_findDouble_69 : decode cX6_findDouble 69 = .ok (.iconst 1, 1) := by decide +kernel
theorem dX6_findDouble_70 : decode cX6_findDouble 70 = .ok (.goto 4, 3) := by decide +kernel
theorem dX6_findDouble_73 : decode cX6_findDouble 73 = .ok (.iconst 0, 1) := by decide +kernel
theorem dX6_findDouble_74 : decode cX6_findDouble 74 = .ok (.istore 7, 2) := by decide +kernel
theorem dX6_findDouble_76 : decode cX6_findDouble 76 = .ok (.aload_n 0, 1) := by decide +kernel
theorem dX6_findDouble_77 : decode cX6_findDouble 77 = .ok (.getfield 43, 3) := by decide +kernel
theorem dX6_findDouble_80 : decode cX6_findDouble 80 = .ok (.iload 5, 2) := by decide +kernel
theorem dX6_findDouble_82 : decode cX6_findDouble 82 = .ok (.iaload, 1) := by decide +kernel
theorem dX6_findDouble_83 : decode cX6_findDouble 83 = .ok (.iconst 5, 1) := by decide +kernel
theorem dX6_findDouble_84 : decode cX6_findDouble 84 = .ok (.irem, 1) := by decide +kernel
theorem dX6_findDouble_85 : decode cX6_findDouble 85 = .ok (.aload_n 0, 1) := by decide +kernel
theorem dX6_findDouble_86 : decode cX6_findDouble 86 = .ok (.getfield 43, 3) := by decide +kernel
theorem dX6_findDouble_89 : decode cX6_findDouble 89 = .ok (.iload 6, 2) := by decide +kernel
theorem dX6_findDouble_91 : decode cX6_findDouble 91 = .ok (.iaload, 1) := by decide +kernel
theorem dX6_findDouble_92 : decode cX6_findDouble 92 = .ok (.iconst 5, 1) := by decide +kernel
theorem dX6_findDouble_93 : decode cX6_findDouble 93 = .ok (.irem, 1) := by decide +kernel
theorem dX6_findDouble_94 : decode cX6_findDouble 94 = .ok (.if_icmp .ne 7, 3) := by decide +kernel
theorem dX6_findDouble_97 : decode cX6_findDouble 97 = .ok (.iconst 1, 1) := by decide +kernel
theorem dX6_findDouble_98 : decode cX6_findDouble 98 = .ok (.goto 4, 3) := by decide +kernel
theorem dX6_findDouble_101 : decode cX6_findDouble 101 = .ok (.iconst 0, 1) := by decide +kernel
theorem dX6_findDouble_102 : decode cX6_findDouble 102 = .ok (.istore 8, 2) := by decide +kernel
theorem dX6_findDouble_104 : decode cX6_findDouble 104 = .ok (.iload 7, 2) := by decide +kernel
theorem dX6_findDouble_106 : decode cX6_findDouble 106 = .ok (.ifCond .eq 45, 3) := by decide +kernel
theorem dX6_findDouble_109 : decode cX6_findDouble 109 = .ok (.aload_n 0, 1) := by decide +kernel
theorem dX6_findDouble_110 : decode cX6_findDouble 110 = .ok (.getfield 40, 3) := by decide +kernel
theorem dX6_findDouble_113 : decode cX6_findDouble 113 = .ok (.iload 5, 2) := by decide +kernel
theorem dX6_findDouble_115 : decode cX6_findDouble 115 = .ok (.iaload, 1) := by decide +kernel
theorem dX6_findDouble_116 : decode cX6_findDouble 116 = .ok (.aload_n 0, 1) := by decide +kernel
theorem dX6_findDouble_117 : decode cX6_findDouble 117 = .ok (.getfield 40, 3) := by decide +kernel
theorem dX6_findDouble_120 : decode cX6_findDouble 120 = .ok (.iload 6, 2) := by decide +kernel
theorem dX6_findDouble_122 : decode cX6_findDouble 122 = .ok (.iaload, 1) := by decide +kernel
theorem dX6_findDouble_123 : decode cX6_findDouble 123 = .ok (.if_icmp .ne 128, 3) := by decide +kernel
theorem dX6_findDouble_126 : decode cX6_findDouble 126 = .ok (.iload 8, 2) := by decide +kernel
theorem dX6_findDouble_128 : decode cX6_findDouble 128 = .ok (.ifCond .eq 23, 3) := by decide +kernel
theorem dX6_findDouble_131 : decode cX6_findDouble 131 = .ok (.aload_n 0, 1) := by decide +kernel
theorem dX6_findDouble_132 : decode cX6_findDouble 132 = .ok (.getfield 43, 3) := by decide +kernel
theorem dX6_findDouble_135 : decode cX6_findDouble 135 = .ok (.iload 5, 2) := by decide +kernel
theorem dX6_findDouble_137 : decode cX6_findDouble 137 = .ok (.iaload, 1) := by decide +kernel
theorem dX6_findDouble_138 : decode cX6_findDouble 138 = .ok (.aload_n 0, 1) := by decide +kernel
theorem dX6_findDouble_139 : decode cX6_findDouble 139 = .ok (.getfield 43, 3) := by decide +kernel
theorem dX6_findDouble_142 : decode cX6_findDouble 142 = .ok (.iload 6, 2) := by decide +kernel
theorem dX6_findDouble_144 : decode cX6_findDouble 144 = .ok (.iaload, 1) := by decide +kernel
theorem dX6_findDouble_145 : decode cX6_findDouble 145 = .ok (.if_icmp .eq 6, 3) := by decide +kernel
theorem dX6_findDouble_148 : decode cX6_findDouble 148 = .ok (.goto 103, 3) := by decide +kernel
theorem dX6_findDouble_151 : decode cX6_findDouble 151 = .ok (.aload_n 0, 1) := by decide +kernel
theorem dX6_findDouble_152 : decode cX6_findDouble 152 = .ok (.getfield 40, 3) := by decide +kernel
theorem dX6_findDouble_155 : decode cX6_findDouble 155 = .ok (.iload 5, 2) := by decide +kernel
theorem dX6_findDouble_157 : decode cX6_findDouble 157 = .ok (.iaload, 1) := by decide +kernel
theorem dX6_findDouble_158 : decode cX6_findDouble 158 = .ok (.ifCond .le 13, 3) := by decide +kernel
theorem dX6_findDouble_161 : decode cX6_findDouble 161 = .ok (.aload_n 0, 1) := by decide +kernel
theorem dX6_findDouble_162 : decode cX6_findDouble 162 = .ok (.getfield 40, 3) := by decide +kernel
theorem dX6_findDouble_165 : decode cX6_findDouble 165 = .ok (.iload 5, 2) := by decide +kernel
theorem dX6_findDouble_167 : decode cX6_findDouble 167 = .ok (.iaload, 1) := by decide +kernel
theorem dX6_findDouble_168 : decode cX6_findDouble 168 = .ok (.goto 10, 3) := by decide +kernel
theorem dX6_findDouble_171 : decode cX6_findDouble 171 = .ok (.aload_n 0, 1) := by decide +kernel
theorem dX6_findDouble_172 : decode cX6_findDouble 172 = .ok (.getfield 40, 3) := by decide +kernel
theorem dX6_findDouble_175 : decode cX6_findDouble 175 = .ok (.iload 6, 2) := by decide +kernel
theorem dX6_findDouble_177 : decode cX6_findDouble 177 = .ok (.iaload, 1) := by decide +kernel
theorem dX6_findDouble_178 : decode cX6_findDouble 178 = .ok (.istore 9, 2) := by decide +kernel
theorem dX6_findDouble_180 : decode cX6_findDouble 180 = .ok (.aload_n 0, 1) := by decide +kernel
theorem dX6_findDouble_181 : decode cX6_findDouble 181 = .ok (.iload_n 1, 1) := by decide +kernel
theorem dX6_findDouble_182 : decode cX6_findDouble 182 = .ok (.sipush 1000, 3) := by decide +kernel
theorem dX6_findDouble_185 : decode cX6_findDouble 185 = .ok (.iload_n 2, 1) := by decide +kernel
theorem dX6_findDouble_186 : decode cX6_findDouble 186 = .ok (.imul, 1) := by decide +kernel
theorem dX6_findDouble_187 : decode cX6_findDouble 187 = .ok (.bipush 10, 2) := by decide +kernel
theorem dX6_findDouble_189 : decode cX6_findDouble 189 = .ok (.iload 9, 2) := by decide +kernel
theorem dX6_findDouble_191 : decode cX6_findDouble 191 = .ok (.imul, 1) := by decide +kernel
theorem dX6_findDouble_192 : decode cX6_findDouble 192 = .ok (.iadd, 1) := by decide +kernel
theorem dX6_findDouble_193 : decode cX6_findDouble 193 = .ok (.aload_n 0, 1) := by decide +kernel
theorem dX6_findDouble_194 : decode cX6_findDouble 194 = .ok (.getfield 43, 3) := by decide +kernel
theorem dX6_findDouble_197 : decode cX6_findDouble 197 = .ok (.iload 5, 2) := by decide +kernel
theorem dX6_findDouble_199 : decode cX6_findDouble 199 = .ok (.iaload, 1) := by decide +kernel
theorem dX6_findDouble_200 : decode cX6_findDouble 200 = .ok (.iadd, 1) := by decide +kernel
theorem dX6_findDouble_201 : decode cX6_findDouble 201 = .ok (.sipush 1000, 3) := by decide +kernel
theorem dX6_findDouble_204 : decode cX6_findDouble 204 = .ok (.iload_n 2, 1) := by decide +kernel
theorem dX6_findDouble_205 : decode cX6_findDouble 205 = .ok (.iconst 1, 1) := by decide +kernel
theorem dX6_findDouble_206 : decode cX6_findDouble 206 = .ok (.iadd, 1) := by decide +kernel
theorem dX6_findDouble_207 : decode cX6_findDouble 207 = .ok (.imul, 1) := by decide +kernel
theorem dX6_findDouble_208 : decode cX6_findDouble 208 = .ok (.bipush 10, 2) := by decide +kernel
theorem dX6_findDouble_210 : decode cX6_findDouble 210 = .ok (.aload_n 0, 1) := by decide +kernel
theorem dX6_findDouble_211 : decode cX6_findDouble 211 = .ok (.getfield 40, 3) := by decide +kernel
theorem dX6_findDouble_214 : decode cX6_findDouble 214 = .ok (.iload 6, 2) := by decide +kernel
theorem dX6_findDouble_216 : decode cX6_findDouble 216 = .ok (.iaload, 1) := by decide +kernel
theorem dX6_findDouble_217 : decode cX6_findDouble 217 = .ok (.imul, 1) := by decide +kernel
theorem dX6_findDouble_218 : decode cX6_findDouble 218 = .ok (.iadd, 1) := by decide +kernel
theorem dX6_findDouble_219 : decode cX6_findDouble 219 = .ok (.aload_n 0, 1) := by decide +kernel
theorem dX6_findDouble_220 : decode cX6_findDouble 220 = .ok (.getfield 43, 3) := by decide +kernel
theorem dX6_findDouble_223 : decode cX6_findDouble 223 = .ok (.iload 6, 2) := by decide +kernel
theorem dX6_findDouble_225 : decode cX6_findDouble 225 = .ok (.iaload, 1) := by decide +kernel
theorem dX6_findDouble_226 : decode cX6_findDouble 226 = .ok (.iadd, 1) := by decide +kernel
theorem dX6_findDouble_227 : decode cX6_findDouble 227 = .ok (.aload_n 0, 1) := by decide +kernel
theorem dX6_findDouble_228 : decode cX6_findDouble 228 = .ok (.getfield 43, 3) := by decide +kernel
theorem dX6_findDouble_231 : decode cX6_findDouble 231 = .ok (.iload 5, 2) := by decide +kernel
theorem dX6_findDouble_233 : decode cX6_findDouble 233 = .ok (.iaload, 1) := by decide +kernel
theorem dX6_findDouble_234 : decode cX6_findDouble 234 = .ok (.invokestatic 83, 3) := by decide +kernel
theorem dX6_findDouble_237 : decode cX6_findDouble 237 = .ok (.aload_n 0, 1) := by decide +kernel
theorem dX6_findDouble_238 : decode cX6_findDouble 238 = .ok (.getfield 43, 3) := by decide +kernel
theorem dX6_findDouble_241 : decode cX6_findDouble 241 = .ok (.iload 6, 2) := by decide +kernel
theorem dX6_findDouble_243 : decode cX6_findDouble 243 = .ok (.iaload, 1) := by decide +kernel
theorem dX6_findDouble_244 : decode cX6_findDouble 244 = .ok (.invokestatic 83, 3) := by decide +kernel
theorem dX6_findDouble_247 : decode cX6_findDouble 247 = .ok (.iadd, 1) := by decide +kernel
theorem dX6_findDouble_248 : decode cX6_findDouble 248 = .ok (.invokevirtual 87, 3) := by decide +kernel
theorem dX6_findDouble_251 : decode cX6_findDouble 251 = .ok (.iinc 6 1, 3) := by decide +kernel
theorem dX6_findDouble_254 : decode cX6_findDouble 254 = .ok (.goto (-219), 3) := by decide +kernel
theorem dX6_findDouble_257 : decode cX6_findDouble 257 = .ok (.iinc 5 1, 3) := by decide +kernel
theorem dX6_findDouble_260 : decode cX6_findDouble 260 = .ok (.goto (-240), 3) := by decide +kernel
theorem dX6_findDouble_263 : decode cX6_findDouble 263 = .ok (.return_, 1) := by decide +kernel
theorem dX6_findHolds_0 : decode cX6_findHolds 0 = .ok (.aload_n 0, 1) := by decide +kernel
theorem dX6_findHolds_1 : decode cX6_findHolds 1 = .ok (.getfield 28, 3) := by decide +kernel
theorem dX6_findHolds_4 : decode cX6_findHolds 4 = .ok (.iload_n 2, 1) := by decide +kernel
theorem dX6_findHolds_5 : decode cX6_findHolds 5 = .ok (.iconst 0, 1) := by decide +kernel
theorem dX6_findHolds_6 : decode cX6_findHolds 6 = .ok (.iastore, 1) := by decide +kernel
theorem dX6_findHolds_7 : decode cX6_findHolds 7 = .ok (.bipush 12, 2) := by decide +kernel
theorem dX6_findHolds_9 : decode cX6_findHolds 9 = .ok (.iload_n 1, 1) := by decide +kernel
theorem dX6_findHolds_10 : decode cX6_findHolds 10 = .ok (.imul, 1) := by decide +kernel
theorem dX6_findHolds_11 : decode cX6_findHolds 11 = .ok (.iload_n 2, 1) := by decide +kernel
theorem dX6_findHolds_12 : decode cX6_findHolds 12 = .ok (.iadd, 1) := by decide +kernel
theorem dX6_findHolds_13 : decode cX6_findHolds 13 = .ok (.istore_n 3, 1) := by decide +kernel
theorem dX6_findHolds_14 : decode cX6_findHolds 14 = .ok (.iconst 0, 1) := by decide +kernel
theorem dX6_findHolds_15 : decode cX6_findHolds 15 = .ok (.istore 4, 2) := by decide +kernel
theorem dX6_findHolds_17 : decode cX6_findHolds 17 = .ok (.iload 4, 2) := by decide +kernel
theorem dX6_findHolds_19 : decode cX6_findHolds 19 = .ok (.iconst 4, 1) := by decide +kernel
theorem dX6_findHolds_20 : decode cX6_findHolds 20 = .ok (.if_icmp .ge 139, 3) := by decide +kernel
theorem dX6_findHolds_23 : decode cX6_findHolds 23 = .ok (.aload_n 0, 1) := by decide +kernel
theorem dX6_findHolds_24 : decode cX6_findHolds 24 = .ok (.getfield 19, 3) := by decide +kernel
theorem dX6_findHolds_27 : decode cX6_findHolds 27 = .ok (.iload_n 3, 1) := by decide +kernel
theorem dX6_findHolds_28 : decode cX6_findHolds 28 = .ok (.iaload, 1) := by decide +kernel
theorem dX6_findHolds_29 : decode cX6_findHolds 29 = .ok (.ifCond .ge 80, 3) := by decide +kernel
theorem dX6_findHolds_32 : decode cX6_findHolds 32 = .ok (.aload_n 0, 1) := by decide +kernel
theorem dX6_findHolds_33 : decode cX6_findHolds 33 = .ok (.iconst 0, 1) := by decide +kernel
theorem dX6_findHolds_34 : decode cX6_findHolds 34 = .ok (.iload 4, 2) := by decide +kernel
theorem dX6_findHolds_36 : decode cX6_findHolds 36 = .ok (.aload_n 0, 1) := by decide +kernel
theorem dX6_findHolds_37 : decode cX6_findHolds 37 = .ok (.getfield 16, 3) := by decide +kernel
theorem dX6_findHolds_40 : decode cX6_findHolds 40 = .ok (.iload_n 3, 1) := by decide +kernel
theorem dX6_findHolds_41 : decode cX6_findHolds 41 = .ok (.iaload, 1) := by decide +kernel
theorem dX6_findHolds_42 : decode cX6_findHolds 42 = .ok (.invokevirtual 79, 3) := by decide +kernel
theorem dX6_findHolds_45 : decode cX6_findHolds 45 = .ok (.iconst 0, 1) := by decide +kernel
theorem dX6_findHolds_46 : decode cX6_findHolds 46 = .ok (.istore 5, 2) := by decide +kernel
theorem dX6_findHolds_48 : decode cX6_findHolds 48 = .ok (.iload 5, 2) := by decide +kernel
theorem dX6_findHolds_50 : decode cX6_findHolds 50 = .ok (.aload_n 0, 1) := by decide +kernel
theorem dX6_findHolds_51 : decode cX6_findHolds 51 = .ok (.getfield 46, 3) := by decide +kernel
theorem dX6_findHolds_54 : decode cX6_findHolds 54 = .ok (.iconst 0, 1) := by decide +kernel
theorem dX6_findHolds_55 : decode cX6_findHolds 55 = .ok (.iaload, 1) := by decide +kernel
theorem dX6_findHolds_56 : decode cX6_findHolds 56 = .ok (.if_icmp .ge 50, 3) := by decide +kernel
theorem dX6_findHolds_59 : decode cX6_findHolds 59 = .ok (.aload_n 0, 1) := by decide +kernel
theorem dX6_findHolds_60 : decode cX6_findHolds 60 = .ok (.iload_n 2, 1) := by decide +kernel
theorem dX6_findHolds_61 : decode cX6_findHolds 61 = .ok (.sipush 1000, 3) := by decide +kernel
theorem dX6_findHolds_64 : decode cX6_findHolds 64 = .ok (.iload 4, 2) := by decide +kernel
theorem dX6_findHolds_66 : decode cX6_findHolds 66 = .ok (.imul, 1) := by decide +kernel
theorem dX6_findHolds_67 : decode cX6_findHolds 67 = .ok (.bipush 10, 2) := by decide +kernel
theorem dX6_findHolds_69 : decode cX6_findHolds 69 = .ok (.aload_n 0, 1) := by decide +kernel
theorem dX6_findHolds_70 : decode cX6_findHolds 70 = .ok (.getfield 40, 3) := by decide +kernel
theorem dX6_findHolds_73 : decode cX6_findHolds 73 = .ok (.iload 5, 2) := by decide +kernel
theorem dX6_findHolds_75 : decode cX6_findHolds 75 = .ok (.iaload, 1) := by decide +kernel
theorem dX6_findHolds_76 : decode cX6_findHolds 76 = .ok (.imul, 1) := by decide +kernel
theorem dX6_findHolds_77 : decode cX6_findHolds 77 = .ok (.iadd, 1) := by decide +kernel
theorem dX6_findHolds_78 : decode cX6_findHolds 78 = .ok (.aload_n 0, 1) := by decide +kernel
theorem dX6_findHolds_79 : decode cX6_findHolds 79 = .ok (.getfield 43, 3) := by decide +kernel
theorem dX6_findHolds_82 : decode cX6_findHolds 82 = .ok (.iload 5, 2) := by decide +kernel
theorem dX6_findHolds_84 : decode cX6_findHolds 84 = .ok (.iaload, 1) := by decide +kernel
theorem dX6_findHolds_85 : decode cX6_findHolds 85 = .ok (.iadd, 1) := by decide +kernel
theorem dX6_findHolds_86 : decode cX6_findHolds 86 = .ok (.iconst (-1), 1) := by decide +kernel
theorem dX6_findHolds_87 : decode cX6_findHolds 87 = .ok (.aload_n 0, 1) := by decide +kernel
theorem dX6_findHolds_88 : decode cX6_findHolds 88 = .ok (.getfield 43, 3) := by decide +kernel
theorem dX6_findHolds_91 : decode cX6_findHolds 91 = .ok (.iload 5, 2) := by decide +kernel
theorem dX6_findHolds_93 : decode cX6_findHolds 93 = .ok (.iaload, 1) := by decide +kernel
theorem dX6_findHolds_94 : decode cX6_findHolds 94 = .ok (.invokestatic 83, 3) := by decide +kernel
theorem dX6_findHolds_97 : decode cX6_findHolds 97 = .ok (.invokevirtual 87, 3) := by decide +kernel
theorem dX6_findHolds_100 : decode cX6_findHolds 100 = .ok (.iinc 5 1, 3) := by decide +kernel
theorem dX6_findHolds_103 : decode cX6_findHolds 103 = .ok (.goto (-55), 3) := by decide +kernel
theorem dX6_findHolds_106 : decode cX6_findHolds 106 = .ok (.goto 47, 3) := by decide +kernel
theorem dX6_findHolds_109 : decode cX6_findHolds 109 = .ok (.iload 4, 2) := by decide +kernel
theorem dX6_findHolds_111 : decode cX6_findHolds 111 = .ok (.iconst 3, 1) := by decide +kernel
theorem dX6_findHolds_112 : decode cX6_findHolds 112 = .ok (.if_icmp .ge 41, 3) := by decide +kernel
theorem dX6_findHolds_115 : decode cX6_findHolds 115 = .ok (.aload_n 0, 1) := by decide +kernel
theorem dX6_findHolds_116 : decode cX6_findHolds 116 = .ok (.iload_n 2, 1) := by decide +kernel
theorem dX6_findHolds_117 : decode cX6_findHolds 117 = .ok (.iload 4, 2) := by decide +kernel
theorem dX6_findHolds_119 : decode cX6_findHolds 119 = .ok (.aload_n 0, 1) := by decide +kernel
theorem dX6_findHolds_120 : decode cX6_findHolds 120 = .ok (.getfield 16, 3) := by decide +kernel
theorem dX6_findHolds_123 : decode cX6_findHolds 123 = .ok (.iload_n 3, 1) := by decide +kernel
theorem dX6_findHolds_124 : decode cX6_findHolds 124 = .ok (.iaload, 1) := by decide +kernel
theorem dX6_findHolds_125 : decode cX6_findHolds 125 = .ok (.aload_n 0, 1) := by decide +kernel
theorem dX6_findHolds_126 : decode cX6_findHolds 126 = .ok (.getfield 19, 3) := by decide +kernel
theorem dX6_findHolds_129 : decode cX6_findHolds 129 = .ok (.iload_n 3, 1) := by decide +kernel
theorem dX6_findHolds_130 : decode cX6_findHolds 130 = .ok (.iaload, 1) := by decide +kernel
theorem dX6_findHolds_131 : decode cX6_findHolds 131 = .ok (.invokevirtual 91, 3) := by decide +kernel
theorem dX6_findHolds_134 : decode cX6_findHolds 134 = .ok (.aload_n 0, 1) := by decide +kernel
theorem dX6_findHolds_135 : decode cX6_findHolds 135 = .ok (.iload_n 2, 1) := by decide +kernel
theorem dX6_findHolds_136 : decode cX6_findHolds 136 = .ok (.iload 4, 2) := by decide +kernel
theorem dX6_findHolds_138 : decode cX6_findHolds 138 = .ok (.aload_n 0, 1) := by decide +kernel
theorem dX6_findHolds_139 : decode cX6_findHolds 139 = .ok (.getfield 19, 3) := by decide +kernel
theorem dX6_findHolds_142 : decode cX6_findHolds 142 = .ok (.iload_n 3, 1) := by decide +kernel
theorem dX6_findHolds_143 : decode cX6_findHolds 143 = .ok (.iaload, 1) := by decide +kernel
theorem dX6_findHolds_144 : decode cX6_findHolds 144 = .ok (.aload_n 0, 1) := by decide +kernel
theorem dX6_findHolds_145 : decode cX6_findHolds 145 = .ok (.getfield 16, 3) := by decide +kernel
theorem dX6_findHolds_148 : decode cX6_findHolds 148 = .ok (.iload_n 3, 1) := by decide +kernel
theorem dX6_findHolds_149 : decode cX6_findHolds 149 = .ok (.iaload, 1) := by decide +kernel
theorem dX6_findHolds_150 : decode cX6_findHolds 150 = .ok (.invokevirtual 91, 3) := by decide +kernel
theorem dX6_findHolds_153 : decode cX6_findHolds 153 = .ok (.iinc 4 1, 3) := by decide +kernel
theorem dX6_findHolds_156 : decode cX6_findHolds 156 = .ok (.goto (-139), 3) := by decide +kernel
theorem dX6_findHolds_159 : decode cX6_findHolds 159 = .ok (.return_, 1) := by decide +kernel
theorem dX6_of_0 : decode cX6_of 0 = .ok (.aload_n 0, 1) := by decide +kernel
theorem dX6_of_1 : decode cX6_of 1 = .ok (.iload_n 1, 1) := by decide +kernel
theorem dX6_of_2 : decode cX6_of 2 = .ok (.iload_n 2, 1) := by decide +kernel
theorem dX6_of_3 : decode cX6_of 3 = .ok (.invokevirtual 76, 3) := by decide +kernel
theorem dX6_of_6 : decode cX6_of 6 = .ok (.ifCond .ne 5, 3) := by decide +kernel
theorem dX6_of_9 : decode cX6_of 9 = .ok (.iconst (-1), 1) := by decide +kernel
theorem dX6_of_10 : decode cX6_of 10 = .ok (.ireturn, 1) := by decide +kernel
theorem dX6_of_11 : decode cX6_of 11 = .ok (.bipush 12, 2) := by decide +kernel
theorem dX6_of_13 : decode cX6_of 13 = .ok (.iload_n 1, 1) := by decide +kernel
theorem dX6_of_14 : decode cX6_of 14 = .ok (.imul, 1) := by decide +kernel
theorem dX6_of_15 : decode cX6_of 15 = .ok (.iload_n 2, 1) := by decide +kernel
theorem dX6_of_16 : decode cX6_of 16 = .ok (.iadd, 1) := by decide +kernel
theorem dX6_of_17 : decode cX6_of 17 = .ok (.istore 4, 2) := by decide +kernel
theorem dX6_of_19 : decode cX6_of 19 = .ok (.iload_n 3, 1) := by decide +kernel
theorem dX6_of_20 : decode cX6_of 20 = .ok (.tableswitch 107 0 5 #[40, 48, 56, 64, 87, 94], 40) := by decide +kernel
theorem dX6_of_60 : decode cX6_of 60 = .ok (.aload_n 0, 1) := by decide +kernel
theorem dX6_of_61 : decode cX6_of 61 = .ok (.getfield 16, 3) := by decide +kernel
theorem dX6_of_64 : decode cX6_of 64 = .ok (.iload 4, 2) := by decide +kernel
theorem dX6_of_66 : decode cX6_of 66 = .ok (.iaload, 1) := by decide +kernel
theorem dX6_of_67 : decode cX6_of 67 = .ok (.ireturn, 1) := by decide +kernel
theorem dX6_of_68 : decode cX6_of 68 = .ok (.aload_n 0, 1) := by decide +kernel
theorem dX6_of_69 : decode cX6_of 69 = .ok (.getfield 22, 3) := by decide +kernel
theorem dX6_of_72 : decode cX6_of 72 = .ok (.iload 4, 2) := by decide +kernel
theorem dX6_of_74 : decode cX6_of 74 = .ok (.iaload, 1) := by decide +kernel
theorem dX6_of_75 : decode cX6_of 75 = .ok (.ireturn, 1) := by decide +kernel
theorem dX6_of_76 : decode cX6_of 76 = .ok (.aload_n 0, 1) := by decide +kernel
theorem dX6_of_77 : decode cX6_of 77 = .ok (.getfield 25, 3) := by decide +kernel
theorem dX6_of_80 : decode cX6_of 80 = .ok (.iload 4, 2) := by decide +kernel
theorem dX6_of_82 : decode cX6_of 82 = .ok (.iaload, 1) := by decide +kernel
theorem dX6_of_83 : decode cX6_of 83 = .ok (.ireturn, 1) := by decide +kernel
theorem dX6_of_84 : decode cX6_of 84 = .ok (.aload_n 0, 1) := by decide +kernel
theorem dX6_of_85 : decode cX6_of 85 = .ok (.getfield 19, 3) := by decide +kernel
theorem dX6_of_88 : decode cX6_of 88 = .ok (.iload 4, 2) := by decide +kernel
theorem dX6_of_90 : decode cX6_of 90 = .ok (.iaload, 1) := by decide +kernel
theorem dX6_of_91 : decode cX6_of 91 = .ok (.ifCond .ge 8, 3) := by decide +kernel
theorem dX6_of_94 : decode cX6_of 94 = .ok (.bipush (-3), 2) := by decide +kernel
theorem dX6_of_96 : decode cX6_of 96 = .ok (.goto 10, 3) := by decide +kernel
theorem dX6_of_99 : decode cX6_of 99 = .ok (.aload_n 0, 1) := by decide +kernel
theorem dX6_of_100 : decode cX6_of 100 = .ok (.getfield 19, 3) := by decide +kernel
theorem dX6_of_103 : decode cX6_of 103 = .ok (.iload 4, 2) := by decide +kernel
theorem dX6_of_105 : decode cX6_of 105 = .ok (.iaload, 1) := by decide +kernel
theorem dX6_of_106 : decode cX6_of 106 = .ok (.ireturn, 1) := by decide +kernel
theorem dX6_of_107 : decode cX6_of 107 = .ok (.aload_n 0, 1) := by decide +kernel
theorem dX6_of_108 : decode cX6_of 108 = .ok (.iload_n 1, 1) := by decide +kernel
theorem dX6_of_109 : decode cX6_of 109 = .ok (.iload_n 2, 1) := by decide +kernel
theorem dX6_of_110 : decode cX6_of 110 = .ok (.invokevirtual 94, 3) := by decide +kernel
theorem dX6_of_113 : decode cX6_of 113 = .ok (.ireturn, 1) := by decide +kernel
theorem dX6_of_114 : decode cX6_of 114 = .ok (.aload_n 0, 1) := by decide +kernel
theorem dX6_of_115 : decode cX6_of 115 = .ok (.iload_n 1, 1) := by decide +kernel
theorem dX6_of_116 : decode cX6_of 116 = .ok (.iload_n 2, 1) := by decide +kernel
theorem dX6_of_117 : decode cX6_of 117 = .ok (.invokevirtual 98, 3) := by decide +kernel
theorem dX6_of_120 : decode cX6_of 120 = .ok (.aload_n 0, 1) := by decide +kernel
theorem dX6_of_121 : decode cX6_of 121 = .ok (.getfield 28, 3) := by decide +kernel
theorem dX6_of_124 : decode cX6_of 124 = .ok (.iload_n 2, 1) := by decide +kernel
theorem dX6_of_125 : decode cX6_of 125 = .ok (.iaload, 1) := by decide +kernel
theorem dX6_of_126 : decode cX6_of 126 = .ok (.ireturn, 1) := by decide +kernel
theorem dX6_of_127 : decode cX6_of 127 = .ok (.iconst (-1), 1) := by decide +kernel
theorem dX6_of_128 : decode cX6_of 128 = .ok (.ireturn, 1) := by decide +kernel
theorem dX6_hold_0 : decode cX6_hold 0 = .ok (.aload_n 0, 1) := by decide +kernel
theorem dX6_hold_1 : decode cX6_hold 1 = .ok (.iload_n 1, 1) := by decide +kernel
theorem dX6_hold_2 : decode cX6_hold 2 = .ok (.iload_n 2, 1) := by decide +kernel
theorem dX6_hold_3 : decode cX6_hold 3 = .ok (.invokevirtual 76, 3) := by decide +kernel
theorem dX6_hold_6 : decode cX6_hold 6 = .ok (.ifCond .ne 5, 3) := by decide +kernel
theorem dX6_hold_9 : decode cX6_hold 9 = .ok (.iconst (-1), 1) := by decide +kernel
theorem dX6_hold_10 : decode cX6_hold 10 = .ok (.ireturn, 1) := by decide +kernel
theorem dX6_hold_11 : decode cX6_hold 11 = .ok (.aload_n 0, 1) := by decide +kernel
theorem dX6_hold_12 : decode cX6_hold 12 = .ok (.iload_n 1, 1) := by decide +kernel
theorem dX6_hold_13 : decode cX6_hold 13 = .ok (.iload_n 2, 1) := by decide +kernel
theorem dX6_hold_14 : decode cX6_hold 14 = .ok (.invokevirtual 98, 3) := by decide +kernel
theorem dX6_hold_17 : decode cX6_hold 17 = .ok (.iload_n 3, 1) := by decide +kernel
theorem dX6_hold_18 : decode cX6_hold 18 = .ok (.iconst 0, 1) := by decide +kernel
theorem dX6_hold_19 : decode cX6_hold 19 = .ok (.aload_n 0, 1) := by decide +kernel
theorem dX6_hold_20 : decode cX6_hold 20 = .ok (.getfield 28, 3) := by decide +kernel
theorem dX6_hold_23 : decode cX6_hold 23 = .ok (.iload_n 2, 1) := by decide +kernel
theorem dX6_hold_24 : decode cX6_hold 24 = .ok (.iaload, 1) := by decide +kernel
theorem dX6_hold_25 : decode cX6_hold 25 = .ok (.iconst 1, 1) := by decide +kernel
theorem dX6_hold_26 : decode cX6_hold 26 = .ok (.isub, 1) := by decide +kernel
theorem dX6_hold_27 : decode cX6_hold 27 = .ok (.invokestatic 61, 3) := by decide +kernel
theorem dX6_hold_30 : decode cX6_hold 30 = .ok (.ifCond .eq 18, 3) := by decide +kernel
theorem dX6_hold_33 : decode cX6_hold 33 = .ok (.aload_n 0, 1) := by decide +kernel
theorem dX6_hold_34 : decode cX6_hold 34 = .ok (.getfield 31, 3) := by decide +kernel
theorem dX6_hold_37 : decode cX6_hold 37 = .ok (.sipush 500, 3) := by decide +kernel
theorem dX6_hold_40 : decode cX6_hold 40 = .ok (.iload_n 2, 1) := by decide +kernel
theorem dX6_hold_41 : decode cX6_hold 41 = .ok (.imul, 1) := by decide +kernel
theorem dX6_hold_42 : decode cX6_hold 42 = .ok (.iload_n 3, 1) := by decide +kernel
theorem dX6_hold_43 : decode cX6_hold 43 = .ok (.iadd, 1) := by decide +kernel
theorem dX6_hold_44 : decode cX6_hold 44 = .ok (.iaload, 1) := by decide +kernel
theorem dX6_hold_45 : decode cX6_hold 45 = .ok (.goto 5, 3) := by decide +kernel
theorem dX6_hold_48 : decode cX6_hold 48 = .ok (.bipush (-3), 2) := by decide +kernel
theorem dX6_hold_50 : decode cX6_hold 50 = .ok (.ireturn, 1) := by decide +kernel
theorem dX6_handOf_0 : decode cX6_handOf 0 = .ok (.iload_n 0, 1) := by decide +kernel
theorem dX6_handOf_1 : decode cX6_handOf 1 = .ok (.sipush 1000, 3) := by decide +kernel
theorem dX6_handOf_4 : decode cX6_handOf 4 = .ok (.irem, 1) := by decide +kernel
theorem dX6_handOf_5 : decode cX6_handOf 5 = .ok (.bipush 10, 2) := by decide +kernel
theorem dX6_handOf_7 : decode cX6_handOf 7 = .ok (.idiv, 1) := by decide +kernel
theorem dX6_handOf_8 : decode cX6_handOf 8 = .ok (.ireturn, 1) := by decide +kernel
theorem dX6_apart_0 : decode cX6_apart 0 = .ok (.iload_n 0, 1) := by decide +kernel
theorem dX6_apart_1 : decode cX6_apart 1 = .ok (.iload_n 1, 1) := by decide +kernel
theorem dX6_apart_2 : decode cX6_apart 2 = .ok (.if_icmp .ge 9, 3) := by decide +kernel
theorem dX6_apart_5 : decode cX6_apart 5 = .ok (.iload_n 1, 1) := by decide +kernel
theorem dX6_apart_6 : decode cX6_apart 6 = .ok (.iload_n 0, 1) := by decide +kernel
theorem dX6_apart_7 : decode cX6_apart 7 = .ok (.isub, 1) := by decide +kernel
theorem dX6_apart_8 : decode cX6_apart 8 = .ok (.goto 6, 3) := by decide +kernel
theorem dX6_apart_11 : decode cX6_apart 11 = .ok (.iload_n 0, 1) := by decide +kernel
theorem dX6_apart_12 : decode cX6_apart 12 = .ok (.iload_n 1, 1) := by decide +kernel
theorem dX6_apart_13 : decode cX6_apart 13 = .ok (.isub, 1) := by decide +kernel
theorem dX6_apart_14 : decode cX6_apart 14 = .ok (.ireturn, 1) := by decide +kernel
theorem dX6_comes_0 : decode cX6_comes 0 = .ok (.aload_n 0, 1) := by decide +kernel
theorem dX6_comes_1 : decode cX6_comes 1 = .ok (.getfield 31, 3) := by decide +kernel
theorem dX6_comes_4 : decode cX6_comes 4 = .ok (.iload_n 3, 1) := by decide +kernel
theorem dX6_comes_5 : decode cX6_comes 5 = .ok (.iaload, 1) := by decide +kernel
theorem dX6_comes_6 : decode cX6_comes 6 = .ok (.sipush 1000, 3) := by decide +kernel
theorem dX6_comes_9 : decode cX6_comes 9 = .ok (.idiv, 1) := by decide +kernel
theorem dX6_comes_10 : decode cX6_comes 10 = .ok (.aload_n 0, 1) := by decide +kernel
theorem dX6_comes_11 : decode cX6_comes 11 = .ok (.getfield 31, 3) := by decide +kernel
theorem dX6_comes_14 : decode cX6_comes 14 = .ok (.iload 4, 2) := by decide +kernel
theorem dX6_comes_16 : decode cX6_comes 16 = .ok (.iaload, 1) := by decide +kernel
theorem dX6_comes_17 : decode cX6_comes 17 = .ok (.sipush 1000, 3) := by decide +kernel
theorem dX6_comes_20 : decode cX6_comes 20 = .ok (.idiv, 1) := by decide +kernel
theorem dX6_comes_21 : decode cX6_comes 21 = .ok (.invokestatic 102, 3) := by decide +kernel
theorem dX6_comes_24 : decode cX6_comes 24 = .ok (.istore 5, 2) := by decide +kernel
theorem dX6_comes_26 : decode cX6_comes 26 = .ok (.aload_n 0, 1) := by decide +kernel
theorem dX6_comes_27 : decode cX6_comes 27 = .ok (.getfield 31, 3) := by decide +kernel
theorem dX6_comes_30 : decode cX6_comes 30 = .ok (.iload_n 3, 1) := by decide +kernel
theorem dX6_comes_31 : decode cX6_comes 31 = .ok (.iaload, 1) := by decide +kernel
theorem dX6_comes_32 : decode cX6_comes 32 = .ok (.invokestatic 105, 3) := by decide +kernel
theorem dX6_comes_35 : decode cX6_comes 35 = .ok (.istore 6, 2) := by decide +kernel
theorem dX6_comes_37 : decode cX6_comes 37 = .ok (.aload_n 0, 1) := by decide +kernel
theorem dX6_comes_38 : decode cX6_comes 38 = .ok (.getfield 31, 3) := by decide +kernel
theorem dX6_comes_41 : decode cX6_comes 41 = .ok (.iload 4, 2) := by decide +kernel
theorem dX6_comes_43 : decode cX6_comes 43 = .ok (.iaload, 1) := by decide +kernel
theorem dX6_comes_44 : decode cX6_comes 44 = .ok (.invokestatic 105, 3) := by decide +kernel
theorem dX6_comes_47 : decode cX6_comes 47 = .ok (.istore 7, 2) := by decide +kernel
theorem dX6_comes_49 : decode cX6_comes 49 = .ok (.iload 6, 2) := by decide +kernel
theorem dX6_comes_51 : decode cX6_comes 51 = .ok (.ifCond .eq 36, 3) := by decide +kernel
theorem dX6_comes_54 : decode cX6_comes 54 = .ok (.iload 7, 2) := by decide +kernel
theorem dX6_comes_56 : decode cX6_comes 56 = .ok (.ifCond .eq 31, 3) := by decide +kernel
theorem dX6_comes_59 : decode cX6_comes 59 = .ok (.iload 6, 2) := by decide +kernel
theorem dX6_comes_61 : decode cX6_comes 61 = .ok (.iload 7, 2) := by decide +kernel
theorem dX6_comes_63 : decode cX6_comes 63 = .ok (.if_icmp .eq 24, 3) := by decide +kernel
theorem dX6_comes_66 : decode cX6_comes 66 = .ok (.aload_n 0, 1) := by decide +kernel
theorem dX6_comes_67 : decode cX6_comes 67 = .ok (.iload_n 1, 1) := by decide +kernel
theorem dX6_comes_68 : decode cX6_comes 68 = .ok (.iload_n 2, 1) := by decide +kernel
theorem dX6_comes_69 : decode cX6_comes 69 = .ok (.iconst 1, 1) := by decide +kernel
theorem dX6_comes_70 : decode cX6_comes 70 = .ok (.invokevirtual 108, 3) := by decide +kernel
theorem dX6_comes_73 : decode cX6_comes 73 = .ok (.ifCond .ne 14, 3) := by decide +kernel
theorem dX6_comes_76 : decode cX6_comes 76 = .ok (.aload_n 0, 1) := by decide +kernel
theorem dX6_comes_77 : decode cX6_comes 77 = .ok (.iload_n 1, 1) := by decide +kernel
theorem dX6_comes_78 : decode cX6_comes 78 = .ok (.iload_n 2, 1) := by decide +kernel
theorem dX6_comes_79 : decode cX6_comes 79 = .ok (.bipush 8, 2) := by decide +kernel
theorem dX6_comes_81 : decode cX6_comes 81 = .ok (.invokevirtual 108, 3) := by decide +kernel
theorem dX6_comes_84 : decode cX6_comes 84 = .ok (.ifCond .eq 6, 3) := by decide +kernel
theorem dX6_comes_87 : decode cX6_comes 87 = .ok (.iload 5, 2) := by decide +kernel
theorem dX6_comes_89 : decode cX6_comes 89 = .ok (.ireturn, 1) := by decide +kernel
theorem dX6_comes_90 : decode cX6_comes 90 = .ok (.aload_n 0, 1) := by decide +kernel
theorem dX6_comes_91 : decode cX6_comes 91 = .ok (.iload_n 1, 1) := by decide +kernel
theorem dX6_comes_92 : decode cX6_comes 92 = .ok (.iload_n 2, 1) := by decide +kernel
theorem dX6_comes_93 : decode cX6_comes 93 = .ok (.iconst 2, 1) := by decide +kernel
theorem dX6_comes_94 : decode cX6_comes 94 = .ok (.invokevirtual 108, 3) := by decide +kernel
theorem dX6_comes_97 : decode cX6_comes 97 = .ok (.ifCond .eq 8, 3) := by decide +kernel
theorem dX6_comes_100 : decode cX6_comes 100 = .ok (.ldc 111, 2) := by decide +kernel
theorem dX6_comes_102 : decode cX6_comes 102 = .ok (.goto 15, 3) := by decide +kernel
theorem dX6_comes_105 : decode cX6_comes 105 = .ok (.iload 5, 2) := by decide +kernel
theorem dX6_comes_107 : decode cX6_comes 107 = .ok (.iconst 2, 1) := by decide +kernel
theorem dX6_comes_108 : decode cX6_comes 108 = .ok (.iload 6, 2) := by decide +kernel
theorem dX6_comes_110 : decode cX6_comes 110 = .ok (.iload 7, 2) := by decide +kernel
theorem dX6_comes_112 : decode cX6_comes 112 = .ok (.invokestatic 102, 3) := by decide +kernel
theorem dX6_comes_115 : decode cX6_comes 115 = .ok (.imul, 1) := by decide +kernel
theorem dX6_comes_116 : decode cX6_comes 116 = .ok (.iadd, 1) := by decide +kernel
theorem dX6_comes_117 : decode cX6_comes 117 = .ok (.ireturn, 1) := by decide +kernel
theorem dX6_findHardest_0 : decode cX6_findHardest 0 = .ok (.sipush 500, 3) := by decide +kernel
theorem dX6_findHardest_3 : decode cX6_findHardest 3 = .ok (.iload_n 2, 1) := by decide +kernel
theorem dX6_findHardest_4 : decode cX6_findHardest 4 = .ok (.imul, 1) := by decide +kernel
theorem dX6_findHardest_5 : decode cX6_findHardest 5 = .ok (.istore_n 3, 1) := by decide +kernel
theorem dX6_findHardest_6 : decode cX6_findHardest 6 = .ok (.iload_n 3, 1) := by decide +kernel
theorem dX6_findHardest_7 : decode cX6_findHardest 7 = .ok (.sipush 500, 3) := by decide +kernel
theorem dX6_findHardest_10 : decode cX6_findHardest 10 = .ok (.iload_n 2, 1) := by decide +kernel
theorem dX6_findHardest_11 : decode cX6_findHardest 11 = .ok (.imul, 1) := by decide +kernel
theorem dX6_findHardest_12 : decode cX6_findHardest 12 = .ok (.aload_n 0, 1) := by decide +kernel
theorem dX6_findHardest_13 : decode cX6_findHardest 13 = .ok (.getfield 28, 3) := by decide +kernel
theorem dX6_findHardest_16 : decode cX6_findHardest 16 = .ok (.iload_n 2, 1) := by decide +kernel
theorem dX6_findHardest_17 : decode cX6_findHardest 17 = .ok (.iaload, 1) := by decide +kernel
theorem dX6_findHardest_18 : decode cX6_findHardest 18 = .ok (.iadd, 1) := by decide +kernel
theorem dX6_findHardest_19 : decode cX6_findHardest 19 = .ok (.if_icmp .ge 141, 3) := by decide +kernel
theorem dX6_findHardest_22 : decode cX6_findHardest 22 = .ok (.iload_n 2, 1) := by decide +kernel
theorem dX6_findHardest_23 : decode cX6_findHardest 23 = .ok (.aload_n 0, 1) := by decide +kernel
theorem dX6_findHardest_24 : decode cX6_findHardest 24 = .ok (.getfield 13, 3) := by decide +kernel
theorem dX6_findHardest_27 : decode cX6_findHardest 27 = .ok (.iload_n 1, 1) := by decide +kernel
theorem dX6_findHardest_28 : decode cX6_findHardest 28 = .ok (.iaload, 1) := by decide +kernel
theorem dX6_findHardest_29 : decode cX6_findHardest 29 = .ok (.iconst 1, 1) := by decide +kernel
theorem dX6_findHardest_30 : decode cX6_findHardest 30 = .ok (.isub, 1) := by decide +kernel
theorem dX6_findHardest_31 : decode cX6_findHardest 31 = .ok (.if_icmp .ne 7, 3) := by decide +kernel
theorem dX6_findHardest_34 : decode cX6_findHardest 34 = .ok (.iconst 0, 1) := by decide +kernel
theorem dX6_findHardest_35 : decode cX6_findHardest 35 = .ok (.goto 5, 3) := by decide +kernel
theorem dX6_findHardest_38 : decode cX6_findHardest 38 = .ok (.ldc 111, 2) := by decide +kernel
theorem dX6_findHardest_40 : decode cX6_findHardest 40 = .ok (.istore 4, 2) := by decide +kernel
theorem dX6_findHardest_42 : decode cX6_findHardest 42 = .ok (.sipush 500, 3) := by decide +kernel
theorem dX6_findHardest_45 : decode cX6_findHardest 45 = .ok (.iload_n 2, 1) := by decide +kernel
theorem dX6_findHardest_46 : decode cX6_findHardest 46 = .ok (.iconst 1, 1) := by decide +kernel
theorem dX6_findHardest_47 : decode cX6_findHardest 47 = .ok (.iadd, 1) := by decide +kernel
theorem dX6_findHardest_48 : decode cX6_findHardest 48 = .ok (.imul, 1) := by decide +kernel
theorem dX6_findHardest_49 : decode cX6_findHardest 49 = .ok (.istore 5, 2) := by decide +kernel
theorem dX6_findHardest_51 : decode cX6_findHardest 51 = .ok (.iload_n 2, 1) := by decide +kernel
theorem dX6_findHardest_52 : decode cX6_findHardest 52 = .ok (.aload_n 0, 1) := by decide +kernel
theorem dX6_findHardest_53 : decode cX6_findHardest 53 = .ok (.getfield 13, 3) := by decide +kernel
theorem dX6_findHardest_56 : decode cX6_findHardest 56 = .ok (.iload_n 1, 1) := by decide +kernel
theorem dX6_findHardest_57 : decode cX6_findHardest 57 = .ok (.iaload, 1) := by decide +kernel
theorem dX6_findHardest_58 : decode cX6_findHardest 58 = .ok (.iconst 1, 1) := by decide +kernel
theorem dX6_findHardest_59 : decode cX6_findHardest 59 = .ok (.isub, 1) := by decide +kernel
theorem dX6_findHardest_60 : decode cX6_findHardest 60 = .ok (.if_icmp .ge 67, 3) := by decide +kernel
theorem dX6_findHardest_63 : decode cX6_findHardest 63 = .ok (.iload 5, 2) := by decide +kernel
theorem dX6_findHardest_65 : decode cX6_findHardest 65 = .ok (.sipush 500, 3) := by decide +kernel
theorem dX6_findHardest_68 : decode cX6_findHardest 68 = .ok (.iload_n 2, 1) := by decide +kernel
theorem dX6_findHardest_69 : decode cX6_findHardest 69 = .ok (.iconst 1, 1) := by decide +kernel
theorem dX6_findHardest_70 : decode cX6_findHardest 70 = .ok (.iadd, 1) := by decide +kernel
theorem dX6_findHardest_71 : decode cX6_findHardest 71 = .ok (.imul, 1) := by decide +kernel
theorem dX6_findHardest_72 : decode cX6_findHardest 72 = .ok (.aload_n 0, 1) := by decide +kernel
theorem dX6_findHardest_73 : decode cX6_findHardest 73 = .ok (.getfield 28, 3) := by decide +kernel
theorem dX6_findHardest_76 : decode cX6_findHardest 76 = .ok (.iload_n 2, 1) := by decide +kernel
theorem dX6_findHardest_77 : decode cX6_findHardest 77 = .ok (.iconst 1, 1) := by decide +kernel
theorem dX6_findHardest_78 : decode cX6_findHardest 78 = .ok (.iadd, 1) := by decide +kernel
theorem dX6_findHardest_79 : decode cX6_findHardest 79 = .ok (.iaload, 1) := by decide +kernel
theorem dX6_findHardest_80 : decode cX6_findHardest 80 = .ok (.iadd, 1) := by decide +kernel
theorem dX6_findHardest_81 : decode cX6_findHardest 81 = .ok (.if_icmp .ge 46, 3) := by decide +kernel
theorem dX6_findHardest_84 : decode cX6_findHardest 84 = .ok (.aload_n 0, 1) := by decide +kernel
theorem dX6_findHardest_85 : decode cX6_findHardest 85 = .ok (.iload_n 1, 1) := by decide +kernel
theorem dX6_findHardest_86 : decode cX6_findHardest 86 = .ok (.iload_n 2, 1) := by decide +kernel
theorem dX6_findHardest_87 : decode cX6_findHardest 87 = .ok (.iconst 1, 1) := by decide +kernel
theorem dX6_findHardest_88 : decode cX6_findHardest 88 = .ok (.iadd, 1) := by decide +kernel
theorem dX6_findHardest_89 : decode cX6_findHardest 89 = .ok (.iload_n 3, 1) := by decide +kernel
theorem dX6_findHardest_90 : decode cX6_findHardest 90 = .ok (.iload 5, 2) := by decide +kernel
theorem dX6_findHardest_92 : decode cX6_findHardest 92 = .ok (.invokevirtual 112, 3) := by decide +kernel
theorem dX6_findHardest_95 : decode cX6_findHardest 95 = .ok (.aload_n 0, 1) := by decide +kernel
theorem dX6_findHardest_96 : decode cX6_findHardest 96 = .ok (.getfield 49, 3) := by decide +kernel
theorem dX6_findHardest_99 : decode cX6_findHardest 99 = .ok (.iload 5, 2) := by decide +kernel
theorem dX6_findHardest_101 : decode cX6_findHardest 101 = .ok (.iaload, 1) := by decide +kernel
theorem dX6_findHardest_102 : decode cX6_findHardest 102 = .ok (.iadd, 1) := by decide +kernel
theorem dX6_findHardest_103 : decode cX6_findHardest 103 = .ok (.istore 6, 2) := by decide +kernel
theorem dX6_findHardest_105 : decode cX6_findHardest 105 = .ok (.iload 6, 2) := by decide +kernel
theorem dX6_findHardest_107 : decode cX6_findHardest 107 = .ok (.iload 4, 2) := by decide +kernel
end
section
theorem dX6_findHardest_109 : decode cX6_findHardest 109 = .ok (.if_icmp .ge 8, 3) := by decide +kernel
theorem dX6_findHardest_112 : decode cX6_findHardest 112 = .ok (.iload 6, 2) := by decide +kernel
theorem dX6_findHardest_114 : decode cX6_findHardest 114 = .ok (.goto 5, 3) := by decide +kernel
theorem dX6_findHardest_117 : decode cX6_findHardest 117 = .ok (.iload 4, 2) := by decide +kernel
theorem dX6_findHardest_119 : decode cX6_findHardest 119 = .ok (.istore 4, 2) := by decide +kernel
theorem dX6_findHardest_121 : decode cX6_findHardest 121 = .ok (.iinc 5 1, 3) := by decide +kernel
theorem dX6_findHardest_124 : decode cX6_findHardest 124 = .ok (.goto (-73), 3) := by decide +kernel
theorem dX6_findHardest_127 : decode cX6_findHardest 127 = .ok (.aload_n 0, 1) := by decide +kernel
theorem dX6_findHardest_128 : decode cX6_findHardest 128 = .ok (.getfield 49, 3) := by decide +kernel
theorem dX6_findHardest_131 : decode cX6_findHardest 131 = .ok (.iload_n 3, 1) := by decide +kernel
theorem dX6_findHardest_132 : decode cX6_findHardest 132 = .ok (.iload 4, 2) := by decide +kernel
theorem dX6_findHardest_134 : decode cX6_findHardest 134 = .ok (.ldc 111, 2) := by decide +kernel
theorem dX6_findHardest_136 : decode cX6_findHardest 136 = .ok (.if_icmp .lt 8, 3) := by decide +kernel
theorem dX6_findHardest_139 : decode cX6_findHardest 139 = .ok (.ldc 111, 2) := by decide +kernel
theorem dX6_findHardest_141 : decode cX6_findHardest 141 = .ok (.goto 12, 3) := by decide +kernel
theorem dX6_findHardest_144 : decode cX6_findHardest 144 = .ok (.aload_n 0, 1) := by decide +kernel
theorem dX6_findHardest_145 : decode cX6_findHardest 145 = .ok (.getfield 37, 3) := by decide +kernel
theorem dX6_findHardest_148 : decode cX6_findHardest 148 = .ok (.iload_n 3, 1) := by decide +kernel
theorem dX6_findHardest_149 : decode cX6_findHardest 149 = .ok (.iaload, 1) := by decide +kernel
theorem dX6_findHardest_150 : decode cX6_findHardest 150 = .ok (.iload 4, 2) := by decide +kernel
theorem dX6_findHardest_152 : decode cX6_findHardest 152 = .ok (.iadd, 1) := by decide +kernel
theorem dX6_findHardest_153 : decode cX6_findHardest 153 = .ok (.iastore, 1) := by decide +kernel
theorem dX6_findHardest_154 : decode cX6_findHardest 154 = .ok (.iinc 3 1, 3) := by decide +kernel
theorem dX6_findHardest_157 : decode cX6_findHardest 157 = .ok (.goto (-151), 3) := by decide +kernel
theorem dX6_findHardest_160 : decode cX6_findHardest 160 = .ok (.return_, 1) := by decide +kernel
theorem dX6_makeFingers_0 : decode cX6_makeFingers 0 = .ok (.aload_n 0, 1) := by decide +kernel
theorem dX6_makeFingers_1 : decode cX6_makeFingers 1 = .ok (.iconst 0, 1) := by decide +kernel
theorem dX6_makeFingers_2 : decode cX6_makeFingers 2 = .ok (.putfield 116, 3) := by decide +kernel
theorem dX6_makeFingers_5 : decode cX6_makeFingers 5 = .ok (.aload_n 0, 1) := by decide +kernel
theorem dX6_makeFingers_6 : decode cX6_makeFingers 6 = .ok (.getfield 13, 3) := by decide +kernel
theorem dX6_makeFingers_9 : decode cX6_makeFingers 9 = .ok (.iload_n 1, 1) := by decide +kernel
theorem dX6_makeFingers_10 : decode cX6_makeFingers 10 = .ok (.iaload, 1) := by decide +kernel
theorem dX6_makeFingers_11 : decode cX6_makeFingers 11 = .ok (.ifCond .ne 5, 3) := by decide +kernel
theorem dX6_makeFingers_14 : decode cX6_makeFingers 14 = .ok (.iconst 1, 1) := by decide +kernel
theorem dX6_makeFingers_15 : decode cX6_makeFingers 15 = .ok (.ireturn, 1) := by decide +kernel
theorem dX6_makeFingers_16 : decode cX6_makeFingers 16 = .ok (.iconst 0, 1) := by decide +kernel
theorem dX6_makeFingers_17 : decode cX6_makeFingers 17 = .ok (.istore_n 2, 1) := by decide +kernel
theorem dX6_makeFingers_18 : decode cX6_makeFingers 18 = .ok (.iload_n 2, 1) := by decide +kernel
theorem dX6_makeFingers_19 : decode cX6_makeFingers 19 = .ok (.aload_n 0, 1) := by decide +kernel
theorem dX6_makeFingers_20 : decode cX6_makeFingers 20 = .ok (.getfield 13, 3) := by decide +kernel
theorem dX6_makeFingers_23 : decode cX6_makeFingers 23 = .ok (.iload_n 1, 1) := by decide +kernel
theorem dX6_makeFingers_24 : decode cX6_makeFingers 24 = .ok (.iaload, 1) := by decide +kernel
theorem dX6_makeFingers_25 : decode cX6_makeFingers 25 = .ok (.if_icmp .ge 15, 3) := by decide +kernel
theorem dX6_makeFingers_28 : decode cX6_makeFingers 28 = .ok (.aload_n 0, 1) := by decide +kernel
theorem dX6_makeFingers_29 : decode cX6_makeFingers 29 = .ok (.iload_n 1, 1) := by decide +kernel
theorem dX6_makeFingers_30 : decode cX6_makeFingers 30 = .ok (.iload_n 2, 1) := by decide +kernel
theorem dX6_makeFingers_31 : decode cX6_makeFingers 31 = .ok (.invokevirtual 98, 3) := by decide +kernel
theorem dX6_makeFingers_34 : decode cX6_makeFingers 34 = .ok (.iinc 2 1, 3) := by decide +kernel
theorem dX6_makeFingers_37 : decode cX6_makeFingers 37 = .ok (.goto (-19), 3) := by decide +kernel
theorem dX6_makeFingers_40 : decode cX6_makeFingers 40 = .ok (.aload_n 0, 1) := by decide +kernel
theorem dX6_makeFingers_41 : decode cX6_makeFingers 41 = .ok (.getfield 13, 3) := by decide +kernel
theorem dX6_makeFingers_44 : decode cX6_makeFingers 44 = .ok (.iload_n 1, 1) := by decide +kernel
theorem dX6_makeFingers_45 : decode cX6_makeFingers 45 = .ok (.iaload, 1) := by decide +kernel
theorem dX6_makeFingers_46 : decode cX6_makeFingers 46 = .ok (.iconst 1, 1) := by decide +kernel
theorem dX6_makeFingers_47 : decode cX6_makeFingers 47 = .ok (.isub, 1) := by decide +kernel
theorem dX6_makeFingers_48 : decode cX6_makeFingers 48 = .ok (.istore_n 2, 1) := by decide +kernel
theorem dX6_makeFingers_49 : decode cX6_makeFingers 49 = .ok (.iload_n 2, 1) := by decide +kernel
theorem dX6_makeFingers_50 : decode cX6_makeFingers 50 = .ok (.ifCond .lt 15, 3) := by decide +kernel
theorem dX6_makeFingers_53 : decode cX6_makeFingers 53 = .ok (.aload_n 0, 1) := by decide +kernel
theorem dX6_makeFingers_54 : decode cX6_makeFingers 54 = .ok (.iload_n 1, 1) := by decide +kernel
theorem dX6_makeFingers_55 : decode cX6_makeFingers 55 = .ok (.iload_n 2, 1) := by decide +kernel
theorem dX6_makeFingers_56 : decode cX6_makeFingers 56 = .ok (.invokevirtual 120, 3) := by decide +kernel
theorem dX6_makeFingers_59 : decode cX6_makeFingers 59 = .ok (.iinc 2 (-1), 3) := by decide +kernel
theorem dX6_makeFingers_62 : decode cX6_makeFingers 62 = .ok (.goto (-13), 3) := by decide +kernel
theorem dX6_makeFingers_65 : decode cX6_makeFingers 65 = .ok (.aload_n 0, 1) := by decide +kernel
theorem dX6_makeFingers_66 : decode cX6_makeFingers 66 = .ok (.ldc 111, 2) := by decide +kernel
theorem dX6_makeFingers_68 : decode cX6_makeFingers 68 = .ok (.putfield 116, 3) := by decide +kernel
theorem dX6_makeFingers_71 : decode cX6_makeFingers 71 = .ok (.iconst 0, 1) := by decide +kernel
theorem dX6_makeFingers_72 : decode cX6_makeFingers 72 = .ok (.istore_n 2, 1) := by decide +kernel
theorem dX6_makeFingers_73 : decode cX6_makeFingers 73 = .ok (.iload_n 2, 1) := by decide +kernel
theorem dX6_makeFingers_74 : decode cX6_makeFingers 74 = .ok (.aload_n 0, 1) := by decide +kernel
theorem dX6_makeFingers_75 : decode cX6_makeFingers 75 = .ok (.getfield 28, 3) := by decide +kernel
theorem dX6_makeFingers_78 : decode cX6_makeFingers 78 = .ok (.iconst 0, 1) := by decide +kernel
theorem dX6_makeFingers_79 : decode cX6_makeFingers 79 = .ok (.iaload, 1) := by decide +kernel
theorem dX6_makeFingers_80 : decode cX6_makeFingers 80 = .ok (.if_icmp .ge 39, 3) := by decide +kernel
theorem dX6_makeFingers_83 : decode cX6_makeFingers 83 = .ok (.aload_n 0, 1) := by decide +kernel
theorem dX6_makeFingers_84 : decode cX6_makeFingers 84 = .ok (.getfield 49, 3) := by decide +kernel
theorem dX6_makeFingers_87 : decode cX6_makeFingers 87 = .ok (.iload_n 2, 1) := by decide +kernel
theorem dX6_makeFingers_88 : decode cX6_makeFingers 88 = .ok (.iaload, 1) := by decide +kernel
theorem dX6_makeFingers_89 : decode cX6_makeFingers 89 = .ok (.aload_n 0, 1) := by decide +kernel
theorem dX6_makeFingers_90 : decode cX6_makeFingers 90 = .ok (.getfield 116, 3) := by decide +kernel
theorem dX6_makeFingers_93 : decode cX6_makeFingers 93 = .ok (.if_icmp .ge 20, 3) := by decide +kernel
theorem dX6_makeFingers_96 : decode cX6_makeFingers 96 = .ok (.aload_n 0, 1) := by decide +kernel
theorem dX6_makeFingers_97 : decode cX6_makeFingers 97 = .ok (.aload_n 0, 1) := by decide +kernel
theorem dX6_makeFingers_98 : decode cX6_makeFingers 98 = .ok (.getfield 49, 3) := by decide +kernel
theorem dX6_makeFingers_101 : decode cX6_makeFingers 101 = .ok (.iload_n 2, 1) := by decide +kernel
theorem dX6_makeFingers_102 : decode cX6_makeFingers 102 = .ok (.iaload, 1) := by decide +kernel
theorem dX6_makeFingers_103 : decode cX6_makeFingers 103 = .ok (.putfield 116, 3) := by decide +kernel
theorem dX6_makeFingers_106 : decode cX6_makeFingers 106 = .ok (.aload_n 0, 1) := by decide +kernel
theorem dX6_makeFingers_107 : decode cX6_makeFingers 107 = .ok (.getfield 52, 3) := by decide +kernel
theorem dX6_makeFingers_110 : decode cX6_makeFingers 110 = .ok (.iconst 0, 1) := by decide +kernel
theorem dX6_makeFingers_111 : decode cX6_makeFingers 111 = .ok (.iload_n 2, 1) := by decide +kernel
theorem dX6_makeFingers_112 : decode cX6_makeFingers 112 = .ok (.iastore, 1) := by decide +kernel
theorem dX6_makeFingers_113 : decode cX6_makeFingers 113 = .ok (.iinc 2 1, 3) := by decide +kernel
theorem dX6_makeFingers_116 : decode cX6_makeFingers 116 = .ok (.goto (-43), 3) := by decide +kernel
theorem dX6_makeFingers_119 : decode cX6_makeFingers 119 = .ok (.aload_n 0, 1) := by decide +kernel
theorem dX6_makeFingers_120 : decode cX6_makeFingers 120 = .ok (.getfield 116, 3) := by decide +kernel
theorem dX6_makeFingers_123 : decode cX6_makeFingers 123 = .ok (.ldc 111, 2) := by decide +kernel
theorem dX6_makeFingers_125 : decode cX6_makeFingers 125 = .ok (.if_icmp .ne 5, 3) := by decide +kernel
theorem dX6_makeFingers_128 : decode cX6_makeFingers 128 = .ok (.iconst 0, 1) := by decide +kernel
theorem dX6_makeFingers_129 : decode cX6_makeFingers 129 = .ok (.ireturn, 1) := by decide +kernel
theorem dX6_makeFingers_130 : decode cX6_makeFingers 130 = .ok (.iconst 1, 1) := by decide +kernel
theorem dX6_makeFingers_131 : decode cX6_makeFingers 131 = .ok (.istore_n 2, 1) := by decide +kernel
theorem dX6_makeFingers_132 : decode cX6_makeFingers 132 = .ok (.iload_n 2, 1) := by decide +kernel
theorem dX6_makeFingers_133 : decode cX6_makeFingers 133 = .ok (.aload_n 0, 1) := by decide +kernel
theorem dX6_makeFingers_134 : decode cX6_makeFingers 134 = .ok (.getfield 13, 3) := by decide +kernel
theorem dX6_makeFingers_137 : decode cX6_makeFingers 137 = .ok (.iload_n 1, 1) := by decide +kernel
theorem dX6_makeFingers_138 : decode cX6_makeFingers 138 = .ok (.iaload, 1) := by decide +kernel
theorem dX6_makeFingers_139 : decode cX6_makeFingers 139 = .ok (.if_icmp .ge 72, 3) := by decide +kernel
theorem dX6_makeFingers_142 : decode cX6_makeFingers 142 = .ok (.aload_n 0, 1) := by decide +kernel
theorem dX6_makeFingers_143 : decode cX6_makeFingers 143 = .ok (.getfield 52, 3) := by decide +kernel
theorem dX6_makeFingers_146 : decode cX6_makeFingers 146 = .ok (.iload_n 2, 1) := by decide +kernel
theorem dX6_makeFingers_147 : decode cX6_makeFingers 147 = .ok (.iconst 1, 1) := by decide +kernel
theorem dX6_makeFingers_148 : decode cX6_makeFingers 148 = .ok (.isub, 1) := by decide +kernel
theorem dX6_makeFingers_149 : decode cX6_makeFingers 149 = .ok (.iaload, 1) := by decide +kernel
theorem dX6_makeFingers_150 : decode cX6_makeFingers 150 = .ok (.istore_n 3, 1) := by decide +kernel
theorem dX6_makeFingers_151 : decode cX6_makeFingers 151 = .ok (.sipush 500, 3) := by decide +kernel
theorem dX6_makeFingers_154 : decode cX6_makeFingers 154 = .ok (.iload_n 2, 1) := by decide +kernel
theorem dX6_makeFingers_155 : decode cX6_makeFingers 155 = .ok (.imul, 1) := by decide +kernel
theorem dX6_makeFingers_156 : decode cX6_makeFingers 156 = .ok (.istore 4, 2) := by decide +kernel
theorem dX6_makeFingers_158 : decode cX6_makeFingers 158 = .ok (.aload_n 0, 1) := by decide +kernel
theorem dX6_makeFingers_159 : decode cX6_makeFingers 159 = .ok (.iload_n 1, 1) := by decide +kernel
theorem dX6_makeFingers_160 : decode cX6_makeFingers 160 = .ok (.iload_n 2, 1) := by decide +kernel
theorem dX6_makeFingers_161 : decode cX6_makeFingers 161 = .ok (.iload_n 3, 1) := by decide +kernel
theorem dX6_makeFingers_162 : decode cX6_makeFingers 162 = .ok (.iload 4, 2) := by decide +kernel
theorem dX6_makeFingers_164 : decode cX6_makeFingers 164 = .ok (.invokevirtual 112, 3) := by decide +kernel
theorem dX6_makeFingers_167 : decode cX6_makeFingers 167 = .ok (.aload_n 0, 1) := by decide +kernel
theorem dX6_makeFingers_168 : decode cX6_makeFingers 168 = .ok (.getfield 49, 3) := by decide +kernel
theorem dX6_makeFingers_171 : decode cX6_makeFingers 171 = .ok (.iload 4, 2) := by decide +kernel
theorem dX6_makeFingers_173 : decode cX6_makeFingers 173 = .ok (.iaload, 1) := by decide +kernel
theorem dX6_makeFingers_174 : decode cX6_makeFingers 174 = .ok (.iadd, 1) := by decide +kernel
theorem dX6_makeFingers_175 : decode cX6_makeFingers 175 = .ok (.aload_n 0, 1) := by decide +kernel
theorem dX6_makeFingers_176 : decode cX6_makeFingers 176 = .ok (.getfield 37, 3) := by decide +kernel
theorem dX6_makeFingers_179 : decode cX6_makeFingers 179 = .ok (.iload_n 3, 1) := by decide +kernel
theorem dX6_makeFingers_180 : decode cX6_makeFingers 180 = .ok (.iaload, 1) := by decide +kernel
theorem dX6_makeFingers_181 : decode cX6_makeFingers 181 = .ok (.iadd, 1) := by decide +kernel
theorem dX6_makeFingers_182 : decode cX6_makeFingers 182 = .ok (.aload_n 0, 1) := by decide +kernel
theorem dX6_makeFingers_183 : decode cX6_makeFingers 183 = .ok (.getfield 49, 3) := by decide +kernel
theorem dX6_makeFingers_186 : decode cX6_makeFingers 186 = .ok (.iload_n 3, 1) := by decide +kernel
theorem dX6_makeFingers_187 : decode cX6_makeFingers 187 = .ok (.iaload, 1) := by decide +kernel
theorem dX6_makeFingers_188 : decode cX6_makeFingers 188 = .ok (.if_icmp .eq 9, 3) := by decide +kernel
theorem dX6_makeFingers_191 : decode cX6_makeFingers 191 = .ok (.iinc 4 1, 3) := by decide +kernel
theorem dX6_makeFingers_194 : decode cX6_makeFingers 194 = .ok (.goto (-36), 3) := by decide +kernel
theorem dX6_makeFingers_197 : decode cX6_makeFingers 197 = .ok (.aload_n 0, 1) := by decide +kernel
theorem dX6_makeFingers_198 : decode cX6_makeFingers 198 = .ok (.getfield 52, 3) := by decide +kernel
theorem dX6_makeFingers_201 : decode cX6_makeFingers 201 = .ok (.iload_n 2, 1) := by decide +kernel
theorem dX6_makeFingers_202 : decode cX6_makeFingers 202 = .ok (.iload 4, 2) := by decide +kernel
theorem dX6_makeFingers_204 : decode cX6_makeFingers 204 = .ok (.iastore, 1) := by decide +kernel
theorem dX6_makeFingers_205 : decode cX6_makeFingers 205 = .ok (.iinc 2 1, 3) := by decide +kernel
theorem dX6_makeFingers_208 : decode cX6_makeFingers 208 = .ok (.goto (-76), 3) := by decide +kernel
theorem dX6_makeFingers_211 : decode cX6_makeFingers 211 = .ok (.iconst 1, 1) := by decide +kernel
theorem dX6_makeFingers_212 : decode cX6_makeFingers 212 = .ok (.ireturn, 1) := by decide +kernel
theorem dX6_hard_0 : decode cX6_hard 0 = .ok (.iload_n 1, 1) := by decide +kernel
theorem dX6_hard_1 : decode cX6_hard 1 = .ok (.invokestatic 65, 3) := by decide +kernel
theorem dX6_hard_4 : decode cX6_hard 4 = .ok (.ifCond .ne 5, 3) := by decide +kernel
theorem dX6_hard_7 : decode cX6_hard 7 = .ok (.iconst (-1), 1) := by decide +kernel
theorem dX6_hard_8 : decode cX6_hard 8 = .ok (.ireturn, 1) := by decide +kernel
theorem dX6_hard_9 : decode cX6_hard 9 = .ok (.aload_n 0, 1) := by decide +kernel
theorem dX6_hard_10 : decode cX6_hard 10 = .ok (.iload_n 1, 1) := by decide +kernel
theorem dX6_hard_11 : decode cX6_hard 11 = .ok (.invokevirtual 123, 3) := by decide +kernel
theorem dX6_hard_14 : decode cX6_hard 14 = .ok (.ifCond .eq 10, 3) := by decide +kernel
theorem dX6_hard_17 : decode cX6_hard 17 = .ok (.aload_n 0, 1) := by decide +kernel
theorem dX6_hard_18 : decode cX6_hard 18 = .ok (.getfield 116, 3) := by decide +kernel
theorem dX6_hard_21 : decode cX6_hard 21 = .ok (.goto 5, 3) := by decide +kernel
theorem dX6_hard_24 : decode cX6_hard 24 = .ok (.bipush (-3), 2) := by decide +kernel
theorem dX6_hard_26 : decode cX6_hard 26 = .ok (.ireturn, 1) := by decide +kernel
theorem dX6_finger_0 : decode cX6_finger 0 = .ok (.aload_n 0, 1) := by decide +kernel
theorem dX6_finger_1 : decode cX6_finger 1 = .ok (.iload_n 1, 1) := by decide +kernel
theorem dX6_finger_2 : decode cX6_finger 2 = .ok (.iload_n 2, 1) := by decide +kernel
theorem dX6_finger_3 : decode cX6_finger 3 = .ok (.invokevirtual 76, 3) := by decide +kernel
theorem dX6_finger_6 : decode cX6_finger 6 = .ok (.ifCond .eq 12, 3) := by decide +kernel
theorem dX6_finger_9 : decode cX6_finger 9 = .ok (.iload_n 3, 1) := by decide +kernel
theorem dX6_finger_10 : decode cX6_finger 10 = .ok (.iconst 0, 1) := by decide +kernel
theorem dX6_finger_11 : decode cX6_finger 11 = .ok (.iconst 5, 1) := by decide +kernel
theorem dX6_finger_12 : decode cX6_finger 12 = .ok (.invokestatic 61, 3) := by decide +kernel
theorem dX6_finger_15 : decode cX6_finger 15 = .ok (.ifCond .ne 5, 3) := by decide +kernel
theorem dX6_finger_18 : decode cX6_finger 18 = .ok (.iconst (-1), 1) := by decide +kernel
theorem dX6_finger_19 : decode cX6_finger 19 = .ok (.ireturn, 1) := by decide +kernel
theorem dX6_finger_20 : decode cX6_finger 20 = .ok (.aload_n 0, 1) := by decide +kernel
theorem dX6_finger_21 : decode cX6_finger 21 = .ok (.iload_n 1, 1) := by decide +kernel
theorem dX6_finger_22 : decode cX6_finger 22 = .ok (.invokevirtual 123, 3) := by decide +kernel
theorem dX6_finger_25 : decode cX6_finger 25 = .ok (.ifCond .ne 6, 3) := by decide +kernel
theorem dX6_finger_28 : decode cX6_finger 28 = .ok (.bipush (-3), 2) := by decide +kernel
theorem dX6_finger_30 : decode cX6_finger 30 = .ok (.ireturn, 1) := by decide +kernel
theorem dX6_finger_31 : decode cX6_finger 31 = .ok (.aload_n 0, 1) := by decide +kernel
theorem dX6_finger_32 : decode cX6_finger 32 = .ok (.getfield 31, 3) := by decide +kernel
theorem dX6_finger_35 : decode cX6_finger 35 = .ok (.aload_n 0, 1) := by decide +kernel
theorem dX6_finger_36 : decode cX6_finger 36 = .ok (.getfield 52, 3) := by decide +kernel
theorem dX6_finger_39 : decode cX6_finger 39 = .ok (.iload_n 2, 1) := by decide +kernel
theorem dX6_finger_40 : decode cX6_finger 40 = .ok (.iaload, 1) := by decide +kernel
theorem dX6_finger_41 : decode cX6_finger 41 = .ok (.iaload, 1) := by decide +kernel
theorem dX6_finger_42 : decode cX6_finger 42 = .ok (.istore 4, 2) := by decide +kernel
theorem dX6_finger_44 : decode cX6_finger 44 = .ok (.aload_n 0, 1) := by decide +kernel
theorem dX6_finger_45 : decode cX6_finger 45 = .ok (.getfield 34, 3) := by decide +kernel
theorem dX6_finger_48 : decode cX6_finger 48 = .ok (.aload_n 0, 1) := by decide +kernel
theorem dX6_finger_49 : decode cX6_finger 49 = .ok (.getfield 52, 3) := by decide +kernel
theorem dX6_finger_52 : decode cX6_finger 52 = .ok (.iload_n 2, 1) := by decide +kernel
theorem dX6_finger_53 : decode cX6_finger 53 = .ok (.iaload, 1) := by decide +kernel
theorem dX6_finger_54 : decode cX6_finger 54 = .ok (.iaload, 1) := by decide +kernel
theorem dX6_finger_55 : decode cX6_finger 55 = .ok (.istore 5, 2) := by decide +kernel
theorem dX6_finger_57 : decode cX6_finger 57 = .ok (.iload_n 3, 1) := by decide +kernel
theorem dX6_finger_58 : decode cX6_finger 58 = .ok (.tableswitch 82 0 4 #[34, 41, 47, 55, 64], 34) := by decide +kernel
theorem dX6_finger_92 : decode cX6_finger 92 = .ok (.iload 4, 2) := by decide +kernel
theorem dX6_finger_94 : decode cX6_finger 94 = .ok (.sipush 1000, 3) := by decide +kernel
theorem dX6_finger_97 : decode cX6_finger 97 = .ok (.idiv, 1) := by decide +kernel
theorem dX6_finger_98 : decode cX6_finger 98 = .ok (.ireturn, 1) := by decide +kernel
theorem dX6_finger_99 : decode cX6_finger 99 = .ok (.iload 4, 2) := by decide +kernel
theorem dX6_finger_101 : decode cX6_finger 101 = .ok (.invokestatic 105, 3) := by decide +kernel
theorem dX6_finger_104 : decode cX6_finger 104 = .ok (.ireturn, 1) := by decide +kernel
theorem dX6_finger_105 : decode cX6_finger 105 = .ok (.iload 4, 2) := by decide +kernel
theorem dX6_finger_107 : decode cX6_finger 107 = .ok (.bipush 10, 2) := by decide +kernel
theorem dX6_finger_109 : decode cX6_finger 109 = .ok (.irem, 1) := by decide +kernel
theorem dX6_finger_110 : decode cX6_finger 110 = .ok (.iconst 5, 1) := by decide +kernel
theorem dX6_finger_111 : decode cX6_finger 111 = .ok (.irem, 1) := by decide +kernel
theorem dX6_finger_112 : decode cX6_finger 112 = .ok (.ireturn, 1) := by decide +kernel
theorem dX6_finger_113 : decode cX6_finger 113 = .ok (.iload 4, 2) := by decide +kernel
theorem dX6_finger_115 : decode cX6_finger 115 = .ok (.bipush 10, 2) := by decide +kernel
theorem dX6_finger_117 : decode cX6_finger 117 = .ok (.irem, 1) := by decide +kernel
theorem dX6_finger_118 : decode cX6_finger 118 = .ok (.invokestatic 83, 3) := by decide +kernel
theorem dX6_finger_121 : decode cX6_finger 121 = .ok (.ireturn, 1) := by decide +kernel
theorem dX6_finger_122 : decode cX6_finger 122 = .ok (.iload 5, 2) := by decide +kernel
theorem dX6_finger_124 : decode cX6_finger 124 = .ok (.ifCond .ge 8, 3) := by decide +kernel
theorem dX6_finger_127 : decode cX6_finger 127 = .ok (.bipush (-3), 2) := by decide +kernel
theorem dX6_finger_129 : decode cX6_finger 129 = .ok (.goto 10, 3) := by decide +kernel
theorem dX6_finger_132 : decode cX6_finger 132 = .ok (.iload 5, 2) := by decide +kernel
theorem dX6_finger_134 : decode cX6_finger 134 = .ok (.bipush 10, 2) := by decide +kernel
theorem dX6_finger_136 : decode cX6_finger 136 = .ok (.irem, 1) := by decide +kernel
theorem dX6_finger_137 : decode cX6_finger 137 = .ok (.iconst 5, 1) := by decide +kernel
theorem dX6_finger_138 : decode cX6_finger 138 = .ok (.irem, 1) := by decide +kernel
theorem dX6_finger_139 : decode cX6_finger 139 = .ok (.ireturn, 1) := by decide +kernel
theorem dX6_finger_140 : decode cX6_finger 140 = .ok (.iload 5, 2) := by decide +kernel
theorem dX6_finger_142 : decode cX6_finger 142 = .ok (.ifCond .ge 8, 3) := by decide +kernel
theorem dX6_finger_145 : decode cX6_finger 145 = .ok (.bipush (-3), 2) := by decide +kernel
theorem dX6_finger_147 : decode cX6_finger 147 = .ok (.goto 11, 3) := by decide +kernel
theorem dX6_finger_150 : decode cX6_finger 150 = .ok (.iload 5, 2) := by decide +kernel
theorem dX6_finger_152 : decode cX6_finger 152 = .ok (.bipush 10, 2) := by decide +kernel
theorem dX6_finger_154 : decode cX6_finger 154 = .ok (.irem, 1) := by decide +kernel
theorem dX6_finger_155 : decode cX6_finger 155 = .ok (.invokestatic 83, 3) := by decide +kernel
theorem dX6_finger_158 : decode cX6_finger 158 = .ok (.ireturn, 1) := by decide +kernel
theorem dX6_shifts_0 : decode cX6_shifts 0 = .ok (.iload_n 1, 1) := by decide +kernel
theorem dX6_shifts_1 : decode cX6_shifts 1 = .ok (.invokestatic 65, 3) := by decide +kernel
theorem dX6_shifts_4 : decode cX6_shifts 4 = .ok (.ifCond .ne 5, 3) := by decide +kernel
theorem dX6_shifts_7 : decode cX6_shifts 7 = .ok (.iconst (-1), 1) := by decide +kernel
theorem dX6_shifts_8 : decode cX6_shifts 8 = .ok (.ireturn, 1) := by decide +kernel
theorem dX6_shifts_9 : decode cX6_shifts 9 = .ok (.aload_n 0, 1) := by decide +kernel
theorem dX6_shifts_10 : decode cX6_shifts 10 = .ok (.iload_n 1, 1) := by decide +kernel
theorem dX6_shifts_11 : decode cX6_shifts 11 = .ok (.invokevirtual 123, 3) := by decide +kernel
theorem dX6_shifts_14 : decode cX6_shifts 14 = .ok (.ifCond .ne 6, 3) := by decide +kernel
theorem dX6_shifts_17 : decode cX6_shifts 17 = .ok (.bipush (-3), 2) := by decide +kernel
theorem dX6_shifts_19 : decode cX6_shifts 19 = .ok (.ireturn, 1) := by decide +kernel
theorem dX6_shifts_20 : decode cX6_shifts 20 = .ok (.iconst 0, 1) := by decide +kernel
theorem dX6_shifts_21 : decode cX6_shifts 21 = .ok (.istore_n 2, 1) := by decide +kernel
theorem dX6_shifts_22 : decode cX6_shifts 22 = .ok (.iconst 1, 1) := by decide +kernel
theorem dX6_shifts_23 : decode cX6_shifts 23 = .ok (.istore_n 3, 1) := by decide +kernel
theorem dX6_shifts_24 : decode cX6_shifts 24 = .ok (.iload_n 3, 1) := by decide +kernel
theorem dX6_shifts_25 : decode cX6_shifts 25 = .ok (.aload_n 0, 1) := by decide +kernel
theorem dX6_shifts_26 : decode cX6_shifts 26 = .ok (.getfield 13, 3) := by decide +kernel
theorem dX6_shifts_29 : decode cX6_shifts 29 = .ok (.iload_n 1, 1) := by decide +kernel
theorem dX6_shifts_30 : decode cX6_shifts 30 = .ok (.iaload, 1) := by decide +kernel
theorem dX6_shifts_31 : decode cX6_shifts 31 = .ok (.if_icmp .ge 68, 3) := by decide +kernel
theorem dX6_shifts_34 : decode cX6_shifts 34 = .ok (.aload_n 0, 1) := by decide +kernel
theorem dX6_shifts_35 : decode cX6_shifts 35 = .ok (.getfield 31, 3) := by decide +kernel
theorem dX6_shifts_38 : decode cX6_shifts 38 = .ok (.aload_n 0, 1) := by decide +kernel
theorem dX6_shifts_39 : decode cX6_shifts 39 = .ok (.getfield 52, 3) := by decide +kernel
theorem dX6_shifts_42 : decode cX6_shifts 42 = .ok (.iload_n 3, 1) := by decide +kernel
theorem dX6_shifts_43 : decode cX6_shifts 43 = .ok (.iconst 1, 1) := by decide +kernel
theorem dX6_shifts_44 : decode cX6_shifts 44 = .ok (.isub, 1) := by decide +kernel
theorem dX6_shifts_45 : decode cX6_shifts 45 = .ok (.iaload, 1) := by decide +kernel
theorem dX6_shifts_46 : decode cX6_shifts 46 = .ok (.iaload, 1) := by decide +kernel
theorem dX6_shifts_47 : decode cX6_shifts 47 = .ok (.invokestatic 105, 3) := by decide +kernel
theorem dX6_shifts_50 : decode cX6_shifts 50 = .ok (.istore 4, 2) := by decide +kernel
theorem dX6_shifts_52 : decode cX6_shifts 52 = .ok (.aload_n 0, 1) := by decide +kernel
theorem dX6_shifts_53 : decode cX6_shifts 53 = .ok (.getfield 31, 3) := by decide +kernel
theorem dX6_shifts_56 : decode cX6_shifts 56 = .ok (.aload_n 0, 1) := by decide +kernel
theorem dX6_shifts_57 : decode cX6_shifts 57 = .ok (.getfield 52, 3) := by decide +kernel
theorem dX6_shifts_60 : decode cX6_shifts 60 = .ok (.iload_n 3, 1) := by decide +kernel
theorem dX6_shifts_61 : decode cX6_shifts 61 = .ok (.iaload, 1) := by decide +kernel
theorem dX6_shifts_62 : decode cX6_shifts 62 = .ok (.iaload, 1) := by decide +kernel
theorem dX6_shifts_63 : decode cX6_shifts 63 = .ok (.invokestatic 105, 3) := by decide +kernel
theorem dX6_shifts_66 : decode cX6_shifts 66 = .ok (.istore 5, 2) := by decide +kernel
theorem dX6_shifts_68 : decode cX6_shifts 68 = .ok (.iload_n 2, 1) := by decide +kernel
theorem dX6_shifts_69 : decode cX6_shifts 69 = .ok (.iload 4, 2) := by decide +kernel
theorem dX6_shifts_71 : decode cX6_shifts 71 = .ok (.iload 5, 2) := by decide +kernel
theorem dX6_shifts_73 : decode cX6_shifts 73 = .ok (.if_icmp .eq 17, 3) := by decide +kernel
theorem dX6_shifts_76 : decode cX6_shifts 76 = .ok (.iload 4, 2) := by decide +kernel
theorem dX6_shifts_78 : decode cX6_shifts 78 = .ok (.ifCond .le 12, 3) := by decide +kernel
theorem dX6_shifts_81 : decode cX6_shifts 81 = .ok (.iload 5, 2) := by decide +kernel
theorem dX6_shifts_83 : decode cX6_shifts 83 = .ok (.ifCond .le 7, 3) := by decide +kernel
theorem dX6_shifts_86 : decode cX6_shifts 86 = .ok (.iconst 1, 1) := by decide +kernel
theorem dX6_shifts_87 : decode cX6_shifts 87 = .ok (.goto 4, 3) := by decide +kernel
theorem dX6_shifts_90 : decode cX6_shifts 90 = .ok (.iconst 0, 1) := by decide +kernel
theorem dX6_shifts_91 : decode cX6_shifts 91 = .ok (.iadd, 1) := by decide +kernel
theorem dX6_shifts_92 : decode cX6_shifts 92 = .ok (.istore_n 2, 1) := by decide +kernel
theorem dX6_shifts_93 : decode cX6_shifts 93 = .ok (.iinc 3 1, 3) := by decide +kernel
theorem dX6_shifts_96 : decode cX6_shifts 96 = .ok (.goto (-72), 3) := by decide +kernel
theorem dX6_shifts_99 : decode cX6_shifts 99 = .ok (.iload_n 2, 1) := by decide +kernel
theorem dX6_shifts_100 : decode cX6_shifts 100 = .ok (.ireturn, 1) := by decide +kernel
theorem dX6_turn_0 : decode cX6_turn 0 = .ok (.aload_n 0, 1) := by decide +kernel
theorem dX6_turn_1 : decode cX6_turn 1 = .ok (.iload_n 1, 1) := by decide +kernel
theorem dX6_turn_2 : decode cX6_turn 2 = .ok (.iload_n 2, 1) := by decide +kernel
theorem dX6_turn_3 : decode cX6_turn 3 = .ok (.iconst 4, 1) := by decide +kernel
theorem dX6_turn_4 : decode cX6_turn 4 = .ok (.invokevirtual 108, 3) := by decide +kernel
theorem dX6_turn_7 : decode cX6_turn 7 = .ok (.ifCond .eq 12, 3) := by decide +kernel
theorem dX6_turn_10 : decode cX6_turn 10 = .ok (.iload 4, 2) := by decide +kernel
theorem dX6_turn_12 : decode cX6_turn 12 = .ok (.iconst 1, 1) := by decide +kernel
theorem dX6_turn_13 : decode cX6_turn 13 = .ok (.if_icmp .ne 6, 3) := by decide +kernel
theorem dX6_turn_16 : decode cX6_turn 16 = .ok (.ldc 111, 2) := by decide +kernel
theorem dX6_turn_18 : decode cX6_turn 18 = .ok (.ireturn, 1) := by decide +kernel
theorem dX6_turn_19 : decode cX6_turn 19 = .ok (.aload_n 0, 1) := by decide +kernel
theorem dX6_turn_20 : decode cX6_turn 20 = .ok (.iload_n 1, 1) := by decide +kernel
theorem dX6_turn_21 : decode cX6_turn 21 = .ok (.iload_n 2, 1) := by decide +kernel
theorem dX6_turn_22 : decode cX6_turn 22 = .ok (.iconst 2, 1) := by decide +kernel
theorem dX6_turn_23 : decode cX6_turn 23 = .ok (.invokevirtual 108, 3) := by decide +kernel
theorem dX6_turn_26 : decode cX6_turn 26 = .ok (.ifCond .eq 15, 3) := by decide +kernel
theorem dX6_turn_29 : decode cX6_turn 29 = .ok (.iload_n 3, 1) := by decide +kernel
theorem dX6_turn_30 : decode cX6_turn 30 = .ok (.iload 4, 2) := by decide +kernel
theorem dX6_turn_32 : decode cX6_turn 32 = .ok (.if_icmp .ne 7, 3) := by decide +kernel
theorem dX6_turn_35 : decode cX6_turn 35 = .ok (.iconst 0, 1) := by decide +kernel
theorem dX6_turn_36 : decode cX6_turn 36 = .ok (.goto 4, 3) := by decide +kernel
theorem dX6_turn_39 : decode cX6_turn 39 = .ok (.iconst 2, 1) := by decide +kernel
theorem dX6_turn_40 : decode cX6_turn 40 = .ok (.ireturn, 1) := by decide +kernel
theorem dX6_turn_41 : decode cX6_turn 41 = .ok (.iload_n 3, 1) := by decide +kernel
theorem dX6_turn_42 : decode cX6_turn 42 = .ok (.iload 4, 2) := by decide +kernel
theorem dX6_turn_44 : decode cX6_turn 44 = .ok (.if_icmp .eq 7, 3) := by decide +kernel
theorem dX6_turn_47 : decode cX6_turn 47 = .ok (.iconst 0, 1) := by decide +kernel
theorem dX6_turn_48 : decode cX6_turn 48 = .ok (.goto 18, 3) := by decide +kernel
theorem dX6_turn_51 : decode cX6_turn 51 = .ok (.aload_n 0, 1) := by decide +kernel
theorem dX6_turn_52 : decode cX6_turn 52 = .ok (.iload_n 1, 1) := by decide +kernel
theorem dX6_turn_53 : decode cX6_turn 53 = .ok (.iload_n 2, 1) := by decide +kernel
theorem dX6_turn_54 : decode cX6_turn 54 = .ok (.iconst 1, 1) := by decide +kernel
theorem dX6_turn_55 : decode cX6_turn 55 = .ok (.invokevirtual 108, 3) := by decide +kernel
theorem dX6_turn_58 : decode cX6_turn 58 = .ok (.ifCond .eq 7, 3) := by decide +kernel
theorem dX6_turn_61 : decode cX6_turn 61 = .ok (.iconst 1, 1) := by decide +kernel
theorem dX6_turn_62 : decode cX6_turn 62 = .ok (.goto 4, 3) := by decide +kernel
theorem dX6_turn_65 : decode cX6_turn 65 = .ok (.iconst 3, 1) := by decide +kernel
theorem dX6_turn_66 : decode cX6_turn 66 = .ok (.ireturn, 1) := by decide +kernel
theorem dX6_goes_0 : decode cX6_goes 0 = .ok (.aload_n 0, 1) := by decide +kernel
theorem dX6_goes_1 : decode cX6_goes 1 = .ok (.iload_n 1, 1) := by decide +kernel
theorem dX6_goes_2 : decode cX6_goes 2 = .ok (.iload_n 2, 1) := by decide +kernel
theorem dX6_goes_3 : decode cX6_goes 3 = .ok (.iload_n 3, 1) := by decide +kernel
theorem dX6_goes_4 : decode cX6_goes 4 = .ok (.iload 4, 2) := by decide +kernel
theorem dX6_goes_6 : decode cX6_goes 6 = .ok (.invokevirtual 126, 3) := by decide +kernel
theorem dX6_goes_9 : decode cX6_goes 9 = .ok (.aload_n 0, 1) := by decide +kernel
theorem dX6_goes_10 : decode cX6_goes 10 = .ok (.getfield 55, 3) := by decide +kernel
theorem dX6_goes_13 : decode cX6_goes 13 = .ok (.iconst 2, 1) := by decide +kernel
theorem dX6_goes_14 : decode cX6_goes 14 = .ok (.iload_n 2, 1) := by decide +kernel
theorem dX6_goes_15 : decode cX6_goes 15 = .ok (.imul, 1) := by decide +kernel
theorem dX6_goes_16 : decode cX6_goes 16 = .ok (.iload 4, 2) := by decide +kernel
theorem dX6_goes_18 : decode cX6_goes 18 = .ok (.iadd, 1) := by decide +kernel
theorem dX6_goes_19 : decode cX6_goes 19 = .ok (.iaload, 1) := by decide +kernel
theorem dX6_goes_20 : decode cX6_goes 20 = .ok (.iadd, 1) := by decide +kernel
theorem dX6_goes_21 : decode cX6_goes 21 = .ok (.istore 5, 2) := by decide +kernel
theorem dX6_goes_23 : decode cX6_goes 23 = .ok (.iload 5, 2) := by decide +kernel
theorem dX6_goes_25 : decode cX6_goes 25 = .ok (.ldc 111, 2) := by decide +kernel
theorem dX6_goes_27 : decode cX6_goes 27 = .ok (.if_icmp .ge 8, 3) := by decide +kernel
theorem dX6_goes_30 : decode cX6_goes 30 = .ok (.iload 5, 2) := by decide +kernel
theorem dX6_goes_32 : decode cX6_goes 32 = .ok (.goto 5, 3) := by decide +kernel
theorem dX6_goes_35 : decode cX6_goes 35 = .ok (.ldc 111, 2) := by decide +kernel
theorem dX6_goes_37 : decode cX6_goes 37 = .ok (.ireturn, 1) := by decide +kernel
theorem dX6_makeBows_0 : decode cX6_makeBows 0 = .ok (.aload_n 0, 1) := by decide +kernel
theorem dX6_makeBows_1 : decode cX6_makeBows 1 = .ok (.getfield 13, 3) := by decide +kernel
theorem dX6_makeBows_4 : decode cX6_makeBows 4 = .ok (.iload_n 1, 1) := by decide +kernel
theorem dX6_makeBows_5 : decode cX6_makeBows 5 = .ok (.iaload, 1) := by decide +kernel
theorem dX6_makeBows_6 : decode cX6_makeBows 6 = .ok (.ifCond .ne 5, 3) := by decide +kernel
theorem dX6_makeBows_9 : decode cX6_makeBows 9 = .ok (.iconst 0, 1) := by decide +kernel
theorem dX6_makeBows_10 : decode cX6_makeBows 10 = .ok (.ireturn, 1) := by decide +kernel
theorem dX6_makeBows_11 : decode cX6_makeBows 11 = .ok (.iload_n 2, 1) := by decide +kernel
theorem dX6_makeBows_12 : decode cX6_makeBows 12 = .ok (.iconst 1, 1) := by decide +kernel
theorem dX6_makeBows_13 : decode cX6_makeBows 13 = .ok (.if_icmp .ne 16, 3) := by decide +kernel
theorem dX6_makeBows_16 : decode cX6_makeBows 16 = .ok (.aload_n 0, 1) := by decide +kernel
theorem dX6_makeBows_17 : decode cX6_makeBows 17 = .ok (.iload_n 1, 1) := by decide +kernel
theorem dX6_makeBows_18 : decode cX6_makeBows 18 = .ok (.iconst 0, 1) := by decide +kernel
theorem dX6_makeBows_19 : decode cX6_makeBows 19 = .ok (.iconst 4, 1) := by decide +kernel
theorem dX6_makeBows_20 : decode cX6_makeBows 20 = .ok (.invokevirtual 108, 3) := by decide +kernel
theorem dX6_makeBows_23 : decode cX6_makeBows 23 = .ok (.ifCond .eq 6, 3) := by decide +kernel
theorem dX6_makeBows_26 : decode cX6_makeBows 26 = .ok (.bipush (-3), 2) := by decide +kernel
theorem dX6_makeBows_28 : decode cX6_makeBows 28 = .ok (.ireturn, 1) := by decide +kernel
theorem dX6_makeBows_29 : decode cX6_makeBows 29 = .ok (.aload_n 0, 1) := by decide +kernel
theorem dX6_makeBows_30 : decode cX6_makeBows 30 = .ok (.getfield 13, 3) := by decide +kernel
theorem dX6_makeBows_33 : decode cX6_makeBows 33 = .ok (.iload_n 1, 1) := by decide +kernel
theorem dX6_makeBows_34 : decode cX6_makeBows 34 = .ok (.iaload, 1) := by decide +kernel
theorem dX6_makeBows_35 : decode cX6_makeBows 35 = .ok (.iconst 1, 1) := by decide +kernel
theorem dX6_makeBows_36 : decode cX6_makeBows 36 = .ok (.isub, 1) := by decide +kernel
theorem dX6_makeBows_37 : decode cX6_makeBows 37 = .ok (.istore_n 3, 1) := by decide +kernel
theorem dX6_makeBows_38 : decode cX6_makeBows 38 = .ok (.iload_n 3, 1) := by decide +kernel
theorem dX6_makeBows_39 : decode cX6_makeBows 39 = .ok (.ifCond .lt 107, 3) := by decide +kernel
theorem dX6_makeBows_42 : decode cX6_makeBows 42 = .ok (.iconst 0, 1) := by decide +kernel
theorem dX6_makeBows_43 : decode cX6_makeBows 43 = .ok (.istore 4, 2) := by decide +kernel
theorem dX6_makeBows_45 : decode cX6_makeBows 45 = .ok (.iload 4, 2) := by decide +kernel
theorem dX6_makeBows_47 : decode cX6_makeBows 47 = .ok (.iconst 2, 1) := by decide +kernel
theorem dX6_makeBows_48 : decode cX6_makeBows 48 = .ok (.if_icmp .ge 92, 3) := by decide +kernel
theorem dX6_makeBows_51 : decode cX6_makeBows 51 = .ok (.iload_n 3, 1) := by decide +kernel
theorem dX6_makeBows_52 : decode cX6_makeBows 52 = .ok (.aload_n 0, 1) := by decide +kernel
theorem dX6_makeBows_53 : decode cX6_makeBows 53 = .ok (.getfield 13, 3) := by decide +kernel
theorem dX6_makeBows_56 : decode cX6_makeBows 56 = .ok (.iload_n 1, 1) := by decide +kernel
theorem dX6_makeBows_57 : decode cX6_makeBows 57 = .ok (.iaload, 1) := by decide +kernel
theorem dX6_makeBows_58 : decode cX6_makeBows 58 = .ok (.iconst 1, 1) := by decide +kernel
theorem dX6_makeBows_59 : decode cX6_makeBows 59 = .ok (.isub, 1) := by decide +kernel
theorem dX6_makeBows_60 : decode cX6_makeBows 60 = .ok (.if_icmp .ne 7, 3) := by decide +kernel
theorem dX6_makeBows_63 : decode cX6_makeBows 63 = .ok (.iconst 0, 1) := by decide +kernel
theorem dX6_makeBows_64 : decode cX6_makeBows 64 = .ok (.goto 14, 3) := by decide +kernel
theorem dX6_makeBows_67 : decode cX6_makeBows 67 = .ok (.aload_n 0, 1) := by decide +kernel
theorem dX6_makeBows_68 : decode cX6_makeBows 68 = .ok (.iload_n 1, 1) := by decide +kernel
theorem dX6_makeBows_69 : decode cX6_makeBows 69 = .ok (.iload_n 3, 1) := by decide +kernel
theorem dX6_makeBows_70 : decode cX6_makeBows 70 = .ok (.iconst 1, 1) := by decide +kernel
theorem dX6_makeBows_71 : decode cX6_makeBows 71 = .ok (.iadd, 1) := by decide +kernel
theorem dX6_makeBows_72 : decode cX6_makeBows 72 = .ok (.iload 4, 2) := by decide +kernel
theorem dX6_makeBows_74 : decode cX6_makeBows 74 = .ok (.iconst 0, 1) := by decide +kernel
theorem dX6_makeBows_75 : decode cX6_makeBows 75 = .ok (.invokevirtual 129, 3) := by decide +kernel
theorem dX6_makeBows_78 : decode cX6_makeBows 78 = .ok (.istore 5, 2) := by decide +kernel
theorem dX6_makeBows_80 : decode cX6_makeBows 80 = .ok (.iload_n 3, 1) := by decide +kernel
theorem dX6_makeBows_81 : decode cX6_makeBows 81 = .ok (.aload_n 0, 1) := by decide +kernel
theorem dX6_makeBows_82 : decode cX6_makeBows 82 = .ok (.getfield 13, 3) := by decide +kernel
theorem dX6_makeBows_85 : decode cX6_makeBows 85 = .ok (.iload_n 1, 1) := by decide +kernel
theorem dX6_makeBows_86 : decode cX6_makeBows 86 = .ok (.iaload, 1) := by decide +kernel
theorem dX6_makeBows_87 : decode cX6_makeBows 87 = .ok (.iconst 1, 1) := by decide +kernel
theorem dX6_makeBows_88 : decode cX6_makeBows 88 = .ok (.isub, 1) := by decide +kernel
theorem dX6_makeBows_89 : decode cX6_makeBows 89 = .ok (.if_icmp .ne 7, 3) := by decide +kernel
theorem dX6_makeBows_92 : decode cX6_makeBows 92 = .ok (.iconst 0, 1) := by decide +kernel
theorem dX6_makeBows_93 : decode cX6_makeBows 93 = .ok (.goto 14, 3) := by decide +kernel
theorem dX6_makeBows_96 : decode cX6_makeBows 96 = .ok (.aload_n 0, 1) := by decide +kernel
theorem dX6_makeBows_97 : decode cX6_makeBows 97 = .ok (.iload_n 1, 1) := by decide +kernel
theorem dX6_makeBows_98 : decode cX6_makeBows 98 = .ok (.iload_n 3, 1) := by decide +kernel
theorem dX6_makeBows_99 : decode cX6_makeBows 99 = .ok (.iconst 1, 1) := by decide +kernel
theorem dX6_makeBows_100 : decode cX6_makeBows 100 = .ok (.iadd, 1) := by decide +kernel
theorem dX6_makeBows_101 : decode cX6_makeBows 101 = .ok (.iload 4, 2) := by decide +kernel
theorem dX6_makeBows_103 : decode cX6_makeBows 103 = .ok (.iconst 1, 1) := by decide +kernel
theorem dX6_makeBows_104 : decode cX6_makeBows 104 = .ok (.invokevirtual 129, 3) := by decide +kernel
theorem dX6_makeBows_107 : decode cX6_makeBows 107 = .ok (.istore 6, 2) := by decide +kernel
theorem dX6_makeBows_109 : decode cX6_makeBows 109 = .ok (.aload_n 0, 1) := by decide +kernel
theorem dX6_makeBows_110 : decode cX6_makeBows 110 = .ok (.getfield 55, 3) := by decide +kernel
theorem dX6_makeBows_113 : decode cX6_makeBows 113 = .ok (.iconst 2, 1) := by decide +kernel
theorem dX6_makeBows_114 : decode cX6_makeBows 114 = .ok (.iload_n 3, 1) := by decide +kernel
theorem dX6_makeBows_115 : decode cX6_makeBows 115 = .ok (.imul, 1) := by decide +kernel
theorem dX6_makeBows_116 : decode cX6_makeBows 116 = .ok (.iload 4, 2) := by decide +kernel
theorem dX6_makeBows_118 : decode cX6_makeBows 118 = .ok (.iadd, 1) := by decide +kernel
theorem dX6_makeBows_119 : decode cX6_makeBows 119 = .ok (.iload 5, 2) := by decide +kernel
theorem dX6_makeBows_121 : decode cX6_makeBows 121 = .ok (.iload 6, 2) := by decide +kernel
theorem dX6_makeBows_123 : decode cX6_makeBows 123 = .ok (.if_icmp .ge 8, 3) := by decide +kernel
theorem dX6_makeBows_126 : decode cX6_makeBows 126 = .ok (.iload 5, 2) := by decide +kernel
theorem dX6_makeBows_128 : decode cX6_makeBows 128 = .ok (.goto 5, 3) := by decide +kernel
theorem dX6_makeBows_131 : decode cX6_makeBows 131 = .ok (.iload 6, 2) := by decide +kernel
theorem dX6_makeBows_133 : decode cX6_makeBows 133 = .ok (.iastore, 1) := by decide +kernel
theorem dX6_makeBows_134 : decode cX6_makeBows 134 = .ok (.iinc 4 1, 3) := by decide +kernel
theorem dX6_makeBows_137 : decode cX6_makeBows 137 = .ok (.goto (-92), 3) := by decide +kernel
theorem dX6_makeBows_140 : decode cX6_makeBows 140 = .ok (.iinc 3 (-1), 3) := by decide +kernel
theorem dX6_makeBows_143 : decode cX6_makeBows 143 = .ok (.goto (-105), 3) := by decide +kernel
theorem dX6_makeBows_146 : decode cX6_makeBows 146 = .ok (.aload_n 0, 1) := by decide +kernel
theorem dX6_makeBows_147 : decode cX6_makeBows 147 = .ok (.getfield 58, 3) := by decide +kernel
theorem dX6_makeBows_150 : decode cX6_makeBows 150 = .ok (.bipush 12, 2) := by decide +kernel
theorem dX6_makeBows_152 : decode cX6_makeBows 152 = .ok (.iload_n 1, 1) := by decide +kernel
theorem dX6_makeBows_153 : decode cX6_makeBows 153 = .ok (.imul, 1) := by decide +kernel
theorem dX6_makeBows_154 : decode cX6_makeBows 154 = .ok (.iload_n 2, 1) := by decide +kernel
theorem dX6_makeBows_155 : decode cX6_makeBows 155 = .ok (.iastore, 1) := by decide +kernel
theorem dX6_makeBows_156 : decode cX6_makeBows 156 = .ok (.iconst 1, 1) := by decide +kernel
theorem dX6_makeBows_157 : decode cX6_makeBows 157 = .ok (.istore_n 3, 1) := by decide +kernel
theorem dX6_makeBows_158 : decode cX6_makeBows 158 = .ok (.iload_n 3, 1) := by decide +kernel
theorem dX6_makeBows_159 : decode cX6_makeBows 159 = .ok (.aload_n 0, 1) := by decide +kernel
theorem dX6_makeBows_160 : decode cX6_makeBows 160 = .ok (.getfield 13, 3) := by decide +kernel
theorem dX6_makeBows_163 : decode cX6_makeBows 163 = .ok (.iload_n 1, 1) := by decide +kernel
theorem dX6_makeBows_164 : decode cX6_makeBows 164 = .ok (.iaload, 1) := by decide +kernel
theorem dX6_makeBows_165 : decode cX6_makeBows 165 = .ok (.if_icmp .ge 65, 3) := by decide +kernel
theorem dX6_makeBows_168 : decode cX6_makeBows 168 = .ok (.aload_n 0, 1) := by decide +kernel
theorem dX6_makeBows_169 : decode cX6_makeBows 169 = .ok (.getfield 58, 3) := by decide +kernel
theorem dX6_makeBows_172 : decode cX6_makeBows 172 = .ok (.bipush 12, 2) := by decide +kernel
theorem dX6_makeBows_174 : decode cX6_makeBows 174 = .ok (.iload_n 1, 1) := by decide +kernel
theorem dX6_makeBows_175 : decode cX6_makeBows 175 = .ok (.imul, 1) := by decide +kernel
theorem dX6_makeBows_176 : decode cX6_makeBows 176 = .ok (.iload_n 3, 1) := by decide +kernel
theorem dX6_makeBows_177 : decode cX6_makeBows 177 = .ok (.iadd, 1) := by decide +kernel
theorem dX6_makeBows_178 : decode cX6_makeBows 178 = .ok (.iconst 1, 1) := by decide +kernel
theorem dX6_makeBows_179 : decode cX6_makeBows 179 = .ok (.isub, 1) := by decide +kernel
theorem dX6_makeBows_180 : decode cX6_makeBows 180 = .ok (.iaload, 1) := by decide +kernel
theorem dX6_makeBows_181 : decode cX6_makeBows 181 = .ok (.istore 4, 2) := by decide +kernel
theorem dX6_makeBows_183 : decode cX6_makeBows 183 = .ok (.aload_n 0, 1) := by decide +kernel
theorem dX6_makeBows_184 : decode cX6_makeBows 184 = .ok (.getfield 58, 3) := by decide +kernel
theorem dX6_makeBows_187 : decode cX6_makeBows 187 = .ok (.bipush 12, 2) := by decide +kernel
theorem dX6_makeBows_189 : decode cX6_makeBows 189 = .ok (.iload_n 1, 1) := by decide +kernel
theorem dX6_makeBows_190 : decode cX6_makeBows 190 = .ok (.imul, 1) := by decide +kernel
theorem dX6_makeBows_191 : decode cX6_makeBows 191 = .ok (.iload_n 3, 1) := by decide +kernel
theorem dX6_makeBows_192 : decode cX6_makeBows 192 = .ok (.iadd, 1) := by decide +kernel
theorem dX6_makeBows_193 : decode cX6_makeBows 193 = .ok (.aload_n 0, 1) := by decide +kernel
theorem dX6_makeBows_194 : decode cX6_makeBows 194 = .ok (.iload_n 1, 1) := by decide +kernel
theorem dX6_makeBows_195 : decode cX6_makeBows 195 = .ok (.iload_n 3, 1) := by decide +kernel
theorem dX6_makeBows_196 : decode cX6_makeBows 196 = .ok (.iload 4, 2) := by decide +kernel
theorem dX6_makeBows_198 : decode cX6_makeBows 198 = .ok (.iconst 0, 1) := by decide +kernel
theorem dX6_makeBows_199 : decode cX6_makeBows 199 = .ok (.invokevirtual 129, 3) := by decide +kernel
theorem dX6_makeBows_202 : decode cX6_makeBows 202 = .ok (.aload_n 0, 1) := by decide +kernel
theorem dX6_makeBows_203 : decode cX6_makeBows 203 = .ok (.getfield 55, 3) := by decide +kernel
theorem dX6_makeBows_206 : decode cX6_makeBows 206 = .ok (.iconst 2, 1) := by decide +kernel
theorem dX6_makeBows_207 : decode cX6_makeBows 207 = .ok (.iload_n 3, 1) := by decide +kernel
theorem dX6_makeBows_208 : decode cX6_makeBows 208 = .ok (.imul, 1) := by decide +kernel
theorem dX6_makeBows_209 : decode cX6_makeBows 209 = .ok (.iconst 2, 1) := by decide +kernel
theorem dX6_makeBows_210 : decode cX6_makeBows 210 = .ok (.isub, 1) := by decide +kernel
theorem dX6_makeBows_211 : decode cX6_makeBows 211 = .ok (.iload 4, 2) := by decide +kernel
theorem dX6_makeBows_213 : decode cX6_makeBows 213 = .ok (.iadd, 1) := by decide +kernel
theorem dX6_makeBows_214 : decode cX6_makeBows 214 = .ok (.iaload, 1) := by decide +kernel
theorem dX6_makeBows_215 : decode cX6_makeBows 215 = .ok (.if_icmp .ne 7, 3) := by decide +kernel
theorem dX6_makeBows_218 : decode cX6_makeBows 218 = .ok (.iconst 0, 1) := by decide +kernel
theorem dX6_makeBows_219 : decode cX6_makeBows 219 = .ok (.goto 4, 3) := by decide +kernel
theorem dX6_makeBows_222 : decode cX6_makeBows 222 = .ok (.iconst 1, 1) := by decide +kernel
theorem dX6_makeBows_223 : decode cX6_makeBows 223 = .ok (.iastore, 1) := by decide +kernel
theorem dX6_makeBows_224 : decode cX6_makeBows 224 = .ok (.iinc 3 1, 3) := by decide +kernel
theorem dX6_makeBows_227 : decode cX6_makeBows 227 = .ok (.goto (-69), 3) := by decide +kernel
theorem dX6_makeBows_230 : decode cX6_makeBows 230 = .ok (.aload_n 0, 1) := by decide +kernel
theorem dX6_makeBows_231 : decode cX6_makeBows 231 = .ok (.getfield 55, 3) := by decide +kernel
theorem dX6_makeBows_234 : decode cX6_makeBows 234 = .ok (.iload_n 2, 1) := by decide +kernel
theorem dX6_makeBows_235 : decode cX6_makeBows 235 = .ok (.iaload, 1) := by decide +kernel
theorem dX6_makeBows_236 : decode cX6_makeBows 236 = .ok (.ireturn, 1) := by decide +kernel
theorem dX6_bow_0 : decode cX6_bow 0 = .ok (.iload_n 1, 1) := by decide +kernel
theorem dX6_bow_1 : decode cX6_bow 1 = .ok (.invokestatic 65, 3) := by decide +kernel
theorem dX6_bow_4 : decode cX6_bow 4 = .ok (.ifCond .eq 21, 3) := by decide +kernel
theorem dX6_bow_7 : decode cX6_bow 7 = .ok (.iload_n 2, 1) := by decide +kernel
theorem dX6_bow_8 : decode cX6_bow 8 = .ok (.iconst 0, 1) := by decide +kernel
theorem dX6_bow_9 : decode cX6_bow 9 = .ok (.iconst 1, 1) := by decide +kernel
theorem dX6_bow_10 : decode cX6_bow 10 = .ok (.invokestatic 61, 3) := by decide +kernel
theorem dX6_bow_13 : decode cX6_bow 13 = .ok (.ifCond .eq 12, 3) := by decide +kernel
theorem dX6_bow_16 : decode cX6_bow 16 = .ok (.aload_n 0, 1) := by decide +kernel
theorem dX6_bow_17 : decode cX6_bow 17 = .ok (.iload_n 1, 1) := by decide +kernel
theorem dX6_bow_18 : decode cX6_bow 18 = .ok (.iload_n 2, 1) := by decide +kernel
theorem dX6_bow_19 : decode cX6_bow 19 = .ok (.invokevirtual 132, 3) := by decide +kernel
theorem dX6_bow_22 : decode cX6_bow 22 = .ok (.goto 4, 3) := by decide +kernel
theorem dX6_bow_25 : decode cX6_bow 25 = .ok (.iconst (-1), 1) := by decide +kernel
theorem dX6_bow_26 : decode cX6_bow 26 = .ok (.ireturn, 1) := by decide +kernel
theorem dX6_stroke_0 : decode cX6_stroke 0 = .ok (.aload_n 0, 1) := by decide +kernel
theorem dX6_stroke_1 : decode cX6_stroke 1 = .ok (.iload_n 1, 1) := by decide +kernel
theorem dX6_stroke_2 : decode cX6_stroke 2 = .ok (.iload_n 2, 1) := by decide +kernel
theorem dX6_stroke_3 : decode cX6_stroke 3 = .ok (.invokevirtual 76, 3) := by decide +kernel
theorem dX6_stroke_6 : decode cX6_stroke 6 = .ok (.ifCond .eq 12, 3) := by decide +kernel
theorem dX6_stroke_9 : decode cX6_stroke 9 = .ok (.iload_n 3, 1) := by decide +kernel
theorem dX6_stroke_10 : decode cX6_stroke 10 = .ok (.iconst 0, 1) := by decide +kernel
theorem dX6_stroke_11 : decode cX6_stroke 11 = .ok (.iconst 1, 1) := by decide +kernel
theorem dX6_stroke_12 : decode cX6_stroke 12 = .ok (.invokestatic 61, 3) := by decide +kernel
theorem dX6_stroke_15 : decode cX6_stroke 15 = .ok (.ifCond .ne 5, 3) := by decide +kernel
theorem dX6_stroke_18 : decode cX6_stroke 18 = .ok (.iconst (-1), 1) := by decide +kernel
theorem dX6_stroke_19 : decode cX6_stroke 19 = .ok (.ireturn, 1) := by decide +kernel
theorem dX6_stroke_20 : decode cX6_stroke 20 = .ok (.aload_n 0, 1) := by decide +kernel
theorem dX6_stroke_21 : decode cX6_stroke 21 = .ok (.iload_n 1, 1) := by decide +kernel
theorem dX6_stroke_22 : decode cX6_stroke 22 = .ok (.iload_n 3, 1) := by decide +kernel
theorem dX6_stroke_23 : decode cX6_stroke 23 = .ok (.invokevirtual 132, 3) := by decide +kernel
theorem dX6_stroke_26 : decode cX6_stroke 26 = .ok (.ifCond .ge 8, 3) := by decide +kernel
theorem dX6_stroke_29 : decode cX6_stroke 29 = .ok (.bipush (-3), 2) := by decide +kernel
theorem dX6_stroke_31 : decode cX6_stroke 31 = .ok (.goto 14, 3) := by decide +kernel
theorem dX6_stroke_34 : decode cX6_stroke 34 = .ok (.aload_n 0, 1) := by decide +kernel
theorem dX6_stroke_35 : decode cX6_stroke 35 = .ok (.getfield 58, 3) := by decide +kernel
theorem dX6_stroke_38 : decode cX6_stroke 38 = .ok (.bipush 12, 2) := by decide +kernel
theorem dX6_stroke_40 : decode cX6_stroke 40 = .ok (.iload_n 1, 1) := by decide +kernel
theorem dX6_stroke_41 : decode cX6_stroke 41 = .ok (.imul, 1) := by decide +kernel
theorem dX6_stroke_42 : decode cX6_stroke 42 = .ok (.iload_n 2, 1) := by decide +kernel
theorem dX6_stroke_43 : decode cX6_stroke 43 = .ok (.iadd, 1) := by decide +kernel
theorem dX6_stroke_44 : decode cX6_stroke 44 = .ok (.iaload, 1) := by decide +kernel
theorem dX6_stroke_45 : decode cX6_stroke 45 = .ok (.ireturn, 1) := by decide +kernel
theorem dX6_strokes_0 : decode cX6_strokes 0 = .ok (.iload_n 1, 1) := by decide +kernel
theorem dX6_strokes_1 : decode cX6_strokes 1 = .ok (.invokestatic 65, 3) := by decide +kernel
theorem dX6_strokes_4 : decode cX6_strokes 4 = .ok (.ifCond .eq 21, 3) := by decide +kernel
theorem dX6_strokes_7 : decode cX6_strokes 7 = .ok (.iload_n 2, 1) := by decide +kernel
theorem dX6_strokes_8 : decode cX6_strokes 8 = .ok (.iconst 0, 1) := by decide +kernel
theorem dX6_strokes_9 : decode cX6_strokes 9 = .ok (.iconst 1, 1) := by decide +kernel
theorem dX6_strokes_10 : decode cX6_strokes 10 = .ok (.invokestatic 61, 3) := by decide +kernel
theorem dX6_strokes_13 : decode cX6_strokes 13 = .ok (.ifCond .eq 12, 3) := by decide +kernel
theorem dX6_strokes_16 : decode cX6_strokes 16 = .ok (.iload_n 3, 1) := by decide +kernel
theorem dX6_strokes_17 : decode cX6_strokes 17 = .ok (.iconst 0, 1) := by decide +kernel
theorem dX6_strokes_18 : decode cX6_strokes 18 = .ok (.iconst 2, 1) := by decide +kernel
theorem dX6_strokes_19 : decode cX6_strokes 19 = .ok (.invokestatic 61, 3) := by decide +kernel
theorem dX6_strokes_22 : decode cX6_strokes 22 = .ok (.ifCond .ne 5, 3) := by decide +kernel
theorem dX6_strokes_25 : decode cX6_strokes 25 = .ok (.iconst (-1), 1) := by decide +kernel
theorem dX6_strokes_26 : decode cX6_strokes 26 = .ok (.ireturn, 1) := by decide +kernel
theorem dX6_strokes_27 : decode cX6_strokes 27 = .ok (.aload_n 0, 1) := by decide +kernel
theorem dX6_strokes_28 : decode cX6_strokes 28 = .ok (.iload_n 1, 1) := by decide +kernel
theorem dX6_strokes_29 : decode cX6_strokes 29 = .ok (.iload_n 2, 1) := by decide +kernel
theorem dX6_strokes_30 : decode cX6_strokes 30 = .ok (.invokevirtual 132, 3) := by decide +kernel
theorem dX6_strokes_33 : decode cX6_strokes 33 = .ok (.ifCond .ge 6, 3) := by decide +kernel
theorem dX6_strokes_36 : decode cX6_strokes 36 = .ok (.bipush (-3), 2) := by decide +kernel
theorem dX6_strokes_38 : decode cX6_strokes 38 = .ok (.ireturn, 1) := by decide +kernel
theorem dX6_strokes_39 : decode cX6_strokes 39 = .ok (.iconst 0, 1) := by decide +kernel
theorem dX6_strokes_40 : decode cX6_strokes 40 = .ok (.istore 4, 2) := by decide +kernel
theorem dX6_strokes_42 : decode cX6_strokes 42 = .ok (.iconst 0, 1) := by decide +kernel
theorem dX6_strokes_43 : decode cX6_strokes 43 = .ok (.istore 5, 2) := by decide +kernel
theorem dX6_strokes_45 : decode cX6_strokes 45 = .ok (.iconst 0, 1) := by decide +kernel
theorem dX6_strokes_46 : decode cX6_strokes 46 = .ok (.istore 6, 2) := by decide +kernel
theorem dX6_strokes_48 : decode cX6_strokes 48 = .ok (.iconst 0, 1) := by decide +kernel
theorem dX6_strokes_49 : decode cX6_strokes 49 = .ok (.istore 7, 2) := by decide +kernel
theorem dX6_strokes_51 : decode cX6_strokes 51 = .ok (.iload 7, 2) := by decide +kernel
theorem dX6_strokes_53 : decode cX6_strokes 53 = .ok (.aload_n 0, 1) := by decide +kernel
theorem dX6_strokes_54 : decode cX6_strokes 54 = .ok (.getfield 13, 3) := by decide +kernel
theorem dX6_strokes_57 : decode cX6_strokes 57 = .ok (.iload_n 1, 1) := by decide +kernel
theorem dX6_strokes_58 : decode cX6_strokes 58 = .ok (.iaload, 1) := by decide +kernel
theorem dX6_strokes_59 : decode cX6_strokes 59 = .ok (.if_icmp .ge 120, 3) := by decide +kernel
theorem dX6_strokes_62 : decode cX6_strokes 62 = .ok (.iload 7, 2) := by decide +kernel
theorem dX6_strokes_64 : decode cX6_strokes 64 = .ok (.ifCond .le 36, 3) := by decide +kernel
theorem dX6_strokes_67 : decode cX6_strokes 67 = .ok (.aload_n 0, 1) := by decide +kernel
theorem dX6_strokes_68 : decode cX6_strokes 68 = .ok (.getfield 58, 3) := by decide +kernel
theorem dX6_strokes_71 : decode cX6_strokes 71 = .ok (.bipush 12, 2) := by decide +kernel
theorem dX6_strokes_73 : decode cX6_strokes 73 = .ok (.iload_n 1, 1) := by decide +kernel
theorem dX6_strokes_74 : decode cX6_strokes 74 = .ok (.imul, 1) := by decide +kernel
theorem dX6_strokes_75 : decode cX6_strokes 75 = .ok (.iload 7, 2) := by decide +kernel
theorem dX6_strokes_77 : decode cX6_strokes 77 = .ok (.iadd, 1) := by decide +kernel
theorem dX6_strokes_78 : decode cX6_strokes 78 = .ok (.iaload, 1) := by decide +kernel
theorem dX6_strokes_79 : decode cX6_strokes 79 = .ok (.aload_n 0, 1) := by decide +kernel
theorem dX6_strokes_80 : decode cX6_strokes 80 = .ok (.getfield 58, 3) := by decide +kernel
theorem dX6_strokes_83 : decode cX6_strokes 83 = .ok (.bipush 12, 2) := by decide +kernel
theorem dX6_strokes_85 : decode cX6_strokes 85 = .ok (.iload_n 1, 1) := by decide +kernel
theorem dX6_strokes_86 : decode cX6_strokes 86 = .ok (.imul, 1) := by decide +kernel
theorem dX6_strokes_87 : decode cX6_strokes 87 = .ok (.iload 7, 2) := by decide +kernel
theorem dX6_strokes_89 : decode cX6_strokes 89 = .ok (.iadd, 1) := by decide +kernel
theorem dX6_strokes_90 : decode cX6_strokes 90 = .ok (.iconst 1, 1) := by decide +kernel
theorem dX6_strokes_91 : decode cX6_strokes 91 = .ok (.isub, 1) := by decide +kernel
theorem dX6_strokes_92 : decode cX6_strokes 92 = .ok (.iaload, 1) := by decide +kernel
theorem dX6_strokes_93 : decode cX6_strokes 93 = .ok (.if_icmp .ne 7, 3) := by decide +kernel
theorem dX6_strokes_96 : decode cX6_strokes 96 = .ok (.iconst 1, 1) := by decide +kernel
theorem dX6_strokes_97 : decode cX6_strokes 97 = .ok (.goto 4, 3) := by decide +kernel
theorem dX6_strokes_100 : decode cX6_strokes 100 = .ok (.iconst 0, 1) := by decide +kernel
theorem dX6_strokes_101 : decode cX6_strokes 101 = .ok (.istore 8, 2) := by decide +kernel
theorem dX6_strokes_103 : decode cX6_strokes 103 = .ok (.aload_n 0, 1) := by decide +kernel
theorem dX6_strokes_104 : decode cX6_strokes 104 = .ok (.iload_n 1, 1) := by decide +kernel
theorem dX6_strokes_105 : decode cX6_strokes 105 = .ok (.iload 7, 2) := by decide +kernel
theorem dX6_strokes_107 : decode cX6_strokes 107 = .ok (.iconst 2, 1) := by decide +kernel
theorem dX6_strokes_108 : decode cX6_strokes 108 = .ok (.invokevirtual 108, 3) := by decide +kernel
theorem dX6_strokes_111 : decode cX6_strokes 111 = .ok (.istore 9, 2) := by decide +kernel
theorem dX6_strokes_113 : decode cX6_strokes 113 = .ok (.iload 4, 2) := by decide +kernel
theorem dX6_strokes_115 : decode cX6_strokes 115 = .ok (.iload 8, 2) := by decide +kernel
theorem dX6_strokes_117 : decode cX6_strokes 117 = .ok (.ifCond .eq 12, 3) := by decide +kernel
theorem dX6_strokes_120 : decode cX6_strokes 120 = .ok (.iload 9, 2) := by decide +kernel
theorem dX6_strokes_122 : decode cX6_strokes 122 = .ok (.ifCond .ne 7, 3) := by decide +kernel
theorem dX6_strokes_125 : decode cX6_strokes 125 = .ok (.iconst 1, 1) := by decide +kernel
theorem dX6_strokes_126 : decode cX6_strokes 126 = .ok (.goto 4, 3) := by decide +kernel
theorem dX6_strokes_129 : decode cX6_strokes 129 = .ok (.iconst 0, 1) := by decide +kernel
theorem dX6_strokes_130 : decode cX6_strokes 130 = .ok (.iadd, 1) := by decide +kernel
theorem dX6_strokes_131 : decode cX6_strokes 131 = .ok (.istore 4, 2) := by decide +kernel
theorem dX6_strokes_133 : decode cX6_strokes 133 = .ok (.iload 5, 2) := by decide +kernel
theorem dX6_strokes_135 : decode cX6_strokes 135 = .ok (.iload 8, 2) := by decide +kernel
theorem dX6_strokes_137 : decode cX6_strokes 137 = .ok (.ifCond .ne 12, 3) := by decide +kernel
theorem dX6_strokes_140 : decode cX6_strokes 140 = .ok (.iload 9, 2) := by decide +kernel
theorem dX6_strokes_142 : decode cX6_strokes 142 = .ok (.ifCond .eq 7, 3) := by decide +kernel
theorem dX6_strokes_145 : decode cX6_strokes 145 = .ok (.iconst 1, 1) := by decide +kernel
theorem dX6_strokes_146 : decode cX6_strokes 146 = .ok (.goto 4, 3) := by decide +kernel
theorem dX6_strokes_149 : decode cX6_strokes 149 = .ok (.iconst 0, 1) := by decide +kernel
theorem dX6_strokes_150 : decode cX6_strokes 150 = .ok (.iadd, 1) := by decide +kernel
theorem dX6_strokes_151 : decode cX6_strokes 151 = .ok (.istore 5, 2) := by decide +kernel
theorem dX6_strokes_153 : decode cX6_strokes 153 = .ok (.iload 6, 2) := by decide +kernel
theorem dX6_strokes_155 : decode cX6_strokes 155 = .ok (.iload 9, 2) := by decide +kernel
theorem dX6_strokes_157 : decode cX6_strokes 157 = .ok (.ifCond .eq 8, 3) := by decide +kernel
theorem dX6_strokes_160 : decode cX6_strokes 160 = .ok (.iload 8, 2) := by decide +kernel
theorem dX6_strokes_162 : decode cX6_strokes 162 = .ok (.ifCond .ne 7, 3) := by decide +kernel
theorem dX6_strokes_165 : decode cX6_strokes 165 = .ok (.iconst 1, 1) := by decide +kernel
theorem dX6_strokes_166 : decode cX6_strokes 166 = .ok (.goto 4, 3) := by decide +kernel
theorem dX6_strokes_169 : decode cX6_strokes 169 = .ok (.iconst 0, 1) := by decide +kernel
theorem dX6_strokes_170 : decode cX6_strokes 170 = .ok (.iadd, 1) := by decide +kernel
theorem dX6_strokes_171 : decode cX6_strokes 171 = .ok (.istore 6, 2) := by decide +kernel
theorem dX6_strokes_173 : decode cX6_strokes 173 = .ok (.iinc 7 1, 3) := by decide +kernel
theorem dX6_strokes_176 : decode cX6_strokes 176 = .ok (.goto (-125), 3) := by decide +kernel
theorem dX6_strokes_179 : decode cX6_strokes 179 = .ok (.iload_n 3, 1) := by decide +kernel
theorem dX6_strokes_180 : decode cX6_strokes 180 = .ok (.ifCond .ne 8, 3) := by decide +kernel
theorem dX6_strokes_183 : decode cX6_strokes 183 = .ok (.iload 4, 2) := by decide +kernel
theorem dX6_strokes_185 : decode cX6_strokes 185 = .ok (.goto 15, 3) := by decide +kernel
theorem dX6_strokes_188 : decode cX6_strokes 188 = .ok (.iload_n 3, 1) := by decide +kernel
theorem dX6_strokes_189 : decode cX6_strokes 189 = .ok (.iconst 1, 1) := by decide +kernel
theorem dX6_strokes_190 : decode cX6_strokes 190 = .ok (.if_icmp .ne 8, 3) := by decide +kernel
theorem dX6_strokes_193 : decode cX6_strokes 193 = .ok (.iload 5, 2) := by decide +kernel
theorem dX6_strokes_195 : decode cX6_strokes 195 = .ok (.goto 5, 3) := by decide +kernel
theorem dX6_strokes_198 : decode cX6_strokes 198 = .ok (.iload 6, 2) := by decide +kernel
theorem dX6_strokes_200 : decode cX6_strokes 200 = .ok (.ireturn, 1) := by decide +kernel
theorem dX6_areAlike_0 : decode cX6_areAlike 0 = .ok (.aload_n 0, 1) := by decide +kernel
theorem dX6_areAlike_1 : decode cX6_areAlike 1 = .ok (.getfield 22, 3) := by decide +kernel
theorem dX6_areAlike_4 : decode cX6_areAlike 4 = .ok (.bipush 12, 2) := by decide +kernel
theorem dX6_areAlike_6 : decode cX6_areAlike 6 = .ok (.iload_n 1, 1) := by decide +kernel
theorem dX6_areAlike_7 : decode cX6_areAlike 7 = .ok (.imul, 1) := by decide +kernel
theorem dX6_areAlike_8 : decode cX6_areAlike 8 = .ok (.iload_n 2, 1) := by decide +kernel
theorem dX6_areAlike_9 : decode cX6_areAlike 9 = .ok (.iadd, 1) := by decide +kernel
theorem dX6_areAlike_10 : decode cX6_areAlike 10 = .ok (.iaload, 1) := by decide +kernel
theorem dX6_areAlike_11 : decode cX6_areAlike 11 = .ok (.aload_n 0, 1) := by decide +kernel
theorem dX6_areAlike_12 : decode cX6_areAlike 12 = .ok (.getfield 22, 3) := by decide +kernel
theorem dX6_areAlike_15 : decode cX6_areAlike 15 = .ok (.bipush 12, 2) := by decide +kernel
theorem dX6_areAlike_17 : decode cX6_areAlike 17 = .ok (.iload_n 3, 1) := by decide +kernel
theorem dX6_areAlike_18 : decode cX6_areAlike 18 = .ok (.imul, 1) := by decide +kernel
theorem dX6_areAlike_19 : decode cX6_areAlike 19 = .ok (.iload 4, 2) := by decide +kernel
theorem dX6_areAlike_21 : decode cX6_areAlike 21 = .ok (.iadd, 1) := by decide +kernel
theorem dX6_areAlike_22 : decode cX6_areAlike 22 = .ok (.iaload, 1) := by decide +kernel
theorem dX6_areAlike_23 : decode cX6_areAlike 23 = .ok (.if_icmp .ne 23, 3) := by decide +kernel
theorem dX6_areAlike_26 : decode cX6_areAlike 26 = .ok (.aload_n 0, 1) := by decide +kernel
theorem dX6_areAlike_27 : decode cX6_areAlike 27 = .ok (.iload_n 1, 1) := by decide +kernel
theorem dX6_areAlike_28 : decode cX6_areAlike 28 = .ok (.iload_n 2, 1) := by decide +kernel
theorem dX6_areAlike_29 : decode cX6_areAlike 29 = .ok (.invokevirtual 94, 3) := by decide +kernel
theorem dX6_areAlike_32 : decode cX6_areAlike 32 = .ok (.aload_n 0, 1) := by decide +kernel
theorem dX6_areAlike_33 : decode cX6_areAlike 33 = .ok (.iload_n 3, 1) := by decide +kernel
theorem dX6_areAlike_34 : decode cX6_areAlike 34 = .ok (.iload 4, 2) := by decide +kernel
theorem dX6_areAlike_36 : decode cX6_areAlike 36 = .ok (.invokevirtual 94, 3) := by decide +kernel
theorem dX6_areAlike_39 : decode cX6_areAlike 39 = .ok (.if_icmp .ne 7, 3) := by decide +kernel
theorem dX6_areAlike_42 : decode cX6_areAlike 42 = .ok (.iconst 1, 1) := by decide +kernel
theorem dX6_areAlike_43 : decode cX6_areAlike 43 = .ok (.goto 4, 3) := by decide +kernel
theorem dX6_areAlike_46 : decode cX6_areAlike 46 = .ok (.iconst 0, 1) := by decide +kernel
theorem dX6_areAlike_47 : decode cX6_areAlike 47 = .ok (.ireturn, 1) := by decide +kernel
theorem dX6_alike_0 : decode cX6_alike 0 = .ok (.aload_n 0, 1) := by decide +kernel
theorem dX6_alike_1 : decode cX6_alike 1 = .ok (.iload_n 1, 1) := by decide +kernel
theorem dX6_alike_2 : decode cX6_alike 2 = .ok (.iload_n 2, 1) := by decide +kernel
theorem dX6_alike_3 : decode cX6_alike 3 = .ok (.invokevirtual 76, 3) := by decide +kernel
theorem dX6_alike_6 : decode cX6_alike 6 = .ok (.ifCond .eq 18, 3) := by decide +kernel
theorem dX6_alike_9 : decode cX6_alike 9 = .ok (.aload_n 0, 1) := by decide +kernel
theorem dX6_alike_10 : decode cX6_alike 10 = .ok (.iload_n 3, 1) := by decide +kernel
theorem dX6_alike_11 : decode cX6_alike 11 = .ok (.iload 4, 2) := by decide +kernel
theorem dX6_alike_13 : decode cX6_alike 13 = .ok (.invokevirtual 76, 3) := by decide +kernel
theorem dX6_alike_16 : decode cX6_alike 16 = .ok (.ifCond .eq 8, 3) := by decide +kernel
theorem dX6_alike_19 : decode cX6_alike 19 = .ok (.iload_n 1, 1) := by decide +kernel
theorem dX6_alike_20 : decode cX6_alike 20 = .ok (.iload_n 3, 1) := by decide +kernel
theorem dX6_alike_21 : decode cX6_alike 21 = .ok (.if_icmp .ne 5, 3) := by decide +kernel
theorem dX6_alike_24 : decode cX6_alike 24 = .ok (.iconst (-1), 1) := by decide +kernel
theorem dX6_alike_25 : decode cX6_alike 25 = .ok (.ireturn, 1) := by decide +kernel
theorem dX6_alike_26 : decode cX6_alike 26 = .ok (.aload_n 0, 1) := by decide +kernel
theorem dX6_alike_27 : decode cX6_alike 27 = .ok (.iload_n 1, 1) := by decide +kernel
theorem dX6_alike_28 : decode cX6_alike 28 = .ok (.iload_n 2, 1) := by decide +kernel
theorem dX6_alike_29 : decode cX6_alike 29 = .ok (.iload_n 3, 1) := by decide +kernel
theorem dX6_alike_30 : decode cX6_alike 30 = .ok (.iload 4, 2) := by decide +kernel
theorem dX6_alike_32 : decode cX6_alike 32 = .ok (.invokevirtual 135, 3) := by decide +kernel
theorem dX6_alike_35 : decode cX6_alike 35 = .ok (.ifCond .eq 7, 3) := by decide +kernel
theorem dX6_alike_38 : decode cX6_alike 38 = .ok (.iconst 1, 1) := by decide +kernel
theorem dX6_alike_39 : decode cX6_alike 39 = .ok (.goto 4, 3) := by decide +kernel
theorem dX6_alike_42 : decode cX6_alike 42 = .ok (.iconst 0, 1) := by decide +kernel
theorem dX6_alike_43 : decode cX6_alike 43 = .ok (.ireturn, 1) := by decide +kernel
theorem dX6_alikes_0 : decode cX6_alikes 0 = .ok (.iconst 0, 1) := by decide +kernel
theorem dX6_alikes_1 : decode cX6_alikes 1 = .ok (.istore_n 2, 1) := by decide +kernel
theorem dX6_alikes_2 : decode cX6_alikes 2 = .ok (.iconst 0, 1) := by decide +kernel
theorem dX6_alikes_3 : decode cX6_alikes 3 = .ok (.istore_n 3, 1) := by decide +kernel
theorem dX6_alikes_4 : decode cX6_alikes 4 = .ok (.iload_n 3, 1) := by decide +kernel
theorem dX6_alikes_5 : decode cX6_alikes 5 = .ok (.iconst 3, 1) := by decide +kernel
theorem dX6_alikes_6 : decode cX6_alikes 6 = .ok (.if_icmp .ge 133, 3) := by decide +kernel
theorem dX6_alikes_9 : decode cX6_alikes 9 = .ok (.iload_n 3, 1) := by decide +kernel
theorem dX6_alikes_10 : decode cX6_alikes 10 = .ok (.iconst 1, 1) := by decide +kernel
theorem dX6_alikes_11 : decode cX6_alikes 11 = .ok (.iadd, 1) := by decide +kernel
theorem dX6_alikes_12 : decode cX6_alikes 12 = .ok (.istore 4, 2) := by decide +kernel
theorem dX6_alikes_14 : decode cX6_alikes 14 = .ok (.iload 4, 2) := by decide +kernel
theorem dX6_alikes_16 : decode cX6_alikes 16 = .ok (.iconst 3, 1) := by decide +kernel
theorem dX6_alikes_17 : decode cX6_alikes 17 = .ok (.if_icmp .ge 116, 3) := by decide +kernel
theorem dX6_alikes_20 : decode cX6_alikes 20 = .ok (.iconst 0, 1) := by decide +kernel
theorem dX6_alikes_21 : decode cX6_alikes 21 = .ok (.istore 5, 2) := by decide +kernel
theorem dX6_alikes_23 : decode cX6_alikes 23 = .ok (.iload 5, 2) := by decide +kernel
theorem dX6_alikes_25 : decode cX6_alikes 25 = .ok (.aload_n 0, 1) := by decide +kernel
theorem dX6_alikes_26 : decode cX6_alikes 26 = .ok (.getfield 13, 3) := by decide +kernel
theorem dX6_alikes_29 : decode cX6_alikes 29 = .ok (.iload_n 3, 1) := by decide +kernel
theorem dX6_alikes_30 : decode cX6_alikes 30 = .ok (.iaload, 1) := by decide +kernel
theorem dX6_alikes_31 : decode cX6_alikes 31 = .ok (.if_icmp .ge 96, 3) := by decide +kernel
theorem dX6_alikes_34 : decode cX6_alikes 34 = .ok (.iconst 0, 1) := by decide +kernel
theorem dX6_alikes_35 : decode cX6_alikes 35 = .ok (.istore 6, 2) := by decide +kernel
theorem dX6_alikes_37 : decode cX6_alikes 37 = .ok (.iload 6, 2) := by decide +kernel
theorem dX6_alikes_39 : decode cX6_alikes 39 = .ok (.aload_n 0, 1) := by decide +kernel
theorem dX6_alikes_40 : decode cX6_alikes 40 = .ok (.getfield 13, 3) := by decide +kernel
theorem dX6_alikes_43 : decode cX6_alikes 43 = .ok (.iload 4, 2) := by decide +kernel
theorem dX6_alikes_45 : decode cX6_alikes 45 = .ok (.iaload, 1) := by decide +kernel
theorem dX6_alikes_46 : decode cX6_alikes 46 = .ok (.if_icmp .ge 75, 3) := by decide +kernel
theorem dX6_alikes_49 : decode cX6_alikes 49 = .ok (.aload_n 0, 1) := by decide +kernel
theorem dX6_alikes_50 : decode cX6_alikes 50 = .ok (.iload_n 3, 1) := by decide +kernel
theorem dX6_alikes_51 : decode cX6_alikes 51 = .ok (.iload 5, 2) := by decide +kernel
theorem dX6_alikes_53 : decode cX6_alikes 53 = .ok (.iload 4, 2) := by decide +kernel
theorem dX6_alikes_55 : decode cX6_alikes 55 = .ok (.iload 6, 2) := by decide +kernel
theorem dX6_alikes_57 : decode cX6_alikes 57 = .ok (.invokevirtual 135, 3) := by decide +kernel
theorem dX6_alikes_60 : decode cX6_alikes 60 = .ok (.ifCond .eq 39, 3) := by decide +kernel
theorem dX6_alikes_63 : decode cX6_alikes 63 = .ok (.iload_n 1, 1) := by decide +kernel
theorem dX6_alikes_64 : decode cX6_alikes 64 = .ok (.ifCond .eq 31, 3) := by decide +kernel
theorem dX6_alikes_67 : decode cX6_alikes 67 = .ok (.aload_n 0, 1) := by decide +kernel
theorem dX6_alikes_68 : decode cX6_alikes 68 = .ok (.getfield 58, 3) := by decide +kernel
theorem dX6_alikes_71 : decode cX6_alikes 71 = .ok (.bipush 12, 2) := by decide +kernel
theorem dX6_alikes_73 : decode cX6_alikes 73 = .ok (.iload_n 3, 1) := by decide +kernel
theorem dX6_alikes_74 : decode cX6_alikes 74 = .ok (.imul, 1) := by decide +kernel
theorem dX6_alikes_75 : decode cX6_alikes 75 = .ok (.iload 5, 2) := by decide +kernel
theorem dX6_alikes_77 : decode cX6_alikes 77 = .ok (.iadd, 1) := by decide +kernel
theorem dX6_alikes_78 : decode cX6_alikes 78 = .ok (.iaload, 1) := by decide +kernel
theorem dX6_alikes_79 : decode cX6_alikes 79 = .ok (.aload_n 0, 1) := by decide +kernel
theorem dX6_alikes_80 : decode cX6_alikes 80 = .ok (.getfield 58, 3) := by decide +kernel
theorem dX6_alikes_83 : decode cX6_alikes 83 = .ok (.bipush 12, 2) := by decide +kernel
theorem dX6_alikes_85 : decode cX6_alikes 85 = .ok (.iload 4, 2) := by decide +kernel
theorem dX6_alikes_87 : decode cX6_alikes 87 = .ok (.imul, 1) := by decide +kernel
theorem dX6_alikes_88 : decode cX6_alikes 88 = .ok (.iload 6, 2) := by decide +kernel
theorem dX6_alikes_90 : decode cX6_alikes 90 = .ok (.iadd, 1) := by decide +kernel
theorem dX6_alikes_91 : decode cX6_alikes 91 = .ok (.iaload, 1) := by decide +kernel
theorem dX6_alikes_92 : decode cX6_alikes 92 = .ok (.if_icmp .eq 7, 3) := by decide +kernel
theorem dX6_alikes_95 : decode cX6_alikes 95 = .ok (.iconst 1, 1) := by decide +kernel
theorem dX6_alikes_96 : decode cX6_alikes 96 = .ok (.goto 4, 3) := by decide +kernel
theorem dX6_alikes_99 : decode cX6_alikes 99 = .ok (.iconst 0, 1) := by decide +kernel
theorem dX6_alikes_100 : decode cX6_alikes 100 = .ok (.istore 7, 2) := by decide +kernel
theorem dX6_alikes_102 : decode cX6_alikes 102 = .ok (.iload_n 2, 1) := by decide +kernel
theorem dX6_alikes_103 : decode cX6_alikes 103 = .ok (.iload 7, 2) := by decide +kernel
theorem dX6_alikes_105 : decode cX6_alikes 105 = .ok (.ifCond .eq 7, 3) := by decide +kernel
theorem dX6_alikes_108 : decode cX6_alikes 108 = .ok (.iconst 1, 1) := by decide +kernel
theorem dX6_alikes_109 : decode cX6_alikes 109 = .ok (.goto 4, 3) := by decide +kernel
theorem dX6_alikes_112 : decode cX6_alikes 112 = .ok (.iconst 0, 1) := by decide +kernel
theorem dX6_alikes_113 : decode cX6_alikes 113 = .ok (.iadd, 1) := by decide +kernel
theorem dX6_alikes_114 : decode cX6_alikes 114 = .ok (.istore_n 2, 1) := by decide +kernel
theorem dX6_alikes_115 : decode cX6_alikes 115 = .ok (.iinc 6 1, 3) := by decide +kernel
theorem dX6_alikes_118 : decode cX6_alikes 118 = .ok (.goto (-81), 3) := by decide +kernel
theorem dX6_alikes_121 : decode cX6_alikes 121 = .ok (.iinc 5 1, 3) := by decide +kernel
theorem dX6_alikes_124 : decode cX6_alikes 124 = .ok (.goto (-101), 3) := by decide +kernel
theorem dX6_alikes_127 : decode cX6_alikes 127 = .ok (.iinc 4 1, 3) := by decide +kernel
theorem dX6_alikes_130 : decode cX6_alikes 130 = .ok (.goto (-116), 3) := by decide +kernel
theorem dX6_alikes_133 : decode cX6_alikes 133 = .ok (.iinc 3 1, 3) := by decide +kernel
theorem dX6_alikes_136 : decode cX6_alikes 136 = .ok (.goto (-132), 3) := by decide +kernel
theorem dX6_alikes_139 : decode cX6_alikes 139 = .ok (.iload_n 2, 1) := by decide +kernel
theorem dX6_alikes_140 : decode cX6_alikes 140 = .ok (.ireturn, 1) := by decide +kernel
theorem dX6_bowAll_0 : decode cX6_bowAll 0 = .ok (.iconst 0, 1) := by decide +kernel
theorem dX6_bowAll_1 : decode cX6_bowAll 1 = .ok (.istore_n 2, 1) := by decide +kernel
theorem dX6_bowAll_2 : decode cX6_bowAll 2 = .ok (.iconst 0, 1) := by decide +kernel
theorem dX6_bowAll_3 : decode cX6_bowAll 3 = .ok (.istore_n 3, 1) := by decide +kernel
theorem dX6_bowAll_4 : decode cX6_bowAll 4 = .ok (.iload_n 3, 1) := by decide +kernel
theorem dX6_bowAll_5 : decode cX6_bowAll 5 = .ok (.iconst 3, 1) := by decide +kernel
theorem dX6_bowAll_6 : decode cX6_bowAll 6 = .ok (.if_icmp .ge 34, 3) := by decide +kernel
theorem dX6_bowAll_9 : decode cX6_bowAll 9 = .ok (.aload_n 0, 1) := by decide +kernel
theorem dX6_bowAll_10 : decode cX6_bowAll 10 = .ok (.iload_n 3, 1) := by decide +kernel
theorem dX6_bowAll_11 : decode cX6_bowAll 11 = .ok (.iload_n 1, 1) := by decide +kernel
theorem dX6_bowAll_12 : decode cX6_bowAll 12 = .ok (.iload_n 3, 1) := by decide +kernel
theorem dX6_bowAll_13 : decode cX6_bowAll 13 = .ok (.ishr, 1) := by decide +kernel
theorem dX6_bowAll_14 : decode cX6_bowAll 14 = .ok (.iconst 1, 1) := by decide +kernel
theorem dX6_bowAll_15 : decode cX6_bowAll 15 = .ok (.iand, 1) := by decide +kernel
theorem dX6_bowAll_16 : decode cX6_bowAll 16 = .ok (.invokevirtual 132, 3) := by decide +kernel
theorem dX6_bowAll_19 : decode cX6_bowAll 19 = .ok (.istore 4, 2) := by decide +kernel
theorem dX6_bowAll_21 : decode cX6_bowAll 21 = .ok (.iload 4, 2) := by decide +kernel
theorem dX6_bowAll_23 : decode cX6_bowAll 23 = .ok (.ifCond .ge 6, 3) := by decide +kernel
theorem dX6_bowAll_26 : decode cX6_bowAll 26 = .ok (.bipush (-3), 2) := by decide +kernel
theorem dX6_bowAll_28 : decode cX6_bowAll 28 = .ok (.ireturn, 1) := by decide +kernel
theorem dX6_bowAll_29 : decode cX6_bowAll 29 = .ok (.iload_n 2, 1) := by decide +kernel
theorem dX6_bowAll_30 : decode cX6_bowAll 30 = .ok (.iload 4, 2) := by decide +kernel
theorem dX6_bowAll_32 : decode cX6_bowAll 32 = .ok (.iadd, 1) := by decide +kernel
theorem dX6_bowAll_33 : decode cX6_bowAll 33 = .ok (.istore_n 2, 1) := by decide +kernel
theorem dX6_bowAll_34 : decode cX6_bowAll 34 = .ok (.iinc 3 1, 3) := by decide +kernel
theorem dX6_bowAll_37 : decode cX6_bowAll 37 = .ok (.goto (-33), 3) := by decide +kernel
theorem dX6_bowAll_40 : decode cX6_bowAll 40 = .ok (.iload_n 2, 1) := by decide +kernel
theorem dX6_bowAll_41 : decode cX6_bowAll 41 = .ok (.ireturn, 1) := by decide +kernel
theorem dX6_union_0 : decode cX6_union 0 = .ok (.iload_n 1, 1) := by decide +kernel
theorem dX6_union_1 : decode cX6_union 1 = .ok (.iconst 0, 1) := by decide +kernel
theorem dX6_union_2 : decode cX6_union 2 = .ok (.iconst 2, 1) := by decide +kernel
theorem dX6_union_3 : decode cX6_union 3 = .ok (.invokestatic 61, 3) := by decide +kernel
theorem dX6_union_6 : decode cX6_union 6 = .ok (.ifCond .ne 5, 3) := by decide +kernel
theorem dX6_union_9 : decode cX6_union 9 = .ok (.iconst (-1), 1) := by decide +kernel
theorem dX6_union_10 : decode cX6_union 10 = .ok (.ireturn, 1) := by decide +kernel
theorem dX6_union_11 : decode cX6_union 11 = .ok (.ldc 111, 2) := by decide +kernel
theorem dX6_union_13 : decode cX6_union 13 = .ok (.istore_n 2, 1) := by decide +kernel
theorem dX6_union_14 : decode cX6_union 14 = .ok (.iconst 0, 1) := by decide +kernel
theorem dX6_union_15 : decode cX6_union 15 = .ok (.istore_n 3, 1) := by decide +kernel
theorem dX6_union_16 : decode cX6_union 16 = .ok (.iconst 0, 1) := by decide +kernel
theorem dX6_union_17 : decode cX6_union 17 = .ok (.istore 4, 2) := by decide +kernel
theorem dX6_union_19 : decode cX6_union 19 = .ok (.iload 4, 2) := by decide +kernel
theorem dX6_union_21 : decode cX6_union 21 = .ok (.bipush 8, 2) := by decide +kernel
theorem dX6_union_23 : decode cX6_union 23 = .ok (.if_icmp .ge 51, 3) := by decide +kernel
theorem dX6_union_26 : decode cX6_union 26 = .ok (.aload_n 0, 1) := by decide +kernel
theorem dX6_union_27 : decode cX6_union 27 = .ok (.iload 4, 2) := by decide +kernel
theorem dX6_union_29 : decode cX6_union 29 = .ok (.invokevirtual 139, 3) := by decide +kernel
theorem dX6_union_32 : decode cX6_union 32 = .ok (.istore 5, 2) := by decide +kernel
theorem dX6_union_34 : decode cX6_union 34 = .ok (.iload 5, 2) := by decide +kernel
theorem dX6_union_36 : decode cX6_union 36 = .ok (.ifCond .ge 8, 3) := by decide +kernel
theorem dX6_union_39 : decode cX6_union 39 = .ok (.ldc 111, 2) := by decide +kernel
theorem dX6_union_41 : decode cX6_union 41 = .ok (.goto 13, 3) := by decide +kernel
theorem dX6_union_44 : decode cX6_union 44 = .ok (.iload 5, 2) := by decide +kernel
theorem dX6_union_46 : decode cX6_union 46 = .ok (.iconst 4, 1) := by decide +kernel
theorem dX6_union_47 : decode cX6_union 47 = .ok (.aload_n 0, 1) := by decide +kernel
theorem dX6_union_48 : decode cX6_union 48 = .ok (.iconst 1, 1) := by decide +kernel
theorem dX6_union_49 : decode cX6_union 49 = .ok (.invokevirtual 142, 3) := by decide +kernel
theorem dX6_union_52 : decode cX6_union 52 = .ok (.imul, 1) := by decide +kernel
theorem dX6_union_53 : decode cX6_union 53 = .ok (.iadd, 1) := by decide +kernel
theorem dX6_union_54 : decode cX6_union 54 = .ok (.istore 6, 2) := by decide +kernel
theorem dX6_union_56 : decode cX6_union 56 = .ok (.iload 6, 2) := by decide +kernel
theorem dX6_union_58 : decode cX6_union 58 = .ok (.iload_n 2, 1) := by decide +kernel
theorem dX6_union_59 : decode cX6_union 59 = .ok (.if_icmp .ge 9, 3) := by decide +kernel
theorem dX6_union_62 : decode cX6_union 62 = .ok (.iload 6, 2) := by decide +kernel
theorem dX6_union_64 : decode cX6_union 64 = .ok (.istore_n 2, 1) := by decide +kernel
theorem dX6_union_65 : decode cX6_union 65 = .ok (.iload 4, 2) := by decide +kernel
theorem dX6_union_67 : decode cX6_union 67 = .ok (.istore_n 3, 1) := by decide +kernel
theorem dX6_union_68 : decode cX6_union 68 = .ok (.iinc 4 1, 3) := by decide +kernel
theorem dX6_union_71 : decode cX6_union 71 = .ok (.goto (-52), 3) := by decide +kernel
theorem dX6_union_74 : decode cX6_union 74 = .ok (.iload_n 1, 1) := by decide +kernel
theorem dX6_union_75 : decode cX6_union 75 = .ok (.iconst 2, 1) := by decide +kernel
theorem dX6_union_76 : decode cX6_union 76 = .ok (.if_icmp .ge 13, 3) := by decide +kernel
theorem dX6_union_79 : decode cX6_union 79 = .ok (.iload_n 1, 1) := by decide +kernel
theorem dX6_union_80 : decode cX6_union 80 = .ok (.ifCond .ne 7, 3) := by decide +kernel
theorem dX6_union_83 : decode cX6_union 83 = .ok (.iload_n 3, 1) := by decide +kernel
theorem dX6_union_84 : decode cX6_union 84 = .ok (.goto 4, 3) := by decide +kernel
theorem dX6_union_87 : decode cX6_union 87 = .ok (.iload_n 2, 1) := by decide +kernel
theorem dX6_union_88 : decode cX6_union 88 = .ok (.ireturn, 1) := by decide +kernel
theorem dX6_union_89 : decode cX6_union 89 = .ok (.aload_n 0, 1) := by decide +kernel
theorem dX6_union_90 : decode cX6_union 90 = .ok (.iload_n 3, 1) := by decide +kernel
theorem dX6_union_91 : decode cX6_union 91 = .ok (.invokevirtual 139, 3) := by decide +kernel
theorem dX6_union_94 : decode cX6_union 94 = .ok (.istore 4, 2) := by decide +kernel
theorem dX6_union_96 : decode cX6_union 96 = .ok (.iload 4, 2) := by decide +kernel
theorem dX6_union_98 : decode cX6_union 98 = .ok (.ifCond .ge 7, 3) := by decide +kernel
theorem dX6_union_101 : decode cX6_union 101 = .ok (.iconst 0, 1) := by decide +kernel
theorem dX6_union_102 : decode cX6_union 102 = .ok (.goto 8, 3) := by decide +kernel
theorem dX6_union_105 : decode cX6_union 105 = .ok (.aload_n 0, 1) := by decide +kernel
theorem dX6_union_106 : decode cX6_union 106 = .ok (.iconst 1, 1) := by decide +kernel
theorem dX6_union_107 : decode cX6_union 107 = .ok (.invokevirtual 142, 3) := by decide +kernel
theorem dX6_union_110 : decode cX6_union 110 = .ok (.ireturn, 1) := by decide +kernel
theorem dX6_notesThat_0 : decode cX6_notesThat 0 = .ok (.iconst 0, 1) := by decide +kernel
theorem dX6_notesThat_1 : decode cX6_notesThat 1 = .ok (.istore_n 2, 1) := by decide +kernel
theorem dX6_notesThat_2 : decode cX6_notesThat 2 = .ok (.iconst 0, 1) := by decide +kernel
theorem dX6_notesThat_3 : decode cX6_notesThat 3 = .ok (.istore_n 3, 1) := by decide +kernel
theorem dX6_notesThat_4 : decode cX6_notesThat 4 = .ok (.iload_n 3, 1) := by decide +kernel
theorem dX6_notesThat_5 : decode cX6_notesThat 5 = .ok (.iconst 3, 1) := by decide +kernel
theorem dX6_notesThat_6 : decode cX6_notesThat 6 = .ok (.if_icmp .ge 79, 3) := by decide +kernel
theorem dX6_notesThat_9 : decode cX6_notesThat 9 = .ok (.iconst 0, 1) := by decide +kernel
theorem dX6_notesThat_10 : decode cX6_notesThat 10 = .ok (.istore 4, 2) := by decide +kernel
theorem dX6_notesThat_12 : decode cX6_notesThat 12 = .ok (.iload 4, 2) := by decide +kernel
theorem dX6_notesThat_14 : decode cX6_notesThat 14 = .ok (.aload_n 0, 1) := by decide +kernel
theorem dX6_notesThat_15 : decode cX6_notesThat 15 = .ok (.getfield 13, 3) := by decide +kernel
theorem dX6_notesThat_18 : decode cX6_notesThat 18 = .ok (.iload_n 3, 1) := by decide +kernel
theorem dX6_notesThat_19 : decode cX6_notesThat 19 = .ok (.iaload, 1) := by decide +kernel
theorem dX6_notesThat_20 : decode cX6_notesThat 20 = .ok (.if_icmp .ge 59, 3) := by decide +kernel
theorem dX6_notesThat_23 : decode cX6_notesThat 23 = .ok (.iload_n 1, 1) := by decide +kernel
theorem dX6_notesThat_24 : decode cX6_notesThat 24 = .ok (.ifCond .eq 26, 3) := by decide +kernel
theorem dX6_notesThat_27 : decode cX6_notesThat 27 = .ok (.aload_n 0, 1) := by decide +kernel
theorem dX6_notesThat_28 : decode cX6_notesThat 28 = .ok (.getfield 19, 3) := by decide +kernel
theorem dX6_notesThat_31 : decode cX6_notesThat 31 = .ok (.bipush 12, 2) := by decide +kernel
theorem dX6_notesThat_33 : decode cX6_notesThat 33 = .ok (.iload_n 3, 1) := by decide +kernel
theorem dX6_notesThat_34 : decode cX6_notesThat 34 = .ok (.imul, 1) := by decide +kernel
theorem dX6_notesThat_35 : decode cX6_notesThat 35 = .ok (.iload 4, 2) := by decide +kernel
theorem dX6_notesThat_37 : decode cX6_notesThat 37 = .ok (.iadd, 1) := by decide +kernel
theorem dX6_notesThat_38 : decode cX6_notesThat 38 = .ok (.iaload, 1) := by decide +kernel
theorem dX6_notesThat_39 : decode cX6_notesThat 39 = .ok (.ifCond .lt 7, 3) := by decide +kernel
theorem dX6_notesThat_42 : decode cX6_notesThat 42 = .ok (.iconst 1, 1) := by decide +kernel
theorem dX6_notesThat_43 : decode cX6_notesThat 43 = .ok (.goto 15, 3) := by decide +kernel
theorem dX6_notesThat_46 : decode cX6_notesThat 46 = .ok (.iconst 0, 1) := by decide +kernel
theorem dX6_notesThat_47 : decode cX6_notesThat 47 = .ok (.goto 11, 3) := by decide +kernel
theorem dX6_notesThat_50 : decode cX6_notesThat 50 = .ok (.aload_n 0, 1) := by decide +kernel
theorem dX6_notesThat_51 : decode cX6_notesThat 51 = .ok (.iload_n 3, 1) := by decide +kernel
theorem dX6_notesThat_52 : decode cX6_notesThat 52 = .ok (.iload 4, 2) := by decide +kernel
theorem dX6_notesThat_54 : decode cX6_notesThat 54 = .ok (.iconst 2, 1) := by decide +kernel
theorem dX6_notesThat_55 : decode cX6_notesThat 55 = .ok (.invokevirtual 108, 3) := by decide +kernel
theorem dX6_notesThat_58 : decode cX6_notesThat 58 = .ok (.istore 5, 2) := by decide +kernel
theorem dX6_notesThat_60 : decode cX6_notesThat 60 = .ok (.iload_n 2, 1) := by decide +kernel
theorem dX6_notesThat_61 : decode cX6_notesThat 61 = .ok (.iload 5, 2) := by decide +kernel
theorem dX6_notesThat_63 : decode cX6_notesThat 63 = .ok (.ifCond .eq 7, 3) := by decide +kernel
theorem dX6_notesThat_66 : decode cX6_notesThat 66 = .ok (.iconst 1, 1) := by decide +kernel
theorem dX6_notesThat_67 : decode cX6_notesThat 67 = .ok (.goto 4, 3) := by decide +kernel
theorem dX6_notesThat_70 : decode cX6_notesThat 70 = .ok (.iconst 0, 1) := by decide +kernel
theorem dX6_notesThat_71 : decode cX6_notesThat 71 = .ok (.iadd, 1) := by decide +kernel
theorem dX6_notesThat_72 : decode cX6_notesThat 72 = .ok (.istore_n 2, 1) := by decide +kernel
theorem dX6_notesThat_73 : decode cX6_notesThat 73 = .ok (.iinc 4 1, 3) := by decide +kernel
theorem dX6_notesThat_76 : decode cX6_notesThat 76 = .ok (.goto (-64), 3) := by decide +kernel
theorem dX6_notesThat_79 : decode cX6_notesThat 79 = .ok (.iinc 3 1, 3) := by decide +kernel
theorem dX6_notesThat_82 : decode cX6_notesThat 82 = .ok (.goto (-78), 3) := by decide +kernel
theorem dX6_notesThat_85 : decode cX6_notesThat 85 = .ok (.iload_n 2, 1) := by decide +kernel
theorem dX6_notesThat_86 : decode cX6_notesThat 86 = .ok (.ireturn, 1) := by decide +kernel
theorem dX6_without_0 : decode cX6_without 0 = .ok (.iconst 0, 1) := by decide +kernel
theorem dX6_without_1 : decode cX6_without 1 = .ok (.istore_n 1, 1) := by decide +kernel
theorem dX6_without_2 : decode cX6_without 2 = .ok (.iconst 0, 1) := by decide +kernel
theorem dX6_without_3 : decode cX6_without 3 = .ok (.istore_n 2, 1) := by decide +kernel
theorem dX6_without_4 : decode cX6_without 4 = .ok (.iload_n 2, 1) := by decide +kernel
theorem dX6_without_5 : decode cX6_without 5 = .ok (.iconst 3, 1) := by decide +kernel
theorem dX6_without_6 : decode cX6_without 6 = .ok (.if_icmp .ge 27, 3) := by decide +kernel
theorem dX6_without_9 : decode cX6_without 9 = .ok (.aload_n 0, 1) := by decide +kernel
theorem dX6_without_10 : decode cX6_without 10 = .ok (.iload_n 2, 1) := by decide +kernel
theorem dX6_without_11 : decode cX6_without 11 = .ok (.invokevirtual 123, 3) := by decide +kernel
theorem dX6_without_14 : decode cX6_without 14 = .ok (.istore_n 3, 1) := by decide +kernel
theorem dX6_without_15 : decode cX6_without 15 = .ok (.iload_n 1, 1) := by decide +kernel
theorem dX6_without_16 : decode cX6_without 16 = .ok (.iload_n 3, 1) := by decide +kernel
theorem dX6_without_17 : decode cX6_without 17 = .ok (.ifCond .eq 7, 3) := by decide +kernel
theorem dX6_without_20 : decode cX6_without 20 = .ok (.iconst 0, 1) := by decide +kernel
theorem dX6_without_21 : decode cX6_without 21 = .ok (.goto 4, 3) := by decide +kernel
theorem dX6_without_24 : decode cX6_without 24 = .ok (.iconst 1, 1) := by decide +kernel
theorem dX6_without_25 : decode cX6_without 25 = .ok (.iadd, 1) := by decide +kernel
theorem dX6_without_26 : decode cX6_without 26 = .ok (.istore_n 1, 1) := by decide +kernel
theorem dX6_without_27 : decode cX6_without 27 = .ok (.iinc 2 1, 3) := by decide +kernel
theorem dX6_without_30 : decode cX6_without 30 = .ok (.goto (-26), 3) := by decide +kernel
theorem dX6_without_33 : decode cX6_without 33 = .ok (.iload_n 1, 1) := by decide +kernel
theorem dX6_without_34 : decode cX6_without 34 = .ok (.ireturn, 1) := by decide +kernel
theorem dX6_many_0 : decode cX6_many 0 = .ok (.iload_n 1, 1) := by decide +kernel
theorem dX6_many_1 : decode cX6_many 1 = .ok (.tableswitch 73 0 6 #[43, 43, 43, 50, 56, 62, 68], 43) := by decide +kernel
theorem dX6_many_44 : decode cX6_many 44 = .ok (.aload_n 0, 1) := by decide +kernel
theorem dX6_many_45 : decode cX6_many 45 = .ok (.getfield 13, 3) := by decide +kernel
theorem dX6_many_48 : decode cX6_many 48 = .ok (.iload_n 1, 1) := by decide +kernel
theorem dX6_many_49 : decode cX6_many 49 = .ok (.iaload, 1) := by decide +kernel
theorem dX6_many_50 : decode cX6_many 50 = .ok (.ireturn, 1) := by decide +kernel
theorem dX6_many_51 : decode cX6_many 51 = .ok (.aload_n 0, 1) := by decide +kernel
theorem dX6_many_52 : decode cX6_many 52 = .ok (.iconst 0, 1) := by decide +kernel
theorem dX6_many_53 : decode cX6_many 53 = .ok (.invokevirtual 142, 3) := by decide +kernel
theorem dX6_many_56 : decode cX6_many 56 = .ok (.ireturn, 1) := by decide +kernel
theorem dX6_many_57 : decode cX6_many 57 = .ok (.aload_n 0, 1) := by decide +kernel
theorem dX6_many_58 : decode cX6_many 58 = .ok (.iconst 1, 1) := by decide +kernel
theorem dX6_many_59 : decode cX6_many 59 = .ok (.invokevirtual 146, 3) := by decide +kernel
theorem dX6_many_62 : decode cX6_many 62 = .ok (.ireturn, 1) := by decide +kernel
theorem dX6_many_63 : decode cX6_many 63 = .ok (.aload_n 0, 1) := by decide +kernel
theorem dX6_many_64 : decode cX6_many 64 = .ok (.iconst 0, 1) := by decide +kernel
theorem dX6_many_65 : decode cX6_many 65 = .ok (.invokevirtual 146, 3) := by decide +kernel
theorem dX6_many_68 : decode cX6_many 68 = .ok (.ireturn, 1) := by decide +kernel
theorem dX6_many_69 : decode cX6_many 69 = .ok (.aload_n 0, 1) := by decide +kernel
theorem dX6_many_70 : decode cX6_many 70 = .ok (.invokevirtual 149, 3) := by decide +kernel
theorem dX6_many_73 : decode cX6_many 73 = .ok (.ireturn, 1) := by decide +kernel
theorem dX6_many_74 : decode cX6_many 74 = .ok (.iconst (-1), 1) := by decide +kernel
theorem dX6_many_75 : decode cX6_many 75 = .ok (.ireturn, 1) := by decide +kernel
end
section
theorem dL_law_0 : decode cL_law 0 = .ok (.new 7, 3) := by decide +kernel
theorem dL_law_3 : decode cL_law 3 = .ok (.dup, 1) := by decide +kernel
theorem dL_law_4 : decode cL_law 4 = .ok (.invokespecial 9, 3) := by decide +kernel
theorem dL_law_7 : decode cL_law 7 = .ok (.astore_n 1, 1) := by decide +kernel
theorem dL_law_8 : decode cL_law 8 = .ok (.new 10, 3) := by decide +kernel
theorem dL_law_11 : decode cL_law 11 = .ok (.dup, 1) := by decide +kernel
theorem dL_law_12 : decode cL_law 12 = .ok (.invokespecial 12, 3) := by decide +kernel
theorem dL_law_15 : decode cL_law 15 = .ok (.astore_n 2, 1) := by decide +kernel
theorem dL_law_16 : decode cL_law 16 = .ok (.iconst 0, 1) := by decide +kernel
theorem dL_law_17 : decode cL_law 17 = .ok (.istore_n 3, 1) := by decide +kernel
theorem dL_law_18 : decode cL_law 18 = .ok (.iload_n 3, 1) := by decide +kernel
theorem dL_law_19 : decode cL_law 19 = .ok (.aload_n 0, 1) := by decide +kernel
theorem dL_law_20 : decode cL_law 20 = .ok (.arraylength, 1) := by decide +kernel
theorem dL_law_21 : decode cL_law 21 = .ok (.iconst 5, 1) := by decide +kernel
theorem dL_law_22 : decode cL_law 22 = .ok (.isub, 1) := by decide +kernel
theorem dL_law_23 : decode cL_law 23 = .ok (.if_icmp .gt 683, 3) := by decide +kernel
theorem dL_law_26 : decode cL_law 26 = .ok (.aload_n 0, 1) := by decide +kernel
theorem dL_law_27 : decode cL_law 27 = .ok (.iload_n 3, 1) := by decide +kernel
theorem dL_law_28 : decode cL_law 28 = .ok (.iaload, 1) := by decide +kernel
theorem dL_law_29 : decode cL_law 29 = .ok (.bipush 15, 2) := by decide +kernel
theorem dL_law_31 : decode cL_law 31 = .ok (.iand, 1) := by decide +kernel
theorem dL_law_32 : decode cL_law 32 = .ok (.tableswitch 668 0 15 #[80, 113, 166, 209, 252, 275, 318, 361, 384, 427, 450, 483, 526, 569, 622, 645], 80) := by decide +kernel
theorem dL_law_112 : decode cL_law 112 = .ok (.aload_n 1, 1) := by decide +kernel
theorem dL_law_113 : decode cL_law 113 = .ok (.aload_n 0, 1) := by decide +kernel
theorem dL_law_114 : decode cL_law 114 = .ok (.iload_n 3, 1) := by decide +kernel
theorem dL_law_115 : decode cL_law 115 = .ok (.iconst 1, 1) := by decide +kernel
theorem dL_law_116 : decode cL_law 116 = .ok (.iadd, 1) := by decide +kernel
theorem dL_law_117 : decode cL_law 117 = .ok (.iaload, 1) := by decide +kernel
theorem dL_law_118 : decode cL_law 118 = .ok (.aload_n 0, 1) := by decide +kernel
theorem dL_law_119 : decode cL_law 119 = .ok (.iload_n 3, 1) := by decide +kernel
theorem dL_law_120 : decode cL_law 120 = .ok (.iconst 2, 1) := by decide +kernel
theorem dL_law_121 : decode cL_law 121 = .ok (.iadd, 1) := by decide +kernel
theorem dL_law_122 : decode cL_law 122 = .ok (.iaload, 1) := by decide +kernel
theorem dL_law_123 : decode cL_law 123 = .ok (.invokevirtual 13, 3) := by decide +kernel
theorem dL_law_126 : decode cL_law 126 = .ok (.aload_n 2, 1) := by decide +kernel
theorem dL_law_127 : decode cL_law 127 = .ok (.aload_n 0, 1) := by decide +kernel
theorem dL_law_128 : decode cL_law 128 = .ok (.iload_n 3, 1) := by decide +kernel
theorem dL_law_129 : decode cL_law 129 = .ok (.iconst 1, 1) := by decide +kernel
theorem dL_law_130 : decode cL_law 130 = .ok (.iadd, 1) := by decide +kernel
theorem dL_law_131 : decode cL_law 131 = .ok (.iaload, 1) := by decide +kernel
theorem dL_law_132 : decode cL_law 132 = .ok (.aload_n 0, 1) := by decide +kernel
theorem dL_law_133 : decode cL_law 133 = .ok (.iload_n 3, 1) := by decide +kernel
theorem dL_law_134 : decode cL_law 134 = .ok (.iconst 2, 1) := by decide +kernel
theorem dL_law_135 : decode cL_law 135 = .ok (.iadd, 1) := by decide +kernel
theorem dL_law_136 : decode cL_law 136 = .ok (.iaload, 1) := by decide +kernel
theorem dL_law_137 : decode cL_law 137 = .ok (.invokevirtual 17, 3) := by decide +kernel
theorem dL_law_140 : decode cL_law 140 = .ok (.if_icmp .eq 560, 3) := by decide +kernel
theorem dL_law_143 : decode cL_law 143 = .ok (.iconst 0, 1) := by decide +kernel
theorem dL_law_144 : decode cL_law 144 = .ok (.ireturn, 1) := by decide +kernel
theorem dL_law_145 : decode cL_law 145 = .ok (.aload_n 1, 1) := by decide +kernel
theorem dL_law_146 : decode cL_law 146 = .ok (.aload_n 0, 1) := by decide +kernel
theorem dL_law_147 : decode cL_law 147 = .ok (.iload_n 3, 1) := by decide +kernel
theorem dL_law_148 : decode cL_law 148 = .ok (.iconst 1, 1) := by decide +kernel
theorem dL_law_149 : decode cL_law 149 = .ok (.iadd, 1) := by decide +kernel
theorem dL_law_150 : decode cL_law 150 = .ok (.iaload, 1) := by decide +kernel
theorem dL_law_151 : decode cL_law 151 = .ok (.aload_n 0, 1) := by decide +kernel
theorem dL_law_152 : decode cL_law 152 = .ok (.iload_n 3, 1) := by decide +kernel
theorem dL_law_153 : decode cL_law 153 = .ok (.iconst 2, 1) := by decide +kernel
theorem dL_law_154 : decode cL_law 154 = .ok (.iadd, 1) := by decide +kernel
theorem dL_law_155 : decode cL_law 155 = .ok (.iaload, 1) := by decide +kernel
theorem dL_law_156 : decode cL_law 156 = .ok (.aload_n 0, 1) := by decide +kernel
theorem dL_law_157 : decode cL_law 157 = .ok (.iload_n 3, 1) := by decide +kernel
theorem dL_law_158 : decode cL_law 158 = .ok (.iconst 3, 1) := by decide +kernel
theorem dL_law_159 : decode cL_law 159 = .ok (.iadd, 1) := by decide +kernel
theorem dL_law_160 : decode cL_law 160 = .ok (.iaload, 1) := by decide +kernel
theorem dL_law_161 : decode cL_law 161 = .ok (.aload_n 0, 1) := by decide +kernel
theorem dL_law_162 : decode cL_law 162 = .ok (.iload_n 3, 1) := by decide +kernel
theorem dL_law_163 : decode cL_law 163 = .ok (.iconst 4, 1) := by decide +kernel
theorem dL_law_164 : decode cL_law 164 = .ok (.iadd, 1) := by decide +kernel
theorem dL_law_165 : decode cL_law 165 = .ok (.iaload, 1) := by decide +kernel
theorem dL_law_166 : decode cL_law 166 = .ok (.invokevirtual 18, 3) := by decide +kernel
theorem dL_law_169 : decode cL_law 169 = .ok (.aload_n 2, 1) := by decide +kernel
theorem dL_law_170 : decode cL_law 170 = .ok (.aload_n 0, 1) := by decide +kernel
theorem dL_law_171 : decode cL_law 171 = .ok (.iload_n 3, 1) := by decide +kernel
theorem dL_law_172 : decode cL_law 172 = .ok (.iconst 1, 1) := by decide +kernel
theorem dL_law_173 : decode cL_law 173 = .ok (.iadd, 1) := by decide +kernel
theorem dL_law_174 : decode cL_law 174 = .ok (.iaload, 1) := by decide +kernel
theorem dL_law_175 : decode cL_law 175 = .ok (.aload_n 0, 1) := by decide +kernel
theorem dL_law_176 : decode cL_law 176 = .ok (.iload_n 3, 1) := by decide +kernel
theorem dL_law_177 : decode cL_law 177 = .ok (.iconst 2, 1) := by decide +kernel
theorem dL_law_178 : decode cL_law 178 = .ok (.iadd, 1) := by decide +kernel
theorem dL_law_179 : decode cL_law 179 = .ok (.iaload, 1) := by decide +kernel
theorem dL_law_180 : decode cL_law 180 = .ok (.aload_n 0, 1) := by decide +kernel
theorem dL_law_181 : decode cL_law 181 = .ok (.iload_n 3, 1) := by decide +kernel
theorem dL_law_182 : decode cL_law 182 = .ok (.iconst 3, 1) := by decide +kernel
theorem dL_law_183 : decode cL_law 183 = .ok (.iadd, 1) := by decide +kernel
theorem dL_law_184 : decode cL_law 184 = .ok (.iaload, 1) := by decide +kernel
theorem dL_law_185 : decode cL_law 185 = .ok (.aload_n 0, 1) := by decide +kernel
theorem dL_law_186 : decode cL_law 186 = .ok (.iload_n 3, 1) := by decide +kernel
theorem dL_law_187 : decode cL_law 187 = .ok (.iconst 4, 1) := by decide +kernel
theorem dL_law_188 : decode cL_law 188 = .ok (.iadd, 1) := by decide +kernel
theorem dL_law_189 : decode cL_law 189 = .ok (.iaload, 1) := by decide +kernel
theorem dL_law_190 : decode cL_law 190 = .ok (.invokevirtual 22, 3) := by decide +kernel
theorem dL_law_193 : decode cL_law 193 = .ok (.if_icmp .eq 507, 3) := by decide +kernel
theorem dL_law_196 : decode cL_law 196 = .ok (.iconst 0, 1) := by decide +kernel
theorem dL_law_197 : decode cL_law 197 = .ok (.ireturn, 1) := by decide +kernel
theorem dL_law_198 : decode cL_law 198 = .ok (.aload_n 1, 1) := by decide +kernel
theorem dL_law_199 : decode cL_law 199 = .ok (.aload_n 0, 1) := by decide +kernel
theorem dL_law_200 : decode cL_law 200 = .ok (.iload_n 3, 1) := by decide +kernel
theorem dL_law_201 : decode cL_law 201 = .ok (.iconst 1, 1) := by decide +kernel
theorem dL_law_202 : decode cL_law 202 = .ok (.iadd, 1) := by decide +kernel
theorem dL_law_203 : decode cL_law 203 = .ok (.iaload, 1) := by decide +kernel
theorem dL_law_204 : decode cL_law 204 = .ok (.aload_n 0, 1) := by decide +kernel
theorem dL_law_205 : decode cL_law 205 = .ok (.iload_n 3, 1) := by decide +kernel
theorem dL_law_206 : decode cL_law 206 = .ok (.iconst 2, 1) := by decide +kernel
theorem dL_law_207 : decode cL_law 207 = .ok (.iadd, 1) := by decide +kernel
theorem dL_law_208 : decode cL_law 208 = .ok (.iaload, 1) := by decide +kernel
theorem dL_law_209 : decode cL_law 209 = .ok (.aload_n 0, 1) := by decide +kernel
theorem dL_law_210 : decode cL_law 210 = .ok (.iload_n 3, 1) := by decide +kernel
theorem dL_law_211 : decode cL_law 211 = .ok (.iconst 3, 1) := by decide +kernel
theorem dL_law_212 : decode cL_law 212 = .ok (.iadd, 1) := by decide +kernel
theorem dL_law_213 : decode cL_law 213 = .ok (.iaload, 1) := by decide +kernel
theorem dL_law_214 : decode cL_law 214 = .ok (.invokevirtual 23, 3) := by decide +kernel
theorem dL_law_217 : decode cL_law 217 = .ok (.aload_n 2, 1) := by decide +kernel
theorem dL_law_218 : decode cL_law 218 = .ok (.aload_n 0, 1) := by decide +kernel
theorem dL_law_219 : decode cL_law 219 = .ok (.iload_n 3, 1) := by decide +kernel
theorem dL_law_220 : decode cL_law 220 = .ok (.iconst 1, 1) := by decide +kernel
theorem dL_law_221 : decode cL_law 221 = .ok (.iadd, 1) := by decide +kernel
theorem dL_law_222 : decode cL_law 222 = .ok (.iaload, 1) := by decide +kernel
theorem dL_law_223 : decode cL_law 223 = .ok (.aload_n 0, 1) := by decide +kernel
theorem dL_law_224 : decode cL_law 224 = .ok (.iload_n 3, 1) := by decide +kernel
theorem dL_law_225 : decode cL_law 225 = .ok (.iconst 2, 1) := by decide +kernel
theorem dL_law_226 : decode cL_law 226 = .ok (.iadd, 1) := by decide +kernel
theorem dL_law_227 : decode cL_law 227 = .ok (.iaload, 1) := by decide +kernel
theorem dL_law_228 : decode cL_law 228 = .ok (.aload_n 0, 1) := by decide +kernel
theorem dL_law_229 : decode cL_law 229 = .ok (.iload_n 3, 1) := by decide +kernel
theorem dL_law_230 : decode cL_law 230 = .ok (.iconst 3, 1) := by decide +kernel
theorem dL_law_231 : decode cL_law 231 = .ok (.iadd, 1) := by decide +kernel
theorem dL_law_232 : decode cL_law 232 = .ok (.iaload, 1) := by decide +kernel
theorem dL_law_233 : decode cL_law 233 = .ok (.invokevirtual 27, 3) := by decide +kernel
theorem dL_law_236 : decode cL_law 236 = .ok (.if_icmp .eq 464, 3) := by decide +kernel
theorem dL_law_239 : decode cL_law 239 = .ok (.iconst 0, 1) := by decide +kernel
theorem dL_law_240 : decode cL_law 240 = .ok (.ireturn, 1) := by decide +kernel
theorem dL_law_241 : decode cL_law 241 = .ok (.aload_n 1, 1) := by decide +kernel
theorem dL_law_242 : decode cL_law 242 = .ok (.aload_n 0, 1) := by decide +kernel
theorem dL_law_243 : decode cL_law 243 = .ok (.iload_n 3, 1) := by decide +kernel
theorem dL_law_244 : decode cL_law 244 = .ok (.iconst 1, 1) := by decide +kernel
theorem dL_law_245 : decode cL_law 245 = .ok (.iadd, 1) := by decide +kernel
theorem dL_law_246 : decode cL_law 246 = .ok (.iaload, 1) := by decide +kernel
theorem dL_law_247 : decode cL_law 247 = .ok (.aload_n 0, 1) := by decide +kernel
theorem dL_law_248 : decode cL_law 248 = .ok (.iload_n 3, 1) := by decide +kernel
theorem dL_law_249 : decode cL_law 249 = .ok (.iconst 2, 1) := by decide +kernel
theorem dL_law_250 : decode cL_law 250 = .ok (.iadd, 1) := by decide +kernel
theorem dL_law_251 : decode cL_law 251 = .ok (.iaload, 1) := by decide +kernel
theorem dL_law_252 : decode cL_law 252 = .ok (.aload_n 0, 1) := by decide +kernel
theorem dL_law_253 : decode cL_law 253 = .ok (.iload_n 3, 1) := by decide +kernel
theorem dL_law_254 : decode cL_law 254 = .ok (.iconst 3, 1) := by decide +kernel
theorem dL_law_255 : decode cL_law 255 = .ok (.iadd, 1) := by decide +kernel
theorem dL_law_256 : decode cL_law 256 = .ok (.iaload, 1) := by decide +kernel
theorem dL_law_257 : decode cL_law 257 = .ok (.invokevirtual 28, 3) := by decide +kernel
theorem dL_law_260 : decode cL_law 260 = .ok (.aload_n 2, 1) := by decide +kernel
theorem dL_law_261 : decode cL_law 261 = .ok (.aload_n 0, 1) := by decide +kernel
theorem dL_law_262 : decode cL_law 262 = .ok (.iload_n 3, 1) := by decide +kernel
theorem dL_law_263 : decode cL_law 263 = .ok (.iconst 1, 1) := by decide +kernel
theorem dL_law_264 : decode cL_law 264 = .ok (.iadd, 1) := by decide +kernel
theorem dL_law_265 : decode cL_law 265 = .ok (.iaload, 1) := by decide +kernel
theorem dL_law_266 : decode cL_law 266 = .ok (.aload_n 0, 1) := by decide +kernel
theorem dL_law_267 : decode cL_law 267 = .ok (.iload_n 3, 1) := by decide +kernel
theorem dL_law_268 : decode cL_law 268 = .ok (.iconst 2, 1) := by decide +kernel
theorem dL_law_269 : decode cL_law 269 = .ok (.iadd, 1) := by decide +kernel
theorem dL_law_270 : decode cL_law 270 = .ok (.iaload, 1) := by decide +kernel
theorem dL_law_271 : decode cL_law 271 = .ok (.aload_n 0, 1) := by decide +kernel
theorem dL_law_272 : decode cL_law 272 = .ok (.iload_n 3, 1) := by decide +kernel
theorem dL_law_273 : decode cL_law 273 = .ok (.iconst 3, 1) := by decide +kernel
theorem dL_law_274 : decode cL_law 274 = .ok (.iadd, 1) := by decide +kernel
theorem dL_law_275 : decode cL_law 275 = .ok (.iaload, 1) := by decide +kernel
theorem dL_law_276 : decode cL_law 276 = .ok (.invokevirtual 31, 3) := by decide +kernel
theorem dL_law_279 : decode cL_law 279 = .ok (.if_icmp .eq 421, 3) := by decide +kernel
theorem dL_law_282 : decode cL_law 282 = .ok (.iconst 0, 1) := by decide +kernel
theorem dL_law_283 : decode cL_law 283 = .ok (.ireturn, 1) := by decide +kernel
theorem dL_law_284 : decode cL_law 284 = .ok (.aload_n 1, 1) := by decide +kernel
theorem dL_law_285 : decode cL_law 285 = .ok (.aload_n 0, 1) := by decide +kernel
theorem dL_law_286 : decode cL_law 286 = .ok (.iload_n 3, 1) := by decide +kernel
theorem dL_law_287 : decode cL_law 287 = .ok (.iconst 1, 1) := by decide +kernel
theorem dL_law_288 : decode cL_law 288 = .ok (.iadd, 1) := by decide +kernel
theorem dL_law_289 : decode cL_law 289 = .ok (.iaload, 1) := by decide +kernel
theorem dL_law_290 : decode cL_law 290 = .ok (.invokevirtual 32, 3) := by decide +kernel
theorem dL_law_293 : decode cL_law 293 = .ok (.aload_n 2, 1) := by decide +kernel
theorem dL_law_294 : decode cL_law 294 = .ok (.aload_n 0, 1) := by decide +kernel
theorem dL_law_295 : decode cL_law 295 = .ok (.iload_n 3, 1) := by decide +kernel
theorem dL_law_296 : decode cL_law 296 = .ok (.iconst 1, 1) := by decide +kernel
theorem dL_law_297 : decode cL_law 297 = .ok (.iadd, 1) := by decide +kernel
theorem dL_law_298 : decode cL_law 298 = .ok (.iaload, 1) := by decide +kernel
theorem dL_law_299 : decode cL_law 299 = .ok (.invokevirtual 36, 3) := by decide +kernel
theorem dL_law_302 : decode cL_law 302 = .ok (.if_icmp .eq 398, 3) := by decide +kernel
theorem dL_law_305 : decode cL_law 305 = .ok (.iconst 0, 1) := by decide +kernel
theorem dL_law_306 : decode cL_law 306 = .ok (.ireturn, 1) := by decide +kernel
theorem dL_law_307 : decode cL_law 307 = .ok (.aload_n 1, 1) := by decide +kernel
theorem dL_law_308 : decode cL_law 308 = .ok (.aload_n 0, 1) := by decide +kernel
theorem dL_law_309 : decode cL_law 309 = .ok (.iload_n 3, 1) := by decide +kernel
theorem dL_law_310 : decode cL_law 310 = .ok (.iconst 1, 1) := by decide +kernel
theorem dL_law_311 : decode cL_law 311 = .ok (.iadd, 1) := by decide +kernel
theorem dL_law_312 : decode cL_law 312 = .ok (.iaload, 1) := by decide +kernel
theorem dL_law_313 : decode cL_law 313 = .ok (.aload_n 0, 1) := by decide +kernel
theorem dL_law_314 : decode cL_law 314 = .ok (.iload_n 3, 1) := by decide +kernel
theorem dL_law_315 : decode cL_law 315 = .ok (.iconst 2, 1) := by decide +kernel
theorem dL_law_316 : decode cL_law 316 = .ok (.iadd, 1) := by decide +kernel
theorem dL_law_317 : decode cL_law 317 = .ok (.iaload, 1) := by decide +kernel
theorem dL_law_318 : decode cL_law 318 = .ok (.aload_n 0, 1) := by decide +kernel
theorem dL_law_319 : decode cL_law 319 = .ok (.iload_n 3, 1) := by decide +kernel
theorem dL_law_320 : decode cL_law 320 = .ok (.iconst 3, 1) := by decide +kernel
theorem dL_law_321 : decode cL_law 321 = .ok (.iadd, 1) := by decide +kernel
theorem dL_law_322 : decode cL_law 322 = .ok (.iaload, 1) := by decide +kernel
theorem dL_law_323 : decode cL_law 323 = .ok (.invokevirtual 37, 3) := by decide +kernel
theorem dL_law_326 : decode cL_law 326 = .ok (.aload_n 2, 1) := by decide +kernel
theorem dL_law_327 : decode cL_law 327 = .ok (.aload_n 0, 1) := by decide +kernel
theorem dL_law_328 : decode cL_law 328 = .ok (.iload_n 3, 1) := by decide +kernel
theorem dL_law_329 : decode cL_law 329 = .ok (.iconst 1, 1) := by decide +kernel
theorem dL_law_330 : decode cL_law 330 = .ok (.iadd, 1) := by decide +kernel
theorem dL_law_331 : decode cL_law 331 = .ok (.iaload, 1) := by decide +kernel
theorem dL_law_332 : decode cL_law 332 = .ok (.aload_n 0, 1) := by decide +kernel
theorem dL_law_333 : decode cL_law 333 = .ok (.iload_n 3, 1) := by decide +kernel
theorem dL_law_334 : decode cL_law 334 = .ok (.iconst 2, 1) := by decide +kernel
theorem dL_law_335 : decode cL_law 335 = .ok (.iadd, 1) := by decide +kernel
theorem dL_law_336 : decode cL_law 336 = .ok (.iaload, 1) := by decide +kernel
theorem dL_law_337 : decode cL_law 337 = .ok (.aload_n 0, 1) := by decide +kernel
theorem dL_law_338 : decode cL_law 338 = .ok (.iload_n 3, 1) := by decide +kernel
theorem dL_law_339 : decode cL_law 339 = .ok (.iconst 3, 1) := by decide +kernel
theorem dL_law_340 : decode cL_law 340 = .ok (.iadd, 1) := by decide +kernel
theorem dL_law_341 : decode cL_law 341 = .ok (.iaload, 1) := by decide +kernel
theorem dL_law_342 : decode cL_law 342 = .ok (.invokevirtual 40, 3) := by decide +kernel
theorem dL_law_345 : decode cL_law 345 = .ok (.if_icmp .eq 355, 3) := by decide +kernel
theorem dL_law_348 : decode cL_law 348 = .ok (.iconst 0, 1) := by decide +kernel
theorem dL_law_349 : decode cL_law 349 = .ok (.ireturn, 1) := by decide +kernel
theorem dL_law_350 : decode cL_law 350 = .ok (.aload_n 1, 1) := by decide +kernel
theorem dL_law_351 : decode cL_law 351 = .ok (.aload_n 0, 1) := by decide +kernel
theorem dL_law_352 : decode cL_law 352 = .ok (.iload_n 3, 1) := by decide +kernel
theorem dL_law_353 : decode cL_law 353 = .ok (.iconst 1, 1) := by decide +kernel
theorem dL_law_354 : decode cL_law 354 = .ok (.iadd, 1) := by decide +kernel
theorem dL_law_355 : decode cL_law 355 = .ok (.iaload, 1) := by decide +kernel
theorem dL_law_356 : decode cL_law 356 = .ok (.aload_n 0, 1) := by decide +kernel
theorem dL_law_357 : decode cL_law 357 = .ok (.iload_n 3, 1) := by decide +kernel
theorem dL_law_358 : decode cL_law 358 = .ok (.iconst 2, 1) := by decide +kernel
theorem dL_law_359 : decode cL_law 359 = .ok (.iadd, 1) := by decide +kernel
theorem dL_law_360 : decode cL_law 360 = .ok (.iaload, 1) := by decide +kernel
theorem dL_law_361 : decode cL_law 361 = .ok (.aload_n 0, 1) := by decide +kernel
theorem dL_law_362 : decode cL_law 362 = .ok (.iload_n 3, 1) := by decide +kernel
theorem dL_law_363 : decode cL_law 363 = .ok (.iconst 3, 1) := by decide +kernel
theorem dL_law_364 : decode cL_law 364 = .ok (.iadd, 1) := by decide +kernel
theorem dL_law_365 : decode cL_law 365 = .ok (.iaload, 1) := by decide +kernel
theorem dL_law_366 : decode cL_law 366 = .ok (.invokevirtual 41, 3) := by decide +kernel
theorem dL_law_369 : decode cL_law 369 = .ok (.aload_n 2, 1) := by decide +kernel
theorem dL_law_370 : decode cL_law 370 = .ok (.aload_n 0, 1) := by decide +kernel
theorem dL_law_371 : decode cL_law 371 = .ok (.iload_n 3, 1) := by decide +kernel
theorem dL_law_372 : decode cL_law 372 = .ok (.iconst 1, 1) := by decide +kernel
theorem dL_law_373 : decode cL_law 373 = .ok (.iadd, 1) := by decide +kernel
theorem dL_law_374 : decode cL_law 374 = .ok (.iaload, 1) := by decide +kernel
theorem dL_law_375 : decode cL_law 375 = .ok (.aload_n 0, 1) := by decide +kernel
theorem dL_law_376 : decode cL_law 376 = .ok (.iload_n 3, 1) := by decide +kernel
theorem dL_law_377 : decode cL_law 377 = .ok (.iconst 2, 1) := by decide +kernel
theorem dL_law_378 : decode cL_law 378 = .ok (.iadd, 1) := by decide +kernel
theorem dL_law_379 : decode cL_law 379 = .ok (.iaload, 1) := by decide +kernel
theorem dL_law_380 : decode cL_law 380 = .ok (.aload_n 0, 1) := by decide +kernel
theorem dL_law_381 : decode cL_law 381 = .ok (.iload_n 3, 1) := by decide +kernel
theorem dL_law_382 : decode cL_law 382 = .ok (.iconst 3, 1) := by decide +kernel
theorem dL_law_383 : decode cL_law 383 = .ok (.iadd, 1) := by decide +kernel
theorem dL_law_384 : decode cL_law 384 = .ok (.iaload, 1) := by decide +kernel
theorem dL_law_385 : decode cL_law 385 = .ok (.invokevirtual 44, 3) := by decide +kernel
theorem dL_law_388 : decode cL_law 388 = .ok (.if_icmp .eq 312, 3) := by decide +kernel
theorem dL_law_391 : decode cL_law 391 = .ok (.iconst 0, 1) := by decide +kernel
theorem dL_law_392 : decode cL_law 392 = .ok (.ireturn, 1) := by decide +kernel
theorem dL_law_393 : decode cL_law 393 = .ok (.aload_n 1, 1) := by decide +kernel
theorem dL_law_394 : decode cL_law 394 = .ok (.aload_n 0, 1) := by decide +kernel
theorem dL_law_395 : decode cL_law 395 = .ok (.iload_n 3, 1) := by decide +kernel
theorem dL_law_396 : decode cL_law 396 = .ok (.iconst 1, 1) := by decide +kernel
theorem dL_law_397 : decode cL_law 397 = .ok (.iadd, 1) := by decide +kernel
theorem dL_law_398 : decode cL_law 398 = .ok (.iaload, 1) := by decide +kernel
theorem dL_law_399 : decode cL_law 399 = .ok (.invokevirtual 45, 3) := by decide +kernel
theorem dL_law_402 : decode cL_law 402 = .ok (.aload_n 2, 1) := by decide +kernel
theorem dL_law_403 : decode cL_law 403 = .ok (.aload_n 0, 1) := by decide +kernel
theorem dL_law_404 : decode cL_law 404 = .ok (.iload_n 3, 1) := by decide +kernel
theorem dL_law_405 : decode cL_law 405 = .ok (.iconst 1, 1) := by decide +kernel
theorem dL_law_406 : decode cL_law 406 = .ok (.iadd, 1) := by decide +kernel
theorem dL_law_407 : decode cL_law 407 = .ok (.iaload, 1) := by decide +kernel
theorem dL_law_408 : decode cL_law 408 = .ok (.invokevirtual 48, 3) := by decide +kernel
theorem dL_law_411 : decode cL_law 411 = .ok (.if_icmp .eq 289, 3) := by decide +kernel
theorem dL_law_414 : decode cL_law 414 = .ok (.iconst 0, 1) := by decide +kernel
theorem dL_law_415 : decode cL_law 415 = .ok (.ireturn, 1) := by decide +kernel
theorem dL_law_416 : decode cL_law 416 = .ok (.aload_n 1, 1) := by decide +kernel
theorem dL_law_417 : decode cL_law 417 = .ok (.aload_n 0, 1) := by decide +kernel
theorem dL_law_418 : decode cL_law 418 = .ok (.iload_n 3, 1) := by decide +kernel
theorem dL_law_419 : decode cL_law 419 = .ok (.iconst 1, 1) := by decide +kernel
theorem dL_law_420 : decode cL_law 420 = .ok (.iadd, 1) := by decide +kernel
theorem dL_law_421 : decode cL_law 421 = .ok (.iaload, 1) := by decide +kernel
theorem dL_law_422 : decode cL_law 422 = .ok (.aload_n 0, 1) := by decide +kernel
theorem dL_law_423 : decode cL_law 423 = .ok (.iload_n 3, 1) := by decide +kernel
theorem dL_law_424 : decode cL_law 424 = .ok (.iconst 2, 1) := by decide +kernel
theorem dL_law_425 : decode cL_law 425 = .ok (.iadd, 1) := by decide +kernel
theorem dL_law_426 : decode cL_law 426 = .ok (.iaload, 1) := by decide +kernel
theorem dL_law_427 : decode cL_law 427 = .ok (.aload_n 0, 1) := by decide +kernel
theorem dL_law_428 : decode cL_law 428 = .ok (.iload_n 3, 1) := by decide +kernel
theorem dL_law_429 : decode cL_law 429 = .ok (.iconst 3, 1) := by decide +kernel
theorem dL_law_430 : decode cL_law 430 = .ok (.iadd, 1) := by decide +kernel
theorem dL_law_431 : decode cL_law 431 = .ok (.iaload, 1) := by decide +kernel
theorem dL_law_432 : decode cL_law 432 = .ok (.invokevirtual 49, 3) := by decide +kernel
theorem dL_law_435 : decode cL_law 435 = .ok (.aload_n 2, 1) := by decide +kernel
theorem dL_law_436 : decode cL_law 436 = .ok (.aload_n 0, 1) := by decide +kernel
theorem dL_law_437 : decode cL_law 437 = .ok (.iload_n 3, 1) := by decide +kernel
theorem dL_law_438 : decode cL_law 438 = .ok (.iconst 1, 1) := by decide +kernel
theorem dL_law_439 : decode cL_law 439 = .ok (.iadd, 1) := by decide +kernel
theorem dL_law_440 : decode cL_law 440 = .ok (.iaload, 1) := by decide +kernel
theorem dL_law_441 : decode cL_law 441 = .ok (.aload_n 0, 1) := by decide +kernel
theorem dL_law_442 : decode cL_law 442 = .ok (.iload_n 3, 1) := by decide +kernel
theorem dL_law_443 : decode cL_law 443 = .ok (.iconst 2, 1) := by decide +kernel
theorem dL_law_444 : decode cL_law 444 = .ok (.iadd, 1) := by decide +kernel
theorem dL_law_445 : decode cL_law 445 = .ok (.iaload, 1) := by decide +kernel
theorem dL_law_446 : decode cL_law 446 = .ok (.aload_n 0, 1) := by decide +kernel
theorem dL_law_447 : decode cL_law 447 = .ok (.iload_n 3, 1) := by decide +kernel
theorem dL_law_448 : decode cL_law 448 = .ok (.iconst 3, 1) := by decide +kernel
theorem dL_law_449 : decode cL_law 449 = .ok (.iadd, 1) := by decide +kernel
theorem dL_law_450 : decode cL_law 450 = .ok (.iaload, 1) := by decide +kernel
theorem dL_law_451 : decode cL_law 451 = .ok (.invokevirtual 52, 3) := by decide +kernel
theorem dL_law_454 : decode cL_law 454 = .ok (.if_icmp .eq 246, 3) := by decide +kernel
theorem dL_law_457 : decode cL_law 457 = .ok (.iconst 0, 1) := by decide +kernel
theorem dL_law_458 : decode cL_law 458 = .ok (.ireturn, 1) := by decide +kernel
theorem dL_law_459 : decode cL_law 459 = .ok (.aload_n 1, 1) := by decide +kernel
theorem dL_law_460 : decode cL_law 460 = .ok (.aload_n 0, 1) := by decide +kernel
theorem dL_law_461 : decode cL_law 461 = .ok (.iload_n 3, 1) := by decide +kernel
theorem dL_law_462 : decode cL_law 462 = .ok (.iconst 1, 1) := by decide +kernel
theorem dL_law_463 : decode cL_law 463 = .ok (.iadd, 1) := by decide +kernel
theorem dL_law_464 : decode cL_law 464 = .ok (.iaload, 1) := by decide +kernel
theorem dL_law_465 : decode cL_law 465 = .ok (.invokevirtual 53, 3) := by decide +kernel
theorem dL_law_468 : decode cL_law 468 = .ok (.aload_n 2, 1) := by decide +kernel
theorem dL_law_469 : decode cL_law 469 = .ok (.aload_n 0, 1) := by decide +kernel
theorem dL_law_470 : decode cL_law 470 = .ok (.iload_n 3, 1) := by decide +kernel
theorem dL_law_471 : decode cL_law 471 = .ok (.iconst 1, 1) := by decide +kernel
theorem dL_law_472 : decode cL_law 472 = .ok (.iadd, 1) := by decide +kernel
theorem dL_law_473 : decode cL_law 473 = .ok (.iaload, 1) := by decide +kernel
theorem dL_law_474 : decode cL_law 474 = .ok (.invokevirtual 56, 3) := by decide +kernel
theorem dL_law_477 : decode cL_law 477 = .ok (.if_icmp .eq 223, 3) := by decide +kernel
theorem dL_law_480 : decode cL_law 480 = .ok (.iconst 0, 1) := by decide +kernel
theorem dL_law_481 : decode cL_law 481 = .ok (.ireturn, 1) := by decide +kernel
theorem dL_law_482 : decode cL_law 482 = .ok (.aload_n 1, 1) := by decide +kernel
theorem dL_law_483 : decode cL_law 483 = .ok (.aload_n 0, 1) := by decide +kernel
theorem dL_law_484 : decode cL_law 484 = .ok (.iload_n 3, 1) := by decide +kernel
theorem dL_law_485 : decode cL_law 485 = .ok (.iconst 1, 1) := by decide +kernel
theorem dL_law_486 : decode cL_law 486 = .ok (.iadd, 1) := by decide +kernel
theorem dL_law_487 : decode cL_law 487 = .ok (.iaload, 1) := by decide +kernel
theorem dL_law_488 : decode cL_law 488 = .ok (.aload_n 0, 1) := by decide +kernel
theorem dL_law_489 : decode cL_law 489 = .ok (.iload_n 3, 1) := by decide +kernel
theorem dL_law_490 : decode cL_law 490 = .ok (.iconst 2, 1) := by decide +kernel
theorem dL_law_491 : decode cL_law 491 = .ok (.iadd, 1) := by decide +kernel
theorem dL_law_492 : decode cL_law 492 = .ok (.iaload, 1) := by decide +kernel
theorem dL_law_493 : decode cL_law 493 = .ok (.invokevirtual 57, 3) := by decide +kernel
theorem dL_law_496 : decode cL_law 496 = .ok (.aload_n 2, 1) := by decide +kernel
theorem dL_law_497 : decode cL_law 497 = .ok (.aload_n 0, 1) := by decide +kernel
theorem dL_law_498 : decode cL_law 498 = .ok (.iload_n 3, 1) := by decide +kernel
theorem dL_law_499 : decode cL_law 499 = .ok (.iconst 1, 1) := by decide +kernel
theorem dL_law_500 : decode cL_law 500 = .ok (.iadd, 1) := by decide +kernel
theorem dL_law_501 : decode cL_law 501 = .ok (.iaload, 1) := by decide +kernel
theorem dL_law_502 : decode cL_law 502 = .ok (.aload_n 0, 1) := by decide +kernel
theorem dL_law_503 : decode cL_law 503 = .ok (.iload_n 3, 1) := by decide +kernel
theorem dL_law_504 : decode cL_law 504 = .ok (.iconst 2, 1) := by decide +kernel
theorem dL_law_505 : decode cL_law 505 = .ok (.iadd, 1) := by decide +kernel
theorem dL_law_506 : decode cL_law 506 = .ok (.iaload, 1) := by decide +kernel
theorem dL_law_507 : decode cL_law 507 = .ok (.invokevirtual 60, 3) := by decide +kernel
theorem dL_law_510 : decode cL_law 510 = .ok (.if_icmp .eq 190, 3) := by decide +kernel
theorem dL_law_513 : decode cL_law 513 = .ok (.iconst 0, 1) := by decide +kernel
theorem dL_law_514 : decode cL_law 514 = .ok (.ireturn, 1) := by decide +kernel
theorem dL_law_515 : decode cL_law 515 = .ok (.aload_n 1, 1) := by decide +kernel
theorem dL_law_516 : decode cL_law 516 = .ok (.aload_n 0, 1) := by decide +kernel
theorem dL_law_517 : decode cL_law 517 = .ok (.iload_n 3, 1) := by decide +kernel
theorem dL_law_518 : decode cL_law 518 = .ok (.iconst 1, 1) := by decide +kernel
theorem dL_law_519 : decode cL_law 519 = .ok (.iadd, 1) := by decide +kernel
theorem dL_law_520 : decode cL_law 520 = .ok (.iaload, 1) := by decide +kernel
theorem dL_law_521 : decode cL_law 521 = .ok (.aload_n 0, 1) := by decide +kernel
theorem dL_law_522 : decode cL_law 522 = .ok (.iload_n 3, 1) := by decide +kernel
theorem dL_law_523 : decode cL_law 523 = .ok (.iconst 2, 1) := by decide +kernel
theorem dL_law_524 : decode cL_law 524 = .ok (.iadd, 1) := by decide +kernel
theorem dL_law_525 : decode cL_law 525 = .ok (.iaload, 1) := by decide +kernel
theorem dL_law_526 : decode cL_law 526 = .ok (.aload_n 0, 1) := by decide +kernel
theorem dL_law_527 : decode cL_law 527 = .ok (.iload_n 3, 1) := by decide +kernel
theorem dL_law_528 : decode cL_law 528 = .ok (.iconst 3, 1) := by decide +kernel
theorem dL_law_529 : decode cL_law 529 = .ok (.iadd, 1) := by decide +kernel
theorem dL_law_530 : decode cL_law 530 = .ok (.iaload, 1) := by decide +kernel
theorem dL_law_531 : decode cL_law 531 = .ok (.invokevirtual 61, 3) := by decide +kernel
theorem dL_law_534 : decode cL_law 534 = .ok (.aload_n 2, 1) := by decide +kernel
theorem dL_law_535 : decode cL_law 535 = .ok (.aload_n 0, 1) := by decide +kernel
theorem dL_law_536 : decode cL_law 536 = .ok (.iload_n 3, 1) := by decide +kernel
theorem dL_law_537 : decode cL_law 537 = .ok (.iconst 1, 1) := by decide +kernel
theorem dL_law_538 : decode cL_law 538 = .ok (.iadd, 1) := by decide +kernel
theorem dL_law_539 : decode cL_law 539 = .ok (.iaload, 1) := by decide +kernel
theorem dL_law_540 : decode cL_law 540 = .ok (.aload_n 0, 1) := by decide +kernel
theorem dL_law_541 : decode cL_law 541 = .ok (.iload_n 3, 1) := by decide +kernel
theorem dL_law_542 : decode cL_law 542 = .ok (.iconst 2, 1) := by decide +kernel
theorem dL_law_543 : decode cL_law 543 = .ok (.iadd, 1) := by decide +kernel
theorem dL_law_544 : decode cL_law 544 = .ok (.iaload, 1) := by decide +kernel
theorem dL_law_545 : decode cL_law 545 = .ok (.aload_n 0, 1) := by decide +kernel
theorem dL_law_546 : decode cL_law 546 = .ok (.iload_n 3, 1) := by decide +kernel
theorem dL_law_547 : decode cL_law 547 = .ok (.iconst 3, 1) := by decide +kernel
theorem dL_law_548 : decode cL_law 548 = .ok (.iadd, 1) := by decide +kernel
theorem dL_law_549 : decode cL_law 549 = .ok (.iaload, 1) := by decide +kernel
theorem dL_law_550 : decode cL_law 550 = .ok (.invokevirtual 64, 3) := by decide +kernel
theorem dL_law_553 : decode cL_law 553 = .ok (.if_icmp .eq 147, 3) := by decide +kernel
theorem dL_law_556 : decode cL_law 556 = .ok (.iconst 0, 1) := by decide +kernel
theorem dL_law_557 : decode cL_law 557 = .ok (.ireturn, 1) := by decide +kernel
theorem dL_law_558 : decode cL_law 558 = .ok (.aload_n 1, 1) := by decide +kernel
theorem dL_law_559 : decode cL_law 559 = .ok (.aload_n 0, 1) := by decide +kernel
theorem dL_law_560 : decode cL_law 560 = .ok (.iload_n 3, 1) := by decide +kernel
theorem dL_law_561 : decode cL_law 561 = .ok (.iconst 1, 1) := by decide +kernel
theorem dL_law_562 : decode cL_law 562 = .ok (.iadd, 1) := by decide +kernel
theorem dL_law_563 : decode cL_law 563 = .ok (.iaload, 1) := by decide +kernel
theorem dL_law_564 : decode cL_law 564 = .ok (.aload_n 0, 1) := by decide +kernel
theorem dL_law_565 : decode cL_law 565 = .ok (.iload_n 3, 1) := by decide +kernel
theorem dL_law_566 : decode cL_law 566 = .ok (.iconst 2, 1) := by decide +kernel
theorem dL_law_567 : decode cL_law 567 = .ok (.iadd, 1) := by decide +kernel
theorem dL_law_568 : decode cL_law 568 = .ok (.iaload, 1) := by decide +kernel
theorem dL_law_569 : decode cL_law 569 = .ok (.aload_n 0, 1) := by decide +kernel
theorem dL_law_570 : decode cL_law 570 = .ok (.iload_n 3, 1) := by decide +kernel
theorem dL_law_571 : decode cL_law 571 = .ok (.iconst 3, 1) := by decide +kernel
theorem dL_law_572 : decode cL_law 572 = .ok (.iadd, 1) := by decide +kernel
theorem dL_law_573 : decode cL_law 573 = .ok (.iaload, 1) := by decide +kernel
theorem dL_law_574 : decode cL_law 574 = .ok (.invokevirtual 65, 3) := by decide +kernel
theorem dL_law_577 : decode cL_law 577 = .ok (.aload_n 2, 1) := by decide +kernel
theorem dL_law_578 : decode cL_law 578 = .ok (.aload_n 0, 1) := by decide +kernel
theorem dL_law_579 : decode cL_law 579 = .ok (.iload_n 3, 1) := by decide +kernel
theorem dL_law_580 : decode cL_law 580 = .ok (.iconst 1, 1) := by decide +kernel
theorem dL_law_581 : decode cL_law 581 = .ok (.iadd, 1) := by decide +kernel
theorem dL_law_582 : decode cL_law 582 = .ok (.iaload, 1) := by decide +kernel
theorem dL_law_583 : decode cL_law 583 = .ok (.aload_n 0, 1) := by decide +kernel
theorem dL_law_584 : decode cL_law 584 = .ok (.iload_n 3, 1) := by decide +kernel
theorem dL_law_585 : decode cL_law 585 = .ok (.iconst 2, 1) := by decide +kernel
theorem dL_law_586 : decode cL_law 586 = .ok (.iadd, 1) := by decide +kernel
theorem dL_law_587 : decode cL_law 587 = .ok (.iaload, 1) := by decide +kernel
theorem dL_law_588 : decode cL_law 588 = .ok (.aload_n 0, 1) := by decide +kernel
theorem dL_law_589 : decode cL_law 589 = .ok (.iload_n 3, 1) := by decide +kernel
theorem dL_law_590 : decode cL_law 590 = .ok (.iconst 3, 1) := by decide +kernel
theorem dL_law_591 : decode cL_law 591 = .ok (.iadd, 1) := by decide +kernel
theorem dL_law_592 : decode cL_law 592 = .ok (.iaload, 1) := by decide +kernel
theorem dL_law_593 : decode cL_law 593 = .ok (.invokevirtual 68, 3) := by decide +kernel
theorem dL_law_596 : decode cL_law 596 = .ok (.if_icmp .eq 104, 3) := by decide +kernel
theorem dL_law_599 : decode cL_law 599 = .ok (.iconst 0, 1) := by decide +kernel
theorem dL_law_600 : decode cL_law 600 = .ok (.ireturn, 1) := by decide +kernel
theorem dL_law_601 : decode cL_law 601 = .ok (.aload_n 1, 1) := by decide +kernel
theorem dL_law_602 : decode cL_law 602 = .ok (.aload_n 0, 1) := by decide +kernel
theorem dL_law_603 : decode cL_law 603 = .ok (.iload_n 3, 1) := by decide +kernel
theorem dL_law_604 : decode cL_law 604 = .ok (.iconst 1, 1) := by decide +kernel
theorem dL_law_605 : decode cL_law 605 = .ok (.iadd, 1) := by decide +kernel
theorem dL_law_606 : decode cL_law 606 = .ok (.iaload, 1) := by decide +kernel
theorem dL_law_607 : decode cL_law 607 = .ok (.aload_n 0, 1) := by decide +kernel
theorem dL_law_608 : decode cL_law 608 = .ok (.iload_n 3, 1) := by decide +kernel
theorem dL_law_609 : decode cL_law 609 = .ok (.iconst 2, 1) := by decide +kernel
theorem dL_law_610 : decode cL_law 610 = .ok (.iadd, 1) := by decide +kernel
theorem dL_law_611 : decode cL_law 611 = .ok (.iaload, 1) := by decide +kernel
theorem dL_law_612 : decode cL_law 612 = .ok (.aload_n 0, 1) := by decide +kernel
theorem dL_law_613 : decode cL_law 613 = .ok (.iload_n 3, 1) := by decide +kernel
theorem dL_law_614 : decode cL_law 614 = .ok (.iconst 3, 1) := by decide +kernel
theorem dL_law_615 : decode cL_law 615 = .ok (.iadd, 1) := by decide +kernel
theorem dL_law_616 : decode cL_law 616 = .ok (.iaload, 1) := by decide +kernel
theorem dL_law_617 : decode cL_law 617 = .ok (.aload_n 0, 1) := by decide +kernel
theorem dL_law_618 : decode cL_law 618 = .ok (.iload_n 3, 1) := by decide +kernel
theorem dL_law_619 : decode cL_law 619 = .ok (.iconst 4, 1) := by decide +kernel
theorem dL_law_620 : decode cL_law 620 = .ok (.iadd, 1) := by decide +kernel
theorem dL_law_621 : decode cL_law 621 = .ok (.iaload, 1) := by decide +kernel
theorem dL_law_622 : decode cL_law 622 = .ok (.invokevirtual 69, 3) := by decide +kernel
theorem dL_law_625 : decode cL_law 625 = .ok (.aload_n 2, 1) := by decide +kernel
theorem dL_law_626 : decode cL_law 626 = .ok (.aload_n 0, 1) := by decide +kernel
theorem dL_law_627 : decode cL_law 627 = .ok (.iload_n 3, 1) := by decide +kernel
theorem dL_law_628 : decode cL_law 628 = .ok (.iconst 1, 1) := by decide +kernel
theorem dL_law_629 : decode cL_law 629 = .ok (.iadd, 1) := by decide +kernel
theorem dL_law_630 : decode cL_law 630 = .ok (.iaload, 1) := by decide +kernel
theorem dL_law_631 : decode cL_law 631 = .ok (.aload_n 0, 1) := by decide +kernel
theorem dL_law_632 : decode cL_law 632 = .ok (.iload_n 3, 1) := by decide +kernel
theorem dL_law_633 : decode cL_law 633 = .ok (.iconst 2, 1) := by decide +kernel
theorem dL_law_634 : decode cL_law 634 = .ok (.iadd, 1) := by decide +kernel
theorem dL_law_635 : decode cL_law 635 = .ok (.iaload, 1) := by decide +kernel
theorem dL_law_636 : decode cL_law 636 = .ok (.aload_n 0, 1) := by decide +kernel
theorem dL_law_637 : decode cL_law 637 = .ok (.iload_n 3, 1) := by decide +kernel
theorem dL_law_638 : decode cL_law 638 = .ok (.iconst 3, 1) := by decide +kernel
theorem dL_law_639 : decode cL_law 639 = .ok (.iadd, 1) := by decide +kernel
theorem dL_law_640 : decode cL_law 640 = .ok (.iaload, 1) := by decide +kernel
theorem dL_law_641 : decode cL_law 641 = .ok (.aload_n 0, 1) := by decide +kernel
theorem dL_law_642 : decode cL_law 642 = .ok (.iload_n 3, 1) := by decide +kernel
theorem dL_law_643 : decode cL_law 643 = .ok (.iconst 4, 1) := by decide +kernel
theorem dL_law_644 : decode cL_law 644 = .ok (.iadd, 1) := by decide +kernel
theorem dL_law_645 : decode cL_law 645 = .ok (.iaload, 1) := by decide +kernel
theorem dL_law_646 : decode cL_law 646 = .ok (.invokevirtual 72, 3) := by decide +kernel
theorem dL_law_649 : decode cL_law 649 = .ok (.if_icmp .eq 51, 3) := by decide +kernel
theorem dL_law_652 : decode cL_law 652 = .ok (.iconst 0, 1) := by decide +kernel
theorem dL_law_653 : decode cL_law 653 = .ok (.ireturn, 1) := by decide +kernel
theorem dL_law_654 : decode cL_law 654 = .ok (.aload_n 1, 1) := by decide +kernel
theorem dL_law_655 : decode cL_law 655 = .ok (.aload_n 0, 1) := by decide +kernel
theorem dL_law_656 : decode cL_law 656 = .ok (.iload_n 3, 1) := by decide +kernel
theorem dL_law_657 : decode cL_law 657 = .ok (.iconst 1, 1) := by decide +kernel
theorem dL_law_658 : decode cL_law 658 = .ok (.iadd, 1) := by decide +kernel
theorem dL_law_659 : decode cL_law 659 = .ok (.iaload, 1) := by decide +kernel
theorem dL_law_660 : decode cL_law 660 = .ok (.invokevirtual 73, 3) := by decide +kernel
theorem dL_law_663 : decode cL_law 663 = .ok (.aload_n 2, 1) := by decide +kernel
theorem dL_law_664 : decode cL_law 664 = .ok (.aload_n 0, 1) := by decide +kernel
theorem dL_law_665 : decode cL_law 665 = .ok (.iload_n 3, 1) := by decide +kernel
theorem dL_law_666 : decode cL_law 666 = .ok (.iconst 1, 1) := by decide +kernel
theorem dL_law_667 : decode cL_law 667 = .ok (.iadd, 1) := by decide +kernel
theorem dL_law_668 : decode cL_law 668 = .ok (.iaload, 1) := by decide +kernel
theorem dL_law_669 : decode cL_law 669 = .ok (.invokevirtual 76, 3) := by decide +kernel
theorem dL_law_672 : decode cL_law 672 = .ok (.if_icmp .eq 28, 3) := by decide +kernel
theorem dL_law_675 : decode cL_law 675 = .ok (.iconst 0, 1) := by decide +kernel
theorem dL_law_676 : decode cL_law 676 = .ok (.ireturn, 1) := by decide +kernel
theorem dL_law_677 : decode cL_law 677 = .ok (.aload_n 1, 1) := by decide +kernel
theorem dL_law_678 : decode cL_law 678 = .ok (.aload_n 0, 1) := by decide +kernel
theorem dL_law_679 : decode cL_law 679 = .ok (.iload_n 3, 1) := by decide +kernel
theorem dL_law_680 : decode cL_law 680 = .ok (.iconst 1, 1) := by decide +kernel
theorem dL_law_681 : decode cL_law 681 = .ok (.iadd, 1) := by decide +kernel
theorem dL_law_682 : decode cL_law 682 = .ok (.iaload, 1) := by decide +kernel
theorem dL_law_683 : decode cL_law 683 = .ok (.invokevirtual 77, 3) := by decide +kernel
theorem dL_law_686 : decode cL_law 686 = .ok (.aload_n 2, 1) := by decide +kernel
theorem dL_law_687 : decode cL_law 687 = .ok (.aload_n 0, 1) := by decide +kernel
theorem dL_law_688 : decode cL_law 688 = .ok (.iload_n 3, 1) := by decide +kernel
theorem dL_law_689 : decode cL_law 689 = .ok (.iconst 1, 1) := by decide +kernel
theorem dL_law_690 : decode cL_law 690 = .ok (.iadd, 1) := by decide +kernel
theorem dL_law_691 : decode cL_law 691 = .ok (.iaload, 1) := by decide +kernel
theorem dL_law_692 : decode cL_law 692 = .ok (.invokevirtual 80, 3) := by decide +kernel
theorem dL_law_695 : decode cL_law 695 = .ok (.if_icmp .eq 5, 3) := by decide +kernel
theorem dL_law_698 : decode cL_law 698 = .ok (.iconst 0, 1) := by decide +kernel
theorem dL_law_699 : decode cL_law 699 = .ok (.ireturn, 1) := by decide +kernel
theorem dL_law_700 : decode cL_law 700 = .ok (.iinc 3 5, 3) := by decide +kernel
theorem dL_law_703 : decode cL_law 703 = .ok (.goto (-685), 3) := by decide +kernel
theorem dL_law_706 : decode cL_law 706 = .ok (.iconst 1, 1) := by decide +kernel
theorem dL_law_707 : decode cL_law 707 = .ok (.ireturn, 1) := by decide +kernel
end
section
/-! ===== the frame: memory as rows of ints, checked programs, the judgement over both ===== -/
abbrev Mm : Type := Nat → Nat → Int32
/-- one place of one row -/
def ms (σ : Mm) (k i : Nat) (v : Int32) : Mm := va_up σ k (upd (σ k) i v)
def inb (i : Int32) (n : Nat) : Bool := !(decide (i < 0)) && decide (i.toNatClampNeg < n)
theorem inb_in {i : Int32} {n : Nat} (h : inb i n = true) : vp_in i n := by
  unfold inb at h
  unfold vp_in
  simp only [Bool.and_eq_true, Bool.not_eq_true', decide_eq_true_eq, decide_eq_false_iff_not] at h
  intro q
  rcases q with q | q
  · exact h.1 q
  · omega
def Sat {α : Type} (e : Option α) (P : α → Prop) : Prop := ∃ a, e = some a ∧ P a
theorem sat_some {α : Type} {a : α} {P : α → Prop} (h : Sat (some a) P) : P a := by
  obtain ⟨b, h1, h2⟩ := h
  cases h1
  exact h2
theorem sat_t {α : Type} {c : Prop} [Decidable c] {A B : Option α} {P : α → Prop} (h : Sat (if c then A else B) P) (hc : c) : Sat A P := by
  rw [if_pos hc] at h
  exact h
theorem sat_f {α : Type} {c : Prop} [Decidable c] {A B : Option α} {P : α → Prop} (h : Sat (if c then A else B) P) (hc : ¬ c) : Sat B P := by
  rw [if_neg hc] at h
  exact h
def chk {α : Type} (b : Bool) (e : Option α) : Option α := if b = true then e else none
theorem sat_chk {α : Type} {b : Bool} {e : Option α} {P : α → Prop} (h : Sat (chk b e) P) : b = true ∧ Sat e P := by
  unfold chk at h
  by_cases hb : b = true
  · rw [if_pos hb] at h
    exact ⟨hb, h⟩
  · rw [if_neg hb] at h
    obtain ⟨a, h1, h2⟩ := h
    cases h1
def onul {α : Type} (o : Option Nat) (a : Option α) (f : Nat → Option α) : Option α := match o with
  | none => a
  | some k => f k
def fu : Nat := 10000
theorem sum_l {α β : Type} {P : α → Prop} {Q : β → Prop} {a : α} (h : Sum.elim P Q (.inl a)) : P a := h
theorem sum_r {α β : Type} {P : α → Prop} {Q : β → Prop} {a : β} (h : Sum.elim P Q (.inr a)) : Q a := h
def bn0 {β : Type} (e : Option (Mm)) (f : Mm → Option β) : Option β := match e with
  | none => none
  | some a => f a
theorem sat_ca0 {β : Type} {e : Option (Mm)} {f : Mm → Option β} {P : β → Prop} (h : Sat (bn0 e f) P) : ∃ (σ : Mm), e = some σ ∧ Sat (f σ) P := by
  cases e with
  | none =>
    obtain ⟨b, h1, h2⟩ := h
    cases h1
  | some a => exact ⟨a, rfl, h⟩
theorem sat_cu0 {β : Type} {e : Option (Mm)} {f : Mm → Option β} {P : β → Prop} {G : Mm → Prop} (h : Sat (bn0 e f) P) (hj : ∀ (σ : Mm), Sat (f σ) P → G σ) : Sat e (fun a => G a) := by
  cases e with
  | none =>
    obtain ⟨b, h1, h2⟩ := h
    cases h1
  | some a => exact ⟨a, rfl, hj _  h⟩
def lq0 {β : Type} (st : Mm → Option ((Mm) ⊕ β)) : Nat → Mm → Option β
  | 0, _ => none
  | n + 1, σ => match st σ with
    | none => none
    | some (.inl a) => lq0 st n a
    | some (.inr r) => some r
theorem lqr0 {β : Type} {st : Mm → Option ((Mm) ⊕ β)} {Gh : Mm → Prop} {Gx : β → Prop} (hb : ∀ (σ : Mm), Sat (st σ) (Sum.elim (fun a => Gh a) Gx) → Gh σ) : ∀ (n : Nat) (σ : Mm), Sat (lq0 st n σ) Gx → Gh σ := by
  intro n
  induction n with
  | zero =>
    intro σ h
    obtain ⟨b, h1, h2⟩ := h
    cases h1
  | succ n ih =>
    intro σ h
    refine hb σ ?_
    obtain ⟨b, h1, h2⟩ := h
    simp only [lq0] at h1
    cases hs : st σ with
    | none =>
      rw [hs] at h1
      cases h1
    | some v =>
      rw [hs] at h1
      cases v with
      | inl a => exact ⟨_, rfl, ih a ⟨b, h1, h2⟩⟩
      | inr r =>
        cases h1
        exact ⟨_, rfl, h2⟩
theorem lqm0 {β : Type} {st : Mm → Option ((Mm) ⊕ β)} {r : β} : ∀ (n m : Nat) (σ : Mm), n ≤ m → lq0 st n σ = some r → lq0 st m σ = some r := by
  intro n
  induction n with
  | zero =>
    intro m σ h h1
    cases h1
  | succ n ih =>
    intro m σ h h1
    obtain ⟨m, rfl⟩ : ∃ j, m = j + 1 := ⟨m - 1, by omega⟩
    simp only [lq0] at h1 ⊢
    cases hs : st σ with
    | none =>
      rw [hs] at h1
      cases h1
    | some v =>
      rw [hs] at h1
      cases v with
      | inl a => exact ih m a (by omega) h1
      | inr r => exact h1
def bn1 {A1 : Type} {β : Type} (e : Option (Mm × A1)) (f : Mm → A1 → Option β) : Option β := match e with
  | none => none
  | some a => f a.1 a.2
theorem sat_ca1 {A1 : Type} {β : Type} {e : Option (Mm × A1)} {f : Mm → A1 → Option β} {P : β → Prop} (h : Sat (bn1 e f) P) : ∃ (σ : Mm) (x1 : A1), e = some (σ, x1) ∧ Sat (f σ x1) P := by
  cases e with
  | none =>
    obtain ⟨b, h1, h2⟩ := h
    cases h1
  | some a => exact ⟨a.1, a.2, rfl, h⟩
theorem sat_cu1 {A1 : Type} {β : Type} {e : Option (Mm × A1)} {f : Mm → A1 → Option β} {P : β → Prop} {G : Mm → A1 → Prop} (h : Sat (bn1 e f) P) (hj : ∀ (σ : Mm) (x1 : A1), Sat (f σ x1) P → G σ x1) : Sat e (fun a => G a.1 a.2) := by
  cases e with
  | none =>
    obtain ⟨b, h1, h2⟩ := h
    cases h1
  | some a => exact ⟨a, rfl, hj _ _ h⟩
def lq1 {A1 : Type} {β : Type} (st : Mm → A1 → Option ((Mm × A1) ⊕ β)) : Nat → Mm → A1 → Option β
  | 0, _, _ => none
  | n + 1, σ, x1 => match st σ x1 with
    | none => none
    | some (.inl a) => lq1 st n a.1 a.2
    | some (.inr r) => some r
theorem lqr1 {A1 : Type} {β : Type} {st : Mm → A1 → Option ((Mm × A1) ⊕ β)} {Gh : Mm → A1 → Prop} {Gx : β → Prop} (hb : ∀ (σ : Mm) (x1 : A1), Sat (st σ x1) (Sum.elim (fun a => Gh a.1 a.2) Gx) → Gh σ x1) : ∀ (n : Nat) (σ : Mm) (x1 : A1), Sat (lq1 st n σ x1) Gx → Gh σ x1 := by
  intro n
  induction n with
  | zero =>
    intro σ x1 h
    obtain ⟨b, h1, h2⟩ := h
    cases h1
  | succ n ih =>
    intro σ x1 h
    refine hb σ x1 ?_
    obtain ⟨b, h1, h2⟩ := h
    simp only [lq1] at h1
    cases hs : st σ x1 with
    | none =>
      rw [hs] at h1
      cases h1
    | some v =>
      rw [hs] at h1
      cases v with
      | inl a => exact ⟨_, rfl, ih a.1 a.2 ⟨b, h1, h2⟩⟩
      | inr r =>
        cases h1
        exact ⟨_, rfl, h2⟩
theorem lqm1 {A1 : Type} {β : Type} {st : Mm → A1 → Option ((Mm × A1) ⊕ β)} {r : β} : ∀ (n m : Nat) (σ : Mm) (x1 : A1), n ≤ m → lq1 st n σ x1 = some r → lq1 st m σ x1 = some r := by
  intro n
  induction n with
  | zero =>
    intro m σ x1 h h1
    cases h1
  | succ n ih =>
    intro m σ x1 h h1
    obtain ⟨m, rfl⟩ : ∃ j, m = j + 1 := ⟨m - 1, by omega⟩
    simp only [lq1] at h1 ⊢
    cases hs : st σ x1 with
    | none =>
      rw [hs] at h1
      cases h1
    | some v =>
      rw [hs] at h1
      cases v with
      | inl a => exact ih m a.1 a.2 (by omega) h1
      | inr r => exact h1
def bn2 {A1 A2 : Type} {β : Type} (e : Option (Mm × A1 × A2)) (f : Mm → A1 → A2 → Option β) : Option β := match e with
  | none => none
  | some a => f a.1 a.2.1 a.2.2
theorem sat_ca2 {A1 A2 : Type} {β : Type} {e : Option (Mm × A1 × A2)} {f : Mm → A1 → A2 → Option β} {P : β → Prop} (h : Sat (bn2 e f) P) : ∃ (σ : Mm) (x1 : A1) (x2 : A2), e = some (σ, x1, x2) ∧ Sat (f σ x1 x2) P := by
  cases e with
  | none =>
    obtain ⟨b, h1, h2⟩ := h
    cases h1
  | some a => exact ⟨a.1, a.2.1, a.2.2, rfl, h⟩
theorem sat_cu2 {A1 A2 : Type} {β : Type} {e : Option (Mm × A1 × A2)} {f : Mm → A1 → A2 → Option β} {P : β → Prop} {G : Mm → A1 → A2 → Prop} (h : Sat (bn2 e f) P) (hj : ∀ (σ : Mm) (x1 : A1) (x2 : A2), Sat (f σ x1 x2) P → G σ x1 x2) : Sat e (fun a => G a.1 a.2.1 a.2.2) := by
  cases e with
  | none =>
    obtain ⟨b, h1, h2⟩ := h
    cases h1
  | some a => exact ⟨a, rfl, hj _ _ _ h⟩
def lq2 {A1 A2 : Type} {β : Type} (st : Mm → A1 → A2 → Option ((Mm × A1 × A2) ⊕ β)) : Nat → Mm → A1 → A2 → Option β
  | 0, _, _, _ => none
  | n + 1, σ, x1, x2 => match st σ x1 x2 with
    | none => none
    | some (.inl a) => lq2 st n a.1 a.2.1 a.2.2
    | some (.inr r) => some r
theorem lqr2 {A1 A2 : Type} {β : Type} {st : Mm → A1 → A2 → Option ((Mm × A1 × A2) ⊕ β)} {Gh : Mm → A1 → A2 → Prop} {Gx : β → Prop} (hb : ∀ (σ : Mm) (x1 : A1) (x2 : A2), Sat (st σ x1 x2) (Sum.elim (fun a => Gh a.1 a.2.1 a.2.2) Gx) → Gh σ x1 x2) : ∀ (n : Nat) (σ : Mm) (x1 : A1) (x2 : A2), Sat (lq2 st n σ x1 x2) Gx → Gh σ x1 x2 := by
  intro n
  induction n with
  | zero =>
    intro σ x1 x2 h
    obtain ⟨b, h1, h2⟩ := h
    cases h1
  | succ n ih =>
    intro σ x1 x2 h
    refine hb σ x1 x2 ?_
    obtain ⟨b, h1, h2⟩ := h
    simp only [lq2] at h1
    cases hs : st σ x1 x2 with
    | none =>
      rw [hs] at h1
      cases h1
    | some v =>
      rw [hs] at h1
      cases v with
      | inl a => exact ⟨_, rfl, ih a.1 a.2.1 a.2.2 ⟨b, h1, h2⟩⟩
      | inr r =>
        cases h1
        exact ⟨_, rfl, h2⟩
theorem lqm2 {A1 A2 : Type} {β : Type} {st : Mm → A1 → A2 → Option ((Mm × A1 × A2) ⊕ β)} {r : β} : ∀ (n m : Nat) (σ : Mm) (x1 : A1) (x2 : A2), n ≤ m → lq2 st n σ x1 x2 = some r → lq2 st m σ x1 x2 = some r := by
  intro n
  induction n with
  | zero =>
    intro m σ x1 x2 h h1
    cases h1
  | succ n ih =>
    intro m σ x1 x2 h h1
    obtain ⟨m, rfl⟩ : ∃ j, m = j + 1 := ⟨m - 1, by omega⟩
    simp only [lq2] at h1 ⊢
    cases hs : st σ x1 x2 with
    | none =>
      rw [hs] at h1
      cases h1
    | some v =>
      rw [hs] at h1
      cases v with
      | inl a => exact ih m a.1 a.2.1 a.2.2 (by omega) h1
      | inr r => exact h1
def bn3 {A1 A2 A3 : Type} {β : Type} (e : Option (Mm × A1 × A2 × A3)) (f : Mm → A1 → A2 → A3 → Option β) : Option β := match e with
  | none => none
  | some a => f a.1 a.2.1 a.2.2.1 a.2.2.2
theorem sat_ca3 {A1 A2 A3 : Type} {β : Type} {e : Option (Mm × A1 × A2 × A3)} {f : Mm → A1 → A2 → A3 → Option β} {P : β → Prop} (h : Sat (bn3 e f) P) : ∃ (σ : Mm) (x1 : A1) (x2 : A2) (x3 : A3), e = some (σ, x1, x2, x3) ∧ Sat (f σ x1 x2 x3) P := by
  cases e with
  | none =>
    obtain ⟨b, h1, h2⟩ := h
    cases h1
  | some a => exact ⟨a.1, a.2.1, a.2.2.1, a.2.2.2, rfl, h⟩
theorem sat_cu3 {A1 A2 A3 : Type} {β : Type} {e : Option (Mm × A1 × A2 × A3)} {f : Mm → A1 → A2 → A3 → Option β} {P : β → Prop} {G : Mm → A1 → A2 → A3 → Prop} (h : Sat (bn3 e f) P) (hj : ∀ (σ : Mm) (x1 : A1) (x2 : A2) (x3 : A3), Sat (f σ x1 x2 x3) P → G σ x1 x2 x3) : Sat e (fun a => G a.1 a.2.1 a.2.2.1 a.2.2.2) := by
  cases e with
  | none =>
    obtain ⟨b, h1, h2⟩ := h
    cases h1
  | some a => exact ⟨a, rfl, hj _ _ _ _ h⟩
def lq3 {A1 A2 A3 : Type} {β : Type} (st : Mm → A1 → A2 → A3 → Option ((Mm × A1 × A2 × A3) ⊕ β)) : Nat → Mm → A1 → A2 → A3 → Option β
  | 0, _, _, _, _ => none
  | n + 1, σ, x1, x2, x3 => match st σ x1 x2 x3 with
    | none => none
    | some (.inl a) => lq3 st n a.1 a.2.1 a.2.2.1 a.2.2.2
    | some (.inr r) => some r
theorem lqr3 {A1 A2 A3 : Type} {β : Type} {st : Mm → A1 → A2 → A3 → Option ((Mm × A1 × A2 × A3) ⊕ β)} {Gh : Mm → A1 → A2 → A3 → Prop} {Gx : β → Prop} (hb : ∀ (σ : Mm) (x1 : A1) (x2 : A2) (x3 : A3), Sat (st σ x1 x2 x3) (Sum.elim (fun a => Gh a.1 a.2.1 a.2.2.1 a.2.2.2) Gx) → Gh σ x1 x2 x3) : ∀ (n : Nat) (σ : Mm) (x1 : A1) (x2 : A2) (x3 : A3), Sat (lq3 st n σ x1 x2 x3) Gx → Gh σ x1 x2 x3 := by
  intro n
  induction n with
  | zero =>
    intro σ x1 x2 x3 h
    obtain ⟨b, h1, h2⟩ := h
    cases h1
  | succ n ih =>
    intro σ x1 x2 x3 h
    refine hb σ x1 x2 x3 ?_
    obtain ⟨b, h1, h2⟩ := h
    simp only [lq3] at h1
    cases hs : st σ x1 x2 x3 with
    | none =>
      rw [hs] at h1
      cases h1
    | some v =>
      rw [hs] at h1
      cases v with
      | inl a => exact ⟨_, rfl, ih a.1 a.2.1 a.2.2.1 a.2.2.2 ⟨b, h1, h2⟩⟩
      | inr r =>
        cases h1
        exact ⟨_, rfl, h2⟩
theorem lqm3 {A1 A2 A3 : Type} {β : Type} {st : Mm → A1 → A2 → A3 → Option ((Mm × A1 × A2 × A3) ⊕ β)} {r : β} : ∀ (n m : Nat) (σ : Mm) (x1 : A1) (x2 : A2) (x3 : A3), n ≤ m → lq3 st n σ x1 x2 x3 = some r → lq3 st m σ x1 x2 x3 = some r := by
  intro n
  induction n with
  | zero =>
    intro m σ x1 x2 x3 h h1
    cases h1
  | succ n ih =>
    intro m σ x1 x2 x3 h h1
    obtain ⟨m, rfl⟩ : ∃ j, m = j + 1 := ⟨m - 1, by omega⟩
    simp only [lq3] at h1 ⊢
    cases hs : st σ x1 x2 x3 with
    | none =>
      rw [hs] at h1
      cases h1
    | some v =>
      rw [hs] at h1
      cases v with
      | inl a => exact ih m a.1 a.2.1 a.2.2.1 a.2.2.2 (by omega) h1
      | inr r => exact h1
def bn4 {A1 A2 A3 A4 : Type} {β : Type} (e : Option (Mm × A1 × A2 × A3 × A4)) (f : Mm → A1 → A2 → A3 → A4 → Option β) : Option β := match e with
  | none => none
  | some a => f a.1 a.2.1 a.2.2.1 a.2.2.2.1 a.2.2.2.2
theorem sat_ca4 {A1 A2 A3 A4 : Type} {β : Type} {e : Option (Mm × A1 × A2 × A3 × A4)} {f : Mm → A1 → A2 → A3 → A4 → Option β} {P : β → Prop} (h : Sat (bn4 e f) P) : ∃ (σ : Mm) (x1 : A1) (x2 : A2) (x3 : A3) (x4 : A4), e = some (σ, x1, x2, x3, x4) ∧ Sat (f σ x1 x2 x3 x4) P := by
  cases e with
  | none =>
    obtain ⟨b, h1, h2⟩ := h
    cases h1
  | some a => exact ⟨a.1, a.2.1, a.2.2.1, a.2.2.2.1, a.2.2.2.2, rfl, h⟩
theorem sat_cu4 {A1 A2 A3 A4 : Type} {β : Type} {e : Option (Mm × A1 × A2 × A3 × A4)} {f : Mm → A1 → A2 → A3 → A4 → Option β} {P : β → Prop} {G : Mm → A1 → A2 → A3 → A4 → Prop} (h : Sat (bn4 e f) P) (hj : ∀ (σ : Mm) (x1 : A1) (x2 : A2) (x3 : A3) (x4 : A4), Sat (f σ x1 x2 x3 x4) P → G σ x1 x2 x3 x4) : Sat e (fun a => G a.1 a.2.1 a.2.2.1 a.2.2.2.1 a.2.2.2.2) := by
  cases e with
  | none =>
    obtain ⟨b, h1, h2⟩ := h
    cases h1
  | some a => exact ⟨a, rfl, hj _ _ _ _ _ h⟩
def lq4 {A1 A2 A3 A4 : Type} {β : Type} (st : Mm → A1 → A2 → A3 → A4 → Option ((Mm × A1 × A2 × A3 × A4) ⊕ β)) : Nat → Mm → A1 → A2 → A3 → A4 → Option β
  | 0, _, _, _, _, _ => none
  | n + 1, σ, x1, x2, x3, x4 => match st σ x1 x2 x3 x4 with
    | none => none
    | some (.inl a) => lq4 st n a.1 a.2.1 a.2.2.1 a.2.2.2.1 a.2.2.2.2
    | some (.inr r) => some r
theorem lqr4 {A1 A2 A3 A4 : Type} {β : Type} {st : Mm → A1 → A2 → A3 → A4 → Option ((Mm × A1 × A2 × A3 × A4) ⊕ β)} {Gh : Mm → A1 → A2 → A3 → A4 → Prop} {Gx : β → Prop} (hb : ∀ (σ : Mm) (x1 : A1) (x2 : A2) (x3 : A3) (x4 : A4), Sat (st σ x1 x2 x3 x4) (Sum.elim (fun a => Gh a.1 a.2.1 a.2.2.1 a.2.2.2.1 a.2.2.2.2) Gx) → Gh σ x1 x2 x3 x4) : ∀ (n : Nat) (σ : Mm) (x1 : A1) (x2 : A2) (x3 : A3) (x4 : A4), Sat (lq4 st n σ x1 x2 x3 x4) Gx → Gh σ x1 x2 x3 x4 := by
  intro n
  induction n with
  | zero =>
    intro σ x1 x2 x3 x4 h
    obtain ⟨b, h1, h2⟩ := h
    cases h1
  | succ n ih =>
    intro σ x1 x2 x3 x4 h
    refine hb σ x1 x2 x3 x4 ?_
    obtain ⟨b, h1, h2⟩ := h
    simp only [lq4] at h1
    cases hs : st σ x1 x2 x3 x4 with
    | none =>
      rw [hs] at h1
      cases h1
    | some v =>
      rw [hs] at h1
      cases v with
      | inl a => exact ⟨_, rfl, ih a.1 a.2.1 a.2.2.1 a.2.2.2.1 a.2.2.2.2 ⟨b, h1, h2⟩⟩
      | inr r =>
        cases h1
        exact ⟨_, rfl, h2⟩
theorem lqm4 {A1 A2 A3 A4 : Type} {β : Type} {st : Mm → A1 → A2 → A3 → A4 → Option ((Mm × A1 × A2 × A3 × A4) ⊕ β)} {r : β} : ∀ (n m : Nat) (σ : Mm) (x1 : A1) (x2 : A2) (x3 : A3) (x4 : A4), n ≤ m → lq4 st n σ x1 x2 x3 x4 = some r → lq4 st m σ x1 x2 x3 x4 = some r := by
  intro n
  induction n with
  | zero =>
    intro m σ x1 x2 x3 x4 h h1
    cases h1
  | succ n ih =>
    intro m σ x1 x2 x3 x4 h h1
    obtain ⟨m, rfl⟩ : ∃ j, m = j + 1 := ⟨m - 1, by omega⟩
    simp only [lq4] at h1 ⊢
    cases hs : st σ x1 x2 x3 x4 with
    | none =>
      rw [hs] at h1
      cases h1
    | some v =>
      rw [hs] at h1
      cases v with
      | inl a => exact ih m a.1 a.2.1 a.2.2.1 a.2.2.2.1 a.2.2.2.2 (by omega) h1
      | inr r => exact h1
def bn5 {A1 A2 A3 A4 A5 : Type} {β : Type} (e : Option (Mm × A1 × A2 × A3 × A4 × A5)) (f : Mm → A1 → A2 → A3 → A4 → A5 → Option β) : Option β := match e with
  | none => none
  | some a => f a.1 a.2.1 a.2.2.1 a.2.2.2.1 a.2.2.2.2.1 a.2.2.2.2.2
theorem sat_ca5 {A1 A2 A3 A4 A5 : Type} {β : Type} {e : Option (Mm × A1 × A2 × A3 × A4 × A5)} {f : Mm → A1 → A2 → A3 → A4 → A5 → Option β} {P : β → Prop} (h : Sat (bn5 e f) P) : ∃ (σ : Mm) (x1 : A1) (x2 : A2) (x3 : A3) (x4 : A4) (x5 : A5), e = some (σ, x1, x2, x3, x4, x5) ∧ Sat (f σ x1 x2 x3 x4 x5) P := by
  cases e with
  | none =>
    obtain ⟨b, h1, h2⟩ := h
    cases h1
  | some a => exact ⟨a.1, a.2.1, a.2.2.1, a.2.2.2.1, a.2.2.2.2.1, a.2.2.2.2.2, rfl, h⟩
theorem sat_cu5 {A1 A2 A3 A4 A5 : Type} {β : Type} {e : Option (Mm × A1 × A2 × A3 × A4 × A5)} {f : Mm → A1 → A2 → A3 → A4 → A5 → Option β} {P : β → Prop} {G : Mm → A1 → A2 → A3 → A4 → A5 → Prop} (h : Sat (bn5 e f) P) (hj : ∀ (σ : Mm) (x1 : A1) (x2 : A2) (x3 : A3) (x4 : A4) (x5 : A5), Sat (f σ x1 x2 x3 x4 x5) P → G σ x1 x2 x3 x4 x5) : Sat e (fun a => G a.1 a.2.1 a.2.2.1 a.2.2.2.1 a.2.2.2.2.1 a.2.2.2.2.2) := by
  cases e with
  | none =>
    obtain ⟨b, h1, h2⟩ := h
    cases h1
  | some a => exact ⟨a, rfl, hj _ _ _ _ _ _ h⟩
def lq5 {A1 A2 A3 A4 A5 : Type} {β : Type} (st : Mm → A1 → A2 → A3 → A4 → A5 → Option ((Mm × A1 × A2 × A3 × A4 × A5) ⊕ β)) : Nat → Mm → A1 → A2 → A3 → A4 → A5 → Option β
  | 0, _, _, _, _, _, _ => none
  | n + 1, σ, x1, x2, x3, x4, x5 => match st σ x1 x2 x3 x4 x5 with
    | none => none
    | some (.inl a) => lq5 st n a.1 a.2.1 a.2.2.1 a.2.2.2.1 a.2.2.2.2.1 a.2.2.2.2.2
    | some (.inr r) => some r
theorem lqr5 {A1 A2 A3 A4 A5 : Type} {β : Type} {st : Mm → A1 → A2 → A3 → A4 → A5 → Option ((Mm × A1 × A2 × A3 × A4 × A5) ⊕ β)} {Gh : Mm → A1 → A2 → A3 → A4 → A5 → Prop} {Gx : β → Prop} (hb : ∀ (σ : Mm) (x1 : A1) (x2 : A2) (x3 : A3) (x4 : A4) (x5 : A5), Sat (st σ x1 x2 x3 x4 x5) (Sum.elim (fun a => Gh a.1 a.2.1 a.2.2.1 a.2.2.2.1 a.2.2.2.2.1 a.2.2.2.2.2) Gx) → Gh σ x1 x2 x3 x4 x5) : ∀ (n : Nat) (σ : Mm) (x1 : A1) (x2 : A2) (x3 : A3) (x4 : A4) (x5 : A5), Sat (lq5 st n σ x1 x2 x3 x4 x5) Gx → Gh σ x1 x2 x3 x4 x5 := by
  intro n
  induction n with
  | zero =>
    intro σ x1 x2 x3 x4 x5 h
    obtain ⟨b, h1, h2⟩ := h
    cases h1
  | succ n ih =>
    intro σ x1 x2 x3 x4 x5 h
    refine hb σ x1 x2 x3 x4 x5 ?_
    obtain ⟨b, h1, h2⟩ := h
    simp only [lq5] at h1
    cases hs : st σ x1 x2 x3 x4 x5 with
    | none =>
      rw [hs] at h1
      cases h1
    | some v =>
      rw [hs] at h1
      cases v with
      | inl a => exact ⟨_, rfl, ih a.1 a.2.1 a.2.2.1 a.2.2.2.1 a.2.2.2.2.1 a.2.2.2.2.2 ⟨b, h1, h2⟩⟩
      | inr r =>
        cases h1
        exact ⟨_, rfl, h2⟩
theorem lqm5 {A1 A2 A3 A4 A5 : Type} {β : Type} {st : Mm → A1 → A2 → A3 → A4 → A5 → Option ((Mm × A1 × A2 × A3 × A4 × A5) ⊕ β)} {r : β} : ∀ (n m : Nat) (σ : Mm) (x1 : A1) (x2 : A2) (x3 : A3) (x4 : A4) (x5 : A5), n ≤ m → lq5 st n σ x1 x2 x3 x4 x5 = some r → lq5 st m σ x1 x2 x3 x4 x5 = some r := by
  intro n
  induction n with
  | zero =>
    intro m σ x1 x2 x3 x4 x5 h h1
    cases h1
  | succ n ih =>
    intro m σ x1 x2 x3 x4 x5 h h1
    obtain ⟨m, rfl⟩ : ∃ j, m = j + 1 := ⟨m - 1, by omega⟩
    simp only [lq5] at h1 ⊢
    cases hs : st σ x1 x2 x3 x4 x5 with
    | none =>
      rw [hs] at h1
      cases h1
    | some v =>
      rw [hs] at h1
      cases v with
      | inl a => exact ih m a.1 a.2.1 a.2.2.1 a.2.2.2.1 a.2.2.2.2.1 a.2.2.2.2.2 (by omega) h1
      | inr r => exact h1
def bn6 {A1 A2 A3 A4 A5 A6 : Type} {β : Type} (e : Option (Mm × A1 × A2 × A3 × A4 × A5 × A6)) (f : Mm → A1 → A2 → A3 → A4 → A5 → A6 → Option β) : Option β := match e with
  | none => none
  | some a => f a.1 a.2.1 a.2.2.1 a.2.2.2.1 a.2.2.2.2.1 a.2.2.2.2.2.1 a.2.2.2.2.2.2
theorem sat_ca6 {A1 A2 A3 A4 A5 A6 : Type} {β : Type} {e : Option (Mm × A1 × A2 × A3 × A4 × A5 × A6)} {f : Mm → A1 → A2 → A3 → A4 → A5 → A6 → Option β} {P : β → Prop} (h : Sat (bn6 e f) P) : ∃ (σ : Mm) (x1 : A1) (x2 : A2) (x3 : A3) (x4 : A4) (x5 : A5) (x6 : A6), e = some (σ, x1, x2, x3, x4, x5, x6) ∧ Sat (f σ x1 x2 x3 x4 x5 x6) P := by
  cases e with
  | none =>
    obtain ⟨b, h1, h2⟩ := h
    cases h1
  | some a => exact ⟨a.1, a.2.1, a.2.2.1, a.2.2.2.1, a.2.2.2.2.1, a.2.2.2.2.2.1, a.2.2.2.2.2.2, rfl, h⟩
theorem sat_cu6 {A1 A2 A3 A4 A5 A6 : Type} {β : Type} {e : Option (Mm × A1 × A2 × A3 × A4 × A5 × A6)} {f : Mm → A1 → A2 → A3 → A4 → A5 → A6 → Option β} {P : β → Prop} {G : Mm → A1 → A2 → A3 → A4 → A5 → A6 → Prop} (h : Sat (bn6 e f) P) (hj : ∀ (σ : Mm) (x1 : A1) (x2 : A2) (x3 : A3) (x4 : A4) (x5 : A5) (x6 : A6), Sat (f σ x1 x2 x3 x4 x5 x6) P → G σ x1 x2 x3 x4 x5 x6) : Sat e (fun a => G a.1 a.2.1 a.2.2.1 a.2.2.2.1 a.2.2.2.2.1 a.2.2.2.2.2.1 a.2.2.2.2.2.2) := by
  cases e with
  | none =>
    obtain ⟨b, h1, h2⟩ := h
    cases h1
  | some a => exact ⟨a, rfl, hj _ _ _ _ _ _ _ h⟩
def lq6 {A1 A2 A3 A4 A5 A6 : Type} {β : Type} (st : Mm → A1 → A2 → A3 → A4 → A5 → A6 → Option ((Mm × A1 × A2 × A3 × A4 × A5 × A6) ⊕ β)) : Nat → Mm → A1 → A2 → A3 → A4 → A5 → A6 → Option β
  | 0, _, _, _, _, _, _, _ => none
  | n + 1, σ, x1, x2, x3, x4, x5, x6 => match st σ x1 x2 x3 x4 x5 x6 with
    | none => none
    | some (.inl a) => lq6 st n a.1 a.2.1 a.2.2.1 a.2.2.2.1 a.2.2.2.2.1 a.2.2.2.2.2.1 a.2.2.2.2.2.2
    | some (.inr r) => some r
theorem lqr6 {A1 A2 A3 A4 A5 A6 : Type} {β : Type} {st : Mm → A1 → A2 → A3 → A4 → A5 → A6 → Option ((Mm × A1 × A2 × A3 × A4 × A5 × A6) ⊕ β)} {Gh : Mm → A1 → A2 → A3 → A4 → A5 → A6 → Prop} {Gx : β → Prop} (hb : ∀ (σ : Mm) (x1 : A1) (x2 : A2) (x3 : A3) (x4 : A4) (x5 : A5) (x6 : A6), Sat (st σ x1 x2 x3 x4 x5 x6) (Sum.elim (fun a => Gh a.1 a.2.1 a.2.2.1 a.2.2.2.1 a.2.2.2.2.1 a.2.2.2.2.2.1 a.2.2.2.2.2.2) Gx) → Gh σ x1 x2 x3 x4 x5 x6) : ∀ (n : Nat) (σ : Mm) (x1 : A1) (x2 : A2) (x3 : A3) (x4 : A4) (x5 : A5) (x6 : A6), Sat (lq6 st n σ x1 x2 x3 x4 x5 x6) Gx → Gh σ x1 x2 x3 x4 x5 x6 := by
  intro n
  induction n with
  | zero =>
    intro σ x1 x2 x3 x4 x5 x6 h
    obtain ⟨b, h1, h2⟩ := h
    cases h1
  | succ n ih =>
    intro σ x1 x2 x3 x4 x5 x6 h
    refine hb σ x1 x2 x3 x4 x5 x6 ?_
    obtain ⟨b, h1, h2⟩ := h
    simp only [lq6] at h1
    cases hs : st σ x1 x2 x3 x4 x5 x6 with
    | none =>
      rw [hs] at h1
      cases h1
    | some v =>
      rw [hs] at h1
      cases v with
      | inl a => exact ⟨_, rfl, ih a.1 a.2.1 a.2.2.1 a.2.2.2.1 a.2.2.2.2.1 a.2.2.2.2.2.1 a.2.2.2.2.2.2 ⟨b, h1, h2⟩⟩
      | inr r =>
        cases h1
        exact ⟨_, rfl, h2⟩
theorem lqm6 {A1 A2 A3 A4 A5 A6 : Type} {β : Type} {st : Mm → A1 → A2 → A3 → A4 → A5 → A6 → Option ((Mm × A1 × A2 × A3 × A4 × A5 × A6) ⊕ β)} {r : β} : ∀ (n m : Nat) (σ : Mm) (x1 : A1) (x2 : A2) (x3 : A3) (x4 : A4) (x5 : A5) (x6 : A6), n ≤ m → lq6 st n σ x1 x2 x3 x4 x5 x6 = some r → lq6 st m σ x1 x2 x3 x4 x5 x6 = some r := by
  intro n
  induction n with
  | zero =>
    intro m σ x1 x2 x3 x4 x5 x6 h h1
    cases h1
  | succ n ih =>
    intro m σ x1 x2 x3 x4 x5 x6 h h1
    obtain ⟨m, rfl⟩ : ∃ j, m = j + 1 := ⟨m - 1, by omega⟩
    simp only [lq6] at h1 ⊢
    cases hs : st σ x1 x2 x3 x4 x5 x6 with
    | none =>
      rw [hs] at h1
      cases h1
    | some v =>
      rw [hs] at h1
      cases v with
      | inl a => exact ih m a.1 a.2.1 a.2.2.1 a.2.2.2.1 a.2.2.2.2.1 a.2.2.2.2.2.1 a.2.2.2.2.2.2 (by omega) h1
      | inr r => exact h1
def bn7 {A1 A2 A3 A4 A5 A6 A7 : Type} {β : Type} (e : Option (Mm × A1 × A2 × A3 × A4 × A5 × A6 × A7)) (f : Mm → A1 → A2 → A3 → A4 → A5 → A6 → A7 → Option β) : Option β := match e with
  | none => none
  | some a => f a.1 a.2.1 a.2.2.1 a.2.2.2.1 a.2.2.2.2.1 a.2.2.2.2.2.1 a.2.2.2.2.2.2.1 a.2.2.2.2.2.2.2
theorem sat_ca7 {A1 A2 A3 A4 A5 A6 A7 : Type} {β : Type} {e : Option (Mm × A1 × A2 × A3 × A4 × A5 × A6 × A7)} {f : Mm → A1 → A2 → A3 → A4 → A5 → A6 → A7 → Option β} {P : β → Prop} (h : Sat (bn7 e f) P) : ∃ (σ : Mm) (x1 : A1) (x2 : A2) (x3 : A3) (x4 : A4) (x5 : A5) (x6 : A6) (x7 : A7), e = some (σ, x1, x2, x3, x4, x5, x6, x7) ∧ Sat (f σ x1 x2 x3 x4 x5 x6 x7) P := by
  cases e with
  | none =>
    obtain ⟨b, h1, h2⟩ := h
    cases h1
  | some a => exact ⟨a.1, a.2.1, a.2.2.1, a.2.2.2.1, a.2.2.2.2.1, a.2.2.2.2.2.1, a.2.2.2.2.2.2.1, a.2.2.2.2.2.2.2, rfl, h⟩
theorem sat_cu7 {A1 A2 A3 A4 A5 A6 A7 : Type} {β : Type} {e : Option (Mm × A1 × A2 × A3 × A4 × A5 × A6 × A7)} {f : Mm → A1 → A2 → A3 → A4 → A5 → A6 → A7 → Option β} {P : β → Prop} {G : Mm → A1 → A2 → A3 → A4 → A5 → A6 → A7 → Prop} (h : Sat (bn7 e f) P) (hj : ∀ (σ : Mm) (x1 : A1) (x2 : A2) (x3 : A3) (x4 : A4) (x5 : A5) (x6 : A6) (x7 : A7), Sat (f σ x1 x2 x3 x4 x5 x6 x7) P → G σ x1 x2 x3 x4 x5 x6 x7) : Sat e (fun a => G a.1 a.2.1 a.2.2.1 a.2.2.2.1 a.2.2.2.2.1 a.2.2.2.2.2.1 a.2.2.2.2.2.2.1 a.2.2.2.2.2.2.2) := by
  cases e with
  | none =>
    obtain ⟨b, h1, h2⟩ := h
    cases h1
  | some a => exact ⟨a, rfl, hj _ _ _ _ _ _ _ _ h⟩
def lq7 {A1 A2 A3 A4 A5 A6 A7 : Type} {β : Type} (st : Mm → A1 → A2 → A3 → A4 → A5 → A6 → A7 → Option ((Mm × A1 × A2 × A3 × A4 × A5 × A6 × A7) ⊕ β)) : Nat → Mm → A1 → A2 → A3 → A4 → A5 → A6 → A7 → Option β
  | 0, _, _, _, _, _, _, _, _ => none
  | n + 1, σ, x1, x2, x3, x4, x5, x6, x7 => match st σ x1 x2 x3 x4 x5 x6 x7 with
    | none => none
    | some (.inl a) => lq7 st n a.1 a.2.1 a.2.2.1 a.2.2.2.1 a.2.2.2.2.1 a.2.2.2.2.2.1 a.2.2.2.2.2.2.1 a.2.2.2.2.2.2.2
    | some (.inr r) => some r
theorem lqr7 {A1 A2 A3 A4 A5 A6 A7 : Type} {β : Type} {st : Mm → A1 → A2 → A3 → A4 → A5 → A6 → A7 → Option ((Mm × A1 × A2 × A3 × A4 × A5 × A6 × A7) ⊕ β)} {Gh : Mm → A1 → A2 → A3 → A4 → A5 → A6 → A7 → Prop} {Gx : β → Prop} (hb : ∀ (σ : Mm) (x1 : A1) (x2 : A2) (x3 : A3) (x4 : A4) (x5 : A5) (x6 : A6) (x7 : A7), Sat (st σ x1 x2 x3 x4 x5 x6 x7) (Sum.elim (fun a => Gh a.1 a.2.1 a.2.2.1 a.2.2.2.1 a.2.2.2.2.1 a.2.2.2.2.2.1 a.2.2.2.2.2.2.1 a.2.2.2.2.2.2.2) Gx) → Gh σ x1 x2 x3 x4 x5 x6 x7) : ∀ (n : Nat) (σ : Mm) (x1 : A1) (x2 : A2) (x3 : A3) (x4 : A4) (x5 : A5) (x6 : A6) (x7 : A7), Sat (lq7 st n σ x1 x2 x3 x4 x5 x6 x7) Gx → Gh σ x1 x2 x3 x4 x5 x6 x7 := by
  intro n
  induction n with
  | zero =>
    intro σ x1 x2 x3 x4 x5 x6 x7 h
    obtain ⟨b, h1, h2⟩ := h
    cases h1
  | succ n ih =>
    intro σ x1 x2 x3 x4 x5 x6 x7 h
    refine hb σ x1 x2 x3 x4 x5 x6 x7 ?_
    obtain ⟨b, h1, h2⟩ := h
    simp only [lq7] at h1
    cases hs : st σ x1 x2 x3 x4 x5 x6 x7 with
    | none =>
      rw [hs] at h1
      cases h1
    | some v =>
      rw [hs] at h1
      cases v with
      | inl a => exact ⟨_, rfl, ih a.1 a.2.1 a.2.2.1 a.2.2.2.1 a.2.2.2.2.1 a.2.2.2.2.2.1 a.2.2.2.2.2.2.1 a.2.2.2.2.2.2.2 ⟨b, h1, h2⟩⟩
      | inr r =>
        cases h1
        exact ⟨_, rfl, h2⟩
theorem lqm7 {A1 A2 A3 A4 A5 A6 A7 : Type} {β : Type} {st : Mm → A1 → A2 → A3 → A4 → A5 → A6 → A7 → Option ((Mm × A1 × A2 × A3 × A4 × A5 × A6 × A7) ⊕ β)} {r : β} : ∀ (n m : Nat) (σ : Mm) (x1 : A1) (x2 : A2) (x3 : A3) (x4 : A4) (x5 : A5) (x6 : A6) (x7 : A7), n ≤ m → lq7 st n σ x1 x2 x3 x4 x5 x6 x7 = some r → lq7 st m σ x1 x2 x3 x4 x5 x6 x7 = some r := by
  intro n
  induction n with
  | zero =>
    intro m σ x1 x2 x3 x4 x5 x6 x7 h h1
    cases h1
  | succ n ih =>
    intro m σ x1 x2 x3 x4 x5 x6 x7 h h1
    obtain ⟨m, rfl⟩ : ∃ j, m = j + 1 := ⟨m - 1, by omega⟩
    simp only [lq7] at h1 ⊢
    cases hs : st σ x1 x2 x3 x4 x5 x6 x7 with
    | none =>
      rw [hs] at h1
      cases h1
    | some v =>
      rw [hs] at h1
      cases v with
      | inl a => exact ih m a.1 a.2.1 a.2.2.1 a.2.2.2.1 a.2.2.2.2.1 a.2.2.2.2.2.1 a.2.2.2.2.2.2.1 a.2.2.2.2.2.2.2 (by omega) h1
      | inr r => exact h1
end
section
abbrev Kx : Type := Program × Launch × Env × Room × State × MethodId × Array Value × List Frame × Method × Code × (State → Prop) × va_G × List (ClassId × FieldType) × (Nat → Prop) × Nat × (Option Value → Mm → Prop) × (Mm → va_W) × (Nat → Nat) × ClassId × ClassId × ClassId × ((Nat → Prop) → State → Heap → Prop)
abbrev kp (K : Kx) : Program := K.1
abbrev kl (K : Kx) : Launch := K.2.1
abbrev ke (K : Kx) : Env := K.2.2.1
abbrev kR (K : Kx) : Room := K.2.2.2.1
abbrev ks (K : Kx) : State := K.2.2.2.2.1
abbrev km (K : Kx) : MethodId := K.2.2.2.2.2.1
abbrev kargs (K : Kx) : Array Value := K.2.2.2.2.2.2.1
abbrev kbel (K : Kx) : List Frame := K.2.2.2.2.2.2.2.1
abbrev kmeth (K : Kx) : Method := K.2.2.2.2.2.2.2.2.1
abbrev kc (K : Kx) : Code := K.2.2.2.2.2.2.2.2.2.1
abbrev kQ (K : Kx) : State → Prop := K.2.2.2.2.2.2.2.2.2.2.1
abbrev kD (K : Kx) : va_G := K.2.2.2.2.2.2.2.2.2.2.2.1
abbrev ktys (K : Kx) : List (ClassId × FieldType) := K.2.2.2.2.2.2.2.2.2.2.2.2.1
abbrev kA (K : Kx) : Nat → Prop := K.2.2.2.2.2.2.2.2.2.2.2.2.2.1
abbrev knL (K : Kx) : Nat := K.2.2.2.2.2.2.2.2.2.2.2.2.2.2.1
abbrev kRt (K : Kx) : Option Value → Mm → Prop := K.2.2.2.2.2.2.2.2.2.2.2.2.2.2.2.1
abbrev kwf (K : Kx) : Mm → va_W := K.2.2.2.2.2.2.2.2.2.2.2.2.2.2.2.2.1
abbrev kAd (K : Kx) : Nat → Nat := K.2.2.2.2.2.2.2.2.2.2.2.2.2.2.2.2.2.1
abbrev kcI (K : Kx) : ClassId := K.2.2.2.2.2.2.2.2.2.2.2.2.2.2.2.2.2.2.1
abbrev kcP (K : Kx) : ClassId := K.2.2.2.2.2.2.2.2.2.2.2.2.2.2.2.2.2.2.2.1
abbrev kcII (K : Kx) : ClassId := K.2.2.2.2.2.2.2.2.2.2.2.2.2.2.2.2.2.2.2.2.1
abbrev kSt (K : Kx) : (Nat → Prop) → State → Heap → Prop := K.2.2.2.2.2.2.2.2.2.2.2.2.2.2.2.2.2.2.2.2.2
/-- the words that every method is given: those of the tables that a call keeps -/
def TBg : List Cond := lw_tbl.filter goodWord
def rmd (d : Nat) : Room := { frames := d, cells := 0, slots := 0, locals := 36 * d }
/-- at this place, with this memory, these locals and this stack, the machine comes to the method's end -/
def Gj (K : Kx) (σ : Mm) (pc : Nat) (lv : List (Nat × Value)) (st : List Value) : Prop :=
  ∀ (H : Heap) (locs : List Loc) (ls : Array Slot), va_P (kD K) cls5 (kwf K σ) H → va_S (kA K) (ks K).heap H locs → lv_has ls (knL K) lv →
    W (kp K) (kl K) (ke K) (kR K) (ks K) (km K) (kargs K) (kbel K) (kmeth K) (kc K) H locs 0 0 (kQ K) (F0 (km K) pc ls st)
/-- what a fact of statics must bear -/
def StOK (St : (Nat → Prop) → State → Heap → Prop) : Prop :=
  (∀ (A : Nat → Prop) (u U : State) (H : Heap), u.vm = U.vm → St A u H → St A U H) ∧ (∀ (A : Nat → Prop) (u U : State) (H : Heap), u.WarmedH U.vm → St A u H → St A U H) ∧
  (∀ (A : Nat → Prop) (U : State) (H H1 : Heap), (∀ a : Nat, a < H.size → ¬ A a → H1[a]? = H[a]?) → St A U H → St A U H1) ∧ (∀ (A B : Nat → Prop) (U : State) (H : Heap), (∀ q, B q → A q) → St A U H → St B U H)
/-- addresses don't hang on the memory -/
def WfOK (wf : Mm → va_W) : Prop := (∀ (A : Nat → Prop) (σ τ : Mm), va_D A (wf σ) → va_D A (wf τ)) ∧ ∀ (σ τ : Mm) (sz q : Nat), va_A (wf σ) sz q → va_A (wf τ) sz q
def RetI (K : Kx) (cc : ByteArray) (rty : Option FieldType) : Prop := ∀ (v : Int32) (τ : Mm) (H : Heap) (locs : List Loc) (ls : Array Slot) (pc : Nat) (ty : FieldType), rty = some ty → narrow ty (.int v) = .int v → kRt K (some (.int v)) τ → va_P (kD K) cls5 (kwf K τ) H → va_S (kA K) (ks K).heap H locs → decode cc pc = .ok (.ireturn, 1) →
    W (kp K) (kl K) (ke K) (kR K) (ks K) (km K) (kargs K) (kbel K) (kmeth K) (kc K) H locs 0 0 (kQ K) (F0 (km K) pc ls [.int v])
def RetV (K : Kx) (cc : ByteArray) (rty : Option FieldType) : Prop := ∀ (τ : Mm) (H : Heap) (locs : List Loc) (ls : Array Slot) (pc : Nat), rty = none → kRt K none τ → va_P (kD K) cls5 (kwf K τ) H → va_S (kA K) (ks K).heap H locs → decode cc pc = .ok (.return_, 1) →
    W (kp K) (kl K) (ke K) (kR K) (ks K) (km K) (kargs K) (kbel K) (kmeth K) (kc K) H locs 0 0 (kQ K) (F0 (km K) pc ls [])
def RetA (K : Kx) (cc : ByteArray) (rty : Option FieldType) : Prop := ∀ (o : Option Nat) (τ : Mm) (H : Heap) (locs : List Loc) (ls : Array Slot) (pc : Nat) (n : String), rty = some (.object n) → kRt K (some (va_rf o)) τ → va_P (kD K) cls5 (kwf K τ) H → va_S (kA K) (ks K).heap H locs → decode cc pc = .ok (.areturn, 1) →
    W (kp K) (kl K) (ke K) (kR K) (ks K) (km K) (kargs K) (kbel K) (kmeth K) (kc K) H locs 0 0 (kQ K) (F0 (km K) pc ls [va_rf o])
/-- what a walk is given -/
def Cx (K : Kx) (cc : ByteArray) (own : String) (nL d : Nat) (rty : Option FieldType) : Prop :=
  (kp K).tables.exec = Jvm.exec ∧ (kc K).code = cc ∧ (kc K).maxLocals = nL ∧ knL K = nL ∧ (ks K).vm.findClass own = some (km K).cls ∧ (∀ w ∈ TBg, w.before (kargs K) (ks K) = true) ∧ va_K (kD K) cls5 (ktys K) (ks K) ∧
  (∀ σ, va_D (kA K) (kwf K σ)) ∧ (∀ q, (ks K).heap.size ≤ q → kA K q) ∧ (ktys K)[0]? = some (kcI K, .int) ∧ kR K = rmd d ∧ kSt K (kA K) (ks K) (ks K).heap ∧ StOK (kSt K) ∧ RetI K cc rty ∧ RetV K cc rty ∧ RetA K cc rty
section FW
variable {K : Kx} {cc : ByteArray} {own : String} {nL d : Nat} {rty : Option FieldType} {σ : Mm} {pc : Nat} {lv lv' : List (Nat × Value)} {st rest : List Value}
theorem cx_x (C : Cx K cc own nL d rty) : (kp K).tables.exec = Jvm.exec := C.1
theorem cx_b (C : Cx K cc own nL d rty) : (kc K).code = cc := C.2.1
theorem cx_ml (C : Cx K cc own nL d rty) : (kc K).maxLocals = nL := C.2.2.1
theorem cx_nL (C : Cx K cc own nL d rty) : knL K = nL := C.2.2.2.1
theorem cx_own (C : Cx K cc own nL d rty) : (ks K).vm.findClass own = some (km K).cls := C.2.2.2.2.1
theorem cx_ts (C : Cx K cc own nL d rty) : ∀ w ∈ TBg, w.before (kargs K) (ks K) = true := C.2.2.2.2.2.1
theorem cx_K (C : Cx K cc own nL d rty) : va_K (kD K) cls5 (ktys K) (ks K) := C.2.2.2.2.2.2.1
theorem cx_D (C : Cx K cc own nL d rty) : ∀ σ, va_D (kA K) (kwf K σ) := C.2.2.2.2.2.2.2.1
theorem cx_A (C : Cx K cc own nL d rty) : ∀ q, (ks K).heap.size ≤ q → kA K q := C.2.2.2.2.2.2.2.2.1
theorem cx_ty (C : Cx K cc own nL d rty) : (ktys K)[0]? = some (kcI K, .int) := C.2.2.2.2.2.2.2.2.2.1
theorem cx_R (C : Cx K cc own nL d rty) : kR K = rmd d := C.2.2.2.2.2.2.2.2.2.2.1
theorem cx_S (C : Cx K cc own nL d rty) : kSt K (kA K) (ks K) (ks K).heap := C.2.2.2.2.2.2.2.2.2.2.2.1
theorem cx_SO (C : Cx K cc own nL d rty) : StOK (kSt K) := C.2.2.2.2.2.2.2.2.2.2.2.2.1
theorem cx_rI (C : Cx K cc own nL d rty) : RetI K cc rty := C.2.2.2.2.2.2.2.2.2.2.2.2.2.1
theorem cx_rV (C : Cx K cc own nL d rty) : RetV K cc rty := C.2.2.2.2.2.2.2.2.2.2.2.2.2.2.1
theorem cx_rA (C : Cx K cc own nL d rty) : RetA K cc rty := C.2.2.2.2.2.2.2.2.2.2.2.2.2.2.2
/-- fewer locals -/
theorem g_sub (k : Gj K σ pc lv' st) (ks9 : List Nat) (h : lv_pick lv ks9 = lv') : Gj K σ pc lv st := fun H locs ls hP hS hl => k H locs ls hP hS (lv_sub hl ks9 h)
theorem g_iconst (C : Cx K cc own nL d rty) {n : Int} {v : Int32} (hdg : decode cc pc = .ok (.iconst n, 1)) (hv : Int32.ofInt n = v) (k : Gj K σ (pc + 1) lv (.int v :: rest)) : Gj K σ pc lv rest := fun H locs ls hP hS hl => lv_iconst (cx_x C) (cx_b C) hdg hv (k H locs ls hP hS hl)
theorem g_bipush (C : Cx K cc own nL d rty) {n : Int} {v : Int32} (hdg : decode cc pc = .ok (.bipush n, 2)) (hv : (Int8.ofInt n).toInt32 = v) (k : Gj K σ (pc + 2) lv (.int v :: rest)) : Gj K σ pc lv rest := fun H locs ls hP hS hl => lv_bipush (cx_x C) (cx_b C) hdg hv (k H locs ls hP hS hl)
theorem g_sipush (C : Cx K cc own nL d rty) {n : Int} {v : Int32} (hdg : decode cc pc = .ok (.sipush n, 3)) (hv : (Int16.ofInt n).toInt32 = v) (k : Gj K σ (pc + 3) lv (.int v :: rest)) : Gj K σ pc lv rest := fun H locs ls hP hS hl => lv_sipush (cx_x C) (cx_b C) hdg hv (k H locs ls hP hS hl)
theorem g_ldc (C : Cx K cc own nL d rty) {index : Nat} {v : Int32} (hw : Cond.constant own index v ∈ TBg) (hdg : decode cc pc = .ok (.ldc index, 2)) (k : Gj K σ (pc + 2) lv (.int v :: rest)) : Gj K σ pc lv rest := fun H locs ls hP hS hl => lv_ldc (cx_x C) (cx_b C) (cx_own C) (cx_ts C _ hw) hdg (k H locs ls hP hS hl)
theorem g_null (C : Cx K cc own nL d rty) (hdg : decode cc pc = .ok (.aconst_null, 1)) (k : Gj K σ (pc + 1) lv (.null :: rest)) : Gj K σ pc lv rest := fun H locs ls hP hS hl => lv_null (cx_x C) (cx_b C) hdg (k H locs ls hP hS hl)
theorem g_iload_n (C : Cx K cc own nL d rty) {j : Fin 4} {i : Nat} {x : Int32} (hdg : decode cc pc = .ok (.iload_n j, 1)) (hi : (j : Nat) = i) (n : Nat) (hn : lv[n]? = some (i, .int x)) (k : Gj K σ (pc + 1) lv (.int x :: rest)) : Gj K σ pc lv rest := fun H locs ls hP hS hl => lv_iload_n (cx_x C) (cx_b C) hdg hi (lv_at hl n hn) (k H locs ls hP hS hl)
theorem g_iload (C : Cx K cc own nL d rty) {i : Nat} {x : Int32} (hdg : decode cc pc = .ok (.iload i, 2)) (n : Nat) (hn : lv[n]? = some (i, .int x)) (k : Gj K σ (pc + 2) lv (.int x :: rest)) : Gj K σ pc lv rest := fun H locs ls hP hS hl => lv_iload (cx_x C) (cx_b C) hdg (lv_at hl n hn) (k H locs ls hP hS hl)
theorem g_aload_n (C : Cx K cc own nL d rty) {j : Fin 4} {i : Nat} {x : Nat} (hdg : decode cc pc = .ok (.aload_n j, 1)) (hi : (j : Nat) = i) (n : Nat) (hn : lv[n]? = some (i, .ref x)) (k : Gj K σ (pc + 1) lv (.ref x :: rest)) : Gj K σ pc lv rest := fun H locs ls hP hS hl => lv_aload_n (cx_x C) (cx_b C) hdg hi (lv_at hl n hn) (k H locs ls hP hS hl)
theorem g_aload (C : Cx K cc own nL d rty) {i : Nat} {x : Nat} (hdg : decode cc pc = .ok (.aload i, 2)) (n : Nat) (hn : lv[n]? = some (i, .ref x)) (k : Gj K σ (pc + 2) lv (.ref x :: rest)) : Gj K σ pc lv rest := fun H locs ls hP hS hl => lv_aload (cx_x C) (cx_b C) hdg (lv_at hl n hn) (k H locs ls hP hS hl)
theorem g_aload_nN (C : Cx K cc own nL d rty) {j : Fin 4} {i : Nat} (hdg : decode cc pc = .ok (.aload_n j, 1)) (hi : (j : Nat) = i) (n : Nat) (hn : lv[n]? = some (i, .null)) (k : Gj K σ (pc + 1) lv (.null :: rest)) : Gj K σ pc lv rest := fun H locs ls hP hS hl => lv_aload_nN (cx_x C) (cx_b C) hdg hi (lv_at hl n hn) (k H locs ls hP hS hl)
theorem g_aloadN (C : Cx K cc own nL d rty) {i : Nat} (hdg : decode cc pc = .ok (.aload i, 2)) (n : Nat) (hn : lv[n]? = some (i, .null)) (k : Gj K σ (pc + 2) lv (.null :: rest)) : Gj K σ pc lv rest := fun H locs ls hP hS hl => lv_aloadN (cx_x C) (cx_b C) hdg (lv_at hl n hn) (k H locs ls hP hS hl)
/-- a store: the new list by its places out of the stored one and the old ones -/
theorem g_istore_n (C : Cx K cc own nL d rty) {j : Fin 4} {i : Nat} {x : Int32} (lv' : List (Nat × Value)) (hdg : decode cc pc = .ok (.istore_n j, 1)) (hi : (j : Nat) = i) (hn : i < nL) (ks9 : List Nat) (h : lv_pick ((i, Value.int x) :: lv.filter (fun q => !(q.1 == i) && !(q.1 + 1 == i && q.2.category == 2))) ks9 = lv') (k : Gj K σ (pc + 1) lv' rest) : Gj K σ pc lv (.int x :: rest) := fun H locs ls hP hS hl => lv_istore_n (cx_x C) (cx_b C) hdg hi hl (by rw [cx_nL C]; exact hn) rfl (fun ls2 hl2 => k H locs ls2 hP hS (lv_sub hl2 ks9 h))
theorem g_istore (C : Cx K cc own nL d rty) {i : Nat} {x : Int32} (lv' : List (Nat × Value)) (hdg : decode cc pc = .ok (.istore i, 2)) (hn : i < nL) (ks9 : List Nat) (h : lv_pick ((i, Value.int x) :: lv.filter (fun q => !(q.1 == i) && !(q.1 + 1 == i && q.2.category == 2))) ks9 = lv') (k : Gj K σ (pc + 2) lv' rest) : Gj K σ pc lv (.int x :: rest) := fun H locs ls hP hS hl => lv_istore (cx_x C) (cx_b C) hdg hl (by rw [cx_nL C]; exact hn) rfl (fun ls2 hl2 => k H locs ls2 hP hS (lv_sub hl2 ks9 h))
theorem g_astore_n (C : Cx K cc own nL d rty) {j : Fin 4} {i : Nat} {x : Nat} (lv' : List (Nat × Value)) (hdg : decode cc pc = .ok (.astore_n j, 1)) (hi : (j : Nat) = i) (hn : i < nL) (ks9 : List Nat) (h : lv_pick ((i, Value.ref x) :: lv.filter (fun q => !(q.1 == i) && !(q.1 + 1 == i && q.2.category == 2))) ks9 = lv') (k : Gj K σ (pc + 1) lv' rest) : Gj K σ pc lv (.ref x :: rest) := fun H locs ls hP hS hl => lv_astore_n (cx_x C) (cx_b C) hdg hi hl (by rw [cx_nL C]; exact hn) rfl (fun ls2 hl2 => k H locs ls2 hP hS (lv_sub hl2 ks9 h))
theorem g_astore (C : Cx K cc own nL d rty) {i : Nat} {x : Nat} (lv' : List (Nat × Value)) (hdg : decode cc pc = .ok (.astore i, 2)) (hn : i < nL) (ks9 : List Nat) (h : lv_pick ((i, Value.ref x) :: lv.filter (fun q => !(q.1 == i) && !(q.1 + 1 == i && q.2.category == 2))) ks9 = lv') (k : Gj K σ (pc + 2) lv' rest) : Gj K σ pc lv (.ref x :: rest) := fun H locs ls hP hS hl => lv_astore (cx_x C) (cx_b C) hdg hl (by rw [cx_nL C]; exact hn) rfl (fun ls2 hl2 => k H locs ls2 hP hS (lv_sub hl2 ks9 h))
theorem g_astore_nN (C : Cx K cc own nL d rty) {j : Fin 4} {i : Nat} (lv' : List (Nat × Value)) (hdg : decode cc pc = .ok (.astore_n j, 1)) (hi : (j : Nat) = i) (hn : i < nL) (ks9 : List Nat) (h : lv_pick ((i, Value.null) :: lv.filter (fun q => !(q.1 == i) && !(q.1 + 1 == i && q.2.category == 2))) ks9 = lv') (k : Gj K σ (pc + 1) lv' rest) : Gj K σ pc lv (.null :: rest) := fun H locs ls hP hS hl => lv_astore_nN (cx_x C) (cx_b C) hdg hi hl (by rw [cx_nL C]; exact hn) rfl (fun ls2 hl2 => k H locs ls2 hP hS (lv_sub hl2 ks9 h))
theorem g_astoreN (C : Cx K cc own nL d rty) {i : Nat} (lv' : List (Nat × Value)) (hdg : decode cc pc = .ok (.astore i, 2)) (hn : i < nL) (ks9 : List Nat) (h : lv_pick ((i, Value.null) :: lv.filter (fun q => !(q.1 == i) && !(q.1 + 1 == i && q.2.category == 2))) ks9 = lv') (k : Gj K σ (pc + 2) lv' rest) : Gj K σ pc lv (.null :: rest) := fun H locs ls hP hS hl => lv_astoreN (cx_x C) (cx_b C) hdg hl (by rw [cx_nL C]; exact hn) rfl (fun ls2 hl2 => k H locs ls2 hP hS (lv_sub hl2 ks9 h))
theorem g_iinc (C : Cx K cc own nL d rty) {i : Nat} {n : Int} {x : Int32} (v : Int32) (lv' : List (Nat × Value)) (hdg : decode cc pc = .ok (.iinc i n, 3)) (j : Nat) (hj : lv[j]? = some (i, .int x)) (hv : x + Int32.ofInt n = v) (hn : i < nL) (ks9 : List Nat) (h : lv_pick ((i, Value.int v) :: lv.filter (fun q => !(q.1 == i) && !(q.1 + 1 == i && q.2.category == 2))) ks9 = lv') (k : Gj K σ (pc + 3) lv' rest) : Gj K σ pc lv rest := fun H locs ls hP hS hl => lv_iinc (cx_x C) (cx_b C) hdg hl hj hv (by rw [cx_nL C]; exact hn) rfl (fun ls2 hl2 => k H locs ls2 hP hS (lv_sub hl2 ks9 h))
theorem g_iadd (C : Cx K cc own nL d rty) {x y : Int32} (hdg : decode cc pc = .ok (.iadd, 1)) (k : Gj K σ (pc + 1) lv (.int (x + y) :: rest)) : Gj K σ pc lv (.int y :: .int x :: rest) := fun H locs ls hP hS hl => lv_iadd (cx_x C) (cx_b C) hdg (k H locs ls hP hS hl)
theorem g_isub (C : Cx K cc own nL d rty) {x y : Int32} (hdg : decode cc pc = .ok (.isub, 1)) (k : Gj K σ (pc + 1) lv (.int (x - y) :: rest)) : Gj K σ pc lv (.int y :: .int x :: rest) := fun H locs ls hP hS hl => lv_isub (cx_x C) (cx_b C) hdg (k H locs ls hP hS hl)
theorem g_imul (C : Cx K cc own nL d rty) {x y : Int32} (hdg : decode cc pc = .ok (.imul, 1)) (k : Gj K σ (pc + 1) lv (.int (x * y) :: rest)) : Gj K σ pc lv (.int y :: .int x :: rest) := fun H locs ls hP hS hl => lv_imul (cx_x C) (cx_b C) hdg (k H locs ls hP hS hl)
theorem g_iand (C : Cx K cc own nL d rty) {x y : Int32} (hdg : decode cc pc = .ok (.iand, 1)) (k : Gj K σ (pc + 1) lv (.int (x &&& y) :: rest)) : Gj K σ pc lv (.int y :: .int x :: rest) := fun H locs ls hP hS hl => lv_iand (cx_x C) (cx_b C) hdg (k H locs ls hP hS hl)
theorem g_ishr (C : Cx K cc own nL d rty) {x y : Int32} (hdg : decode cc pc = .ok (.ishr, 1)) (k : Gj K σ (pc + 1) lv (.int (x >>> (y &&& 31)) :: rest)) : Gj K σ pc lv (.int y :: .int x :: rest) := fun H locs ls hP hS hl => lv_ishr (cx_x C) (cx_b C) hdg (k H locs ls hP hS hl)
theorem g_idiv (C : Cx K cc own nL d rty) {x y : Int32} (hne : ¬ y = 0) (hdg : decode cc pc = .ok (.idiv, 1)) (k : Gj K σ (pc + 1) lv (.int (x / y) :: rest)) : Gj K σ pc lv (.int y :: .int x :: rest) := fun H locs ls hP hS hl => lv_idiv (cx_x C) (cx_b C) hdg hne (k H locs ls hP hS hl)
theorem g_irem (C : Cx K cc own nL d rty) {x y : Int32} (hne : ¬ y = 0) (hdg : decode cc pc = .ok (.irem, 1)) (k : Gj K σ (pc + 1) lv (.int (x - x / y * y) :: rest)) : Gj K σ pc lv (.int y :: .int x :: rest) := fun H locs ls hP hS hl => lv_irem (cx_x C) (cx_b C) hdg hne (k H locs ls hP hS hl)
theorem g_dup (C : Cx K cc own nL d rty) {va : Value} (hva : va.category = 1) (hdg : decode cc pc = .ok (.dup, 1)) (k : Gj K σ (pc + 1) lv (va :: va :: rest)) : Gj K σ pc lv (va :: rest) := fun H locs ls hP hS hl => lv_dup (cx_x C) (cx_b C) hdg hva (k H locs ls hP hS hl)
theorem g_dup2 (C : Cx K cc own nL d rty) {va vb : Value} (hva : va.category = 1) (hvb : vb.category = 1) (hdg : decode cc pc = .ok (.dup2, 1)) (k : Gj K σ (pc + 1) lv (va :: vb :: va :: vb :: rest)) : Gj K σ pc lv (va :: vb :: rest) := fun H locs ls hP hS hl => lv_dup2_11 (cx_x C) (cx_b C) hdg hva hvb (k H locs ls hP hS hl)
theorem g_pop (C : Cx K cc own nL d rty) {va : Value} (hva : va.category = 1) (hdg : decode cc pc = .ok (.pop, 1)) (k : Gj K σ (pc + 1) lv rest) : Gj K σ pc lv (va :: rest) := fun H locs ls hP hS hl => lv_pop (cx_x C) (cx_b C) hdg hva (k H locs ls hP hS hl)
theorem g_goto (C : Cx K cc own nL d rty) {off : Int} {tgt : Nat} (hdg : decode cc pc = .ok (.goto off, 3)) (ht : (pc : Int) + off = (tgt : Int)) (k : Gj K σ tgt lv rest) : Gj K σ pc lv rest := fun H locs ls hP hS hl => lv_goto (cx_x C) (cx_b C) hdg ht (k H locs ls hP hS hl)
theorem g_ifnonnull (C : Cx K cc own nL d rty) {x : Nat} {off : Int} {tgt : Nat} (hdg : decode cc pc = .ok (.ifnonnull off, 3)) (ht : (pc : Int) + off = (tgt : Int)) (k : Gj K σ tgt lv rest) : Gj K σ pc lv (.ref x :: rest) := fun H locs ls hP hS hl => lv_ifnonnull (cx_x C) (cx_b C) hdg ht (k H locs ls hP hS hl)
theorem g_ifnull (C : Cx K cc own nL d rty) {x : Nat} {off : Int} (hdg : decode cc pc = .ok (.ifnull off, 3)) (k : Gj K σ (pc + 3) lv rest) : Gj K σ pc lv (.ref x :: rest) := fun H locs ls hP hS hl => lv_ifnull (cx_x C) (cx_b C) hdg (k H locs ls hP hS hl)
theorem g_ifnullN (C : Cx K cc own nL d rty) {off : Int} {tgt : Nat} (hdg : decode cc pc = .ok (.ifnull off, 3)) (ht : (pc : Int) + off = (tgt : Int)) (k : Gj K σ tgt lv rest) : Gj K σ pc lv (.null :: rest) := fun H locs ls hP hS hl => lv_ifnullN (cx_x C) (cx_b C) hdg ht (k H locs ls hP hS hl)
theorem g_ifnonnullN (C : Cx K cc own nL d rty) {off : Int} (hdg : decode cc pc = .ok (.ifnonnull off, 3)) (k : Gj K σ (pc + 3) lv rest) : Gj K σ pc lv (.null :: rest) := fun H locs ls hP hS hl => lv_ifnonnullN (cx_x C) (cx_b C) hdg (k H locs ls hP hS hl)
theorem g_if_eq (C : Cx K cc own nL d rty) {x : Int32} {off : Int} {tgt : Nat} (hdg : decode cc pc = .ok (.ifCond .eq off, 3)) (ht : (pc : Int) + off = (tgt : Int)) (kt : x = 0 → Gj K σ tgt lv rest) (kf : ¬ x = 0 → Gj K σ (pc + 3) lv rest) : Gj K σ pc lv (.int x :: rest) := fun H locs ls hP hS hl => lv_if_eq (cx_x C) (cx_b C) hdg ht (fun c9 => kt c9 H locs ls hP hS hl) (fun c9 => kf c9 H locs ls hP hS hl)
theorem g_if_ne (C : Cx K cc own nL d rty) {x : Int32} {off : Int} {tgt : Nat} (hdg : decode cc pc = .ok (.ifCond .ne off, 3)) (ht : (pc : Int) + off = (tgt : Int)) (kt : ¬ x = 0 → Gj K σ tgt lv rest) (kf : x = 0 → Gj K σ (pc + 3) lv rest) : Gj K σ pc lv (.int x :: rest) := fun H locs ls hP hS hl => lv_if_ne (cx_x C) (cx_b C) hdg ht (fun c9 => kt c9 H locs ls hP hS hl) (fun c9 => kf c9 H locs ls hP hS hl)
theorem g_if_lt (C : Cx K cc own nL d rty) {x : Int32} {off : Int} {tgt : Nat} (hdg : decode cc pc = .ok (.ifCond .lt off, 3)) (ht : (pc : Int) + off = (tgt : Int)) (kt : x < 0 → Gj K σ tgt lv rest) (kf : ¬ x < 0 → Gj K σ (pc + 3) lv rest) : Gj K σ pc lv (.int x :: rest) := fun H locs ls hP hS hl => lv_if_lt (cx_x C) (cx_b C) hdg ht (fun c9 => kt c9 H locs ls hP hS hl) (fun c9 => kf c9 H locs ls hP hS hl)
theorem g_if_ge (C : Cx K cc own nL d rty) {x : Int32} {off : Int} {tgt : Nat} (hdg : decode cc pc = .ok (.ifCond .ge off, 3)) (ht : (pc : Int) + off = (tgt : Int)) (kt : 0 ≤ x → Gj K σ tgt lv rest) (kf : ¬ 0 ≤ x → Gj K σ (pc + 3) lv rest) : Gj K σ pc lv (.int x :: rest) := fun H locs ls hP hS hl => lv_if_ge (cx_x C) (cx_b C) hdg ht (fun c9 => kt c9 H locs ls hP hS hl) (fun c9 => kf c9 H locs ls hP hS hl)
theorem g_if_gt (C : Cx K cc own nL d rty) {x : Int32} {off : Int} {tgt : Nat} (hdg : decode cc pc = .ok (.ifCond .gt off, 3)) (ht : (pc : Int) + off = (tgt : Int)) (kt : 0 < x → Gj K σ tgt lv rest) (kf : ¬ 0 < x → Gj K σ (pc + 3) lv rest) : Gj K σ pc lv (.int x :: rest) := fun H locs ls hP hS hl => lv_if_gt (cx_x C) (cx_b C) hdg ht (fun c9 => kt c9 H locs ls hP hS hl) (fun c9 => kf c9 H locs ls hP hS hl)
theorem g_if_le (C : Cx K cc own nL d rty) {x : Int32} {off : Int} {tgt : Nat} (hdg : decode cc pc = .ok (.ifCond .le off, 3)) (ht : (pc : Int) + off = (tgt : Int)) (kt : x ≤ 0 → Gj K σ tgt lv rest) (kf : ¬ x ≤ 0 → Gj K σ (pc + 3) lv rest) : Gj K σ pc lv (.int x :: rest) := fun H locs ls hP hS hl => lv_if_le (cx_x C) (cx_b C) hdg ht (fun c9 => kt c9 H locs ls hP hS hl) (fun c9 => kf c9 H locs ls hP hS hl)
theorem g_icmp_eq (C : Cx K cc own nL d rty) {x y : Int32} {off : Int} {tgt : Nat} (hdg : decode cc pc = .ok (.if_icmp .eq off, 3)) (ht : (pc : Int) + off = (tgt : Int)) (kt : x = y → Gj K σ tgt lv rest) (kf : ¬ x = y → Gj K σ (pc + 3) lv rest) : Gj K σ pc lv (.int y :: .int x :: rest) := fun H locs ls hP hS hl => lv_icmp_eq (cx_x C) (cx_b C) hdg ht (fun c9 => kt c9 H locs ls hP hS hl) (fun c9 => kf c9 H locs ls hP hS hl)
theorem g_icmp_ne (C : Cx K cc own nL d rty) {x y : Int32} {off : Int} {tgt : Nat} (hdg : decode cc pc = .ok (.if_icmp .ne off, 3)) (ht : (pc : Int) + off = (tgt : Int)) (kt : ¬ x = y → Gj K σ tgt lv rest) (kf : x = y → Gj K σ (pc + 3) lv rest) : Gj K σ pc lv (.int y :: .int x :: rest) := fun H locs ls hP hS hl => lv_icmp_ne (cx_x C) (cx_b C) hdg ht (fun c9 => kt c9 H locs ls hP hS hl) (fun c9 => kf c9 H locs ls hP hS hl)
theorem g_icmp_lt (C : Cx K cc own nL d rty) {x y : Int32} {off : Int} {tgt : Nat} (hdg : decode cc pc = .ok (.if_icmp .lt off, 3)) (ht : (pc : Int) + off = (tgt : Int)) (kt : x < y → Gj K σ tgt lv rest) (kf : ¬ x < y → Gj K σ (pc + 3) lv rest) : Gj K σ pc lv (.int y :: .int x :: rest) := fun H locs ls hP hS hl => lv_icmp_lt (cx_x C) (cx_b C) hdg ht (fun c9 => kt c9 H locs ls hP hS hl) (fun c9 => kf c9 H locs ls hP hS hl)
theorem g_icmp_ge (C : Cx K cc own nL d rty) {x y : Int32} {off : Int} {tgt : Nat} (hdg : decode cc pc = .ok (.if_icmp .ge off, 3)) (ht : (pc : Int) + off = (tgt : Int)) (kt : y ≤ x → Gj K σ tgt lv rest) (kf : ¬ y ≤ x → Gj K σ (pc + 3) lv rest) : Gj K σ pc lv (.int y :: .int x :: rest) := fun H locs ls hP hS hl => lv_icmp_ge (cx_x C) (cx_b C) hdg ht (fun c9 => kt c9 H locs ls hP hS hl) (fun c9 => kf c9 H locs ls hP hS hl)
theorem g_icmp_gt (C : Cx K cc own nL d rty) {x y : Int32} {off : Int} {tgt : Nat} (hdg : decode cc pc = .ok (.if_icmp .gt off, 3)) (ht : (pc : Int) + off = (tgt : Int)) (kt : y < x → Gj K σ tgt lv rest) (kf : ¬ y < x → Gj K σ (pc + 3) lv rest) : Gj K σ pc lv (.int y :: .int x :: rest) := fun H locs ls hP hS hl => lv_icmp_gt (cx_x C) (cx_b C) hdg ht (fun c9 => kt c9 H locs ls hP hS hl) (fun c9 => kf c9 H locs ls hP hS hl)
theorem g_icmp_le (C : Cx K cc own nL d rty) {x y : Int32} {off : Int} {tgt : Nat} (hdg : decode cc pc = .ok (.if_icmp .le off, 3)) (ht : (pc : Int) + off = (tgt : Int)) (kt : x ≤ y → Gj K σ tgt lv rest) (kf : ¬ x ≤ y → Gj K σ (pc + 3) lv rest) : Gj K σ pc lv (.int y :: .int x :: rest) := fun H locs ls hP hS hl => lv_icmp_le (cx_x C) (cx_b C) hdg ht (fun c9 => kt c9 H locs ls hP hS hl) (fun c9 => kf c9 H locs ls hP hS hl)
theorem g_tabIn (C : Cx K cc own nL d rty) {dflt lo hi : Int} {offs : Array Int} {len : Nat} {x v : Int32} {off : Int} {tgt : Nat} (hxv : x = v) (hdg : decode cc pc = .ok (.tableswitch dflt lo hi offs, len)) (h1 : ¬ v.toInt < lo) (h2 : ¬ hi < v.toInt) (ho : offs[(v.toInt - lo).toNat]? = some off) (ht : (pc : Int) + off = (tgt : Int)) (k : Gj K σ tgt lv rest) : Gj K σ pc lv (.int x :: rest) := by
  subst hxv
  exact fun H locs ls hP hS hl => lv_tableIn (cx_x C) (cx_b C) hdg h1 h2 ho ht (k H locs ls hP hS hl)
theorem g_tabOut (C : Cx K cc own nL d rty) {dflt lo hi : Int} {offs : Array Int} {len : Nat} {x : Int32} {tgt : Nat} (h : x.toInt < lo ∨ hi < x.toInt) (hdg : decode cc pc = .ok (.tableswitch dflt lo hi offs, len)) (ht : (pc : Int) + dflt = (tgt : Int)) (k : Gj K σ tgt lv rest) : Gj K σ pc lv (.int x :: rest) := fun H locs ls hP hS hl => lv_tableOut (cx_x C) (cx_b C) hdg h ht (k H locs ls hP hS hl)
theorem ne_toInt {x v : Int32} (h : ¬ x = v) : x.toInt ≠ v.toInt := fun q => h (Int32.toInt_inj.mp q)
theorem g_get (C : Cx K cc own nL d rty) {q ci index N a : Nat} {fs : List Value} {Cn ref : String} {T : u_T} {v : Value} (idx : Nat) (he : (kwf K σ)[q]? = some (a, .inr (ci, fs))) (hc : cls5[ci]? = some (Cn, T, N)) (hin : ∀ w ∈ u_ws Cn T N, w ∈ TBg) (hk : idx < N) (href : (T idx).1 = ref) (hv : fs[idx]? = some v) (hw : Cond.fieldLink own index ref (T idx).2.1 (T idx).2.2.1 ∈ TBg) (hdg : decode cc pc = .ok (.getfield index, 3)) (k : Gj K σ (pc + 3) lv (v :: rest)) : Gj K σ pc lv (.ref a :: rest) := by
  subst href
  exact fun H locs ls hP hS hl => va_get (cx_x C) (cx_b C) (cx_ts C) hin (cx_own C) (cx_K C) hP q he hc idx hk (cx_ts C _ hw) (fun _ h9 => h9) hv hdg (k H locs ls hP hS hl)
theorem g_put (C : Cx K cc own nL d rty) {q ci index N a : Nat} {fs : List Value} {Cn ref : String} {T : u_T} {ty : FieldType} {v : Value} {ty0 : Nat → FieldType} {τ : Mm} (idx : Nat) (he : (kwf K σ)[q]? = some (a, .inr (ci, fs))) (hset : (kwf K σ).set q (a, .inr (ci, fs.set idx v)) = kwf K τ) (hc : cls5[ci]? = some (Cn, T, N)) (hin : ∀ w ∈ u_ws Cn T N, w ∈ TBg) (hty : ∀ k, k < N → parseFieldDescriptor (T k).2.2.1 = some (ty0 k)) (hnm : ∀ a, a < N → ∀ b, b < N → a ≠ b → (T a).2.1 ≠ (T b).2.1) (hk : idx < N) (href : (T idx).1 = ref) (hfin : (T idx).2.2.2 = false) (hd : parseFieldDescriptor (T idx).2.2.1 = some ty) (hn : narrow ty v = v) (hfit : fits ty v = true) (hlen : idx < fs.length) (hw : Cond.fieldLink own index ref (T idx).2.1 (T idx).2.2.1 ∈ TBg) (hdg : decode cc pc = .ok (.putfield index, 3)) (k : Gj K τ (pc + 3) lv rest) : Gj K σ pc lv (v :: .ref a :: rest) := by
  subst href
  exact fun H locs ls hP hS hl => va_put (cx_x C) (cx_b C) (cx_ts C) hin ty0 hty hnm (cx_own C) (cx_K C) hP (cx_D C σ) hS q he hc idx hk (cx_ts C _ hw) (fun _ h9 => h9) hfin hd hn hfit hlen hdg (fun H1 locs1 hP1 _ hS1 => k H1 locs1 ls (by rw [← hset]; exact hP1) hS1 hl)
theorem g_iald (C : Cx K cc own nL d rty) {q a n : Nat} {f : Nat → Int32} {i : Int32} (he : (kwf K σ)[q]? = some (a, .inl (kcI K, n, .inl f))) (hin : inb i n = true) (hdg : decode cc pc = .ok (.iaload, 1)) (k : Gj K σ (pc + 1) lv (.int (f i.toNatClampNeg) :: rest)) : Gj K σ pc lv (.int i :: .ref a :: rest) := fun H locs ls hP hS hl => va_iald (cx_x C) (cx_b C) (cx_K C) hP q 0 he (cx_ty C) (inb_in hin) hdg (k H locs ls hP hS hl)
theorem g_iast (C : Cx K cc own nL d rty) {q a n : Nat} {f : Nat → Int32} {i x : Int32} {τ : Mm} (he : (kwf K σ)[q]? = some (a, .inl (kcI K, n, .inl f))) (hset : (kwf K σ).set q (a, .inl (kcI K, n, .inl (upd f i.toNatClampNeg x))) = kwf K τ) (hin : inb i n = true) (hdg : decode cc pc = .ok (.iastore, 1)) (k : Gj K τ (pc + 1) lv rest) : Gj K σ pc lv (.int x :: .int i :: .ref a :: rest) := fun H locs ls hP hS hl => va_iast (cx_x C) (cx_b C) (cx_K C) hP (cx_D C σ) hS q 0 he (cx_ty C) (inb_in hin) hdg (fun H1 locs1 hP1 _ hS1 => k H1 locs1 ls (by rw [← hset]; exact hP1) hS1 hl)
theorem g_aald (C : Cx K cc own nL d rty) {q a n t0 b : Nat} {cA : ClassId} {ty : FieldType} {f : Nat → Option Nat} {i : Int32} (hty : (ktys K)[t0]? = some (cA, ty)) (hrf : ty.isReference = true) (he : (kwf K σ)[q]? = some (a, .inl (cA, n, .inr (.inr (.inr (.inr f)))))) (hin : inb i n = true) (hf : f i.toNatClampNeg = some b) (hdg : decode cc pc = .ok (.aaload, 1)) (k : Gj K σ (pc + 1) lv (.ref b :: rest)) : Gj K σ pc lv (.int i :: .ref a :: rest) := fun H locs ls hP hS hl => by
  have hin2 := inb_in hin
  have hlt : i.toNatClampNeg < n := Nat.not_le.mp fun q => hin2 (Or.inr q)
  exact W.aald (v := va_rf (f i.toNatClampNeg)) (ty := ty) (cx_x C) (cx_b C) (hP q _ he) (((cx_K C).2 t0 _ hty).1 n (fun j => va_rf (f j))) hrf (fun q => by cases q) (by show ¬ (i < 0 ∨ (arrV _ _ _).slots.size ≤ _); rw [arrV_size]; exact hin2) (by show (arrV _ _ _).slots[_]? = _; rw [arrV_read _ _ hlt]) rfl rfl hdg (by rw [hf]; exact k H locs ls hP hS hl)
theorem g_iret (C : Cx K cc own nL d rty) {v : Int32} {ty : FieldType} (hr : rty = some ty) (hn : narrow ty (.int v) = .int v) (hdg : decode cc pc = .ok (.ireturn, 1)) (h : kRt K (some (.int v)) σ) : Gj K σ pc lv [.int v] := fun H locs ls hP hS hl => cx_rI C v σ H locs ls pc ty hr hn h hP hS hdg
theorem g_vret (C : Cx K cc own nL d rty) (hr : rty = none) (hdg : decode cc pc = .ok (.return_, 1)) (h : kRt K none σ) : Gj K σ pc lv [] := fun H locs ls hP hS hl => cx_rV C σ H locs ls pc hr h hP hS hdg
theorem g_aret (C : Cx K cc own nL d rty) {a : Nat} {n : String} (hr : rty = some (.object n)) (hdg : decode cc pc = .ok (.areturn, 1)) (h : kRt K (some (va_rf (some a))) σ) : Gj K σ pc lv [.ref a] := fun H locs ls hP hS hl => cx_rA C (some a) σ H locs ls pc n hr h hP hS hdg
theorem g_aretN (C : Cx K cc own nL d rty) {n : String} (hr : rty = some (.object n)) (hdg : decode cc pc = .ok (.areturn, 1)) (h : kRt K (some (va_rf none)) σ) : Gj K σ pc lv [.null] := fun H locs ls hP hS hl => cx_rA C none σ H locs ls pc n hr h hP hS hdg
end FW
end
section
/-! ===== contracts, and calls by them ===== -/
def PreW (D : va_G) (tys : List (ClassId × FieldType)) (wf : Mm → va_W) (St : (Nat → Prop) → State → Heap → Prop) (σ : Mm) (sz : Nat) (U : State) : Prop := U.heap.size = sz ∧ va_P D cls5 (wf σ) U.heap ∧ va_K D cls5 tys U ∧ va_D (fun _ => True) (wf σ) ∧ St (va_A (wf σ) sz) U U.heap
def PosW (D : va_G) (wf : Mm → va_W) (τ : Mm) (t : State) : Prop := va_P D cls5 (wf τ) t.heap
def CtI (l : Launch) (D : va_G) (tys : List (ClassId × FieldType)) (wf : Mm → va_W) (St : (Nat → Prop) → State → Heap → Prop) (y : MethodName) (cc : ByteArray) (maxL : Nat) (ty : FieldType) (d : Nat) (σ : Mm) (args : List Value) (o : Mm × Int32) : Prop :=
  ∀ sz : Nat, Met l y (.code y cc maxL (some ty) :: TBg) (rmd d) (va_Pc args (PreW D tys wf St σ sz)) (va_Qi (fun r u => u = o.1 ∧ r = o.2) (PosW D wf) (va_A (wf σ) sz)) 0 0 (va_A (wf σ) sz)
def CtV (l : Launch) (D : va_G) (tys : List (ClassId × FieldType)) (wf : Mm → va_W) (St : (Nat → Prop) → State → Heap → Prop) (y : MethodName) (cc : ByteArray) (maxL : Nat) (d : Nat) (σ : Mm) (args : List Value) (o : Mm) : Prop :=
  ∀ sz : Nat, Met l y (.code y cc maxL none :: TBg) (rmd d) (va_Pc args (PreW D tys wf St σ sz)) (va_Qv (fun u => u = o) (PosW D wf) (va_A (wf σ) sz)) 0 0 (va_A (wf σ) sz)
def CtA (l : Launch) (D : va_G) (tys : List (ClassId × FieldType)) (wf : Mm → va_W) (St : (Nat → Prop) → State → Heap → Prop) (y : MethodName) (cc : ByteArray) (maxL : Nat) (ty : FieldType) (d : Nat) (σ : Mm) (args : List Value) (o : Mm × Option Nat) : Prop :=
  ∀ sz : Nat, Met l y (.code y cc maxL (some ty) :: TBg) (rmd d) (va_Pc args (PreW D tys wf St σ sz)) (va_Qq (fun r u => u = o.1 ∧ r = o.2) (PosW D wf) (va_A (wf σ) sz)) 0 0 (va_A (wf σ) sz)
def GiveK (K : Kx) (l : Launch) (D : va_G) (tys : List (ClassId × FieldType)) (wf : Mm → va_W) (St : (Nat → Prop) → State → Heap → Prop) (Ad : Nat → Nat) (cI cP cII : ClassId) : Prop := kl K = l ∧ kD K = D ∧ ktys K = tys ∧ kwf K = wf ∧ kSt K = St ∧ kAd K = Ad ∧ kcI K = cI ∧ kcP K = cP ∧ kcII K = cII
set_option maxHeartbeats 1000000 in
theorem metI {l : Launch} {D : va_G} {tys : List (ClassId × FieldType)} {wf : Mm → va_W} {St : (Nat → Prop) → State → Heap → Prop} {y : MethodName} {cc : ByteArray} {maxL d : Nat} {ty : FieldType} {σ : Mm} {args : List Value} {o : Mm × Int32} {Ad : Nat → Nat} {cI cP cII : ClassId} (hy : plainName y.cls = true) (hlen : (lg_sl args).length ≤ maxL) (hwf : WfOK wf) (hst : StOK St) (hty : tys[0]? = some (cI, .int))
    (hw : ∀ K : Kx, Cx K cc y.cls maxL d (some ty) → GiveK K l D tys wf St Ad cI cP cII → kRt K = (fun v τ => v = some (.int o.2) ∧ τ = o.1) → Gj K σ 0 (lv_args 0 args) []) : CtI l D tys wf St y cc maxL ty d σ args o := by
  intro sz
  refine Met.ofW (cc := cc) (maxL := maxL) (ret := some ty) hy rfl ?_
  intro p e s m args9 below meth c s₁ B hml hv
  obtain ⟨rfl, hsz, hP, hK, hD0, hSt⟩ := hv
  have hx := B.exec
  have hb := B.bytes
  have hr := B.returns
  have hts9 := atoms_spec (ws := .code y cc maxL (some ty) :: TBg) B.pre
  have hts : ∀ w ∈ TBg, w.before args.toArray s = true := fun w h => hts9 w (List.mem_cons_of_mem _ h)
  have hown : s.vm.findClass y.cls = some m.cls := findClass_of_methodNamed B.named
  have hlocks := B.notSynchronized
  subst hsz
  have hD := hD0.self (sz := s.heap.size)
  have C : Cx (p, l, e, rmd d, s, m, args.toArray, below, meth, c, MQ below (va_Qi (fun r u => u = o.1 ∧ r = o.2) (PosW D wf) (va_A (wf σ) s.heap.size)) args.toArray s 0 0 (va_A (wf σ) s.heap.size), D, tys, va_A (wf σ) s.heap.size, maxL, (fun v τ => v = some (.int o.2) ∧ τ = o.1), wf, Ad, cI, cP, cII, St) cc y.cls maxL d (some ty) := by
    refine ⟨hx, hb, hml, rfl, hown, hts, hK, fun τ => hwf.1 _ σ τ hD, fun q h => Or.inr h, hty, rfl, hSt, hst, ?_, ?_, ?_⟩
    · intro v τ H locs ls pc ty9 e1 hn hRt hP9 hS9 hdg
      cases e1
      obtain ⟨h1, rfl⟩ := hRt
      cases h1
      exact W.zret hx hb hr hn (fun t ht hW => ⟨⟨o.2, o.1, rfl, ⟨rfl, rfl⟩, by show va_P D cls5 (wf o.1) t.heap; rw [ht]; exact hP9⟩, hS9.F ht⟩) hS9.2.2 hdg
    · intro τ H locs ls pc e1
      cases e1
    · intro a τ H locs ls pc n e1 hRt
      obtain ⟨h1, -⟩ := hRt
      cases a <;> cases h1
  rw [lg_entry_eq]
  exact hw _ C ⟨rfl, rfl, rfl, rfl, rfl, rfl, rfl, rfl, rfl⟩ rfl s.heap [] _ hP va_S.rf (lv_entry args hlen)
set_option maxHeartbeats 1000000 in
theorem metV {l : Launch} {D : va_G} {tys : List (ClassId × FieldType)} {wf : Mm → va_W} {St : (Nat → Prop) → State → Heap → Prop} {y : MethodName} {cc : ByteArray} {maxL d : Nat} {σ : Mm} {args : List Value} {o : Mm} {Ad : Nat → Nat} {cI cP cII : ClassId} (hy : plainName y.cls = true) (hlen : (lg_sl args).length ≤ maxL) (hwf : WfOK wf) (hst : StOK St) (hty : tys[0]? = some (cI, .int))
    (hw : ∀ K : Kx, Cx K cc y.cls maxL d (none) → GiveK K l D tys wf St Ad cI cP cII → kRt K = (fun v τ => v = none ∧ τ = o) → Gj K σ 0 (lv_args 0 args) []) : CtV l D tys wf St y cc maxL d σ args o := by
  intro sz
  refine Met.ofW (cc := cc) (maxL := maxL) (ret := none) hy rfl ?_
  intro p e s m args9 below meth c s₁ B hml hv
  obtain ⟨rfl, hsz, hP, hK, hD0, hSt⟩ := hv
  have hx := B.exec
  have hb := B.bytes
  have hr := B.returns
  have hts9 := atoms_spec (ws := .code y cc maxL (none) :: TBg) B.pre
  have hts : ∀ w ∈ TBg, w.before args.toArray s = true := fun w h => hts9 w (List.mem_cons_of_mem _ h)
  have hown : s.vm.findClass y.cls = some m.cls := findClass_of_methodNamed B.named
  have hlocks := B.notSynchronized
  subst hsz
  have hD := hD0.self (sz := s.heap.size)
  have C : Cx (p, l, e, rmd d, s, m, args.toArray, below, meth, c, MQ below (va_Qv (fun u => u = o) (PosW D wf) (va_A (wf σ) s.heap.size)) args.toArray s 0 0 (va_A (wf σ) s.heap.size), D, tys, va_A (wf σ) s.heap.size, maxL, (fun v τ => v = none ∧ τ = o), wf, Ad, cI, cP, cII, St) cc y.cls maxL d (none) := by
    refine ⟨hx, hb, hml, rfl, hown, hts, hK, fun τ => hwf.1 _ σ τ hD, fun q h => Or.inr h, hty, rfl, hSt, hst, ?_, ?_, ?_⟩
    · intro v τ H locs ls pc ty9 e1
      cases e1
    · intro τ H locs ls pc e1 hRt hP9 hS9 hdg
      obtain ⟨-, rfl⟩ := hRt
      exact W.vret hx hb hr (fun t ht hW => ⟨⟨τ, rfl, rfl, by show va_P D cls5 (wf τ) t.heap; rw [ht]; exact hP9⟩, hS9.F ht⟩) hS9.2.2 hdg
    · intro a τ H locs ls pc n e1
      cases e1
  rw [lg_entry_eq]
  exact hw _ C ⟨rfl, rfl, rfl, rfl, rfl, rfl, rfl, rfl, rfl⟩ rfl s.heap [] _ hP va_S.rf (lv_entry args hlen)
set_option maxHeartbeats 1000000 in
theorem metA {l : Launch} {D : va_G} {tys : List (ClassId × FieldType)} {wf : Mm → va_W} {St : (Nat → Prop) → State → Heap → Prop} {y : MethodName} {cc : ByteArray} {maxL d : Nat} {ty : FieldType} {σ : Mm} {args : List Value} {o : Mm × Option Nat} {Ad : Nat → Nat} {cI cP cII : ClassId} (hy : plainName y.cls = true) (hlen : (lg_sl args).length ≤ maxL) (hwf : WfOK wf) (hst : StOK St) (hty : tys[0]? = some (cI, .int)) (hob : ∃ n, ty = .object n)
    (hw : ∀ K : Kx, Cx K cc y.cls maxL d (some ty) → GiveK K l D tys wf St Ad cI cP cII → kRt K = (fun v τ => v = some (va_rf o.2) ∧ τ = o.1) → Gj K σ 0 (lv_args 0 args) []) : CtA l D tys wf St y cc maxL ty d σ args o := by
  intro sz
  refine Met.ofW (cc := cc) (maxL := maxL) (ret := some ty) hy rfl ?_
  intro p e s m args9 below meth c s₁ B hml hv
  obtain ⟨rfl, hsz, hP, hK, hD0, hSt⟩ := hv
  have hx := B.exec
  have hb := B.bytes
  have hr := B.returns
  have hts9 := atoms_spec (ws := .code y cc maxL (some ty) :: TBg) B.pre
  have hts : ∀ w ∈ TBg, w.before args.toArray s = true := fun w h => hts9 w (List.mem_cons_of_mem _ h)
  have hown : s.vm.findClass y.cls = some m.cls := findClass_of_methodNamed B.named
  have hlocks := B.notSynchronized
  subst hsz
  have hD := hD0.self (sz := s.heap.size)
  have C : Cx (p, l, e, rmd d, s, m, args.toArray, below, meth, c, MQ below (va_Qq (fun r u => u = o.1 ∧ r = o.2) (PosW D wf) (va_A (wf σ) s.heap.size)) args.toArray s 0 0 (va_A (wf σ) s.heap.size), D, tys, va_A (wf σ) s.heap.size, maxL, (fun v τ => v = some (va_rf o.2) ∧ τ = o.1), wf, Ad, cI, cP, cII, St) cc y.cls maxL d (some ty) := by
    refine ⟨hx, hb, hml, rfl, hown, hts, hK, fun τ => hwf.1 _ σ τ hD, fun q h => Or.inr h, hty, rfl, hSt, hst, ?_, ?_, ?_⟩
    · intro v τ H locs ls pc ty9 e1 hn hRt
      obtain ⟨h1, -⟩ := hRt
      exfalso
      cases ho : o.2 <;> rw [ho] at h1 <;> cases h1
    · intro τ H locs ls pc e1
      cases e1
    · intro a τ H locs ls pc n e1 hRt hP9 hS9 hdg
      obtain ⟨h1, rfl⟩ := hRt
      have h2 : va_rf a = va_rf o.2 := Option.some.inj h1
      refine W.aret hx hb hr (Or.inl hob) (by cases a; exact Or.inl rfl; exact Or.inr ⟨_, rfl⟩) (fun t ht hW => ⟨⟨o.2, o.1, ?_, ⟨rfl, rfl⟩, by show va_P D cls5 (wf o.1) t.heap; rw [ht]; exact hP9⟩, hS9.F ht⟩) hS9.2.2 hdg
      rw [h2]
  rw [lg_entry_eq]
  exact hw _ C ⟨rfl, rfl, rfl, rfl, rfl, rfl, rfl, rfl, rfl⟩ rfl s.heap [] _ hP va_S.rf (lv_entry args hlen)
def MVok (y : MethodName) (bytes : ByteArray) (maxL : Nat) (ret : Option FieldType) (n : Nat) : Prop := Cond.code y bytes maxL ret ∈ TBg ∧ Cond.instanceMethod y ∈ TBg ∧ Cond.selects y.cls y y ∈ TBg ∧ Cond.initialized y.cls ∈ TBg ∧ (y.cls ≠ "java/lang/invoke/MethodHandle" ∧ y.cls ≠ "java/lang/invoke/VarHandle") ∧ (parseMethodDescriptor y.desc).map (fun d => d.parameters.length) = some n ∧ maxL ≤ 17
def MSok (y : MethodName) (bytes : ByteArray) (maxL : Nat) (ret : Option FieldType) (n : Nat) : Prop := Cond.code y bytes maxL ret ∈ TBg ∧ Cond.static y ∈ TBg ∧ Cond.initialized y.cls ∈ TBg ∧ (y.cls ≠ "java/lang/invoke/MethodHandle" ∧ y.cls ≠ "java/lang/invoke/VarHandle") ∧ (parseMethodDescriptor y.desc).map (fun d => d.parameters.length) = some n ∧ maxL ≤ 17
theorem tb_good {w : Cond} (h : w ∈ TBg) : w ∈ TBg ∧ ((w.onTables && w.keeps) = true ∨ ∃ ty, w = .arrayClass ty) := ⟨h, good_of_word (List.mem_filter.mp h).2⟩
theorem tb_in {y : MethodName} {bytes : ByteArray} {maxL : Nat} {ret : Option FieldType} (h : Cond.code y bytes maxL ret ∈ TBg) : GoodIn TBg (.code y bytes maxL ret :: TBg) := fun w hw => by
  rcases List.mem_cons.mp hw with rfl | hw
  · exact tb_good h
  · exact tb_good hw
section FC
variable {K : Kx} {cc : ByteArray} {own : String} {nL d : Nat} {rty : Option FieldType} {σ : Mm} {pc : Nat} {lv : List (Nat × Value)} {st rest : List Value}
theorem cx_in (C : Cx K cc own nL d rty) {H : Heap} {locs : List Loc} (hS : va_S (kA K) (ks K).heap H locs) : ∀ q, va_A (kwf K σ) H.size q → kA K q := by
  intro q h
  rcases h with ⟨k, e, h⟩ | h
  · exact (cx_D C σ).2 k (q, e) h
  · exact cx_A C q (Nat.le_trans hS.1 h)
theorem cx_pre (C : Cx K cc own nL d rty) {H : Heap} {locs : List Loc} (hP : va_P (kD K) cls5 (kwf K σ) H) (hS : va_S (kA K) (ks K).heap H locs) (av : List Value) : ∀ U : State, U.heap = H → (ks K).WarmedH U.vm → va_Pc av (PreW (kD K) (ktys K) (kwf K) (kSt K) σ H.size) av.toArray U := fun U hU hW => by
  refine ⟨rfl, by rw [hU], by rw [hU]; exact hP, va_K.moved hW.alike (cx_K C), (cx_D C σ).weaken (fun _ _ _ _ => trivial), ?_⟩
  rw [hU]
  exact (cx_SO C).2.2.2 _ _ _ _ (cx_in C hS) ((cx_SO C).2.1 _ _ _ _ hW ((cx_SO C).2.2.1 _ _ _ _ hS.2.1 (cx_S C)))
theorem cx_blind (C : Cx K cc own nL d rty) {H : Heap} (av : List Value) : FrameBlind (va_Pc av (PreW (kD K) (ktys K) (kwf K) (kSt K) σ H.size)) := fun a U g mk q => by
  obtain ⟨q0, q1, qP, qK, qD, qS⟩ := q
  exact ⟨q0, q1, qP, va_K.moved (u := U) (U := U.calling g mk a) (Vm.Alike.refl U.vm) qK, qD, (cx_SO C).1 _ U _ _ rfl qS⟩
theorem cx_CB (C : Cx K cc own nL d rty) {y : MethodName} {bytes : ByteArray} {maxL index n d' : Nat} {ret : Option FieldType} (hcode : Cond.code y bytes maxL ret ∈ TBg) (hini : Cond.initialized y.cls ∈ TBg) (hc : y.cls ≠ "java/lang/invoke/MethodHandle" ∧ y.cls ≠ "java/lang/invoke/VarHandle") (hp : (parseMethodDescriptor y.desc).map (fun d => d.parameters.length) = some n) (hmL : maxL ≤ 17) (hlk : Cond.methodLink own index y ∈ TBg) (hdd : d' + 1 ≤ d) : CallB (kR K) (ks K) (kargs K) own index y bytes maxL ret (.code y bytes maxL ret :: TBg) (rmd d') 0 0 n := by
  refine callB_of n (cx_ts C) (tb_in hcode) rfl rfl rfl (cx_ts C _ hini) (cx_ts C _ hlk) ⟨hc.1, hc.2, hp⟩ ?_
  rw [cx_R C]
  exact ⟨hdd, by show 8 + (maxL + 11) + 36 * d' ≤ 36 * d; omega⟩
theorem g_cVI (C : Cx K cc own nL d rty) {y : MethodName} {bytes : ByteArray} {maxL index n d' q ci a N : Nat} {ty : FieldType} {As fs : List Value} {T : u_T} {τ : Mm} {r : Int32} (hM : CtI (kl K) (kD K) (ktys K) (kwf K) (kSt K) y bytes maxL ty d' σ (.ref a :: As) (τ, r)) (hm : MVok y bytes maxL (some ty) n) (hlk : Cond.methodLink own index y ∈ TBg) (hdd : d' + 1 ≤ d) (he : (kwf K σ)[q]? = some (a, .inr (ci, fs))) (hc : cls5[ci]? = some (y.cls, T, N)) (hn : As.length = n) (hst : st = As.reverse ++ .ref a :: rest) (hr : (rest.map fun v => v.category).sum ≤ 8) (hdg : decode cc pc = .ok (.invokevirtual index, 3)) (k : Gj K τ (pc + 3) lv (.int r :: rest)) : Gj K σ pc lv st := by
  intro H locs ls hP hS hl
  obtain ⟨m1, m2, m3, m4, m5, m6, m7⟩ := hm
  subst hst
  refine va_calli (va_runV (As := As) (rest := rest) ⟨cx_x C, cx_b C, cx_ml C, cx_own C, cx_ts C⟩ (hM H.size) ⟨cx_CB C m1 m4 m5 m6 m7 hlk hdd, cx_ts C _ m2, cx_ts C _ m3⟩ ⟨cx_blind C _, va_recv (cx_K C) hP hc he, cx_pre C hP hS _⟩ rfl hn (hl.1.trans (cx_nL C)) rfl (lv_room hr) hdg ⟨Nat.zero_le _, Nat.zero_le _⟩) hS (fun q _ h => cx_in C hS q h) (cx_in C hS) (fun r9 u t H1 locs1 ht hvm hw hB hz hk hS1 => ?_)
  obtain ⟨rfl, rfl⟩ := hw
  exact k H1 locs1 ls (by rw [← ht]; exact hB) hS1 hl
theorem g_cVV (C : Cx K cc own nL d rty) {y : MethodName} {bytes : ByteArray} {maxL index n d' q ci a N : Nat} {As fs : List Value} {T : u_T} {τ : Mm} (hM : CtV (kl K) (kD K) (ktys K) (kwf K) (kSt K) y bytes maxL d' σ (.ref a :: As) τ) (hm : MVok y bytes maxL (none) n) (hlk : Cond.methodLink own index y ∈ TBg) (hdd : d' + 1 ≤ d) (he : (kwf K σ)[q]? = some (a, .inr (ci, fs))) (hc : cls5[ci]? = some (y.cls, T, N)) (hn : As.length = n) (hst : st = As.reverse ++ .ref a :: rest) (hr : (rest.map fun v => v.category).sum ≤ 8) (hdg : decode cc pc = .ok (.invokevirtual index, 3)) (k : Gj K τ (pc + 3) lv rest) : Gj K σ pc lv st := by
  intro H locs ls hP hS hl
  obtain ⟨m1, m2, m3, m4, m5, m6, m7⟩ := hm
  subst hst
  refine va_callv (va_runV (As := As) (rest := rest) ⟨cx_x C, cx_b C, cx_ml C, cx_own C, cx_ts C⟩ (hM H.size) ⟨cx_CB C m1 m4 m5 m6 m7 hlk hdd, cx_ts C _ m2, cx_ts C _ m3⟩ ⟨cx_blind C _, va_recv (cx_K C) hP hc he, cx_pre C hP hS _⟩ rfl hn (hl.1.trans (cx_nL C)) rfl (lv_room hr) hdg ⟨Nat.zero_le _, Nat.zero_le _⟩) hS (fun q _ h => cx_in C hS q h) (cx_in C hS) (fun u t H1 locs1 ht hvm hw hB hz hk hS1 => ?_)
  subst hw
  exact k H1 locs1 ls (by rw [← ht]; exact hB) hS1 hl
theorem g_cVA (C : Cx K cc own nL d rty) {y : MethodName} {bytes : ByteArray} {maxL index n d' q ci a N : Nat} {ty : FieldType} {As fs : List Value} {T : u_T} {τ : Mm} {r : Option Nat} (hM : CtA (kl K) (kD K) (ktys K) (kwf K) (kSt K) y bytes maxL ty d' σ (.ref a :: As) (τ, r)) (hm : MVok y bytes maxL (some ty) n) (hlk : Cond.methodLink own index y ∈ TBg) (hdd : d' + 1 ≤ d) (he : (kwf K σ)[q]? = some (a, .inr (ci, fs))) (hc : cls5[ci]? = some (y.cls, T, N)) (hn : As.length = n) (hst : st = As.reverse ++ .ref a :: rest) (hr : (rest.map fun v => v.category).sum ≤ 8) (hdg : decode cc pc = .ok (.invokevirtual index, 3)) (k : Gj K τ (pc + 3) lv (va_rf r :: rest)) : Gj K σ pc lv st := by
  intro H locs ls hP hS hl
  obtain ⟨m1, m2, m3, m4, m5, m6, m7⟩ := hm
  subst hst
  refine va_callq (va_runV (As := As) (rest := rest) ⟨cx_x C, cx_b C, cx_ml C, cx_own C, cx_ts C⟩ (hM H.size) ⟨cx_CB C m1 m4 m5 m6 m7 hlk hdd, cx_ts C _ m2, cx_ts C _ m3⟩ ⟨cx_blind C _, va_recv (cx_K C) hP hc he, cx_pre C hP hS _⟩ rfl hn (hl.1.trans (cx_nL C)) rfl (lv_room hr) hdg ⟨Nat.zero_le _, Nat.zero_le _⟩) hS (fun q _ h => cx_in C hS q h) (cx_in C hS) (fun r9 u t H1 locs1 ht hvm hw hB hz hk hS1 => ?_)
  obtain ⟨rfl, rfl⟩ := hw
  exact k H1 locs1 ls (by rw [← ht]; exact hB) hS1 hl
theorem g_cSI (C : Cx K cc own nL d rty) {y : MethodName} {bytes : ByteArray} {maxL index n d' : Nat} {ty : FieldType} {As : List Value} {τ : Mm} {r : Int32} (hM : CtI (kl K) (kD K) (ktys K) (kwf K) (kSt K) y bytes maxL ty d' σ As (τ, r)) (hm : MSok y bytes maxL (some ty) n) (hlk : Cond.methodLink own index y ∈ TBg) (hdd : d' + 1 ≤ d) (hn : As.length = n) (hst : st = As.reverse ++ rest) (hr : (rest.map fun v => v.category).sum ≤ 8) (hdg : decode cc pc = .ok (.invokestatic index, 3)) (k : Gj K τ (pc + 3) lv (.int r :: rest)) : Gj K σ pc lv st := by
  intro H locs ls hP hS hl
  obtain ⟨m1, m2, m4, m5, m6, m7⟩ := hm
  subst hst
  refine va_calli (va_runS (As := As) (rest := rest) ⟨cx_x C, cx_b C, cx_ml C, cx_own C, cx_ts C⟩ (hM H.size) ⟨cx_CB C m1 m4 m5 m6 m7 hlk hdd, cx_ts C _ m2⟩ ⟨cx_blind C _, cx_pre C hP hS _⟩ rfl hn (hl.1.trans (cx_nL C)) rfl (lv_room hr) hdg ⟨Nat.zero_le _, Nat.zero_le _⟩) hS (fun q _ h => cx_in C hS q h) (cx_in C hS) (fun r9 u t H1 locs1 ht hvm hw hB hz hk hS1 => ?_)
  obtain ⟨rfl, rfl⟩ := hw
  exact k H1 locs1 ls (by rw [← ht]; exact hB) hS1 hl
theorem g_cSN (C : Cx K cc own nL d rty) {y : MethodName} {bytes : ByteArray} {maxL index n d' : Nat} {ty : FieldType} {host : String} {As : List Value} {τ : Mm} {r : Int32} (hM : CtI (kl K) (kD K) (ktys K) (kwf K) (kSt K) y bytes maxL ty d' σ As (τ, r)) (hm : MSok y bytes maxL (some ty) n) (hlk : va_Nw (.methodLinkNest own index y host) (ks K)) (hdd : d' + 1 ≤ d) (hn : As.length = n) (hst : st = As.reverse ++ rest) (hr : (rest.map fun v => v.category).sum ≤ 8) (hdg : decode cc pc = .ok (.invokestatic index, 3)) (k : Gj K τ (pc + 3) lv (.int r :: rest)) : Gj K σ pc lv st := by
  intro H locs ls hP hS hl
  obtain ⟨m1, m2, m4, m5, m6, m7⟩ := hm
  subst hst
  refine va_calli (va_runSN (As := As) (rest := rest) ⟨cx_x C, cx_b C, cx_ml C, cx_own C, cx_ts C⟩ (hM H.size) ⟨va_cnB n (cx_ts C) (tb_in m1) rfl rfl rfl hlk (cx_ts C _ m4) ⟨m5.1, m5.2, m6⟩ (by rw [cx_R C]; exact ⟨hdd, by show 8 + (maxL + 11) + 36 * d' ≤ 36 * d; omega⟩), cx_ts C _ m2, trivial⟩ ⟨cx_blind C _, cx_pre C hP hS _⟩ rfl hn (hl.1.trans (cx_nL C)) rfl (lv_room hr) hdg ⟨Nat.zero_le _, Nat.zero_le _⟩) hS (fun q _ h => cx_in C hS q h) (cx_in C hS) (fun r9 u t H1 locs1 ht hvm hw hB hz hk hS1 => ?_)
  obtain ⟨rfl, rfl⟩ := hw
  exact k H1 locs1 ls (by rw [← ht]; exact hB) hS1 hl
end FC
end
section
theorem i_vc : Claimed_1_1 ∧ Claimed_1_2 := sorry
end
