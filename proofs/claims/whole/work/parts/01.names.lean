-- ===== PART A: goes FIRST, ahead of the names: the tables' words, and 'selects' of the private methods out of them =====
/-- a private method of a class that the tables say can be made, by its rows of tables_1 -/
def lw_okq (q : MethodName × Nat) : Prop := (q.1.cls ≠ "java/lang/invoke/MethodHandle" ∧ q.1.cls ≠ "java/lang/invoke/VarHandle") ∧ Cond.instantiable q.1.cls q.2 ∈ tables_1 ∧ Cond.privateMethod q.1 ∈ tables_1 ∧ Cond.instanceMethod q.1 ∈ tables_1
theorem lw_p0 : lw_okq (⟨"WellTables", "refused", "(I)I"⟩, 11) := ⟨⟨by decide +kernel, by decide +kernel⟩, List.mem_of_getElem? (i := 13) (by decide +kernel), List.mem_of_getElem? (i := 190) (by decide +kernel), List.mem_of_getElem? (i := 191) (by decide +kernel)⟩
theorem lw_p1 : lw_okq (⟨"WellTables", "freeGrid", "()LWellTables$Grid;"⟩, 11) := ⟨⟨by decide +kernel, by decide +kernel⟩, List.mem_of_getElem? (i := 13) (by decide +kernel), List.mem_of_getElem? (i := 194) (by decide +kernel), List.mem_of_getElem? (i := 195) (by decide +kernel)⟩
theorem lw_p2 : lw_okq (⟨"WellTables", "come", "(LWellTables$Grid;)I"⟩, 11) := ⟨⟨by decide +kernel, by decide +kernel⟩, List.mem_of_getElem? (i := 13) (by decide +kernel), List.mem_of_getElem? (i := 205) (by decide +kernel), List.mem_of_getElem? (i := 206) (by decide +kernel)⟩
theorem lw_p3 : lw_okq (⟨"WellTables", "gridOf", "(I)LWellTables$Grid;"⟩, 11) := ⟨⟨by decide +kernel, by decide +kernel⟩, List.mem_of_getElem? (i := 13) (by decide +kernel), List.mem_of_getElem? (i := 213) (by decide +kernel), List.mem_of_getElem? (i := 214) (by decide +kernel)⟩
theorem lw_p4 : lw_okq (⟨"WellTables", "nought", "(I)I"⟩, 11) := ⟨⟨by decide +kernel, by decide +kernel⟩, List.mem_of_getElem? (i := 13) (by decide +kernel), List.mem_of_getElem? (i := 221) (by decide +kernel), List.mem_of_getElem? (i := 222) (by decide +kernel)⟩
theorem lw_p5 : lw_okq (⟨"WellTables$Worths", "firstLowColumns", "(LWellTables$Grid;IZ)I"⟩, 2) := ⟨⟨by decide +kernel, by decide +kernel⟩, List.mem_of_getElem? (i := 25) (by decide +kernel), List.mem_of_getElem? (i := 261) (by decide +kernel), List.mem_of_getElem? (i := 262) (by decide +kernel)⟩
theorem lw_p6 : lw_okq (⟨"WellTables$Worths", "findAll", "(LWellTables$Grid;I)V"⟩, 2) := ⟨⟨by decide +kernel, by decide +kernel⟩, List.mem_of_getElem? (i := 25) (by decide +kernel), List.mem_of_getElem? (i := 265) (by decide +kernel), List.mem_of_getElem? (i := 266) (by decide +kernel)⟩
theorem lw_p7 : lw_okq (⟨"WellTables$Worths", "choose", "(I)I"⟩, 2) := ⟨⟨by decide +kernel, by decide +kernel⟩, List.mem_of_getElem? (i := 25) (by decide +kernel), List.mem_of_getElem? (i := 269) (by decide +kernel), List.mem_of_getElem? (i := 270) (by decide +kernel)⟩
theorem lw_p8 : lw_okq (⟨"WellTables$Worths", "alongLastRow", "(LWellTables$Grid;II)J"⟩, 2) := ⟨⟨by decide +kernel, by decide +kernel⟩, List.mem_of_getElem? (i := 25) (by decide +kernel), List.mem_of_getElem? (i := 276) (by decide +kernel), List.mem_of_getElem? (i := 277) (by decide +kernel)⟩
theorem lw_p9 : lw_okq (⟨"WellTables", "webOf", "(I)LWellTables$Web;"⟩, 11) := ⟨⟨by decide +kernel, by decide +kernel⟩, List.mem_of_getElem? (i := 13) (by decide +kernel), List.mem_of_getElem? (i := 368) (by decide +kernel), List.mem_of_getElem? (i := 369) (by decide +kernel)⟩
theorem lw_p10 : lw_okq (⟨"WellTables$Ways", "fromStep", "(LWellTables$Web;IIZ)J"⟩, 1) := ⟨⟨by decide +kernel, by decide +kernel⟩, List.mem_of_getElem? (i := 40) (by decide +kernel), List.mem_of_getElem? (i := 392) (by decide +kernel), List.mem_of_getElem? (i := 393) (by decide +kernel)⟩
theorem lw_p11 : lw_okq (⟨"WellTables", "leading", "(IIIZ)J"⟩, 11) := ⟨⟨by decide +kernel, by decide +kernel⟩, List.mem_of_getElem? (i := 13) (by decide +kernel), List.mem_of_getElem? (i := 409) (by decide +kernel), List.mem_of_getElem? (i := 410) (by decide +kernel)⟩
theorem lw_p12 : lw_okq (⟨"WellTables", "emptyTheRow", "()V"⟩, 11) := ⟨⟨by decide +kernel, by decide +kernel⟩, List.mem_of_getElem? (i := 13) (by decide +kernel), List.mem_of_getElem? (i := 437) (by decide +kernel), List.mem_of_getElem? (i := 438) (by decide +kernel)⟩
theorem lw_p13 : lw_okq (⟨"WellTables$Maker", "begin", "(LWellTables$Grid;)V"⟩, 10) := ⟨⟨by decide +kernel, by decide +kernel⟩, List.mem_of_getElem? (i := 50) (by decide +kernel), List.mem_of_getElem? (i := 462) (by decide +kernel), List.mem_of_getElem? (i := 463) (by decide +kernel)⟩
theorem lw_p14 : lw_okq (⟨"WellTables$Maker", "clear", "(I)Z"⟩, 10) := ⟨⟨by decide +kernel, by decide +kernel⟩, List.mem_of_getElem? (i := 50) (by decide +kernel), List.mem_of_getElem? (i := 471) (by decide +kernel), List.mem_of_getElem? (i := 472) (by decide +kernel)⟩
theorem lw_p15 : lw_okq (⟨"WellTables$Maker", "findShare", "(II)Z"⟩, 10) := ⟨⟨by decide +kernel, by decide +kernel⟩, List.mem_of_getElem? (i := 50) (by decide +kernel), List.mem_of_getElem? (i := 475) (by decide +kernel), List.mem_of_getElem? (i := 476) (by decide +kernel)⟩
def lw_privs_1 : List (MethodName × Nat) := [(⟨"WellTables", "refused", "(I)I"⟩, 11), (⟨"WellTables", "freeGrid", "()LWellTables$Grid;"⟩, 11), (⟨"WellTables", "come", "(LWellTables$Grid;)I"⟩, 11), (⟨"WellTables", "gridOf", "(I)LWellTables$Grid;"⟩, 11), (⟨"WellTables", "nought", "(I)I"⟩, 11), (⟨"WellTables$Worths", "firstLowColumns", "(LWellTables$Grid;IZ)I"⟩, 2), (⟨"WellTables$Worths", "findAll", "(LWellTables$Grid;I)V"⟩, 2), (⟨"WellTables$Worths", "choose", "(I)I"⟩, 2), (⟨"WellTables$Worths", "alongLastRow", "(LWellTables$Grid;II)J"⟩, 2), (⟨"WellTables", "webOf", "(I)LWellTables$Web;"⟩, 11), (⟨"WellTables$Ways", "fromStep", "(LWellTables$Web;IIZ)J"⟩, 1), (⟨"WellTables", "leading", "(IIIZ)J"⟩, 11), (⟨"WellTables", "emptyTheRow", "()V"⟩, 11), (⟨"WellTables$Maker", "begin", "(LWellTables$Grid;)V"⟩, 10), (⟨"WellTables$Maker", "clear", "(I)Z"⟩, 10), (⟨"WellTables$Maker", "findShare", "(II)Z"⟩, 10)]
theorem lw_r1 : ∀ q ∈ lw_privs_1, lw_okq q := List.forall_mem_cons.mpr ⟨lw_p0, List.forall_mem_cons.mpr ⟨lw_p1, List.forall_mem_cons.mpr ⟨lw_p2, List.forall_mem_cons.mpr ⟨lw_p3, List.forall_mem_cons.mpr ⟨lw_p4, List.forall_mem_cons.mpr ⟨lw_p5, List.forall_mem_cons.mpr ⟨lw_p6, List.forall_mem_cons.mpr ⟨lw_p7, List.forall_mem_cons.mpr ⟨lw_p8, List.forall_mem_cons.mpr ⟨lw_p9, List.forall_mem_cons.mpr ⟨lw_p10, List.forall_mem_cons.mpr ⟨lw_p11, List.forall_mem_cons.mpr ⟨lw_p12, List.forall_mem_cons.mpr ⟨lw_p13, List.forall_mem_cons.mpr ⟨lw_p14, List.forall_mem_cons.mpr ⟨lw_p15, fun _ h => absurd h List.not_mem_nil⟩⟩⟩⟩⟩⟩⟩⟩⟩⟩⟩⟩⟩⟩⟩⟩
theorem lw_p16 : lw_okq (⟨"WellTables$Maker", "note", "(IIJJ)V"⟩, 10) := ⟨⟨by decide +kernel, by decide +kernel⟩, List.mem_of_getElem? (i := 50) (by decide +kernel), List.mem_of_getElem? (i := 489) (by decide +kernel), List.mem_of_getElem? (i := 490) (by decide +kernel)⟩
theorem lw_p17 : lw_okq (⟨"WellTables$Maker", "takeRowAbove", "(III)V"⟩, 10) := ⟨⟨by decide +kernel, by decide +kernel⟩, List.mem_of_getElem? (i := 50) (by decide +kernel), List.mem_of_getElem? (i := 493) (by decide +kernel), List.mem_of_getElem? (i := 494) (by decide +kernel)⟩
theorem lw_p18 : lw_okq (⟨"WellTables$Maker", "takeShare", "(II)V"⟩, 10) := ⟨⟨by decide +kernel, by decide +kernel⟩, List.mem_of_getElem? (i := 50) (by decide +kernel), List.mem_of_getElem? (i := 497) (by decide +kernel), List.mem_of_getElem? (i := 498) (by decide +kernel)⟩
theorem lw_p19 : lw_okq (⟨"WellTables$Maker", "standOnLine", "()Z"⟩, 10) := ⟨⟨by decide +kernel, by decide +kernel⟩, List.mem_of_getElem? (i := 50) (by decide +kernel), List.mem_of_getElem? (i := 501) (by decide +kernel), List.mem_of_getElem? (i := 502) (by decide +kernel)⟩
theorem lw_p20 : lw_okq (⟨"WellTablesModel", "begins", "(III)I"⟩, 37) := ⟨⟨by decide +kernel, by decide +kernel⟩, List.mem_of_getElem? (i := 532) (by decide +kernel), List.mem_of_getElem? (i := 658) (by decide +kernel), List.mem_of_getElem? (i := 659) (by decide +kernel)⟩
theorem lw_p21 : lw_okq (⟨"WellTablesModel", "no", "(I)I"⟩, 37) := ⟨⟨by decide +kernel, by decide +kernel⟩, List.mem_of_getElem? (i := 532) (by decide +kernel), List.mem_of_getElem? (i := 662) (by decide +kernel), List.mem_of_getElem? (i := 663) (by decide +kernel)⟩
theorem lw_p22 : lw_okq (⟨"WellTablesModel", "isPlace", "(III)Z"⟩, 37) := ⟨⟨by decide +kernel, by decide +kernel⟩, List.mem_of_getElem? (i := 532) (by decide +kernel), List.mem_of_getElem? (i := 670) (by decide +kernel), List.mem_of_getElem? (i := 671) (by decide +kernel)⟩
theorem lw_p23 : lw_okq (⟨"WellTablesModel", "isTable", "(I)Z"⟩, 37) := ⟨⟨by decide +kernel, by decide +kernel⟩, List.mem_of_getElem? (i := 532) (by decide +kernel), List.mem_of_getElem? (i := 674) (by decide +kernel), List.mem_of_getElem? (i := 675) (by decide +kernel)⟩
theorem lw_p24 : lw_okq (⟨"WellTablesModel", "none", "(I)I"⟩, 37) := ⟨⟨by decide +kernel, by decide +kernel⟩, List.mem_of_getElem? (i := 532) (by decide +kernel), List.mem_of_getElem? (i := 678) (by decide +kernel), List.mem_of_getElem? (i := 679) (by decide +kernel)⟩
theorem lw_p25 : lw_okq (⟨"WellTablesModel", "worthOf", "(III)J"⟩, 37) := ⟨⟨by decide +kernel, by decide +kernel⟩, List.mem_of_getElem? (i := 532) (by decide +kernel), List.mem_of_getElem? (i := 701) (by decide +kernel), List.mem_of_getElem? (i := 702) (by decide +kernel)⟩
theorem lw_p26 : lw_okq (⟨"WellTablesModel", "goesThrough", "(I)V"⟩, 37) := ⟨⟨by decide +kernel, by decide +kernel⟩, List.mem_of_getElem? (i := 532) (by decide +kernel), List.mem_of_getElem? (i := 709) (by decide +kernel), List.mem_of_getElem? (i := 710) (by decide +kernel)⟩
theorem lw_p27 : lw_okq (⟨"WellTablesModel", "counts", "(IIJ)V"⟩, 37) := ⟨⟨by decide +kernel, by decide +kernel⟩, List.mem_of_getElem? (i := 532) (by decide +kernel), List.mem_of_getElem? (i := 713) (by decide +kernel), List.mem_of_getElem? (i := 714) (by decide +kernel)⟩
theorem lw_p28 : lw_okq (⟨"WellTablesModel", "looks", "(IZ)I"⟩, 37) := ⟨⟨by decide +kernel, by decide +kernel⟩, List.mem_of_getElem? (i := 532) (by decide +kernel), List.mem_of_getElem? (i := 717) (by decide +kernel), List.mem_of_getElem? (i := 718) (by decide +kernel)⟩
theorem lw_p29 : lw_okq (⟨"WellTablesModel", "comes", "(III)I"⟩, 37) := ⟨⟨by decide +kernel, by decide +kernel⟩, List.mem_of_getElem? (i := 532) (by decide +kernel), List.mem_of_getElem? (i := 741) (by decide +kernel), List.mem_of_getElem? (i := 742) (by decide +kernel)⟩
theorem lw_p30 : lw_okq (⟨"WellTablesModel", "areAlike", "(II)Z"⟩, 37) := ⟨⟨by decide +kernel, by decide +kernel⟩, List.mem_of_getElem? (i := 532) (by decide +kernel), List.mem_of_getElem? (i := 749) (by decide +kernel), List.mem_of_getElem? (i := 750) (by decide +kernel)⟩
theorem lw_p31 : lw_okq (⟨"WellTablesModel", "isNet", "(I)Z"⟩, 37) := ⟨⟨by decide +kernel, by decide +kernel⟩, List.mem_of_getElem? (i := 532) (by decide +kernel), List.mem_of_getElem? (i := 774) (by decide +kernel), List.mem_of_getElem? (i := 775) (by decide +kernel)⟩
def lw_privs_2 : List (MethodName × Nat) := [(⟨"WellTables$Maker", "note", "(IIJJ)V"⟩, 10), (⟨"WellTables$Maker", "takeRowAbove", "(III)V"⟩, 10), (⟨"WellTables$Maker", "takeShare", "(II)V"⟩, 10), (⟨"WellTables$Maker", "standOnLine", "()Z"⟩, 10), (⟨"WellTablesModel", "begins", "(III)I"⟩, 37), (⟨"WellTablesModel", "no", "(I)I"⟩, 37), (⟨"WellTablesModel", "isPlace", "(III)Z"⟩, 37), (⟨"WellTablesModel", "isTable", "(I)Z"⟩, 37), (⟨"WellTablesModel", "none", "(I)I"⟩, 37), (⟨"WellTablesModel", "worthOf", "(III)J"⟩, 37), (⟨"WellTablesModel", "goesThrough", "(I)V"⟩, 37), (⟨"WellTablesModel", "counts", "(IIJ)V"⟩, 37), (⟨"WellTablesModel", "looks", "(IZ)I"⟩, 37), (⟨"WellTablesModel", "comes", "(III)I"⟩, 37), (⟨"WellTablesModel", "areAlike", "(II)Z"⟩, 37), (⟨"WellTablesModel", "isNet", "(I)Z"⟩, 37)]
theorem lw_r2 : ∀ q ∈ lw_privs_2, lw_okq q := List.forall_mem_cons.mpr ⟨lw_p16, List.forall_mem_cons.mpr ⟨lw_p17, List.forall_mem_cons.mpr ⟨lw_p18, List.forall_mem_cons.mpr ⟨lw_p19, List.forall_mem_cons.mpr ⟨lw_p20, List.forall_mem_cons.mpr ⟨lw_p21, List.forall_mem_cons.mpr ⟨lw_p22, List.forall_mem_cons.mpr ⟨lw_p23, List.forall_mem_cons.mpr ⟨lw_p24, List.forall_mem_cons.mpr ⟨lw_p25, List.forall_mem_cons.mpr ⟨lw_p26, List.forall_mem_cons.mpr ⟨lw_p27, List.forall_mem_cons.mpr ⟨lw_p28, List.forall_mem_cons.mpr ⟨lw_p29, List.forall_mem_cons.mpr ⟨lw_p30, List.forall_mem_cons.mpr ⟨lw_p31, fun _ h => absurd h List.not_mem_nil⟩⟩⟩⟩⟩⟩⟩⟩⟩⟩⟩⟩⟩⟩⟩⟩
theorem lw_p32 : lw_okq (⟨"WellTablesModel", "whyNot", "(III)I"⟩, 37) := ⟨⟨by decide +kernel, by decide +kernel⟩, List.mem_of_getElem? (i := 532) (by decide +kernel), List.mem_of_getElem? (i := 791) (by decide +kernel), List.mem_of_getElem? (i := 792) (by decide +kernel)⟩
theorem lw_p33 : lw_okq (⟨"WellTablesModel", "finds", "(II)V"⟩, 37) := ⟨⟨by decide +kernel, by decide +kernel⟩, List.mem_of_getElem? (i := 532) (by decide +kernel), List.mem_of_getElem? (i := 795) (by decide +kernel), List.mem_of_getElem? (i := 796) (by decide +kernel)⟩
theorem lw_p34 : lw_okq (⟨"WellTablesModel", "over", "(II)I"⟩, 37) := ⟨⟨by decide +kernel, by decide +kernel⟩, List.mem_of_getElem? (i := 532) (by decide +kernel), List.mem_of_getElem? (i := 799) (by decide +kernel), List.mem_of_getElem? (i := 800) (by decide +kernel)⟩
theorem lw_p35 : lw_okq (⟨"WellTablesModel", "isTold", "()V"⟩, 37) := ⟨⟨by decide +kernel, by decide +kernel⟩, List.mem_of_getElem? (i := 532) (by decide +kernel), List.mem_of_getElem? (i := 821) (by decide +kernel), List.mem_of_getElem? (i := 822) (by decide +kernel)⟩
theorem lw_p36 : lw_okq (⟨"WellTablesModel", "meets", "(J)V"⟩, 37) := ⟨⟨by decide +kernel, by decide +kernel⟩, List.mem_of_getElem? (i := 532) (by decide +kernel), List.mem_of_getElem? (i := 829) (by decide +kernel), List.mem_of_getElem? (i := 830) (by decide +kernel)⟩
theorem lw_p37 : lw_okq (⟨"WellTablesModel", "clears", "(IIIZ)V"⟩, 37) := ⟨⟨by decide +kernel, by decide +kernel⟩, List.mem_of_getElem? (i := 532) (by decide +kernel), List.mem_of_getElem? (i := 841) (by decide +kernel), List.mem_of_getElem? (i := 842) (by decide +kernel)⟩
theorem lw_p38 : lw_okq (⟨"WellTablesModel", "times", "(JJJJ)V"⟩, 37) := ⟨⟨by decide +kernel, by decide +kernel⟩, List.mem_of_getElem? (i := 532) (by decide +kernel), List.mem_of_getElem? (i := 848) (by decide +kernel), List.mem_of_getElem? (i := 849) (by decide +kernel)⟩
theorem lw_p39 : lw_okq (⟨"WellTablesModel", "fraction", "(JJ)V"⟩, 37) := ⟨⟨by decide +kernel, by decide +kernel⟩, List.mem_of_getElem? (i := 532) (by decide +kernel), List.mem_of_getElem? (i := 852) (by decide +kernel), List.mem_of_getElem? (i := 853) (by decide +kernel)⟩
theorem lw_p40 : lw_okq (⟨"WellTablesModel", "shares", "(IIJJ)V"⟩, 37) := ⟨⟨by decide +kernel, by decide +kernel⟩, List.mem_of_getElem? (i := 532) (by decide +kernel), List.mem_of_getElem? (i := 859) (by decide +kernel), List.mem_of_getElem? (i := 860) (by decide +kernel)⟩
def lw_privs_3 : List (MethodName × Nat) := [(⟨"WellTablesModel", "whyNot", "(III)I"⟩, 37), (⟨"WellTablesModel", "finds", "(II)V"⟩, 37), (⟨"WellTablesModel", "over", "(II)I"⟩, 37), (⟨"WellTablesModel", "isTold", "()V"⟩, 37), (⟨"WellTablesModel", "meets", "(J)V"⟩, 37), (⟨"WellTablesModel", "clears", "(IIIZ)V"⟩, 37), (⟨"WellTablesModel", "times", "(JJJJ)V"⟩, 37), (⟨"WellTablesModel", "fraction", "(JJ)V"⟩, 37), (⟨"WellTablesModel", "shares", "(IIJJ)V"⟩, 37)]
theorem lw_r3 : ∀ q ∈ lw_privs_3, lw_okq q := List.forall_mem_cons.mpr ⟨lw_p32, List.forall_mem_cons.mpr ⟨lw_p33, List.forall_mem_cons.mpr ⟨lw_p34, List.forall_mem_cons.mpr ⟨lw_p35, List.forall_mem_cons.mpr ⟨lw_p36, List.forall_mem_cons.mpr ⟨lw_p37, List.forall_mem_cons.mpr ⟨lw_p38, List.forall_mem_cons.mpr ⟨lw_p39, List.forall_mem_cons.mpr ⟨lw_p40, fun _ h => absurd h List.not_mem_nil⟩⟩⟩⟩⟩⟩⟩⟩⟩
def lw_privs : List (MethodName × Nat) := lw_privs_1 ++ (lw_privs_2 ++ (lw_privs_3))
def lw_tbl : List Cond := k2_sels lw_privs ++ tables_1
theorem lw_privs_ok : ∀ q ∈ lw_privs, lw_okq q := by
  show ∀ q ∈ lw_privs_1 ++ (lw_privs_2 ++ (lw_privs_3)), lw_okq q
  exact List.forall_mem_append.mpr ⟨lw_r1, List.forall_mem_append.mpr ⟨lw_r2, lw_r3⟩⟩
-- ===== end of PART A; then your names; then what follows =====
--  BEGIN printed: names, fields, word lists, decode rows ===== -/
def RX0 : String := "WellTables$Grid"
def TX0 : u_T := fun k => match k with
  | 0 => ("WellTables$Grid", "numbers", "[I", true)
  | 1 => ("WellTables$Grid", "rows", "I", false)
  | 2 => ("WellTables$Grid", "columns", "I", false)
  | 3 => ("WellTables$Grid", "kind", "I", false)
  | 4 => ("WellTables$Grid", "net", "I", false)
  | _ => ("WellTables$Grid", "fits", "Z", false)
def tyX0 : Nat → FieldType := fun k => match k with
  | 0 => .array .int
  | 1 => .int
  | 2 => .int
  | 3 => .int
  | 4 => .int
  | _ => .boolean
theorem nmX0 : ∀ a, a < 6 → ∀ b, b < 6 → a ≠ b → (TX0 a).2.1 ≠ (TX0 b).2.1 := by decide +kernel
theorem tyX0_ok : ∀ k, k < 6 → parseFieldDescriptor (TX0 k).2.2.1 = some (tyX0 k) := by decide +kernel
abbrev cX0_init : ByteArray := prog_2_method_1_code
def yX0_init : MethodName := ⟨RX0, "<init>", "()V"⟩
abbrev cX0_begin : ByteArray := prog_2_method_2_code
def yX0_begin : MethodName := ⟨RX0, "begin", "(III)V"⟩
abbrev cX0_reaches : ByteArray := prog_2_method_3_code
def yX0_reaches : MethodName := ⟨RX0, "reaches", "(II)Z"⟩
abbrev cX0_number : ByteArray := prog_2_method_4_code
def yX0_number : MethodName := ⟨RX0, "number", "(II)I"⟩
abbrev cX0_put : ByteArray := prog_2_method_5_code
def yX0_put : MethodName := ⟨RX0, "put", "(IIJ)V"⟩
def RX1 : String := "WellTables$Maker"
def TX1 : u_T := fun k => match k with
  | 0 => ("WellTables$Maker", "kinds", "[I", true)
  | 1 => ("WellTables$Maker", "lines", "[I", true)
  | 2 => ("WellTables$Maker", "uppers", "[J", true)
  | 3 => ("WellTables$Maker", "lowers", "[J", true)
  | 4 => ("WellTables$Maker", "steps", "I", false)
  | 5 => ("WellTables$Maker", "size", "I", false)
  | 6 => ("WellTables$Maker", "restUppers", "[J", true)
  | 7 => ("WellTables$Maker", "restLowers", "[J", true)
  | 8 => ("WellTables$Maker", "shareUpper", "J", false)
  | _ => ("WellTables$Maker", "shareLower", "J", false)
def tyX1 : Nat → FieldType := fun k => match k with
  | 0 => .array .int
  | 1 => .array .int
  | 2 => .array .long
  | 3 => .array .long
  | 4 => .int
  | 5 => .int
  | 6 => .array .long
  | 7 => .array .long
  | 8 => .long
  | _ => .long
theorem nmX1 : ∀ a, a < 10 → ∀ b, b < 10 → a ≠ b → (TX1 a).2.1 ≠ (TX1 b).2.1 := by decide +kernel
theorem tyX1_ok : ∀ k, k < 10 → parseFieldDescriptor (TX1 k).2.2.1 = some (tyX1 k) := by decide +kernel
abbrev cX1_init : ByteArray := prog_3_method_1_code
def yX1_init : MethodName := ⟨RX1, "<init>", "()V"⟩
abbrev cX1_takeApart : ByteArray := prog_3_method_2_code
def yX1_takeApart : MethodName := ⟨RX1, "takeApart", "(LWellTables$Grid;)I"⟩
abbrev cX1_begin : ByteArray := prog_3_method_3_code
def yX1_begin : MethodName := ⟨RX1, "begin", "(LWellTables$Grid;)V"⟩
abbrev cX1_placeOf : ByteArray := prog_3_method_4_code
def yX1_placeOf : MethodName := ⟨RX1, "placeOf", "(III)I"⟩
abbrev cX1_clear : ByteArray := prog_3_method_5_code
def yX1_clear : MethodName := ⟨RX1, "clear", "(I)Z"⟩
abbrev cX1_findShare : ByteArray := prog_3_method_6_code
def yX1_findShare : MethodName := ⟨RX1, "findShare", "(II)Z"⟩
abbrev cX1_takeRowAbove : ByteArray := prog_3_method_7_code
def yX1_takeRowAbove : MethodName := ⟨RX1, "takeRowAbove", "(III)V"⟩
abbrev cX1_takeShare : ByteArray := prog_3_method_8_code
def yX1_takeShare : MethodName := ⟨RX1, "takeShare", "(II)V"⟩
abbrev cX1_standOnLine : ByteArray := prog_3_method_9_code
def yX1_standOnLine : MethodName := ⟨RX1, "standOnLine", "()Z"⟩
abbrev cX1_note : ByteArray := prog_3_method_10_code
def yX1_note : MethodName := ⟨RX1, "note", "(IIJJ)V"⟩
abbrev cX1_commonOf : ByteArray := prog_3_method_11_code
def yX1_commonOf : MethodName := ⟨RX1, "commonOf", "(JJ)J"⟩
abbrev cX1_without : ByteArray := prog_3_method_12_code
def yX1_without : MethodName := ⟨RX1, "without", "(JJ)J"⟩
def RX2 : String := "WellTables$Ways"
def TX2 : u_T := fun k => match k with
  | _ => ("WellTables$Ways", "ahead", "[J", true)
def tyX2 : Nat → FieldType := fun k => match k with
  | _ => .array .long
theorem nmX2 : ∀ a, a < 1 → ∀ b, b < 1 → a ≠ b → (TX2 a).2.1 ≠ (TX2 b).2.1 := by decide +kernel
theorem tyX2_ok : ∀ k, k < 1 → parseFieldDescriptor (TX2 k).2.2.1 = some (tyX2 k) := by decide +kernel
abbrev cX2_init : ByteArray := prog_4_method_1_code
def yX2_init : MethodName := ⟨RX2, "<init>", "()V"⟩
abbrev cX2_lead : ByteArray := prog_4_method_2_code
def yX2_lead : MethodName := ⟨RX2, "lead", "(LWellTables$Web;IIZ)J"⟩
abbrev cX2_fromStep : ByteArray := prog_4_method_3_code
def yX2_fromStep : MethodName := ⟨RX2, "fromStep", "(LWellTables$Web;IIZ)J"⟩
abbrev cX2_linesAhead : ByteArray := prog_4_method_4_code
def yX2_linesAhead : MethodName := ⟨RX2, "linesAhead", "(LWellTables$Web;III)I"⟩
def RX3 : String := "WellTables$Web"
def TX3 : u_T := fun k => match k with
  | 0 => ("WellTables$Web", "kinds", "[I", true)
  | 1 => ("WellTables$Web", "places", "[I", true)
  | 2 => ("WellTables$Web", "weights", "[I", true)
  | 3 => ("WellTables$Web", "lines", "I", false)
  | _ => ("WellTables$Web", "steps", "I", false)
def tyX3 : Nat → FieldType := fun k => match k with
  | 0 => .array .int
  | 1 => .array .int
  | 2 => .array .int
  | 3 => .int
  | _ => .int
theorem nmX3 : ∀ a, a < 5 → ∀ b, b < 5 → a ≠ b → (TX3 a).2.1 ≠ (TX3 b).2.1 := by decide +kernel
theorem tyX3_ok : ∀ k, k < 5 → parseFieldDescriptor (TX3 k).2.2.1 = some (tyX3 k) := by decide +kernel
abbrev cX3_init : ByteArray := prog_5_method_1_code
def yX3_init : MethodName := ⟨RX3, "<init>", "()V"⟩
abbrev cX3_begin : ByteArray := prog_5_method_2_code
def yX3_begin : MethodName := ⟨RX3, "begin", "(I)V"⟩
abbrev cX3_takes : ByteArray := prog_5_method_3_code
def yX3_takes : MethodName := ⟨RX3, "takes", "(II)Z"⟩
abbrev cX3_add : ByteArray := prog_5_method_4_code
def yX3_add : MethodName := ⟨RX3, "add", "(III)V"⟩
abbrev cX3_isWeighedOn : ByteArray := prog_5_method_5_code
def yX3_isWeighedOn : MethodName := ⟨RX3, "isWeighedOn", "(II)Z"⟩
abbrev cX3_afterGoing : ByteArray := prog_5_method_6_code
def yX3_afterGoing : MethodName := ⟨RX3, "afterGoing", "(II)I"⟩
def RX4 : String := "WellTables$Worths"
def TX4 : u_T := fun k => match k with
  | 0 => ("WellTables$Worths", "found", "[J", true)
  | _ => ("WellTables$Worths", "chosen", "[I", true)
def tyX4 : Nat → FieldType := fun k => match k with
  | 0 => .array .long
  | _ => .array .int
theorem nmX4 : ∀ a, a < 2 → ∀ b, b < 2 → a ≠ b → (TX4 a).2.1 ≠ (TX4 b).2.1 := by decide +kernel
theorem tyX4_ok : ∀ k, k < 2 → parseFieldDescriptor (TX4 k).2.2.1 = some (tyX4 k) := by decide +kernel
abbrev cX4_init : ByteArray := prog_6_method_1_code
def yX4_init : MethodName := ⟨RX4, "<init>", "()V"⟩
abbrev cX4_ofPart : ByteArray := prog_6_method_2_code
def yX4_ofPart : MethodName := ⟨RX4, "ofPart", "(LWellTables$Grid;II)J"⟩
abbrev cX4_firstLow : ByteArray := prog_6_method_3_code
def yX4_firstLow : MethodName := ⟨RX4, "firstLow", "(LWellTables$Grid;Z)I"⟩
abbrev cX4_firstLowColumns : ByteArray := prog_6_method_4_code
def yX4_firstLowColumns : MethodName := ⟨RX4, "firstLowColumns", "(LWellTables$Grid;IZ)I"⟩
abbrev cX4_manyOf : ByteArray := prog_6_method_5_code
def yX4_manyOf : MethodName := ⟨RX4, "manyOf", "(LWellTables$Grid;I)I"⟩
abbrev cX4_looks : ByteArray := prog_6_method_6_code
def yX4_looks : MethodName := ⟨RX4, "looks", "(LWellTables$Grid;Z)I"⟩
abbrev cX4_stretch : ByteArray := prog_6_method_7_code
def yX4_stretch : MethodName := ⟨RX4, "stretch", "(II)I"⟩
abbrev cX4_findAll : ByteArray := prog_6_method_8_code
def yX4_findAll : MethodName := ⟨RX4, "findAll", "(LWellTables$Grid;I)V"⟩
abbrev cX4_choose : ByteArray := prog_6_method_9_code
def yX4_choose : MethodName := ⟨RX4, "choose", "(I)I"⟩
abbrev cX4_alongLastRow : ByteArray := prog_6_method_10_code
def yX4_alongLastRow : MethodName := ⟨RX4, "alongLastRow", "(LWellTables$Grid;II)J"⟩
def RX5 : String := "WellTables"
def TX5 : u_T := fun k => match k with
  | 0 => ("WellTables", "grids", "[LWellTables$Grid;", true)
  | 1 => ("WellTables", "gridCount", "I", false)
  | 2 => ("WellTables", "webs", "[LWellTables$Web;", true)
  | 3 => ("WellTables", "webCount", "I", false)
  | 4 => ("WellTables", "theRow", "[I", true)
  | 5 => ("WellTables", "rowIsThere", "Z", false)
  | 6 => ("WellTables", "brought", "[I", true)
  | 7 => ("WellTables", "refusals", "[I", true)
  | 8 => ("WellTables", "worths", "LWellTables$Worths;", true)
  | 9 => ("WellTables", "ways", "LWellTables$Ways;", true)
  | _ => ("WellTables", "maker", "LWellTables$Maker;", true)
def tyX5 : Nat → FieldType := fun k => match k with
  | 0 => .array (.object "WellTables$Grid")
  | 1 => .int
  | 2 => .array (.object "WellTables$Web")
  | 3 => .int
  | 4 => .array .int
  | 5 => .boolean
  | 6 => .array .int
  | 7 => .array .int
  | 8 => .object "WellTables$Worths"
  | 9 => .object "WellTables$Ways"
  | _ => .object "WellTables$Maker"
theorem nmX5 : ∀ a, a < 11 → ∀ b, b < 11 → a ≠ b → (TX5 a).2.1 ≠ (TX5 b).2.1 := by decide +kernel
theorem tyX5_ok : ∀ k, k < 11 → parseFieldDescriptor (TX5 k).2.2.1 = some (tyX5 k) := by decide +kernel
abbrev cX5_init : ByteArray := prog_1_method_1_code
def yX5_init : MethodName := ⟨RX5, "<init>", "()V"⟩
abbrev cX5_table : ByteArray := prog_1_method_2_code
def yX5_table : MethodName := ⟨RX5, "table", "(II)I"⟩
abbrev cX5_set : ByteArray := prog_1_method_3_code
def yX5_set : MethodName := ⟨RX5, "set", "(IIII)I"⟩
abbrev cX5_at : ByteArray := prog_1_method_4_code
def yX5_at : MethodName := ⟨RX5, "at", "(III)I"⟩
abbrev cX5_look : ByteArray := prog_1_method_5_code
def yX5_look : MethodName := ⟨RX5, "look", "(II)I"⟩
abbrev cX5_drop : ByteArray := prog_1_method_6_code
def yX5_drop : MethodName := ⟨RX5, "drop", "()I"⟩
abbrev cX5_worth : ByteArray := prog_1_method_7_code
def yX5_worth : MethodName := ⟨RX5, "worth", "(III)J"⟩
abbrev cX5_low : ByteArray := prog_1_method_8_code
def yX5_low : MethodName := ⟨RX5, "low", "(IZ)I"⟩
abbrev cX5_count : ByteArray := prog_1_method_9_code
def yX5_count : MethodName := ⟨RX5, "count", "(II)I"⟩
abbrev cX5_product : ByteArray := prog_1_method_10_code
def yX5_product : MethodName := ⟨RX5, "product", "(II)I"⟩
abbrev cX5_sum : ByteArray := prog_1_method_11_code
def yX5_sum : MethodName := ⟨RX5, "sum", "(II)I"⟩
abbrev cX5_part : ByteArray := prog_1_method_12_code
def yX5_part : MethodName := ⟨RX5, "part", "(III)I"⟩
abbrev cX5_turn : ByteArray := prog_1_method_13_code
def yX5_turn : MethodName := ⟨RX5, "turn", "(II)I"⟩
abbrev cX5_same : ByteArray := prog_1_method_14_code
def yX5_same : MethodName := ⟨RX5, "same", "(II)I"⟩
abbrev cX5_net : ByteArray := prog_1_method_15_code
def yX5_net : MethodName := ⟨RX5, "net", "(I)I"⟩
abbrev cX5_step : ByteArray := prog_1_method_16_code
def yX5_step : MethodName := ⟨RX5, "step", "(IIII)I"⟩
abbrev cX5_back : ByteArray := prog_1_method_17_code
def yX5_back : MethodName := ⟨RX5, "back", "(I)I"⟩
abbrev cX5_made : ByteArray := prog_1_method_18_code
def yX5_made : MethodName := ⟨RX5, "made", "(I)I"⟩
abbrev cX5_families : ByteArray := prog_1_method_19_code
def yX5_families : MethodName := ⟨RX5, "families", "(III)I"⟩
abbrev cX5_weight : ByteArray := prog_1_method_20_code
def yX5_weight : MethodName := ⟨RX5, "weight", "(III)J"⟩
abbrev cX5_family : ByteArray := prog_1_method_21_code
def yX5_family : MethodName := ⟨RX5, "family", "(IIII)I"⟩
abbrev cX5_unnet : ByteArray := prog_1_method_22_code
def yX5_unnet : MethodName := ⟨RX5, "unnet", "()I"⟩
abbrev cX5_tell : ByteArray := prog_1_method_23_code
def yX5_tell : MethodName := ⟨RX5, "tell", "(II)I"⟩
abbrev cX5_changes : ByteArray := prog_1_method_24_code
def yX5_changes : MethodName := ⟨RX5, "changes", "(I)I"⟩
abbrev cX5_band : ByteArray := prog_1_method_25_code
def yX5_band : MethodName := ⟨RX5, "band", "(II)I"⟩
abbrev cX5_make : ByteArray := prog_1_method_26_code
def yX5_make : MethodName := ⟨RX5, "make", "(I)I"⟩
abbrev cX5_making : ByteArray := prog_1_method_27_code
def yX5_making : MethodName := ⟨RX5, "making", "(II)J"⟩
abbrev cX5_lay : ByteArray := prog_1_method_28_code
def yX5_lay : MethodName := ⟨RX5, "lay", "(II)I"⟩
abbrev cX5_tear : ByteArray := prog_1_method_29_code
def yX5_tear : MethodName := ⟨RX5, "tear", "()I"⟩
abbrev cX5_row : ByteArray := prog_1_method_30_code
def yX5_row : MethodName := ⟨RX5, "row", "(I)I"⟩
abbrev cX5_copy : ByteArray := prog_1_method_31_code
def yX5_copy : MethodName := ⟨RX5, "copy", "(III)I"⟩
abbrev cX5_status : ByteArray := prog_1_method_32_code
def yX5_status : MethodName := ⟨RX5, "status", "(I)I"⟩
abbrev cX5_refused : ByteArray := prog_1_method_33_code
def yX5_refused : MethodName := ⟨RX5, "refused", "(I)I"⟩
abbrev cX5_nought : ByteArray := prog_1_method_34_code
def yX5_nought : MethodName := ⟨RX5, "nought", "(I)I"⟩
abbrev cX5_gridOf : ByteArray := prog_1_method_35_code
def yX5_gridOf : MethodName := ⟨RX5, "gridOf", "(I)LWellTables$Grid;"⟩
abbrev cX5_webOf : ByteArray := prog_1_method_36_code
def yX5_webOf : MethodName := ⟨RX5, "webOf", "(I)LWellTables$Web;"⟩
abbrev cX5_freeGrid : ByteArray := prog_1_method_37_code
def yX5_freeGrid : MethodName := ⟨RX5, "freeGrid", "()LWellTables$Grid;"⟩
abbrev cX5_come : ByteArray := prog_1_method_38_code
def yX5_come : MethodName := ⟨RX5, "come", "(LWellTables$Grid;)I"⟩
abbrev cX5_leading : ByteArray := prog_1_method_39_code
def yX5_leading : MethodName := ⟨RX5, "leading", "(IIIZ)J"⟩
abbrev cX5_emptyTheRow : ByteArray := prog_1_method_40_code
def yX5_emptyTheRow : MethodName := ⟨RX5, "emptyTheRow", "()V"⟩
abbrev cX5_isSide : ByteArray := prog_1_method_41_code
def yX5_isSide : MethodName := ⟨RX5, "isSide", "(I)Z"⟩
abbrev cX5_isNumber : ByteArray := prog_1_method_42_code
def yX5_isNumber : MethodName := ⟨RX5, "isNumber", "(J)Z"⟩
abbrev cX5_areSome : ByteArray := prog_1_method_43_code
def yX5_areSome : MethodName := ⟨RX5, "areSome", "(II)Z"⟩
abbrev cX5_areAsMany : ByteArray := prog_1_method_44_code
def yX5_areAsMany : MethodName := ⟨RX5, "areAsMany", "(II)Z"⟩
abbrev cX5_holds : ByteArray := prog_1_method_45_code
def yX5_holds : MethodName := ⟨RX5, "holds", "(II)Z"⟩
abbrev cX5_signOf : ByteArray := prog_1_method_46_code
def yX5_signOf : MethodName := ⟨RX5, "signOf", "(J)I"⟩
abbrev cX5_rowByColumn : ByteArray := prog_1_method_47_code
def yX5_rowByColumn : MethodName := ⟨RX5, "rowByColumn", "(LWellTables$Grid;ILWellTables$Grid;I)I"⟩
abbrev cX5_takeRow : ByteArray := prog_1_method_48_code
def yX5_takeRow : MethodName := ⟨RX5, "takeRow", "(LWellTables$Grid;ILWellTables$Grid;II)V"⟩
abbrev cX5_exchange : ByteArray := prog_1_method_49_code
def yX5_exchange : MethodName := ⟨RX5, "exchange", "(LWellTables$Grid;LWellTables$Grid;)V"⟩
abbrev cX5_reverse : ByteArray := prog_1_method_50_code
def yX5_reverse : MethodName := ⟨RX5, "reverse", "(LWellTables$Grid;LWellTables$Grid;Z)V"⟩
abbrev cX5_signChanges : ByteArray := prog_1_method_51_code
def yX5_signChanges : MethodName := ⟨RX5, "signChanges", "([II)I"⟩
def RX6 : String := "WellTablesModel"
def TX6 : u_T := fun k => match k with
  | 0 => ("WellTablesModel", "cells", "[I", true)
  | 1 => ("WellTablesModel", "rows", "[I", true)
  | 2 => ("WellTablesModel", "columns", "[I", true)
  | 3 => ("WellTablesModel", "kind", "[I", true)
  | 4 => ("WellTablesModel", "netOf", "[I", true)
  | 5 => ("WellTablesModel", "many", "I", false)
  | 6 => ("WellTablesModel", "lines", "[I", true)
  | 7 => ("WellTablesModel", "stepCount", "[I", true)
  | 8 => ("WellTablesModel", "sKind", "[I", true)
  | 9 => ("WellTablesModel", "sLine", "[I", true)
  | 10 => ("WellTablesModel", "sWeight", "[I", true)
  | 11 => ("WellTablesModel", "nets", "I", false)
  | 12 => ("WellTablesModel", "refused", "[I", true)
  | 13 => ("WellTablesModel", "used", "[J", true)
  | 14 => ("WellTablesModel", "below", "I", false)
  | 15 => ("WellTablesModel", "noughts", "I", false)
  | 16 => ("WellTablesModel", "above", "I", false)
  | 17 => ("WellTablesModel", "firstBelow", "I", false)
  | 18 => ("WellTablesModel", "firstNot", "I", false)
  | 19 => ("WellTablesModel", "next", "[J", true)
  | 20 => ("WellTablesModel", "waysOn", "[I", true)
  | 21 => ("WellTablesModel", "weightOn", "[J", true)
  | 22 => ("WellTablesModel", "row", "[I", true)
  | 23 => ("WellTablesModel", "moved", "[I", true)
  | 24 => ("WellTablesModel", "hasRow", "Z", false)
  | 25 => ("WellTablesModel", "changed", "I", false)
  | 26 => ("WellTablesModel", "lastSign", "I", false)
  | 27 => ("WellTablesModel", "up", "[J", true)
  | 28 => ("WellTablesModel", "down", "[J", true)
  | 29 => ("WellTablesModel", "shareUp", "[J", true)
  | 30 => ("WellTablesModel", "shareDown", "[J", true)
  | 31 => ("WellTablesModel", "shareKind", "[I", true)
  | 32 => ("WellTablesModel", "shareLine", "[I", true)
  | 33 => ("WellTablesModel", "shares", "I", false)
  | 34 => ("WellTablesModel", "canBe", "Z", false)
  | 35 => ("WellTablesModel", "resultUp", "J", false)
  | _ => ("WellTablesModel", "resultDown", "J", false)
def tyX6 : Nat → FieldType := fun k => match k with
  | 0 => .array .int
  | 1 => .array .int
  | 2 => .array .int
  | 3 => .array .int
  | 4 => .array .int
  | 5 => .int
  | 6 => .array .int
  | 7 => .array .int
  | 8 => .array .int
  | 9 => .array .int
  | 10 => .array .int
  | 11 => .int
  | 12 => .array .int
  | 13 => .array .long
  | 14 => .int
  | 15 => .int
  | 16 => .int
  | 17 => .int
  | 18 => .int
  | 19 => .array .long
  | 20 => .array .int
  | 21 => .array .long
  | 22 => .array .int
  | 23 => .array .int
  | 24 => .boolean
  | 25 => .int
  | 26 => .int
  | 27 => .array .long
  | 28 => .array .long
  | 29 => .array .long
  | 30 => .array .long
  | 31 => .array .int
  | 32 => .array .int
  | 33 => .int
  | 34 => .boolean
  | 35 => .long
  | _ => .long
theorem nmX6 : ∀ a, a < 37 → ∀ b, b < 37 → a ≠ b → (TX6 a).2.1 ≠ (TX6 b).2.1 := by decide +kernel
theorem tyX6_ok : ∀ k, k < 37 → parseFieldDescriptor (TX6 k).2.2.1 = some (tyX6 k) := by decide +kernel
abbrev cX6_init : ByteArray := prog_8_method_1_code
def yX6_init : MethodName := ⟨RX6, "<init>", "()V"⟩
abbrev cX6_isIn : ByteArray := prog_8_method_2_code
def yX6_isIn : MethodName := ⟨RX6, "isIn", "(JJJ)Z"⟩
abbrev cX6_no : ByteArray := prog_8_method_3_code
def yX6_no : MethodName := ⟨RX6, "no", "(I)I"⟩
abbrev cX6_none : ByteArray := prog_8_method_4_code
def yX6_none : MethodName := ⟨RX6, "none", "(I)I"⟩
abbrev cX6_isTable : ByteArray := prog_8_method_5_code
def yX6_isTable : MethodName := ⟨RX6, "isTable", "(I)Z"⟩
abbrev cX6_bits : ByteArray := prog_8_method_6_code
def yX6_bits : MethodName := ⟨RX6, "bits", "(I)I"⟩
abbrev cX6_place : ByteArray := prog_8_method_7_code
def yX6_place : MethodName := ⟨RX6, "place", "(III)I"⟩
abbrev cX6_begins : ByteArray := prog_8_method_8_code
def yX6_begins : MethodName := ⟨RX6, "begins", "(III)I"⟩
abbrev cX6_table : ByteArray := prog_8_method_9_code
def yX6_table : MethodName := ⟨RX6, "table", "(II)I"⟩
abbrev cX6_isPlace : ByteArray := prog_8_method_10_code
def yX6_isPlace : MethodName := ⟨RX6, "isPlace", "(III)Z"⟩
abbrev cX6_set : ByteArray := prog_8_method_11_code
def yX6_set : MethodName := ⟨RX6, "set", "(IIII)I"⟩
abbrev cX6_at : ByteArray := prog_8_method_12_code
def yX6_at : MethodName := ⟨RX6, "at", "(III)I"⟩
abbrev cX6_worthOf : ByteArray := prog_8_method_13_code
def yX6_worthOf : MethodName := ⟨RX6, "worthOf", "(III)J"⟩
abbrev cX6_isSome : ByteArray := prog_8_method_14_code
def yX6_isSome : MethodName := ⟨RX6, "isSome", "(II)Z"⟩
abbrev cX6_worth : ByteArray := prog_8_method_15_code
def yX6_worth : MethodName := ⟨RX6, "worth", "(III)J"⟩
abbrev cX6_goesThrough : ByteArray := prog_8_method_16_code
def yX6_goesThrough : MethodName := ⟨RX6, "goesThrough", "(I)V"⟩
abbrev cX6_counts : ByteArray := prog_8_method_17_code
def yX6_counts : MethodName := ⟨RX6, "counts", "(IIJ)V"⟩
abbrev cX6_span : ByteArray := prog_8_method_18_code
def yX6_span : MethodName := ⟨RX6, "span", "(II)I"⟩
abbrev cX6_looks : ByteArray := prog_8_method_19_code
def yX6_looks : MethodName := ⟨RX6, "looks", "(IZ)I"⟩
abbrev cX6_look : ByteArray := prog_8_method_20_code
def yX6_look : MethodName := ⟨RX6, "look", "(II)I"⟩
abbrev cX6_drop : ByteArray := prog_8_method_21_code
def yX6_drop : MethodName := ⟨RX6, "drop", "()I"⟩
abbrev cX6_low : ByteArray := prog_8_method_22_code
def yX6_low : MethodName := ⟨RX6, "low", "(IZ)I"⟩
abbrev cX6_count : ByteArray := prog_8_method_23_code
def yX6_count : MethodName := ⟨RX6, "count", "(II)I"⟩
abbrev cX6_comes : ByteArray := prog_8_method_24_code
def yX6_comes : MethodName := ⟨RX6, "comes", "(III)I"⟩
abbrev cX6_product : ByteArray := prog_8_method_25_code
def yX6_product : MethodName := ⟨RX6, "product", "(II)I"⟩
abbrev cX6_areAlike : ByteArray := prog_8_method_26_code
def yX6_areAlike : MethodName := ⟨RX6, "areAlike", "(II)Z"⟩
abbrev cX6_sum : ByteArray := prog_8_method_27_code
def yX6_sum : MethodName := ⟨RX6, "sum", "(II)I"⟩
abbrev cX6_part : ByteArray := prog_8_method_28_code
def yX6_part : MethodName := ⟨RX6, "part", "(III)I"⟩
abbrev cX6_turn : ByteArray := prog_8_method_29_code
def yX6_turn : MethodName := ⟨RX6, "turn", "(II)I"⟩
abbrev cX6_same : ByteArray := prog_8_method_30_code
def yX6_same : MethodName := ⟨RX6, "same", "(II)I"⟩
abbrev cX6_isNet : ByteArray := prog_8_method_31_code
def yX6_isNet : MethodName := ⟨RX6, "isNet", "(I)Z"⟩
abbrev cX6_net : ByteArray := prog_8_method_32_code
def yX6_net : MethodName := ⟨RX6, "net", "(I)I"⟩
abbrev cX6_step : ByteArray := prog_8_method_33_code
def yX6_step : MethodName := ⟨RX6, "step", "(IIII)I"⟩
abbrev cX6_back : ByteArray := prog_8_method_34_code
def yX6_back : MethodName := ⟨RX6, "back", "(I)I"⟩
abbrev cX6_made : ByteArray := prog_8_method_35_code
def yX6_made : MethodName := ⟨RX6, "made", "(I)I"⟩
abbrev cX6_over : ByteArray := prog_8_method_36_code
def yX6_over : MethodName := ⟨RX6, "over", "(II)I"⟩
abbrev cX6_finds : ByteArray := prog_8_method_37_code
def yX6_finds : MethodName := ⟨RX6, "finds", "(II)V"⟩
abbrev cX6_whyNot : ByteArray := prog_8_method_38_code
def yX6_whyNot : MethodName := ⟨RX6, "whyNot", "(III)I"⟩
abbrev cX6_families : ByteArray := prog_8_method_39_code
def yX6_families : MethodName := ⟨RX6, "families", "(III)I"⟩
abbrev cX6_weight : ByteArray := prog_8_method_40_code
def yX6_weight : MethodName := ⟨RX6, "weight", "(III)J"⟩
abbrev cX6_family : ByteArray := prog_8_method_41_code
def yX6_family : MethodName := ⟨RX6, "family", "(IIII)I"⟩
abbrev cX6_unnet : ByteArray := prog_8_method_42_code
def yX6_unnet : MethodName := ⟨RX6, "unnet", "()I"⟩
abbrev cX6_isTold : ByteArray := prog_8_method_43_code
def yX6_isTold : MethodName := ⟨RX6, "isTold", "()V"⟩
abbrev cX6_tell : ByteArray := prog_8_method_44_code
def yX6_tell : MethodName := ⟨RX6, "tell", "(II)I"⟩
abbrev cX6_meets : ByteArray := prog_8_method_45_code
def yX6_meets : MethodName := ⟨RX6, "meets", "(J)V"⟩
abbrev cX6_changes : ByteArray := prog_8_method_46_code
def yX6_changes : MethodName := ⟨RX6, "changes", "(I)I"⟩
abbrev cX6_band : ByteArray := prog_8_method_47_code
def yX6_band : MethodName := ⟨RX6, "band", "(II)I"⟩
abbrev cX6_divisor : ByteArray := prog_8_method_48_code
def yX6_divisor : MethodName := ⟨RX6, "divisor", "(JJ)J"⟩
abbrev cX6_fraction : ByteArray := prog_8_method_49_code
def yX6_fraction : MethodName := ⟨RX6, "fraction", "(JJ)V"⟩
abbrev cX6_times : ByteArray := prog_8_method_50_code
def yX6_times : MethodName := ⟨RX6, "times", "(JJJJ)V"⟩
abbrev cX6_shares : ByteArray := prog_8_method_51_code
def yX6_shares : MethodName := ⟨RX6, "shares", "(IIJJ)V"⟩
abbrev cX6_cell : ByteArray := prog_8_method_52_code
def yX6_cell : MethodName := ⟨RX6, "cell", "(IIZ)I"⟩
abbrev cX6_clears : ByteArray := prog_8_method_53_code
def yX6_clears : MethodName := ⟨RX6, "clears", "(IIIZ)V"⟩
abbrev cX6_make : ByteArray := prog_8_method_54_code
def yX6_make : MethodName := ⟨RX6, "make", "(I)I"⟩
abbrev cX6_making : ByteArray := prog_8_method_55_code
def yX6_making : MethodName := ⟨RX6, "making", "(II)J"⟩
abbrev cX6_lay : ByteArray := prog_8_method_56_code
def yX6_lay : MethodName := ⟨RX6, "lay", "(II)I"⟩
abbrev cX6_tear : ByteArray := prog_8_method_57_code
def yX6_tear : MethodName := ⟨RX6, "tear", "()I"⟩
abbrev cX6_row : ByteArray := prog_8_method_58_code
def yX6_row : MethodName := ⟨RX6, "row", "(I)I"⟩
abbrev cX6_copy : ByteArray := prog_8_method_59_code
def yX6_copy : MethodName := ⟨RX6, "copy", "(III)I"⟩
abbrev cX6_status : ByteArray := prog_8_method_60_code
def yX6_status : MethodName := ⟨RX6, "status", "(I)I"⟩
def RJ6 : String := "java/lang/Integer"
def TJ6 : u_T := fun k => match k with
  | _ => ("", "", "", false)
def tyJ6 : Nat → FieldType := fun k => match k with
  | _ => .int
theorem nmJ6 : ∀ a, a < 0 → ∀ b, b < 0 → a ≠ b → (TJ6 a).2.1 ≠ (TJ6 b).2.1 := by decide +kernel
theorem tyJ6_ok : ∀ k, k < 0 → parseFieldDescriptor (TJ6 k).2.2.1 = some (tyJ6 k) := by decide +kernel
abbrev cJ6_bitCount_0f7a4 : ByteArray := prog_9_method_49_code
def yJ6_bitCount_0f7a4 : MethodName := ⟨RJ6, "bitCount", "(I)I"⟩
def RJ9 : String := "java/lang/Math"
def TJ9 : u_T := fun k => match k with
  | _ => ("", "", "", false)
def tyJ9 : Nat → FieldType := fun k => match k with
  | _ => .int
theorem nmJ9 : ∀ a, a < 0 → ∀ b, b < 0 → a ≠ b → (TJ9 a).2.1 ≠ (TJ9 b).2.1 := by decide +kernel
theorem tyJ9_ok : ∀ k, k < 0 → parseFieldDescriptor (TJ9 k).2.2.1 = some (tyJ9 k) := by decide +kernel
abbrev cJ9_abs_067f4 : ByteArray := prog_10_method_61_code
def yJ9_abs_067f4 : MethodName := ⟨RJ9, "abs", "(J)J"⟩
abbrev cJ9_max_f86c9 : ByteArray := prog_10_method_66_code
def yJ9_max_f86c9 : MethodName := ⟨RJ9, "max", "(JJ)J"⟩
abbrev cJ9_min_7cf53 : ByteArray := prog_10_method_69_code
def yJ9_min_7cf53 : MethodName := ⟨RJ9, "min", "(II)I"⟩
def RJ10 : String := "java/lang/System"
def TJ10 : u_T := fun k => match k with
  | _ => ("", "", "", false)
def tyJ10 : Nat → FieldType := fun k => match k with
  | _ => .int
theorem nmJ10 : ∀ a, a < 0 → ∀ b, b < 0 → a ≠ b → (TJ10 a).2.1 ≠ (TJ10 b).2.1 := by decide +kernel
theorem tyJ10_ok : ∀ k, k < 0 → parseFieldDescriptor (TJ10 k).2.2.1 = some (tyJ10 k) := by decide +kernel
def RJ7 : String := "java/util/Arrays"
def TJ7 : u_T := fun k => match k with
  | _ => ("", "", "", false)
def tyJ7 : Nat → FieldType := fun k => match k with
  | _ => .int
theorem nmJ7 : ∀ a, a < 0 → ∀ b, b < 0 → a ≠ b → (TJ7 a).2.1 ≠ (TJ7 b).2.1 := by decide +kernel
theorem tyJ7_ok : ∀ k, k < 0 → parseFieldDescriptor (TJ7 k).2.2.1 = some (tyJ7 k) := by decide +kernel
abbrev cJ7_fill_53178 : ByteArray := prog_12_method_103_code
def yJ7_fill_53178 : MethodName := ⟨RJ7, "fill", "([II)V"⟩
def RL : String := "WellTablesLaw"
abbrev cL_law : ByteArray := code
def yL_law : MethodName := ⟨RL, "law", "([I)Z"⟩
abbrev vwCl : List vw_C := [(RX0, TX0, 6), (RX1, TX1, 10), (RX2, TX2, 1), (RX3, TX3, 5), (RX4, TX4, 2), (RX5, TX5, 11), (RX6, TX6, 37)]
def WS : List Cond := lw_tbl.filter goodWord
theorem ws_of {i : Nat} {w : Cond} (h : lw_tbl[i]? = some w) (g : goodWord w = true) : w ∈ WS := List.mem_filter.mpr ⟨List.mem_of_getElem? h, g⟩
theorem ws_tbl {w : Cond} (h : w ∈ WS) : w ∈ lw_tbl := (List.mem_filter.mp h).1
theorem ws_good : GoodIn WS WS := fun _ h => ⟨h, good_of_word (List.mem_filter.mp h).2⟩
