section
-- ===== PART A: goes FIRST, ahead of the names: the tables' words, and 'selects' of the private methods out of them =====
/-- a private method of a class that the tables say can be made, by its rows of tables_1 -/
def lw_okq (q : MethodName × Nat) : Prop := (q.1.cls ≠ "java/lang/invoke/MethodHandle" ∧ q.1.cls ≠ "java/lang/invoke/VarHandle") ∧ Cond.instantiable q.1.cls q.2 ∈ tables_1 ∧ Cond.privateMethod q.1 ∈ tables_1 ∧ Cond.instanceMethod q.1 ∈ tables_1
theorem lw_p0 : lw_okq (⟨"WellTables", "refused", "(I)I"⟩, 11) := ⟨⟨by decide +kernel, by decide +kernel⟩, List.mem_of_getElem? (i := 13) (by decide +kernel), List.mem_of_getElem? (i := 190) (by decide +kernel), List.mem_of_getElem? (i := 191) (by decide +kernel)⟩
theorem lw_p1 : lw_okq (⟨"WellTables", "freeGrid", "()LWellTables$Grid;"⟩, 11) := ⟨⟨by decide +kernel, by decide +kernel⟩, List.mem_of_getElem? (i := 13) (by decide +kernel), List.mem_of_getElem? (i := 194) (by decide +kernel), List.mem_of_getElem? (i := 195) (by decide +kernel)⟩
theorem lw_p2 : lw_okq (⟨"WellTables", "come", "(LWellTables$Grid;)I"⟩, 11) := ⟨⟨by decide +kernel, by decide +kernel⟩, List.mem_of_getElem? (i := 13) (by decide +kernel), List.mem_of_getElem? (i := 205) (by decide +kernel), List.mem_of_getElem? (i := 206) (by decide +kernel)⟩
theorem lw_p3 : lw_okq (⟨"WellTables", "gridOf", "(I)LWellTables$Grid;"⟩, 11) := ⟨⟨by decide +kernel, by decide +kernel⟩, List.mem_of_getElem? (i := 13) (by decide +kernel), List.mem_of_getElem? (i := 213) (by decide +kernel), List.mem_of_getElem? (i := 214) (by decide +kernel)⟩
theorem lw_p4 : lw_okq (⟨"WellTables", "nought", "(I)I"⟩, 11) := ⟨⟨by decide +kernel, by decide +kernel⟩, List.mem_of_getElem? (i := 13) (by decide +kernel), List.mem_of_getElem? (i := 221) (by decide +kernel), List.mem_of_getElem? (i := 222) (by decide +kernel)⟩
theorem lw_p5 : lw_okq (⟨"WellTables$Worths", "firstLowColumns", "(LWellTables$Grid;IZ)I"⟩, 2) := ⟨⟨by decide +kernel, by decide +kernel⟩, List.mem_of_getElem? (i := 25) (by decide +kernel), List.mem_of_getElem? (i := 261) (by decide +kernel), List.mem_of_getElem? (i := 262) (by decide +kernel)⟩
theorem lw_p6 : lw_okq (⟨"WellTables$Worths", "findAll", "(LWellTables$Grid;I)V"⟩, 2) := ⟨⟨by decide +kernel, by decide +kernel⟩, List.mem_of_getElem? (i := 25) (by decide +kernel), List.mem_of_getElem? (i := 265) (by decide +kernel), List.mem_of_getElem? (i := 266) (by decide +kernel)⟩
theorem lw_p7 : lw_okq (⟨"WellTables$Worths", "choose", "(I)I"⟩, 2) := ⟨⟨by decide +kernel, by decide +kernel⟩, List.mem_of_getElem? (i := 25) (by decide +kernel), List.mem_of_getElem? (i := 269) (by decide +kernel), List.mem_of_getElem? (i := 270) (by decide +kernel)⟩
theorem lw_p8 : lw_okq (⟨"WellTables$Worths", "alongLastRow", "(LWellTables$Grid;II)J"⟩, 2) := ⟨⟨by decide +kernel, by decide +kernel⟩, List.mem_of_getElem? (i := 25) (by decide +kernel), List.mem_of_getElem? (i := 276) (by decide +kernel), List.mem_of_getElem? (i := 277) (by decide +kernel)⟩
theorem lw_p9 : lw_okq (⟨"WellTables", "webOf", "(I)LWellTables$Web;"⟩, 11) := ⟨⟨by decide +kernel, by decide +kernel⟩, List.mem_of_getElem? (i := 13) (by decide +kernel), List.mem_of_getElem? (i := 368) (by decide +kernel), List.mem_of_getElem? (i := 369) (by decide +kernel)⟩
theorem lw_p10 : lw_okq (⟨"WellTables$Ways", "fromStep", "(LWellTables$Web;IIZ)J"⟩, 1) := ⟨⟨by decide +kernel, by decide +kernel⟩, List.mem_of_getElem? (i := 40) (by decide +kernel), List.mem_of_getElem? (i := 392) (by decide +kernel), List.mem_of_getElem? (i := 393) (by decide +kernel)⟩
theorem lw_p11 : lw_okq (⟨"WellTables", "leading", "(IIIZ)J"⟩, 11) := ⟨⟨by decide +kernel, by decide +kernel⟩, List.mem_of_getElem? (i := 13) (by decide +kernel), List.mem_of_getElem? (i := 409) (by decide +kernel), List.mem_of_getElem? (i := 410) (by decide +kernel)⟩
theorem lw_p12 : lw_okq (⟨"WellTables", "emptyTheRow", "()V"⟩, 11) := ⟨⟨by decide +kernel, by decide +kernel⟩, List.mem_of_getElem? (i := 13) (by decide +kernel), List.mem_of_getElem? (i := 437) (by decide +kernel), List.mem_of_getElem? (i := 438) (by decide +kernel)⟩
theorem lw_p13 : lw_okq (⟨"WellTables$Maker", "begin", "(LWellTables$Grid;)V"⟩, 10) := ⟨⟨by decide +kernel, by decide +kernel⟩, List.mem_of_getElem? (i := 50) (by decide +kernel), List.mem_of_getElem? (i := 462) (by decide +kernel), List.mem_of_getElem? (i := 463) (by decide +kernel)⟩
theorem lw_p14 : lw_okq (⟨"WellTables$Maker", "clear", "(I)Z"⟩, 10) := ⟨⟨by decide +kernel, by decide +kernel⟩, List.mem_of_getElem? (i := 50) (by decide +kernel), List.mem_of_getElem? (i := 471) (by decide +kernel), List.mem_of_getElem? (i := 472) (by decide +kernel)⟩
theorem lw_p15 : lw_okq (⟨"WellTables$Maker", "findShare", "(II)Z"⟩, 10) := ⟨⟨by decide +kernel, by decide +kernel⟩, List.mem_of_getElem? (i := 50) (by decide +kernel), List.mem_of_getElem? (i := 475) (by decide +kernel), List.mem_of_getElem? (i := 476) (by decide +kernel)⟩
def lw_privs_1 : List (MethodName × Nat) := [(⟨"WellTables", "refused", "(I)I"⟩, 11), (⟨"WellTables", "freeGrid", "()LWellTables$Grid;"⟩, 11), (⟨"WellTables", "come", "(LWellTables$Grid;)I"⟩, 11), (⟨"WellTables", "gridOf", "(I)LWellTables$Grid;"⟩, 11), (⟨"WellTables", "nought", "(I)I"⟩, 11), (⟨"WellTables$Worths", "firstLowColumns", "(LWellTables$Grid;IZ)I"⟩, 2), (⟨"WellTables$Worths", "findAll", "(LWellTables$Grid;I)V"⟩, 2), (⟨"WellTables$Worths", "choose", "(I)I"⟩, 2), (⟨"WellTables$Worths", "alongLastRow", "(LWellTables$Grid;II)J"⟩, 2), (⟨"WellTables", "webOf", "(I)LWellTables$Web;"⟩, 11), (⟨"WellTables$Ways", "fromStep", "(LWellTables$Web;IIZ)J"⟩, 1), (⟨"WellTables", "leading", "(IIIZ)J"⟩, 11), (⟨"WellTables", "emptyTheRow", "()V"⟩, 11), (⟨"WellTables$Maker", "begin", "(LWellTables$Grid;)V"⟩, 10), (⟨"WellTables$Maker", "clear", "(I)Z"⟩, 10), (⟨"WellTables$Maker", "findShare", "(II)Z"⟩, 10)]
theorem lw_r1 : ∀ q ∈ lw_privs_1, lw_okq q := List.forall_mem_cons.mpr ⟨lw_p0, List.forall_mem_cons.mpr ⟨lw_p1, List.forall_mem_cons.mpr ⟨lw_p2, List.forall_mem_cons.mpr ⟨lw_p3, List.forall_mem_cons.mpr ⟨lw_p4, List.forall_mem_cons.mpr ⟨lw_p5, List.forall_mem_cons.mpr ⟨lw_p6, List.forall_mem_cons.mpr ⟨lw_p7, List.forall_mem_cons.mpr ⟨lw_p8, List.forall_mem_cons.mpr ⟨lw_p9, List.forall_mem_cons.mpr ⟨lw_p10, List.forall_mem_cons.mpr ⟨lw_p11, List.forall_mem_cons.mpr ⟨lw_p12, List.forall_mem_cons.mpr ⟨lw_p13, List.forall_mem_cons.mpr ⟨lw_p14, List.forall_mem_cons.mpr ⟨lw_p15, fun _ h => absurd h List.not_mem_nil⟩⟩⟩⟩⟩⟩⟩⟩⟩⟩⟩⟩⟩⟩⟩⟩
theorem lw_p16 : lw_okq (⟨"WellTables$Maker", "note", "(IIJJ)V"⟩, 10) := ⟨⟨by decide +kernel, by decide +kernel⟩, List.mem_of_getElem? (i := 50) (by decide +kernel), List.mem_of_getElem? (i := 489) (by decide +kernel), List.mem_of_getElem? (i := 490) (by decide +kernel)⟩
theorem lw_p17 : lw_okq (⟨"WellTables$Maker", "takeRowAbove", "(III)V"⟩, 10) := ⟨⟨by decide +kernel, by decide +kernel⟩, List.mem_of_getElem? (i := 50) (by decide +kernel), List.mem_of_getElem? (i := 493) (by decide +kernel), List.mem_of_getElem? (i := 494) (by decide +kernel)⟩
theorem lw_p18 : lw_okq (⟨"WellTables$Maker", "takeShare", "(II)V"⟩, 10) := ⟨⟨by decide +kernel, by decide +kernel⟩, List.mem_of_getElem? (i := 50) (by decide +kernel), List.mem_of_getElem? (i := 497) (by decide +kernel), List.mem_of_getElem? (i := 498) (by decide +kernel)⟩
theorem lw_p19 : lw_okq (⟨"WellTables$Maker", "standOnLine", "()Z"⟩, 10) := ⟨⟨by decide +kernel, by decide +kernel⟩, List.mem_of_getElem? (i := 50) (by decide +kernel), List.mem_of_getElem? (i := 501) (by decide +kernel), List.mem_of_getElem? (i := 502) (by decide +kernel)⟩
theorem lw_p20 : lw_okq (⟨"WellTablesModel", "begins", "(III)I"⟩, 37) := ⟨⟨by decide +kernel, by decide +kernel⟩, List.mem_of_getElem? (i := 532) (by decide +kernel), List.mem_of_getElem? (i := 658) (by decide +kernel), List.mem_of_getElem? (i := 659) (by decide +kernel)⟩
theorem lw_p21 : lw_okq (⟨"WellTablesModel", "no", "(I)I"⟩, 37) := ⟨⟨by decide +kernel, by decide +kernel⟩, List.mem_of_getElem? (i := 532) (by decide +kernel), List.mem_of_getElem? (i := 662) (by decide +kernel), List.mem_of_getElem? (i := 663) (by decide +kernel)⟩
theorem lw_p22 : lw_okq (⟨"WellTablesModel", "isPlace", "(III)Z"⟩, 37) := ⟨⟨by decide +kernel, by decide +kernel⟩, List.mem_of_getElem? (i := 532) (by decide +kernel), List.mem_of_getElem? (i := 670) (by decide +kernel), List.mem_of_getElem? (i := 671) (by decide +kernel)⟩
theorem lw_p23 : lw_okq (⟨"WellTablesModel", "isTable", "(I)Z"⟩, 37) := ⟨⟨by decide +kernel, by decide +kernel⟩, List.mem_of_getElem? (i := 532) (by decide +kernel), List.mem_of_getElem? (i := 674) (by decide +kernel), List.mem_of_getElem? (i := 675) (by decide +kernel)⟩
theorem lw_p24 : lw_okq (⟨"WellTablesModel", "none", "(I)I"⟩, 37) := ⟨⟨by decide +kernel, by decide +kernel⟩, List.mem_of_getElem? (i := 532) (by decide +kernel), List.mem_of_getElem? (i := 678) (by decide +kernel), List.mem_of_getElem? (i := 679) (by decide +kernel)⟩
theorem lw_p25 : lw_okq (⟨"WellTablesModel", "worthOf", "(III)J"⟩, 37) := ⟨⟨by decide +kernel, by decide +kernel⟩, List.mem_of_getElem? (i := 532) (by decide +kernel), List.mem_of_getElem? (i := 701) (by decide +kernel), List.mem_of_getElem? (i := 702) (by decide +kernel)⟩
theorem lw_p26 : lw_okq (⟨"WellTablesModel", "goesThrough", "(I)V"⟩, 37) := ⟨⟨by decide +kernel, by decide +kernel⟩, List.mem_of_getElem? (i := 532) (by decide +kernel), List.mem_of_getElem? (i := 709) (by decide +kernel), List.mem_of_getElem? (i := 710) (by decide +kernel)⟩
theorem lw_p27 : lw_okq (⟨"WellTablesModel", "counts", "(IIJ)V"⟩, 37) := ⟨⟨by decide +kernel, by decide +kernel⟩, List.mem_of_getElem? (i := 532) (by decide +kernel), List.mem_of_getElem? (i := 713) (by decide +kernel), List.mem_of_getElem? (i := 714) (by decide +kernel)⟩
theorem lw_p28 : lw_okq (⟨"WellTablesModel", "looks", "(IZ)I"⟩, 37) := ⟨⟨by decide +kernel, by decide +kernel⟩, List.mem_of_getElem? (i := 532) (by decide +kernel), List.mem_of_getElem? (i := 717) (by decide +kernel), List.mem_of_getElem? (i := 718) (by decide +kernel)⟩
theorem lw_p29 : lw_okq (⟨"WellTablesModel", "comes", "(III)I"⟩, 37) := ⟨⟨by decide +kernel, by decide +kernel⟩, List.mem_of_getElem? (i := 532) (by decide +kernel), List.mem_of_getElem? (i := 741) (by decide +kernel), List.mem_of_getElem? (i := 742) (by decide +kernel)⟩
theorem lw_p30 : lw_okq (⟨"WellTablesModel", "areAlike", "(II)Z"⟩, 37) := ⟨⟨by decide +kernel, by decide +kernel⟩, List.mem_of_getElem? (i := 532) (by decide +kernel), List.mem_of_getElem? (i := 749) (by decide +kernel), List.mem_of_getElem? (i := 750) (by decide +kernel)⟩
theorem lw_p31 : lw_okq (⟨"WellTablesModel", "isNet", "(I)Z"⟩, 37) := ⟨⟨by decide +kernel, by decide +kernel⟩, List.mem_of_getElem? (i := 532) (by decide +kernel), List.mem_of_getElem? (i := 774) (by decide +kernel), List.mem_of_getElem? (i := 775) (by decide +kernel)⟩
def lw_privs_2 : List (MethodName × Nat) := [(⟨"WellTables$Maker", "note", "(IIJJ)V"⟩, 10), (⟨"WellTables$Maker", "takeRowAbove", "(III)V"⟩, 10), (⟨"WellTables$Maker", "takeShare", "(II)V"⟩, 10), (⟨"WellTables$Maker", "standOnLine", "()Z"⟩, 10), (⟨"WellTablesModel", "begins", "(III)I"⟩, 37), (⟨"WellTablesModel", "no", "(I)I"⟩, 37), (⟨"WellTablesModel", "isPlace", "(III)Z"⟩, 37), (⟨"WellTablesModel", "isTable", "(I)Z"⟩, 37), (⟨"WellTablesModel", "none", "(I)I"⟩, 37), (⟨"WellTablesModel", "worthOf", "(III)J"⟩, 37), (⟨"WellTablesModel", "goesThrough", "(I)V"⟩, 37), (⟨"WellTablesModel", "counts", "(IIJ)V"⟩, 37), (⟨"WellTablesModel", "looks", "(IZ)I"⟩, 37), (⟨"WellTablesModel", "comes", "(III)I"⟩, 37), (⟨"WellTablesModel", "areAlike", "(II)Z"⟩, 37), (⟨"WellTablesModel", "isNet", "(I)Z"⟩, 37)]
theorem lw_r2 : ∀ q ∈ lw_privs_2, lw_okq q := List.forall_mem_cons.mpr ⟨lw_p16, List.forall_mem_cons.mpr ⟨lw_p17, List.forall_mem_cons.mpr ⟨lw_p18, List.forall_mem_cons.mpr ⟨lw_p19, List.forall_mem_cons.mpr ⟨lw_p20, List.forall_mem_cons.mpr ⟨lw_p21, List.forall_mem_cons.mpr ⟨lw_p22, List.forall_mem_cons.mpr ⟨lw_p23, List.forall_mem_cons.mpr ⟨lw_p24, List.forall_mem_cons.mpr ⟨lw_p25, List.forall_mem_cons.mpr ⟨lw_p26, List.forall_mem_cons.mpr ⟨lw_p27, List.forall_mem_cons.mpr ⟨lw_p28, List.forall_mem_cons.mpr ⟨lw_p29, List.forall_mem_cons.mpr ⟨lw_p30, List.forall_mem_cons.mpr ⟨lw_p31, fun _ h => absurd h List.not_mem_nil⟩⟩⟩⟩⟩⟩⟩⟩⟩⟩⟩⟩⟩⟩⟩⟩
theorem lw_p32 : lw_okq (⟨"WellTablesModel", "whyNot", "(III)I"⟩, 37) := ⟨⟨by decide +kernel, by decide +kernel⟩, List.mem_of_getElem? (i := 532) (by decide +kernel), List.mem_of_getElem? (i := 791) (by decide +kernel), List.mem_of_getElem? (i := 792) (by decide +kernel)⟩
theorem lw_p33 : lw_okq (⟨"WellTablesModel", "finds", "(II)V"⟩, 37) := ⟨⟨by decide +kernel, by decide +kernel⟩, List.mem_of_getElem? (i := 532) (by decide +kernel), List.mem_of_getElem? (i := 795) (by decide +kernel), List.mem_of_getElem? (i := 796) (by decide +kernel)⟩
theorem lw_p34 : lw_okq (⟨"WellTablesModel", "over", "(II)I"⟩, 37) := ⟨⟨by decide +kernel, by decide +kernel⟩, List.mem_of_getElem? (i := 532) (by decide +kernel), List.mem_of_getElem? (i := 799) (by decide +kernel), List.mem_of_getElem? (i := 800) (by decide +kernel)⟩
theorem lw_p35 : lw_okq (⟨"WellTablesModel", "isTold", "()V"⟩, 37) := ⟨⟨by decide +kernel, by decide +kernel⟩, List.mem_of_getElem? (i := 532) (by decide +kernel), List.mem_of_getElem? (i := 821) (by decide +kernel), List.mem_of_getElem? (i := 822) (by decide +kernel)⟩
theorem lw_p36 : lw_okq (⟨"WellTablesModel", "meets", "(J)V"⟩, 37) := ⟨⟨by decide +kernel, by decide +kernel⟩, List.mem_of_getElem? (i := 532) (by decide +kernel), List.mem_of_getElem? (i := 829) (by decide +kernel), List.mem_of_getElem? (i := 830) (by decide +kernel)⟩
theorem lw_p37 : lw_okq (⟨"WellTablesModel", "clears", "(IIIZ)V"⟩, 37) := ⟨⟨by decide +kernel, by decide +kernel⟩, List.mem_of_getElem? (i := 532) (by decide +kernel), List.mem_of_getElem? (i := 841) (by decide +kernel), List.mem_of_getElem? (i := 842) (by decide +kernel)⟩
theorem lw_p38 : lw_okq (⟨"WellTablesModel", "times", "(JJJJ)V"⟩, 37) := ⟨⟨by decide +kernel, by decide +kernel⟩, List.mem_of_getElem? (i := 532) (by decide +kernel), List.mem_of_getElem? (i := 848) (by decide +kernel), List.mem_of_getElem? (i := 849) (by decide +kernel)⟩
theorem lw_p39 : lw_okq (⟨"WellTablesModel", "fraction", "(JJ)V"⟩, 37) := ⟨⟨by decide +kernel, by decide +kernel⟩, List.mem_of_getElem? (i := 532) (by decide +kernel), List.mem_of_getElem? (i := 852) (by decide +kernel), List.mem_of_getElem? (i := 853) (by decide +kernel)⟩
theorem lw_p40 : lw_okq (⟨"WellTablesModel", "shares", "(IIJJ)V"⟩, 37) := ⟨⟨by decide +kernel, by decide +kernel⟩, List.mem_of_getElem? (i := 532) (by decide +kernel), List.mem_of_getElem? (i := 859) (by decide +kernel), List.mem_of_getElem? (i := 860) (by decide +kernel)⟩
def lw_privs_3 : List (MethodName × Nat) := [(⟨"WellTablesModel", "whyNot", "(III)I"⟩, 37), (⟨"WellTablesModel", "finds", "(II)V"⟩, 37), (⟨"WellTablesModel", "over", "(II)I"⟩, 37), (⟨"WellTablesModel", "isTold", "()V"⟩, 37), (⟨"WellTablesModel", "meets", "(J)V"⟩, 37), (⟨"WellTablesModel", "clears", "(IIIZ)V"⟩, 37), (⟨"WellTablesModel", "times", "(JJJJ)V"⟩, 37), (⟨"WellTablesModel", "fraction", "(JJ)V"⟩, 37), (⟨"WellTablesModel", "shares", "(IIJJ)V"⟩, 37)]
theorem lw_r3 : ∀ q ∈ lw_privs_3, lw_okq q := List.forall_mem_cons.mpr ⟨lw_p32, List.forall_mem_cons.mpr ⟨lw_p33, List.forall_mem_cons.mpr ⟨lw_p34, List.forall_mem_cons.mpr ⟨lw_p35, List.forall_mem_cons.mpr ⟨lw_p36, List.forall_mem_cons.mpr ⟨lw_p37, List.forall_mem_cons.mpr ⟨lw_p38, List.forall_mem_cons.mpr ⟨lw_p39, List.forall_mem_cons.mpr ⟨lw_p40, fun _ h => absurd h List.not_mem_nil⟩⟩⟩⟩⟩⟩⟩⟩⟩
def lw_privs : List (MethodName × Nat) := lw_privs_1 ++ (lw_privs_2 ++ (lw_privs_3))
def lw_tbl : List Cond := k2_sels lw_privs ++ tables_1
theorem lw_privs_ok : ∀ q ∈ lw_privs, lw_okq q := by
  show ∀ q ∈ lw_privs_1 ++ (lw_privs_2 ++ (lw_privs_3)), lw_okq q
  exact List.forall_mem_append.mpr ⟨lw_r1, List.forall_mem_append.mpr ⟨lw_r2, lw_r3⟩⟩
-- ===== end of PART A; then your names; then what follows =====
--  BEGIN printed: names, fields, word lists, decode rows ===== -/
def RX0 : String := "WellTables$Grid"
def TX0 : u_T := fun k => match k with
  | 0 => ("WellTables$Grid", "numbers", "[I", true)
  | 1 => ("WellTables$Grid", "rows", "I", false)
  | 2 => ("WellTables$Grid", "columns", "I", false)
  | 3 => ("WellTables$Grid", "kind", "I", false)
  | 4 => ("WellTables$Grid", "net", "I", false)
  | _ => ("WellTables$Grid", "fits", "Z", false)
def tyX0 : Nat → FieldType := fun k => match k with
  | 0 => .array .int
  | 1 => .int
  | 2 => .int
  | 3 => .int
  | 4 => .int
  | _ => .boolean
theorem nmX0 : ∀ a, a < 6 → ∀ b, b < 6 → a ≠ b → (TX0 a).2.1 ≠ (TX0 b).2.1 := by decide +kernel
theorem tyX0_ok : ∀ k, k < 6 → parseFieldDescriptor (TX0 k).2.2.1 = some (tyX0 k) := by decide +kernel
abbrev cX0_init : ByteArray := prog_2_method_1_code
def yX0_init : MethodName := ⟨RX0, "<init>", "()V"⟩
abbrev cX0_begin : ByteArray := prog_2_method_2_code
def yX0_begin : MethodName := ⟨RX0, "begin", "(III)V"⟩
abbrev cX0_reaches : ByteArray := prog_2_method_3_code
def yX0_reaches : MethodName := ⟨RX0, "reaches", "(II)Z"⟩
abbrev cX0_number : ByteArray := prog_2_method_4_code
def yX0_number : MethodName := ⟨RX0, "number", "(II)I"⟩
abbrev cX0_put : ByteArray := prog_2_method_5_code
def yX0_put : MethodName := ⟨RX0, "put", "(IIJ)V"⟩
def RX1 : String := "WellTables$Maker"
def TX1 : u_T := fun k => match k with
  | 0 => ("WellTables$Maker", "kinds", "[I", true)
  | 1 => ("WellTables$Maker", "lines", "[I", true)
  | 2 => ("WellTables$Maker", "uppers", "[J", true)
  | 3 => ("WellTables$Maker", "lowers", "[J", true)
  | 4 => ("WellTables$Maker", "steps", "I", false)
  | 5 => ("WellTables$Maker", "size", "I", false)
  | 6 => ("WellTables$Maker", "restUppers", "[J", true)
  | 7 => ("WellTables$Maker", "restLowers", "[J", true)
  | 8 => ("WellTables$Maker", "shareUpper", "J", false)
  | _ => ("WellTables$Maker", "shareLower", "J", false)
def tyX1 : Nat → FieldType := fun k => match k with
  | 0 => .array .int
  | 1 => .array .int
  | 2 => .array .long
  | 3 => .array .long
  | 4 => .int
  | 5 => .int
  | 6 => .array .long
  | 7 => .array .long
  | 8 => .long
  | _ => .long
theorem nmX1 : ∀ a, a < 10 → ∀ b, b < 10 → a ≠ b → (TX1 a).2.1 ≠ (TX1 b).2.1 := by decide +kernel
theorem tyX1_ok : ∀ k, k < 10 → parseFieldDescriptor (TX1 k).2.2.1 = some (tyX1 k) := by decide +kernel
abbrev cX1_init : ByteArray := prog_3_method_1_code
def yX1_init : MethodName := ⟨RX1, "<init>", "()V"⟩
abbrev cX1_takeApart : ByteArray := prog_3_method_2_code
def yX1_takeApart : MethodName := ⟨RX1, "takeApart", "(LWellTables$Grid;)I"⟩
abbrev cX1_begin : ByteArray := prog_3_method_3_code
def yX1_begin : MethodName := ⟨RX1, "begin", "(LWellTables$Grid;)V"⟩
abbrev cX1_placeOf : ByteArray := prog_3_method_4_code
def yX1_placeOf : MethodName := ⟨RX1, "placeOf", "(III)I"⟩
abbrev cX1_clear : ByteArray := prog_3_method_5_code
def yX1_clear : MethodName := ⟨RX1, "clear", "(I)Z"⟩
abbrev cX1_findShare : ByteArray := prog_3_method_6_code
def yX1_findShare : MethodName := ⟨RX1, "findShare", "(II)Z"⟩
abbrev cX1_takeRowAbove : ByteArray := prog_3_method_7_code
def yX1_takeRowAbove : MethodName := ⟨RX1, "takeRowAbove", "(III)V"⟩
abbrev cX1_takeShare : ByteArray := prog_3_method_8_code
def yX1_takeShare : MethodName := ⟨RX1, "takeShare", "(II)V"⟩
abbrev cX1_standOnLine : ByteArray := prog_3_method_9_code
def yX1_standOnLine : MethodName := ⟨RX1, "standOnLine", "()Z"⟩
abbrev cX1_note : ByteArray := prog_3_method_10_code
def yX1_note : MethodName := ⟨RX1, "note", "(IIJJ)V"⟩
abbrev cX1_commonOf : ByteArray := prog_3_method_11_code
def yX1_commonOf : MethodName := ⟨RX1, "commonOf", "(JJ)J"⟩
abbrev cX1_without : ByteArray := prog_3_method_12_code
def yX1_without : MethodName := ⟨RX1, "without", "(JJ)J"⟩
def RX2 : String := "WellTables$Ways"
def TX2 : u_T := fun k => match k with
  | _ => ("WellTables$Ways", "ahead", "[J", true)
def tyX2 : Nat → FieldType := fun k => match k with
  | _ => .array .long
theorem nmX2 : ∀ a, a < 1 → ∀ b, b < 1 → a ≠ b → (TX2 a).2.1 ≠ (TX2 b).2.1 := by decide +kernel
theorem tyX2_ok : ∀ k, k < 1 → parseFieldDescriptor (TX2 k).2.2.1 = some (tyX2 k) := by decide +kernel
abbrev cX2_init : ByteArray := prog_4_method_1_code
def yX2_init : MethodName := ⟨RX2, "<init>", "()V"⟩
abbrev cX2_lead : ByteArray := prog_4_method_2_code
def yX2_lead : MethodName := ⟨RX2, "lead", "(LWellTables$Web;IIZ)J"⟩
abbrev cX2_fromStep : ByteArray := prog_4_method_3_code
def yX2_fromStep : MethodName := ⟨RX2, "fromStep", "(LWellTables$Web;IIZ)J"⟩
abbrev cX2_linesAhead : ByteArray := prog_4_method_4_code
def yX2_linesAhead : MethodName := ⟨RX2, "linesAhead", "(LWellTables$Web;III)I"⟩
def RX3 : String := "WellTables$Web"
def TX3 : u_T := fun k => match k with
  | 0 => ("WellTables$Web", "kinds", "[I", true)
  | 1 => ("WellTables$Web", "places", "[I", true)
  | 2 => ("WellTables$Web", "weights", "[I", true)
  | 3 => ("WellTables$Web", "lines", "I", false)
  | _ => ("WellTables$Web", "steps", "I", false)
def tyX3 : Nat → FieldType := fun k => match k with
  | 0 => .array .int
  | 1 => .array .int
  | 2 => .array .int
  | 3 => .int
  | _ => .int
theorem nmX3 : ∀ a, a < 5 → ∀ b, b < 5 → a ≠ b → (TX3 a).2.1 ≠ (TX3 b).2.1 := by decide +kernel
theorem tyX3_ok : ∀ k, k < 5 → parseFieldDescriptor (TX3 k).2.2.1 = some (tyX3 k) := by decide +kernel
abbrev cX3_init : ByteArray := prog_5_method_1_code
def yX3_init : MethodName := ⟨RX3, "<init>", "()V"⟩
abbrev cX3_begin : ByteArray := prog_5_method_2_code
def yX3_begin : MethodName := ⟨RX3, "begin", "(I)V"⟩
abbrev cX3_takes : ByteArray := prog_5_method_3_code
def yX3_takes : MethodName := ⟨RX3, "takes", "(II)Z"⟩
abbrev cX3_add : ByteArray := prog_5_method_4_code
def yX3_add : MethodName := ⟨RX3, "add", "(III)V"⟩
abbrev cX3_isWeighedOn : ByteArray := prog_5_method_5_code
def yX3_isWeighedOn : MethodName := ⟨RX3, "isWeighedOn", "(II)Z"⟩
abbrev cX3_afterGoing : ByteArray := prog_5_method_6_code
def yX3_afterGoing : MethodName := ⟨RX3, "afterGoing", "(II)I"⟩
def RX4 : String := "WellTables$Worths"
def TX4 : u_T := fun k => match k with
  | 0 => ("WellTables$Worths", "found", "[J", true)
  | _ => ("WellTables$Worths", "chosen", "[I", true)
def tyX4 : Nat → FieldType := fun k => match k with
  | 0 => .array .long
  | _ => .array .int
theorem nmX4 : ∀ a, a < 2 → ∀ b, b < 2 → a ≠ b → (TX4 a).2.1 ≠ (TX4 b).2.1 := by decide +kernel
theorem tyX4_ok : ∀ k, k < 2 → parseFieldDescriptor (TX4 k).2.2.1 = some (tyX4 k) := by decide +kernel
abbrev cX4_init : ByteArray := prog_6_method_1_code
def yX4_init : MethodName := ⟨RX4, "<init>", "()V"⟩
abbrev cX4_ofPart : ByteArray := prog_6_method_2_code
def yX4_ofPart : MethodName := ⟨RX4, "ofPart", "(LWellTables$Grid;II)J"⟩
abbrev cX4_firstLow : ByteArray := prog_6_method_3_code
def yX4_firstLow : MethodName := ⟨RX4, "firstLow", "(LWellTables$Grid;Z)I"⟩
abbrev cX4_firstLowColumns : ByteArray := prog_6_method_4_code
def yX4_firstLowColumns : MethodName := ⟨RX4, "firstLowColumns", "(LWellTables$Grid;IZ)I"⟩
abbrev cX4_manyOf : ByteArray := prog_6_method_5_code
def yX4_manyOf : MethodName := ⟨RX4, "manyOf", "(LWellTables$Grid;I)I"⟩
abbrev cX4_looks : ByteArray := prog_6_method_6_code
def yX4_looks : MethodName := ⟨RX4, "looks", "(LWellTables$Grid;Z)I"⟩
abbrev cX4_stretch : ByteArray := prog_6_method_7_code
def yX4_stretch : MethodName := ⟨RX4, "stretch", "(II)I"⟩
abbrev cX4_findAll : ByteArray := prog_6_method_8_code
def yX4_findAll : MethodName := ⟨RX4, "findAll", "(LWellTables$Grid;I)V"⟩
abbrev cX4_choose : ByteArray := prog_6_method_9_code
def yX4_choose : MethodName := ⟨RX4, "choose", "(I)I"⟩
abbrev cX4_alongLastRow : ByteArray := prog_6_method_10_code
def yX4_alongLastRow : MethodName := ⟨RX4, "alongLastRow", "(LWellTables$Grid;II)J"⟩
def RX5 : String := "WellTables"
def TX5 : u_T := fun k => match k with
  | 0 => ("WellTables", "grids", "[LWellTables$Grid;", true)
  | 1 => ("WellTables", "gridCount", "I", false)
  | 2 => ("WellTables", "webs", "[LWellTables$Web;", true)
  | 3 => ("WellTables", "webCount", "I", false)
  | 4 => ("WellTables", "theRow", "[I", true)
  | 5 => ("WellTables", "rowIsThere", "Z", false)
  | 6 => ("WellTables", "brought", "[I", true)
  | 7 => ("WellTables", "refusals", "[I", true)
  | 8 => ("WellTables", "worths", "LWellTables$Worths;", true)
  | 9 => ("WellTables", "ways", "LWellTables$Ways;", true)
  | _ => ("WellTables", "maker", "LWellTables$Maker;", true)
def tyX5 : Nat → FieldType := fun k => match k with
  | 0 => .array (.object "WellTables$Grid")
  | 1 => .int
  | 2 => .array (.object "WellTables$Web")
  | 3 => .int
  | 4 => .array .int
  | 5 => .boolean
  | 6 => .array .int
  | 7 => .array .int
  | 8 => .object "WellTables$Worths"
  | 9 => .object "WellTables$Ways"
  | _ => .object "WellTables$Maker"
theorem nmX5 : ∀ a, a < 11 → ∀ b, b < 11 → a ≠ b → (TX5 a).2.1 ≠ (TX5 b).2.1 := by decide +kernel
theorem tyX5_ok : ∀ k, k < 11 → parseFieldDescriptor (TX5 k).2.2.1 = some (tyX5 k) := by decide +kernel
abbrev cX5_init : ByteArray := prog_1_method_1_code
def yX5_init : MethodName := ⟨RX5, "<init>", "()V"⟩
abbrev cX5_table : ByteArray := prog_1_method_2_code
def yX5_table : MethodName := ⟨RX5, "table", "(II)I"⟩
abbrev cX5_set : ByteArray := prog_1_method_3_code
def yX5_set : MethodName := ⟨RX5, "set", "(IIII)I"⟩
abbrev cX5_at : ByteArray := prog_1_method_4_code
def yX5_at : MethodName := ⟨RX5, "at", "(III)I"⟩
abbrev cX5_look : ByteArray := prog_1_method_5_code
def yX5_look : MethodName := ⟨RX5, "look", "(II)I"⟩
abbrev cX5_drop : ByteArray := prog_1_method_6_code
def yX5_drop : MethodName := ⟨RX5, "drop", "()I"⟩
abbrev cX5_worth : ByteArray := prog_1_method_7_code
def yX5_worth : MethodName := ⟨RX5, "worth", "(III)J"⟩
abbrev cX5_low : ByteArray := prog_1_method_8_code
def yX5_low : MethodName := ⟨RX5, "low", "(IZ)I"⟩
abbrev cX5_count : ByteArray := prog_1_method_9_code
def yX5_count : MethodName := ⟨RX5, "count", "(II)I"⟩
abbrev cX5_product : ByteArray := prog_1_method_10_code
def yX5_product : MethodName := ⟨RX5, "product", "(II)I"⟩
abbrev cX5_sum : ByteArray := prog_1_method_11_code
def yX5_sum : MethodName := ⟨RX5, "sum", "(II)I"⟩
abbrev cX5_part : ByteArray := prog_1_method_12_code
def yX5_part : MethodName := ⟨RX5, "part", "(III)I"⟩
abbrev cX5_turn : ByteArray := prog_1_method_13_code
def yX5_turn : MethodName := ⟨RX5, "turn", "(II)I"⟩
abbrev cX5_same : ByteArray := prog_1_method_14_code
def yX5_same : MethodName := ⟨RX5, "same", "(II)I"⟩
abbrev cX5_net : ByteArray := prog_1_method_15_code
def yX5_net : MethodName := ⟨RX5, "net", "(I)I"⟩
abbrev cX5_step : ByteArray := prog_1_method_16_code
def yX5_step : MethodName := ⟨RX5, "step", "(IIII)I"⟩
abbrev cX5_back : ByteArray := prog_1_method_17_code
def yX5_back : MethodName := ⟨RX5, "back", "(I)I"⟩
abbrev cX5_made : ByteArray := prog_1_method_18_code
def yX5_made : MethodName := ⟨RX5, "made", "(I)I"⟩
abbrev cX5_families : ByteArray := prog_1_method_19_code
def yX5_families : MethodName := ⟨RX5, "families", "(III)I"⟩
abbrev cX5_weight : ByteArray := prog_1_method_20_code
def yX5_weight : MethodName := ⟨RX5, "weight", "(III)J"⟩
abbrev cX5_family : ByteArray := prog_1_method_21_code
def yX5_family : MethodName := ⟨RX5, "family", "(IIII)I"⟩
abbrev cX5_unnet : ByteArray := prog_1_method_22_code
def yX5_unnet : MethodName := ⟨RX5, "unnet", "()I"⟩
abbrev cX5_tell : ByteArray := prog_1_method_23_code
def yX5_tell : MethodName := ⟨RX5, "tell", "(II)I"⟩
abbrev cX5_changes : ByteArray := prog_1_method_24_code
def yX5_changes : MethodName := ⟨RX5, "changes", "(I)I"⟩
abbrev cX5_band : ByteArray := prog_1_method_25_code
def yX5_band : MethodName := ⟨RX5, "band", "(II)I"⟩
abbrev cX5_make : ByteArray := prog_1_method_26_code
def yX5_make : MethodName := ⟨RX5, "make", "(I)I"⟩
abbrev cX5_making : ByteArray := prog_1_method_27_code
def yX5_making : MethodName := ⟨RX5, "making", "(II)J"⟩
abbrev cX5_lay : ByteArray := prog_1_method_28_code
def yX5_lay : MethodName := ⟨RX5, "lay", "(II)I"⟩
abbrev cX5_tear : ByteArray := prog_1_method_29_code
def yX5_tear : MethodName := ⟨RX5, "tear", "()I"⟩
abbrev cX5_row : ByteArray := prog_1_method_30_code
def yX5_row : MethodName := ⟨RX5, "row", "(I)I"⟩
abbrev cX5_copy : ByteArray := prog_1_method_31_code
def yX5_copy : MethodName := ⟨RX5, "copy", "(III)I"⟩
abbrev cX5_status : ByteArray := prog_1_method_32_code
def yX5_status : MethodName := ⟨RX5, "status", "(I)I"⟩
abbrev cX5_refused : ByteArray := prog_1_method_33_code
def yX5_refused : MethodName := ⟨RX5, "refused", "(I)I"⟩
abbrev cX5_nought : ByteArray := prog_1_method_34_code
def yX5_nought : MethodName := ⟨RX5, "nought", "(I)I"⟩
abbrev cX5_gridOf : ByteArray := prog_1_method_35_code
def yX5_gridOf : MethodName := ⟨RX5, "gridOf", "(I)LWellTables$Grid;"⟩
abbrev cX5_webOf : ByteArray := prog_1_method_36_code
def yX5_webOf : MethodName := ⟨RX5, "webOf", "(I)LWellTables$Web;"⟩
abbrev cX5_freeGrid : ByteArray := prog_1_method_37_code
def yX5_freeGrid : MethodName := ⟨RX5, "freeGrid", "()LWellTables$Grid;"⟩
abbrev cX5_come : ByteArray := prog_1_method_38_code
def yX5_come : MethodName := ⟨RX5, "come", "(LWellTables$Grid;)I"⟩
abbrev cX5_leading : ByteArray := prog_1_method_39_code
def yX5_leading : MethodName := ⟨RX5, "leading", "(IIIZ)J"⟩
abbrev cX5_emptyTheRow : ByteArray := prog_1_method_40_code
def yX5_emptyTheRow : MethodName := ⟨RX5, "emptyTheRow", "()V"⟩
abbrev cX5_isSide : ByteArray := prog_1_method_41_code
def yX5_isSide : MethodName := ⟨RX5, "isSide", "(I)Z"⟩
abbrev cX5_isNumber : ByteArray := prog_1_method_42_code
def yX5_isNumber : MethodName := ⟨RX5, "isNumber", "(J)Z"⟩
abbrev cX5_areSome : ByteArray := prog_1_method_43_code
def yX5_areSome : MethodName := ⟨RX5, "areSome", "(II)Z"⟩
abbrev cX5_areAsMany : ByteArray := prog_1_method_44_code
def yX5_areAsMany : MethodName := ⟨RX5, "areAsMany", "(II)Z"⟩
abbrev cX5_holds : ByteArray := prog_1_method_45_code
def yX5_holds : MethodName := ⟨RX5, "holds", "(II)Z"⟩
abbrev cX5_signOf : ByteArray := prog_1_method_46_code
def yX5_signOf : MethodName := ⟨RX5, "signOf", "(J)I"⟩
abbrev cX5_rowByColumn : ByteArray := prog_1_method_47_code
def yX5_rowByColumn : MethodName := ⟨RX5, "rowByColumn", "(LWellTables$Grid;ILWellTables$Grid;I)I"⟩
abbrev cX5_takeRow : ByteArray := prog_1_method_48_code
def yX5_takeRow : MethodName := ⟨RX5, "takeRow", "(LWellTables$Grid;ILWellTables$Grid;II)V"⟩
abbrev cX5_exchange : ByteArray := prog_1_method_49_code
def yX5_exchange : MethodName := ⟨RX5, "exchange", "(LWellTables$Grid;LWellTables$Grid;)V"⟩
abbrev cX5_reverse : ByteArray := prog_1_method_50_code
def yX5_reverse : MethodName := ⟨RX5, "reverse", "(LWellTables$Grid;LWellTables$Grid;Z)V"⟩
abbrev cX5_signChanges : ByteArray := prog_1_method_51_code
def yX5_signChanges : MethodName := ⟨RX5, "signChanges", "([II)I"⟩
def RX6 : String := "WellTablesModel"
def TX6 : u_T := fun k => match k with
  | 0 => ("WellTablesModel", "cells", "[I", true)
  | 1 => ("WellTablesModel", "rows", "[I", true)
  | 2 => ("WellTablesModel", "columns", "[I", true)
  | 3 => ("WellTablesModel", "kind", "[I", true)
  | 4 => ("WellTablesModel", "netOf", "[I", true)
  | 5 => ("WellTablesModel", "many", "I", false)
  | 6 => ("WellTablesModel", "lines", "[I", true)
  | 7 => ("WellTablesModel", "stepCount", "[I", true)
  | 8 => ("WellTablesModel", "sKind", "[I", true)
  | 9 => ("WellTablesModel", "sLine", "[I", true)
  | 10 => ("WellTablesModel", "sWeight", "[I", true)
  | 11 => ("WellTablesModel", "nets", "I", false)
  | 12 => ("WellTablesModel", "refused", "[I", true)
  | 13 => ("WellTablesModel", "used", "[J", true)
  | 14 => ("WellTablesModel", "below", "I", false)
  | 15 => ("WellTablesModel", "noughts", "I", false)
  | 16 => ("WellTablesModel", "above", "I", false)
  | 17 => ("WellTablesModel", "firstBelow", "I", false)
  | 18 => ("WellTablesModel", "firstNot", "I", false)
  | 19 => ("WellTablesModel", "next", "[J", true)
  | 20 => ("WellTablesModel", "waysOn", "[I", true)
  | 21 => ("WellTablesModel", "weightOn", "[J", true)
  | 22 => ("WellTablesModel", "row", "[I", true)
  | 23 => ("WellTablesModel", "moved", "[I", true)
  | 24 => ("WellTablesModel", "hasRow", "Z", false)
  | 25 => ("WellTablesModel", "changed", "I", false)
  | 26 => ("WellTablesModel", "lastSign", "I", false)
  | 27 => ("WellTablesModel", "up", "[J", true)
  | 28 => ("WellTablesModel", "down", "[J", true)
  | 29 => ("WellTablesModel", "shareUp", "[J", true)
  | 30 => ("WellTablesModel", "shareDown", "[J", true)
  | 31 => ("WellTablesModel", "shareKind", "[I", true)
  | 32 => ("WellTablesModel", "shareLine", "[I", true)
  | 33 => ("WellTablesModel", "shares", "I", false)
  | 34 => ("WellTablesModel", "canBe", "Z", false)
  | 35 => ("WellTablesModel", "resultUp", "J", false)
  | _ => ("WellTablesModel", "resultDown", "J", false)
def tyX6 : Nat → FieldType := fun k => match k with
  | 0 => .array .int
  | 1 => .array .int
  | 2 => .array .int
  | 3 => .array .int
  | 4 => .array .int
  | 5 => .int
  | 6 => .array .int
  | 7 => .array .int
  | 8 => .array .int
  | 9 => .array .int
  | 10 => .array .int
  | 11 => .int
  | 12 => .array .int
  | 13 => .array .long
  | 14 => .int
  | 15 => .int
  | 16 => .int
  | 17 => .int
  | 18 => .int
  | 19 => .array .long
  | 20 => .array .int
  | 21 => .array .long
  | 22 => .array .int
  | 23 => .array .int
  | 24 => .boolean
  | 25 => .int
  | 26 => .int
  | 27 => .array .long
  | 28 => .array .long
  | 29 => .array .long
  | 30 => .array .long
  | 31 => .array .int
  | 32 => .array .int
  | 33 => .int
  | 34 => .boolean
  | 35 => .long
  | _ => .long
theorem nmX6 : ∀ a, a < 37 → ∀ b, b < 37 → a ≠ b → (TX6 a).2.1 ≠ (TX6 b).2.1 := by decide +kernel
theorem tyX6_ok : ∀ k, k < 37 → parseFieldDescriptor (TX6 k).2.2.1 = some (tyX6 k) := by decide +kernel
abbrev cX6_init : ByteArray := prog_8_method_1_code
def yX6_init : MethodName := ⟨RX6, "<init>", "()V"⟩
abbrev cX6_isIn : ByteArray := prog_8_method_2_code
def yX6_isIn : MethodName := ⟨RX6, "isIn", "(JJJ)Z"⟩
abbrev cX6_no : ByteArray := prog_8_method_3_code
def yX6_no : MethodName := ⟨RX6, "no", "(I)I"⟩
abbrev cX6_none : ByteArray := prog_8_method_4_code
def yX6_none : MethodName := ⟨RX6, "none", "(I)I"⟩
abbrev cX6_isTable : ByteArray := prog_8_method_5_code
def yX6_isTable : MethodName := ⟨RX6, "isTable", "(I)Z"⟩
abbrev cX6_bits : ByteArray := prog_8_method_6_code
def yX6_bits : MethodName := ⟨RX6, "bits", "(I)I"⟩
abbrev cX6_place : ByteArray := prog_8_method_7_code
def yX6_place : MethodName := ⟨RX6, "place", "(III)I"⟩
abbrev cX6_begins : ByteArray := prog_8_method_8_code
def yX6_begins : MethodName := ⟨RX6, "begins", "(III)I"⟩
abbrev cX6_table : ByteArray := prog_8_method_9_code
def yX6_table : MethodName := ⟨RX6, "table", "(II)I"⟩
abbrev cX6_isPlace : ByteArray := prog_8_method_10_code
def yX6_isPlace : MethodName := ⟨RX6, "isPlace", "(III)Z"⟩
abbrev cX6_set : ByteArray := prog_8_method_11_code
def yX6_set : MethodName := ⟨RX6, "set", "(IIII)I"⟩
abbrev cX6_at : ByteArray := prog_8_method_12_code
def yX6_at : MethodName := ⟨RX6, "at", "(III)I"⟩
abbrev cX6_worthOf : ByteArray := prog_8_method_13_code
def yX6_worthOf : MethodName := ⟨RX6, "worthOf", "(III)J"⟩
abbrev cX6_isSome : ByteArray := prog_8_method_14_code
def yX6_isSome : MethodName := ⟨RX6, "isSome", "(II)Z"⟩
abbrev cX6_worth : ByteArray := prog_8_method_15_code
def yX6_worth : MethodName := ⟨RX6, "worth", "(III)J"⟩
abbrev cX6_goesThrough : ByteArray := prog_8_method_16_code
def yX6_goesThrough : MethodName := ⟨RX6, "goesThrough", "(I)V"⟩
abbrev cX6_counts : ByteArray := prog_8_method_17_code
def yX6_counts : MethodName := ⟨RX6, "counts", "(IIJ)V"⟩
abbrev cX6_span : ByteArray := prog_8_method_18_code
def yX6_span : MethodName := ⟨RX6, "span", "(II)I"⟩
abbrev cX6_looks : ByteArray := prog_8_method_19_code
def yX6_looks : MethodName := ⟨RX6, "looks", "(IZ)I"⟩
abbrev cX6_look : ByteArray := prog_8_method_20_code
def yX6_look : MethodName := ⟨RX6, "look", "(II)I"⟩
abbrev cX6_drop : ByteArray := prog_8_method_21_code
def yX6_drop : MethodName := ⟨RX6, "drop", "()I"⟩
abbrev cX6_low : ByteArray := prog_8_method_22_code
def yX6_low : MethodName := ⟨RX6, "low", "(IZ)I"⟩
abbrev cX6_count : ByteArray := prog_8_method_23_code
def yX6_count : MethodName := ⟨RX6, "count", "(II)I"⟩
abbrev cX6_comes : ByteArray := prog_8_method_24_code
def yX6_comes : MethodName := ⟨RX6, "comes", "(III)I"⟩
abbrev cX6_product : ByteArray := prog_8_method_25_code
def yX6_product : MethodName := ⟨RX6, "product", "(II)I"⟩
abbrev cX6_areAlike : ByteArray := prog_8_method_26_code
def yX6_areAlike : MethodName := ⟨RX6, "areAlike", "(II)Z"⟩
abbrev cX6_sum : ByteArray := prog_8_method_27_code
def yX6_sum : MethodName := ⟨RX6, "sum", "(II)I"⟩
abbrev cX6_part : ByteArray := prog_8_method_28_code
def yX6_part : MethodName := ⟨RX6, "part", "(III)I"⟩
abbrev cX6_turn : ByteArray := prog_8_method_29_code
def yX6_turn : MethodName := ⟨RX6, "turn", "(II)I"⟩
abbrev cX6_same : ByteArray := prog_8_method_30_code
def yX6_same : MethodName := ⟨RX6, "same", "(II)I"⟩
abbrev cX6_isNet : ByteArray := prog_8_method_31_code
def yX6_isNet : MethodName := ⟨RX6, "isNet", "(I)Z"⟩
abbrev cX6_net : ByteArray := prog_8_method_32_code
def yX6_net : MethodName := ⟨RX6, "net", "(I)I"⟩
abbrev cX6_step : ByteArray := prog_8_method_33_code
def yX6_step : MethodName := ⟨RX6, "step", "(IIII)I"⟩
abbrev cX6_back : ByteArray := prog_8_method_34_code
def yX6_back : MethodName := ⟨RX6, "back", "(I)I"⟩
abbrev cX6_made : ByteArray := prog_8_method_35_code
def yX6_made : MethodName := ⟨RX6, "made", "(I)I"⟩
abbrev cX6_over : ByteArray := prog_8_method_36_code
def yX6_over : MethodName := ⟨RX6, "over", "(II)I"⟩
abbrev cX6_finds : ByteArray := prog_8_method_37_code
def yX6_finds : MethodName := ⟨RX6, "finds", "(II)V"⟩
abbrev cX6_whyNot : ByteArray := prog_8_method_38_code
def yX6_whyNot : MethodName := ⟨RX6, "whyNot", "(III)I"⟩
abbrev cX6_families : ByteArray := prog_8_method_39_code
def yX6_families : MethodName := ⟨RX6, "families", "(III)I"⟩
abbrev cX6_weight : ByteArray := prog_8_method_40_code
def yX6_weight : MethodName := ⟨RX6, "weight", "(III)J"⟩
abbrev cX6_family : ByteArray := prog_8_method_41_code
def yX6_family : MethodName := ⟨RX6, "family", "(IIII)I"⟩
abbrev cX6_unnet : ByteArray := prog_8_method_42_code
def yX6_unnet : MethodName := ⟨RX6, "unnet", "()I"⟩
abbrev cX6_isTold : ByteArray := prog_8_method_43_code
def yX6_isTold : MethodName := ⟨RX6, "isTold", "()V"⟩
abbrev cX6_tell : ByteArray := prog_8_method_44_code
def yX6_tell : MethodName := ⟨RX6, "tell", "(II)I"⟩
abbrev cX6_meets : ByteArray := prog_8_method_45_code
def yX6_meets : MethodName := ⟨RX6, "meets", "(J)V"⟩
abbrev cX6_changes : ByteArray := prog_8_method_46_code
def yX6_changes : MethodName := ⟨RX6, "changes", "(I)I"⟩
abbrev cX6_band : ByteArray := prog_8_method_47_code
def yX6_band : MethodName := ⟨RX6, "band", "(II)I"⟩
abbrev cX6_divisor : ByteArray := prog_8_method_48_code
def yX6_divisor : MethodName := ⟨RX6, "divisor", "(JJ)J"⟩
abbrev cX6_fraction : ByteArray := prog_8_method_49_code
def yX6_fraction : MethodName := ⟨RX6, "fraction", "(JJ)V"⟩
abbrev cX6_times : ByteArray := prog_8_method_50_code
def yX6_times : MethodName := ⟨RX6, "times", "(JJJJ)V"⟩
abbrev cX6_shares : ByteArray := prog_8_method_51_code
def yX6_shares : MethodName := ⟨RX6, "shares", "(IIJJ)V"⟩
abbrev cX6_cell : ByteArray := prog_8_method_52_code
def yX6_cell : MethodName := ⟨RX6, "cell", "(IIZ)I"⟩
abbrev cX6_clears : ByteArray := prog_8_method_53_code
def yX6_clears : MethodName := ⟨RX6, "clears", "(IIIZ)V"⟩
abbrev cX6_make : ByteArray := prog_8_method_54_code
def yX6_make : MethodName := ⟨RX6, "make", "(I)I"⟩
abbrev cX6_making : ByteArray := prog_8_method_55_code
def yX6_making : MethodName := ⟨RX6, "making", "(II)J"⟩
abbrev cX6_lay : ByteArray := prog_8_method_56_code
def yX6_lay : MethodName := ⟨RX6, "lay", "(II)I"⟩
abbrev cX6_tear : ByteArray := prog_8_method_57_code
def yX6_tear : MethodName := ⟨RX6, "tear", "()I"⟩
abbrev cX6_row : ByteArray := prog_8_method_58_code
def yX6_row : MethodName := ⟨RX6, "row", "(I)I"⟩
abbrev cX6_copy : ByteArray := prog_8_method_59_code
def yX6_copy : MethodName := ⟨RX6, "copy", "(III)I"⟩
abbrev cX6_status : ByteArray := prog_8_method_60_code
def yX6_status : MethodName := ⟨RX6, "status", "(I)I"⟩
def RJ6 : String := "java/lang/Integer"
def TJ6 : u_T := fun k => match k with
  | _ => ("", "", "", false)
def tyJ6 : Nat → FieldType := fun k => match k with
  | _ => .int
theorem nmJ6 : ∀ a, a < 0 → ∀ b, b < 0 → a ≠ b → (TJ6 a).2.1 ≠ (TJ6 b).2.1 := by decide +kernel
theorem tyJ6_ok : ∀ k, k < 0 → parseFieldDescriptor (TJ6 k).2.2.1 = some (tyJ6 k) := by decide +kernel
abbrev cJ6_bitCount_0f7a4 : ByteArray := prog_9_method_49_code
def yJ6_bitCount_0f7a4 : MethodName := ⟨RJ6, "bitCount", "(I)I"⟩
def RJ9 : String := "java/lang/Math"
def TJ9 : u_T := fun k => match k with
  | _ => ("", "", "", false)
def tyJ9 : Nat → FieldType := fun k => match k with
  | _ => .int
theorem nmJ9 : ∀ a, a < 0 → ∀ b, b < 0 → a ≠ b → (TJ9 a).2.1 ≠ (TJ9 b).2.1 := by decide +kernel
theorem tyJ9_ok : ∀ k, k < 0 → parseFieldDescriptor (TJ9 k).2.2.1 = some (tyJ9 k) := by decide +kernel
abbrev cJ9_abs_067f4 : ByteArray := prog_10_method_61_code
def yJ9_abs_067f4 : MethodName := ⟨RJ9, "abs", "(J)J"⟩
abbrev cJ9_max_f86c9 : ByteArray := prog_10_method_66_code
def yJ9_max_f86c9 : MethodName := ⟨RJ9, "max", "(JJ)J"⟩
abbrev cJ9_min_7cf53 : ByteArray := prog_10_method_69_code
def yJ9_min_7cf53 : MethodName := ⟨RJ9, "min", "(II)I"⟩
def RJ10 : String := "java/lang/System"
def TJ10 : u_T := fun k => match k with
  | _ => ("", "", "", false)
def tyJ10 : Nat → FieldType := fun k => match k with
  | _ => .int
theorem nmJ10 : ∀ a, a < 0 → ∀ b, b < 0 → a ≠ b → (TJ10 a).2.1 ≠ (TJ10 b).2.1 := by decide +kernel
theorem tyJ10_ok : ∀ k, k < 0 → parseFieldDescriptor (TJ10 k).2.2.1 = some (tyJ10 k) := by decide +kernel
def RJ7 : String := "java/util/Arrays"
def TJ7 : u_T := fun k => match k with
  | _ => ("", "", "", false)
def tyJ7 : Nat → FieldType := fun k => match k with
  | _ => .int
theorem nmJ7 : ∀ a, a < 0 → ∀ b, b < 0 → a ≠ b → (TJ7 a).2.1 ≠ (TJ7 b).2.1 := by decide +kernel
theorem tyJ7_ok : ∀ k, k < 0 → parseFieldDescriptor (TJ7 k).2.2.1 = some (tyJ7 k) := by decide +kernel
abbrev cJ7_fill_53178 : ByteArray := prog_12_method_103_code
def yJ7_fill_53178 : MethodName := ⟨RJ7, "fill", "([II)V"⟩
def RL : String := "WellTablesLaw"
abbrev cL_law : ByteArray := code
def yL_law : MethodName := ⟨RL, "law", "([I)Z"⟩
abbrev vwCl : List vw_C := [(RX0, TX0, 6), (RX1, TX1, 10), (RX2, TX2, 1), (RX3, TX3, 5), (RX4, TX4, 2), (RX5, TX5, 11), (RX6, TX6, 37)]
def WS : List Cond := lw_tbl.filter goodWord
theorem ws_of {i : Nat} {w : Cond} (h : lw_tbl[i]? = some w) (g : goodWord w = true) : w ∈ WS := List.mem_filter.mpr ⟨List.mem_of_getElem? h, g⟩
theorem ws_tbl {w : Cond} (h : w ∈ WS) : w ∈ lw_tbl := (List.mem_filter.mp h).1
theorem ws_good : GoodIn WS WS := fun _ h => ⟨h, good_of_word (List.mem_filter.mp h).2⟩
end
section
theorem dX0_init_0 : decode cX0_init 0 = .ok (.aload_n 0, 1) := by decide +kernel
theorem dX0_init_1 : decode cX0_init 1 = .ok (.invokespecial 3, 3) := by decide +kernel
theorem dX0_init_4 : decode cX0_init 4 = .ok (.aload_n 0, 1) := by decide +kernel
theorem dX0_init_5 : decode cX0_init 5 = .ok (.bipush 25, 2) := by decide +kernel
theorem dX0_init_7 : decode cX0_init 7 = .ok (.newarray .int, 2) := by decide +kernel
theorem dX0_init_9 : decode cX0_init 9 = .ok (.putfield 9, 3) := by decide +kernel
theorem dX0_init_12 : decode cX0_init 12 = .ok (.return_, 1) := by decide +kernel
theorem dX0_begin_0 : decode cX0_begin 0 = .ok (.aload_n 0, 1) := by decide +kernel
theorem dX0_begin_1 : decode cX0_begin 1 = .ok (.iload_n 1, 1) := by decide +kernel
theorem dX0_begin_2 : decode cX0_begin 2 = .ok (.putfield 15, 3) := by decide +kernel
theorem dX0_begin_5 : decode cX0_begin 5 = .ok (.aload_n 0, 1) := by decide +kernel
theorem dX0_begin_6 : decode cX0_begin 6 = .ok (.iload_n 2, 1) := by decide +kernel
theorem dX0_begin_7 : decode cX0_begin 7 = .ok (.putfield 19, 3) := by decide +kernel
theorem dX0_begin_10 : decode cX0_begin 10 = .ok (.aload_n 0, 1) := by decide +kernel
theorem dX0_begin_11 : decode cX0_begin 11 = .ok (.iload_n 3, 1) := by decide +kernel
theorem dX0_begin_12 : decode cX0_begin 12 = .ok (.putfield 22, 3) := by decide +kernel
theorem dX0_begin_15 : decode cX0_begin 15 = .ok (.aload_n 0, 1) := by decide +kernel
theorem dX0_begin_16 : decode cX0_begin 16 = .ok (.iconst (-1), 1) := by decide +kernel
theorem dX0_begin_17 : decode cX0_begin 17 = .ok (.putfield 25, 3) := by decide +kernel
theorem dX0_begin_20 : decode cX0_begin 20 = .ok (.aload_n 0, 1) := by decide +kernel
theorem dX0_begin_21 : decode cX0_begin 21 = .ok (.iconst 1, 1) := by decide +kernel
theorem dX0_begin_22 : decode cX0_begin 22 = .ok (.putfield 28, 3) := by decide +kernel
theorem dX0_begin_25 : decode cX0_begin 25 = .ok (.aload_n 0, 1) := by decide +kernel
theorem dX0_begin_26 : decode cX0_begin 26 = .ok (.getfield 9, 3) := by decide +kernel
theorem dX0_begin_29 : decode cX0_begin 29 = .ok (.iconst 0, 1) := by decide +kernel
theorem dX0_begin_30 : decode cX0_begin 30 = .ok (.invokestatic 32, 3) := by decide +kernel
theorem dX0_begin_33 : decode cX0_begin 33 = .ok (.return_, 1) := by decide +kernel
theorem dX0_reaches_0 : decode cX0_reaches 0 = .ok (.iload_n 1, 1) := by decide +kernel
theorem dX0_reaches_1 : decode cX0_reaches 1 = .ok (.ifCond .lt 27, 3) := by decide +kernel
theorem dX0_reaches_4 : decode cX0_reaches 4 = .ok (.iload_n 1, 1) := by decide +kernel
theorem dX0_reaches_5 : decode cX0_reaches 5 = .ok (.aload_n 0, 1) := by decide +kernel
theorem dX0_reaches_6 : decode cX0_reaches 6 = .ok (.getfield 15, 3) := by decide +kernel
theorem dX0_reaches_9 : decode cX0_reaches 9 = .ok (.if_icmp .ge 19, 3) := by decide +kernel
theorem dX0_reaches_12 : decode cX0_reaches 12 = .ok (.iload_n 2, 1) := by decide +kernel
theorem dX0_reaches_13 : decode cX0_reaches 13 = .ok (.ifCond .lt 15, 3) := by decide +kernel
theorem dX0_reaches_16 : decode cX0_reaches 16 = .ok (.iload_n 2, 1) := by decide +kernel
theorem dX0_reaches_17 : decode cX0_reaches 17 = .ok (.aload_n 0, 1) := by decide +kernel
theorem dX0_reaches_18 : decode cX0_reaches 18 = .ok (.getfield 19, 3) := by decide +kernel
theorem dX0_reaches_21 : decode cX0_reaches 21 = .ok (.if_icmp .ge 7, 3) := by decide +kernel
theorem dX0_reaches_24 : decode cX0_reaches 24 = .ok (.iconst 1, 1) := by decide +kernel
theorem dX0_reaches_25 : decode cX0_reaches 25 = .ok (.goto 4, 3) := by decide +kernel
theorem dX0_reaches_28 : decode cX0_reaches 28 = .ok (.iconst 0, 1) := by decide +kernel
theorem dX0_reaches_29 : decode cX0_reaches 29 = .ok (.ireturn, 1) := by decide +kernel
theorem dX0_number_0 : decode cX0_number 0 = .ok (.aload_n 0, 1) := by decide +kernel
theorem dX0_number_1 : decode cX0_number 1 = .ok (.iload_n 1, 1) := by decide +kernel
theorem dX0_number_2 : decode cX0_number 2 = .ok (.iload_n 2, 1) := by decide +kernel
theorem dX0_number_3 : decode cX0_number 3 = .ok (.invokevirtual 38, 3) := by decide +kernel
theorem dX0_number_6 : decode cX0_number 6 = .ok (.ifCond .eq 16, 3) := by decide +kernel
theorem dX0_number_9 : decode cX0_number 9 = .ok (.aload_n 0, 1) := by decide +kernel
theorem dX0_number_10 : decode cX0_number 10 = .ok (.getfield 9, 3) := by decide +kernel
theorem dX0_number_13 : decode cX0_number 13 = .ok (.iconst 5, 1) := by decide +kernel
theorem dX0_number_14 : decode cX0_number 14 = .ok (.iload_n 1, 1) := by decide +kernel
theorem dX0_number_15 : decode cX0_number 15 = .ok (.imul, 1) := by decide +kernel
theorem dX0_number_16 : decode cX0_number 16 = .ok (.iload_n 2, 1) := by decide +kernel
theorem dX0_number_17 : decode cX0_number 17 = .ok (.iadd, 1) := by decide +kernel
theorem dX0_number_18 : decode cX0_number 18 = .ok (.iaload, 1) := by decide +kernel
theorem dX0_number_19 : decode cX0_number 19 = .ok (.goto 4, 3) := by decide +kernel
theorem dX0_number_22 : decode cX0_number 22 = .ok (.iconst 0, 1) := by decide +kernel
theorem dX0_number_23 : decode cX0_number 23 = .ok (.ireturn, 1) := by decide +kernel
theorem dX0_put_0 : decode cX0_put 0 = .ok (.lload_n 3, 1) := by decide +kernel
theorem dX0_put_1 : decode cX0_put 1 = .ok (.invokestatic 42, 3) := by decide +kernel
theorem dX0_put_4 : decode cX0_put 4 = .ok (.ifCond .ne 11, 3) := by decide +kernel
theorem dX0_put_7 : decode cX0_put 7 = .ok (.aload_n 0, 1) := by decide +kernel
theorem dX0_put_8 : decode cX0_put 8 = .ok (.iconst 0, 1) := by decide +kernel
theorem dX0_put_9 : decode cX0_put 9 = .ok (.putfield 28, 3) := by decide +kernel
theorem dX0_put_12 : decode cX0_put 12 = .ok (.goto 24, 3) := by decide +kernel
theorem dX0_put_15 : decode cX0_put 15 = .ok (.aload_n 0, 1) := by decide +kernel
theorem dX0_put_16 : decode cX0_put 16 = .ok (.iload_n 1, 1) := by decide +kernel
theorem dX0_put_17 : decode cX0_put 17 = .ok (.iload_n 2, 1) := by decide +kernel
theorem dX0_put_18 : decode cX0_put 18 = .ok (.invokevirtual 38, 3) := by decide +kernel
theorem dX0_put_21 : decode cX0_put 21 = .ok (.ifCond .eq 15, 3) := by decide +kernel
theorem dX0_put_24 : decode cX0_put 24 = .ok (.aload_n 0, 1) := by decide +kernel
theorem dX0_put_25 : decode cX0_put 25 = .ok (.getfield 9, 3) := by decide +kernel
theorem dX0_put_28 : decode cX0_put 28 = .ok (.iconst 5, 1) := by decide +kernel
theorem dX0_put_29 : decode cX0_put 29 = .ok (.iload_n 1, 1) := by decide +kernel
theorem dX0_put_30 : decode cX0_put 30 = .ok (.imul, 1) := by decide +kernel
theorem dX0_put_31 : decode cX0_put 31 = .ok (.iload_n 2, 1) := by decide +kernel
theorem dX0_put_32 : decode cX0_put 32 = .ok (.iadd, 1) := by decide +kernel
theorem dX0_put_33 : decode cX0_put 33 = .ok (.lload_n 3, 1) := by decide +kernel
theorem dX0_put_34 : decode cX0_put 34 = .ok (.l2i, 1) := by decide +kernel
theorem dX0_put_35 : decode cX0_put 35 = .ok (.iastore, 1) := by decide +kernel
theorem dX0_put_36 : decode cX0_put 36 = .ok (.return_, 1) := by decide +kernel
theorem dX1_init_0 : decode cX1_init 0 = .ok (.aload_n 0, 1) := by decide +kernel
theorem dX1_init_1 : decode cX1_init 1 = .ok (.invokespecial 3, 3) := by decide +kernel
theorem dX1_init_4 : decode cX1_init 4 = .ok (.aload_n 0, 1) := by decide +kernel
theorem dX1_init_5 : decode cX1_init 5 = .ok (.bipush 9, 2) := by decide +kernel
theorem dX1_init_7 : decode cX1_init 7 = .ok (.newarray .int, 2) := by decide +kernel
theorem dX1_init_9 : decode cX1_init 9 = .ok (.putfield 9, 3) := by decide +kernel
theorem dX1_init_12 : decode cX1_init 12 = .ok (.aload_n 0, 1) := by decide +kernel
theorem dX1_init_13 : decode cX1_init 13 = .ok (.bipush 9, 2) := by decide +kernel
theorem dX1_init_15 : decode cX1_init 15 = .ok (.newarray .int, 2) := by decide +kernel
theorem dX1_init_17 : decode cX1_init 17 = .ok (.putfield 15, 3) := by decide +kernel
theorem dX1_init_20 : decode cX1_init 20 = .ok (.aload_n 0, 1) := by decide +kernel
theorem dX1_init_21 : decode cX1_init 21 = .ok (.bipush 9, 2) := by decide +kernel
theorem dX1_init_23 : decode cX1_init 23 = .ok (.newarray .long, 2) := by decide +kernel
theorem dX1_init_25 : decode cX1_init 25 = .ok (.putfield 18, 3) := by decide +kernel
theorem dX1_init_28 : decode cX1_init 28 = .ok (.aload_n 0, 1) := by decide +kernel
theorem dX1_init_29 : decode cX1_init 29 = .ok (.bipush 9, 2) := by decide +kernel
theorem dX1_init_31 : decode cX1_init 31 = .ok (.newarray .long, 2) := by decide +kernel
theorem dX1_init_33 : decode cX1_init 33 = .ok (.putfield 22, 3) := by decide +kernel
theorem dX1_init_36 : decode cX1_init 36 = .ok (.aload_n 0, 1) := by decide +kernel
theorem dX1_init_37 : decode cX1_init 37 = .ok (.bipush 9, 2) := by decide +kernel
theorem dX1_init_39 : decode cX1_init 39 = .ok (.newarray .long, 2) := by decide +kernel
theorem dX1_init_41 : decode cX1_init 41 = .ok (.putfield 25, 3) := by decide +kernel
theorem dX1_init_44 : decode cX1_init 44 = .ok (.aload_n 0, 1) := by decide +kernel
theorem dX1_init_45 : decode cX1_init 45 = .ok (.bipush 9, 2) := by decide +kernel
theorem dX1_init_47 : decode cX1_init 47 = .ok (.newarray .long, 2) := by decide +kernel
theorem dX1_init_49 : decode cX1_init 49 = .ok (.putfield 28, 3) := by decide +kernel
theorem dX1_init_52 : decode cX1_init 52 = .ok (.return_, 1) := by decide +kernel
theorem dX1_takeApart_0 : decode cX1_takeApart 0 = .ok (.aload_n 0, 1) := by decide +kernel
theorem dX1_takeApart_1 : decode cX1_takeApart 1 = .ok (.aload_n 1, 1) := by decide +kernel
theorem dX1_takeApart_2 : decode cX1_takeApart 2 = .ok (.invokevirtual 31, 3) := by decide +kernel
theorem dX1_takeApart_5 : decode cX1_takeApart 5 = .ok (.aload_n 0, 1) := by decide +kernel
theorem dX1_takeApart_6 : decode cX1_takeApart 6 = .ok (.iconst 1, 1) := by decide +kernel
theorem dX1_takeApart_7 : decode cX1_takeApart 7 = .ok (.invokevirtual 35, 3) := by decide +kernel
theorem dX1_takeApart_10 : decode cX1_takeApart 10 = .ok (.ifCond .eq 22, 3) := by decide +kernel
theorem dX1_takeApart_13 : decode cX1_takeApart 13 = .ok (.aload_n 0, 1) := by decide +kernel
theorem dX1_takeApart_14 : decode cX1_takeApart 14 = .ok (.iconst 0, 1) := by decide +kernel
theorem dX1_takeApart_15 : decode cX1_takeApart 15 = .ok (.invokevirtual 35, 3) := by decide +kernel
theorem dX1_takeApart_18 : decode cX1_takeApart 18 = .ok (.ifCond .eq 14, 3) := by decide +kernel
theorem dX1_takeApart_21 : decode cX1_takeApart 21 = .ok (.aload_n 0, 1) := by decide +kernel
theorem dX1_takeApart_22 : decode cX1_takeApart 22 = .ok (.invokevirtual 39, 3) := by decide +kernel
theorem dX1_takeApart_25 : decode cX1_takeApart 25 = .ok (.ifCond .eq 7, 3) := by decide +kernel
theorem dX1_takeApart_28 : decode cX1_takeApart 28 = .ok (.iconst 1, 1) := by decide +kernel
theorem dX1_takeApart_29 : decode cX1_takeApart 29 = .ok (.goto 4, 3) := by decide +kernel
theorem dX1_takeApart_32 : decode cX1_takeApart 32 = .ok (.iconst 0, 1) := by decide +kernel
theorem dX1_takeApart_33 : decode cX1_takeApart 33 = .ok (.istore_n 2, 1) := by decide +kernel
theorem dX1_takeApart_34 : decode cX1_takeApart 34 = .ok (.iload_n 2, 1) := by decide +kernel
theorem dX1_takeApart_35 : decode cX1_takeApart 35 = .ok (.ifCond .ne 8, 3) := by decide +kernel
theorem dX1_takeApart_38 : decode cX1_takeApart 38 = .ok (.aload_n 0, 1) := by decide +kernel
theorem dX1_takeApart_39 : decode cX1_takeApart 39 = .ok (.iconst 0, 1) := by decide +kernel
theorem dX1_takeApart_40 : decode cX1_takeApart 40 = .ok (.putfield 43, 3) := by decide +kernel
theorem dX1_takeApart_43 : decode cX1_takeApart 43 = .ok (.aload_n 0, 1) := by decide +kernel
theorem dX1_takeApart_44 : decode cX1_takeApart 44 = .ok (.getfield 43, 3) := by decide +kernel
theorem dX1_takeApart_47 : decode cX1_takeApart 47 = .ok (.ireturn, 1) := by decide +kernel
theorem dX1_begin_0 : decode cX1_begin 0 = .ok (.aload_n 0, 1) := by decide +kernel
theorem dX1_begin_1 : decode cX1_begin 1 = .ok (.aload_n 1, 1) := by decide +kernel
theorem dX1_begin_2 : decode cX1_begin 2 = .ok (.getfield 47, 3) := by decide +kernel
theorem dX1_begin_5 : decode cX1_begin 5 = .ok (.iconst 3, 1) := by decide +kernel
theorem dX1_begin_6 : decode cX1_begin 6 = .ok (.invokestatic 52, 3) := by decide +kernel
theorem dX1_begin_9 : decode cX1_begin 9 = .ok (.putfield 58, 3) := by decide +kernel
theorem dX1_begin_12 : decode cX1_begin 12 = .ok (.aload_n 0, 1) := by decide +kernel
theorem dX1_begin_13 : decode cX1_begin 13 = .ok (.iconst 0, 1) := by decide +kernel
theorem dX1_begin_14 : decode cX1_begin 14 = .ok (.putfield 43, 3) := by decide +kernel
theorem dX1_begin_17 : decode cX1_begin 17 = .ok (.iconst 0, 1) := by decide +kernel
theorem dX1_begin_18 : decode cX1_begin 18 = .ok (.istore_n 2, 1) := by decide +kernel
theorem dX1_begin_19 : decode cX1_begin 19 = .ok (.iload_n 2, 1) := by decide +kernel
theorem dX1_begin_20 : decode cX1_begin 20 = .ok (.aload_n 0, 1) := by decide +kernel
theorem dX1_begin_21 : decode cX1_begin 21 = .ok (.getfield 58, 3) := by decide +kernel
theorem dX1_begin_24 : decode cX1_begin 24 = .ok (.if_icmp .ge 55, 3) := by decide +kernel
theorem dX1_begin_27 : decode cX1_begin 27 = .ok (.iconst 0, 1) := by decide +kernel
theorem dX1_begin_28 : decode cX1_begin 28 = .ok (.istore_n 3, 1) := by decide +kernel
theorem dX1_begin_29 : decode cX1_begin 29 = .ok (.iload_n 3, 1) := by decide +kernel
theorem dX1_begin_30 : decode cX1_begin 30 = .ok (.aload_n 0, 1) := by decide +kernel
theorem dX1_begin_31 : decode cX1_begin 31 = .ok (.getfield 58, 3) := by decide +kernel
theorem dX1_begin_34 : decode cX1_begin 34 = .ok (.if_icmp .ge 39, 3) := by decide +kernel
theorem dX1_begin_37 : decode cX1_begin 37 = .ok (.aload_n 0, 1) := by decide +kernel
theorem dX1_begin_38 : decode cX1_begin 38 = .ok (.getfield 25, 3) := by decide +kernel
theorem dX1_begin_41 : decode cX1_begin 41 = .ok (.iconst 1, 1) := by decide +kernel
theorem dX1_begin_42 : decode cX1_begin 42 = .ok (.iload_n 2, 1) := by decide +kernel
theorem dX1_begin_43 : decode cX1_begin 43 = .ok (.iload_n 3, 1) := by decide +kernel
theorem dX1_begin_44 : decode cX1_begin 44 = .ok (.invokestatic 61, 3) := by decide +kernel
theorem dX1_begin_47 : decode cX1_begin 47 = .ok (.aload_n 1, 1) := by decide +kernel
theorem dX1_begin_48 : decode cX1_begin 48 = .ok (.iload_n 2, 1) := by decide +kernel
theorem dX1_begin_49 : decode cX1_begin 49 = .ok (.iload_n 3, 1) := by decide +kernel
theorem dX1_begin_50 : decode cX1_begin 50 = .ok (.invokevirtual 65, 3) := by decide +kernel
theorem dX1_begin_53 : decode cX1_begin 53 = .ok (.i2l, 1) := by decide +kernel
theorem dX1_begin_54 : decode cX1_begin 54 = .ok (.lastore, 1) := by decide +kernel
theorem dX1_begin_55 : decode cX1_begin 55 = .ok (.aload_n 0, 1) := by decide +kernel
theorem dX1_begin_56 : decode cX1_begin 56 = .ok (.getfield 28, 3) := by decide +kernel
theorem dX1_begin_59 : decode cX1_begin 59 = .ok (.iconst 1, 1) := by decide +kernel
theorem dX1_begin_60 : decode cX1_begin 60 = .ok (.iload_n 2, 1) := by decide +kernel
theorem dX1_begin_61 : decode cX1_begin 61 = .ok (.iload_n 3, 1) := by decide +kernel
theorem dX1_begin_62 : decode cX1_begin 62 = .ok (.invokestatic 61, 3) := by decide +kernel
theorem dX1_begin_65 : decode cX1_begin 65 = .ok (.lconst 1, 1) := by decide +kernel
theorem dX1_begin_66 : decode cX1_begin 66 = .ok (.lastore, 1) := by decide +kernel
theorem dX1_begin_67 : decode cX1_begin 67 = .ok (.iinc 3 1, 3) := by decide +kernel
theorem dX1_begin_70 : decode cX1_begin 70 = .ok (.goto (-41), 3) := by decide +kernel
theorem dX1_begin_73 : decode cX1_begin 73 = .ok (.iinc 2 1, 3) := by decide +kernel
theorem dX1_begin_76 : decode cX1_begin 76 = .ok (.goto (-57), 3) := by decide +kernel
theorem dX1_begin_79 : decode cX1_begin 79 = .ok (.return_, 1) := by decide +kernel
theorem dX1_placeOf_0 : decode cX1_placeOf 0 = .ok (.iload_n 0, 1) := by decide +kernel
theorem dX1_placeOf_1 : decode cX1_placeOf 1 = .ok (.ifCond .ne 11, 3) := by decide +kernel
theorem dX1_placeOf_4 : decode cX1_placeOf 4 = .ok (.iconst 3, 1) := by decide +kernel
theorem dX1_placeOf_5 : decode cX1_placeOf 5 = .ok (.iload_n 2, 1) := by decide +kernel
theorem dX1_placeOf_6 : decode cX1_placeOf 6 = .ok (.imul, 1) := by decide +kernel
theorem dX1_placeOf_7 : decode cX1_placeOf 7 = .ok (.iload_n 1, 1) := by decide +kernel
theorem dX1_placeOf_8 : decode cX1_placeOf 8 = .ok (.iadd, 1) := by decide +kernel
theorem dX1_placeOf_9 : decode cX1_placeOf 9 = .ok (.goto 8, 3) := by decide +kernel
theorem dX1_placeOf_12 : decode cX1_placeOf 12 = .ok (.iconst 3, 1) := by decide +kernel
theorem dX1_placeOf_13 : decode cX1_placeOf 13 = .ok (.iload_n 1, 1) := by decide +kernel
theorem dX1_placeOf_14 : decode cX1_placeOf 14 = .ok (.imul, 1) := by decide +kernel
theorem dX1_placeOf_15 : decode cX1_placeOf 15 = .ok (.iload_n 2, 1) := by decide +kernel
theorem dX1_placeOf_16 : decode cX1_placeOf 16 = .ok (.iadd, 1) := by decide +kernel
theorem dX1_placeOf_17 : decode cX1_placeOf 17 = .ok (.ireturn, 1) := by decide +kernel
theorem dX1_clear_0 : decode cX1_clear 0 = .ok (.iconst 0, 1) := by decide +kernel
theorem dX1_clear_1 : decode cX1_clear 1 = .ok (.istore_n 2, 1) := by decide +kernel
theorem dX1_clear_2 : decode cX1_clear 2 = .ok (.iload_n 2, 1) := by decide +kernel
theorem dX1_clear_3 : decode cX1_clear 3 = .ok (.aload_n 0, 1) := by decide +kernel
theorem dX1_clear_4 : decode cX1_clear 4 = .ok (.getfield 58, 3) := by decide +kernel
theorem dX1_clear_7 : decode cX1_clear 7 = .ok (.if_icmp .ge 92, 3) := by decide +kernel
theorem dX1_clear_10 : decode cX1_clear 10 = .ok (.aload_n 0, 1) := by decide +kernel
theorem dX1_clear_11 : decode cX1_clear 11 = .ok (.getfield 58, 3) := by decide +kernel
theorem dX1_clear_14 : decode cX1_clear 14 = .ok (.iconst 1, 1) := by decide +kernel
theorem dX1_clear_15 : decode cX1_clear 15 = .ok (.isub, 1) := by decide +kernel
theorem dX1_clear_16 : decode cX1_clear 16 = .ok (.istore_n 3, 1) := by decide +kernel
theorem dX1_clear_17 : decode cX1_clear 17 = .ok (.iload_n 3, 1) := by decide +kernel
theorem dX1_clear_18 : decode cX1_clear 18 = .ok (.iload_n 2, 1) := by decide +kernel
theorem dX1_clear_19 : decode cX1_clear 19 = .ok (.if_icmp .le 74, 3) := by decide +kernel
theorem dX1_clear_22 : decode cX1_clear 22 = .ok (.iload_n 1, 1) := by decide +kernel
theorem dX1_clear_23 : decode cX1_clear 23 = .ok (.iload_n 3, 1) := by decide +kernel
theorem dX1_clear_24 : decode cX1_clear 24 = .ok (.iload_n 2, 1) := by decide +kernel
theorem dX1_clear_25 : decode cX1_clear 25 = .ok (.invokestatic 61, 3) := by decide +kernel
theorem dX1_clear_28 : decode cX1_clear 28 = .ok (.istore 4, 2) := by decide +kernel
theorem dX1_clear_30 : decode cX1_clear 30 = .ok (.aload_n 0, 1) := by decide +kernel
theorem dX1_clear_31 : decode cX1_clear 31 = .ok (.getfield 25, 3) := by decide +kernel
theorem dX1_clear_34 : decode cX1_clear 34 = .ok (.iload 4, 2) := by decide +kernel
theorem dX1_clear_36 : decode cX1_clear 36 = .ok (.laload, 1) := by decide +kernel
theorem dX1_clear_37 : decode cX1_clear 37 = .ok (.lconst 0, 1) := by decide +kernel
theorem dX1_clear_38 : decode cX1_clear 38 = .ok (.lcmp, 1) := by decide +kernel
theorem dX1_clear_39 : decode cX1_clear 39 = .ok (.ifCond .ne 6, 3) := by decide +kernel
theorem dX1_clear_42 : decode cX1_clear 42 = .ok (.goto 45, 3) := by decide +kernel
theorem dX1_clear_45 : decode cX1_clear 45 = .ok (.aload_n 0, 1) := by decide +kernel
theorem dX1_clear_46 : decode cX1_clear 46 = .ok (.iload 4, 2) := by decide +kernel
theorem dX1_clear_48 : decode cX1_clear 48 = .ok (.iload_n 1, 1) := by decide +kernel
theorem dX1_clear_49 : decode cX1_clear 49 = .ok (.iload_n 3, 1) := by decide +kernel
theorem dX1_clear_50 : decode cX1_clear 50 = .ok (.iconst 1, 1) := by decide +kernel
theorem dX1_clear_51 : decode cX1_clear 51 = .ok (.isub, 1) := by decide +kernel
theorem dX1_clear_52 : decode cX1_clear 52 = .ok (.iload_n 2, 1) := by decide +kernel
theorem dX1_clear_53 : decode cX1_clear 53 = .ok (.invokestatic 61, 3) := by decide +kernel
theorem dX1_clear_56 : decode cX1_clear 56 = .ok (.invokevirtual 68, 3) := by decide +kernel
theorem dX1_clear_59 : decode cX1_clear 59 = .ok (.ifCond .ne 5, 3) := by decide +kernel
theorem dX1_clear_62 : decode cX1_clear 62 = .ok (.iconst 0, 1) := by decide +kernel
theorem dX1_clear_63 : decode cX1_clear 63 = .ok (.ireturn, 1) := by decide +kernel
theorem dX1_clear_64 : decode cX1_clear 64 = .ok (.aload_n 0, 1) := by decide +kernel
theorem dX1_clear_65 : decode cX1_clear 65 = .ok (.iload_n 1, 1) := by decide +kernel
theorem dX1_clear_66 : decode cX1_clear 66 = .ok (.iload_n 3, 1) := by decide +kernel
theorem dX1_clear_67 : decode cX1_clear 67 = .ok (.iconst 1, 1) := by decide +kernel
theorem dX1_clear_68 : decode cX1_clear 68 = .ok (.isub, 1) := by decide +kernel
theorem dX1_clear_69 : decode cX1_clear 69 = .ok (.aload_n 0, 1) := by decide +kernel
theorem dX1_clear_70 : decode cX1_clear 70 = .ok (.getfield 72, 3) := by decide +kernel
theorem dX1_clear_73 : decode cX1_clear 73 = .ok (.aload_n 0, 1) := by decide +kernel
theorem dX1_clear_74 : decode cX1_clear 74 = .ok (.getfield 76, 3) := by decide +kernel
theorem dX1_clear_77 : decode cX1_clear 77 = .ok (.invokevirtual 79, 3) := by decide +kernel
theorem dX1_clear_80 : decode cX1_clear 80 = .ok (.aload_n 0, 1) := by decide +kernel
theorem dX1_clear_81 : decode cX1_clear 81 = .ok (.iload_n 1, 1) := by decide +kernel
theorem dX1_clear_82 : decode cX1_clear 82 = .ok (.iload_n 3, 1) := by decide +kernel
theorem dX1_clear_83 : decode cX1_clear 83 = .ok (.iload_n 2, 1) := by decide +kernel
theorem dX1_clear_84 : decode cX1_clear 84 = .ok (.invokevirtual 83, 3) := by decide +kernel
theorem dX1_clear_87 : decode cX1_clear 87 = .ok (.iinc 3 (-1), 3) := by decide +kernel
theorem dX1_clear_90 : decode cX1_clear 90 = .ok (.goto (-73), 3) := by decide +kernel
theorem dX1_clear_93 : decode cX1_clear 93 = .ok (.iinc 2 1, 3) := by decide +kernel
theorem dX1_clear_96 : decode cX1_clear 96 = .ok (.goto (-94), 3) := by decide +kernel
theorem dX1_clear_99 : decode cX1_clear 99 = .ok (.iconst 1, 1) := by decide +kernel
theorem dX1_clear_100 : decode cX1_clear 100 = .ok (.ireturn, 1) := by decide +kernel
theorem dX1_findShare_0 : decode cX1_findShare 0 = .ok (.aload_n 0, 1) := by decide +kernel
theorem dX1_findShare_1 : decode cX1_findShare 1 = .ok (.getfield 25, 3) := by decide +kernel
theorem dX1_findShare_4 : decode cX1_findShare 4 = .ok (.iload_n 1, 1) := by decide +kernel
theorem dX1_findShare_5 : decode cX1_findShare 5 = .ok (.laload, 1) := by decide +kernel
theorem dX1_findShare_6 : decode cX1_findShare 6 = .ok (.invokestatic 87, 3) := by decide +kernel
theorem dX1_findShare_9 : decode cX1_findShare 9 = .ok (.aload_n 0, 1) := by decide +kernel
theorem dX1_findShare_10 : decode cX1_findShare 10 = .ok (.getfield 25, 3) := by decide +kernel
theorem dX1_findShare_13 : decode cX1_findShare 13 = .ok (.iload_n 2, 1) := by decide +kernel
theorem dX1_findShare_14 : decode cX1_findShare 14 = .ok (.laload, 1) := by decide +kernel
theorem dX1_findShare_15 : decode cX1_findShare 15 = .ok (.invokestatic 87, 3) := by decide +kernel
theorem dX1_findShare_18 : decode cX1_findShare 18 = .ok (.imul, 1) := by decide +kernel
theorem dX1_findShare_19 : decode cX1_findShare 19 = .ok (.ifCond .gt 5, 3) := by decide +kernel
theorem dX1_findShare_22 : decode cX1_findShare 22 = .ok (.iconst 0, 1) := by decide +kernel
theorem dX1_findShare_23 : decode cX1_findShare 23 = .ok (.ireturn, 1) := by decide +kernel
theorem dX1_findShare_24 : decode cX1_findShare 24 = .ok (.aload_n 0, 1) := by decide +kernel
theorem dX1_findShare_25 : decode cX1_findShare 25 = .ok (.getfield 25, 3) := by decide +kernel
theorem dX1_findShare_28 : decode cX1_findShare 28 = .ok (.iload_n 1, 1) := by decide +kernel
theorem dX1_findShare_29 : decode cX1_findShare 29 = .ok (.laload, 1) := by decide +kernel
theorem dX1_findShare_30 : decode cX1_findShare 30 = .ok (.invokestatic 91, 3) := by decide +kernel
theorem dX1_findShare_33 : decode cX1_findShare 33 = .ok (.lstore_n 3, 1) := by decide +kernel
theorem dX1_findShare_34 : decode cX1_findShare 34 = .ok (.aload_n 0, 1) := by decide +kernel
theorem dX1_findShare_35 : decode cX1_findShare 35 = .ok (.getfield 25, 3) := by decide +kernel
theorem dX1_findShare_38 : decode cX1_findShare 38 = .ok (.iload_n 2, 1) := by decide +kernel
theorem dX1_findShare_39 : decode cX1_findShare 39 = .ok (.laload, 1) := by decide +kernel
theorem dX1_findShare_40 : decode cX1_findShare 40 = .ok (.invokestatic 91, 3) := by decide +kernel
theorem dX1_findShare_43 : decode cX1_findShare 43 = .ok (.lstore 5, 2) := by decide +kernel
theorem dX1_findShare_45 : decode cX1_findShare 45 = .ok (.lload_n 3, 1) := by decide +kernel
theorem dX1_findShare_46 : decode cX1_findShare 46 = .ok (.lload 5, 2) := by decide +kernel
theorem dX1_findShare_48 : decode cX1_findShare 48 = .ok (.invokestatic 95, 3) := by decide +kernel
theorem dX1_findShare_51 : decode cX1_findShare 51 = .ok (.lstore 7, 2) := by decide +kernel
theorem dX1_findShare_53 : decode cX1_findShare 53 = .ok (.aload_n 0, 1) := by decide +kernel
theorem dX1_findShare_54 : decode cX1_findShare 54 = .ok (.getfield 28, 3) := by decide +kernel
theorem dX1_findShare_57 : decode cX1_findShare 57 = .ok (.iload_n 1, 1) := by decide +kernel
theorem dX1_findShare_58 : decode cX1_findShare 58 = .ok (.laload, 1) := by decide +kernel
theorem dX1_findShare_59 : decode cX1_findShare 59 = .ok (.aload_n 0, 1) := by decide +kernel
theorem dX1_findShare_60 : decode cX1_findShare 60 = .ok (.getfield 28, 3) := by decide +kernel
theorem dX1_findShare_63 : decode cX1_findShare 63 = .ok (.iload_n 2, 1) := by decide +kernel
theorem dX1_findShare_64 : decode cX1_findShare 64 = .ok (.laload, 1) := by decide +kernel
theorem dX1_findShare_65 : decode cX1_findShare 65 = .ok (.invokestatic 95, 3) := by decide +kernel
theorem dX1_findShare_68 : decode cX1_findShare 68 = .ok (.lstore 9, 2) := by decide +kernel
theorem dX1_findShare_70 : decode cX1_findShare 70 = .ok (.aload_n 0, 1) := by decide +kernel
theorem dX1_findShare_71 : decode cX1_findShare 71 = .ok (.lload_n 3, 1) := by decide +kernel
theorem dX1_findShare_72 : decode cX1_findShare 72 = .ok (.lload 7, 2) := by decide +kernel
theorem dX1_findShare_74 : decode cX1_findShare 74 = .ok (.invokestatic 99, 3) := by decide +kernel
theorem dX1_findShare_77 : decode cX1_findShare 77 = .ok (.aload_n 0, 1) := by decide +kernel
theorem dX1_findShare_78 : decode cX1_findShare 78 = .ok (.getfield 28, 3) := by decide +kernel
theorem dX1_findShare_81 : decode cX1_findShare 81 = .ok (.iload_n 2, 1) := by decide +kernel
theorem dX1_findShare_82 : decode cX1_findShare 82 = .ok (.laload, 1) := by decide +kernel
theorem dX1_findShare_83 : decode cX1_findShare 83 = .ok (.lload 9, 2) := by decide +kernel
theorem dX1_findShare_85 : decode cX1_findShare 85 = .ok (.invokestatic 99, 3) := by decide +kernel
theorem dX1_findShare_88 : decode cX1_findShare 88 = .ok (.lmul, 1) := by decide +kernel
theorem dX1_findShare_89 : decode cX1_findShare 89 = .ok (.putfield 72, 3) := by decide +kernel
theorem dX1_findShare_92 : decode cX1_findShare 92 = .ok (.aload_n 0, 1) := by decide +kernel
theorem dX1_findShare_93 : decode cX1_findShare 93 = .ok (.lload 5, 2) := by decide +kernel
theorem dX1_findShare_95 : decode cX1_findShare 95 = .ok (.lload 7, 2) := by decide +kernel
theorem dX1_findShare_97 : decode cX1_findShare 97 = .ok (.invokestatic 99, 3) := by decide +kernel
theorem dX1_findShare_100 : decode cX1_findShare 100 = .ok (.aload_n 0, 1) := by decide +kernel
theorem dX1_findShare_101 : decode cX1_findShare 101 = .ok (.getfield 28, 3) := by decide +kernel
theorem dX1_findShare_104 : decode cX1_findShare 104 = .ok (.iload_n 1, 1) := by decide +kernel
theorem dX1_findShare_105 : decode cX1_findShare 105 = .ok (.laload, 1) := by decide +kernel
theorem dX1_findShare_106 : decode cX1_findShare 106 = .ok (.lload 9, 2) := by decide +kernel
theorem dX1_findShare_108 : decode cX1_findShare 108 = .ok (.invokestatic 99, 3) := by decide +kernel
theorem dX1_findShare_111 : decode cX1_findShare 111 = .ok (.lmul, 1) := by decide +kernel
theorem dX1_findShare_112 : decode cX1_findShare 112 = .ok (.putfield 76, 3) := by decide +kernel
theorem dX1_findShare_115 : decode cX1_findShare 115 = .ok (.iconst 1, 1) := by decide +kernel
theorem dX1_findShare_116 : decode cX1_findShare 116 = .ok (.ireturn, 1) := by decide +kernel
theorem dX1_takeRowAbove_0 : decode cX1_takeRowAbove 0 = .ok (.aload_n 0, 1) := by decide +kernel
theorem dX1_takeRowAbove_1 : decode cX1_takeRowAbove 1 = .ok (.getfield 25, 3) := by decide +kernel
theorem dX1_takeRowAbove_4 : decode cX1_takeRowAbove 4 = .ok (.iload_n 1, 1) := by decide +kernel
theorem dX1_takeRowAbove_5 : decode cX1_takeRowAbove 5 = .ok (.iload_n 2, 1) := by decide +kernel
theorem dX1_takeRowAbove_6 : decode cX1_takeRowAbove 6 = .ok (.iload_n 3, 1) := by decide +kernel
theorem dX1_takeRowAbove_7 : decode cX1_takeRowAbove 7 = .ok (.invokestatic 61, 3) := by decide +kernel
theorem dX1_takeRowAbove_10 : decode cX1_takeRowAbove 10 = .ok (.lconst 0, 1) := by decide +kernel
theorem dX1_takeRowAbove_11 : decode cX1_takeRowAbove 11 = .ok (.lastore, 1) := by decide +kernel
theorem dX1_takeRowAbove_12 : decode cX1_takeRowAbove 12 = .ok (.aload_n 0, 1) := by decide +kernel
theorem dX1_takeRowAbove_13 : decode cX1_takeRowAbove 13 = .ok (.getfield 28, 3) := by decide +kernel
theorem dX1_takeRowAbove_16 : decode cX1_takeRowAbove 16 = .ok (.iload_n 1, 1) := by decide +kernel
theorem dX1_takeRowAbove_17 : decode cX1_takeRowAbove 17 = .ok (.iload_n 2, 1) := by decide +kernel
theorem dX1_takeRowAbove_18 : decode cX1_takeRowAbove 18 = .ok (.iload_n 3, 1) := by decide +kernel
theorem dX1_takeRowAbove_19 : decode cX1_takeRowAbove 19 = .ok (.invokestatic 61, 3) := by decide +kernel
theorem dX1_takeRowAbove_22 : decode cX1_takeRowAbove 22 = .ok (.lconst 1, 1) := by decide +kernel
theorem dX1_takeRowAbove_23 : decode cX1_takeRowAbove 23 = .ok (.lastore, 1) := by decide +kernel
theorem dX1_takeRowAbove_24 : decode cX1_takeRowAbove 24 = .ok (.iload_n 3, 1) := by decide +kernel
theorem dX1_takeRowAbove_25 : decode cX1_takeRowAbove 25 = .ok (.iconst 1, 1) := by decide +kernel
theorem dX1_takeRowAbove_26 : decode cX1_takeRowAbove 26 = .ok (.iadd, 1) := by decide +kernel
theorem dX1_takeRowAbove_27 : decode cX1_takeRowAbove 27 = .ok (.istore 4, 2) := by decide +kernel
theorem dX1_takeRowAbove_29 : decode cX1_takeRowAbove 29 = .ok (.iload 4, 2) := by decide +kernel
theorem dX1_takeRowAbove_31 : decode cX1_takeRowAbove 31 = .ok (.aload_n 0, 1) := by decide +kernel
theorem dX1_takeRowAbove_32 : decode cX1_takeRowAbove 32 = .ok (.getfield 58, 3) := by decide +kernel
theorem dX1_takeRowAbove_35 : decode cX1_takeRowAbove 35 = .ok (.if_icmp .ge 29, 3) := by decide +kernel
theorem dX1_takeRowAbove_38 : decode cX1_takeRowAbove 38 = .ok (.aload_n 0, 1) := by decide +kernel
theorem dX1_takeRowAbove_39 : decode cX1_takeRowAbove 39 = .ok (.iload_n 1, 1) := by decide +kernel
theorem dX1_takeRowAbove_40 : decode cX1_takeRowAbove 40 = .ok (.iload_n 2, 1) := by decide +kernel
theorem dX1_takeRowAbove_41 : decode cX1_takeRowAbove 41 = .ok (.iload 4, 2) := by decide +kernel
theorem dX1_takeRowAbove_43 : decode cX1_takeRowAbove 43 = .ok (.invokestatic 61, 3) := by decide +kernel
theorem dX1_takeRowAbove_46 : decode cX1_takeRowAbove 46 = .ok (.iload_n 1, 1) := by decide +kernel
theorem dX1_takeRowAbove_47 : decode cX1_takeRowAbove 47 = .ok (.iload_n 2, 1) := by decide +kernel
theorem dX1_takeRowAbove_48 : decode cX1_takeRowAbove 48 = .ok (.iconst 1, 1) := by decide +kernel
theorem dX1_takeRowAbove_49 : decode cX1_takeRowAbove 49 = .ok (.isub, 1) := by decide +kernel
theorem dX1_takeRowAbove_50 : decode cX1_takeRowAbove 50 = .ok (.iload 4, 2) := by decide +kernel
theorem dX1_takeRowAbove_52 : decode cX1_takeRowAbove 52 = .ok (.invokestatic 61, 3) := by decide +kernel
theorem dX1_takeRowAbove_55 : decode cX1_takeRowAbove 55 = .ok (.invokevirtual 102, 3) := by decide +kernel
theorem dX1_takeRowAbove_58 : decode cX1_takeRowAbove 58 = .ok (.iinc 4 1, 3) := by decide +kernel
theorem dX1_takeRowAbove_61 : decode cX1_takeRowAbove 61 = .ok (.goto (-32), 3) := by decide +kernel
theorem dX1_takeRowAbove_64 : decode cX1_takeRowAbove 64 = .ok (.return_, 1) := by decide +kernel
theorem dX1_takeShare_0 : decode cX1_takeShare 0 = .ok (.aload_n 0, 1) := by decide +kernel
theorem dX1_takeShare_1 : decode cX1_takeShare 1 = .ok (.getfield 25, 3) := by decide +kernel
theorem dX1_takeShare_4 : decode cX1_takeShare 4 = .ok (.iload_n 2, 1) := by decide +kernel
theorem dX1_takeShare_5 : decode cX1_takeShare 5 = .ok (.laload, 1) := by decide +kernel
theorem dX1_takeShare_6 : decode cX1_takeShare 6 = .ok (.lconst 0, 1) := by decide +kernel
theorem dX1_takeShare_7 : decode cX1_takeShare 7 = .ok (.lcmp, 1) := by decide +kernel
theorem dX1_takeShare_8 : decode cX1_takeShare 8 = .ok (.ifCond .ne 4, 3) := by decide +kernel
theorem dX1_takeShare_11 : decode cX1_takeShare 11 = .ok (.return_, 1) := by decide +kernel
theorem dX1_takeShare_12 : decode cX1_takeShare 12 = .ok (.aload_n 0, 1) := by decide +kernel
theorem dX1_takeShare_13 : decode cX1_takeShare 13 = .ok (.getfield 72, 3) := by decide +kernel
theorem dX1_takeShare_16 : decode cX1_takeShare 16 = .ok (.aload_n 0, 1) := by decide +kernel
theorem dX1_takeShare_17 : decode cX1_takeShare 17 = .ok (.getfield 28, 3) := by decide +kernel
theorem dX1_takeShare_20 : decode cX1_takeShare 20 = .ok (.iload_n 2, 1) := by decide +kernel
theorem dX1_takeShare_21 : decode cX1_takeShare 21 = .ok (.laload, 1) := by decide +kernel
theorem dX1_takeShare_22 : decode cX1_takeShare 22 = .ok (.invokestatic 95, 3) := by decide +kernel
theorem dX1_takeShare_25 : decode cX1_takeShare 25 = .ok (.lstore_n 3, 1) := by decide +kernel
theorem dX1_takeShare_26 : decode cX1_takeShare 26 = .ok (.aload_n 0, 1) := by decide +kernel
theorem dX1_takeShare_27 : decode cX1_takeShare 27 = .ok (.getfield 25, 3) := by decide +kernel
theorem dX1_takeShare_30 : decode cX1_takeShare 30 = .ok (.iload_n 2, 1) := by decide +kernel
theorem dX1_takeShare_31 : decode cX1_takeShare 31 = .ok (.laload, 1) := by decide +kernel
theorem dX1_takeShare_32 : decode cX1_takeShare 32 = .ok (.aload_n 0, 1) := by decide +kernel
theorem dX1_takeShare_33 : decode cX1_takeShare 33 = .ok (.getfield 76, 3) := by decide +kernel
theorem dX1_takeShare_36 : decode cX1_takeShare 36 = .ok (.invokestatic 95, 3) := by decide +kernel
theorem dX1_takeShare_39 : decode cX1_takeShare 39 = .ok (.lstore 5, 2) := by decide +kernel
theorem dX1_takeShare_41 : decode cX1_takeShare 41 = .ok (.aload_n 0, 1) := by decide +kernel
theorem dX1_takeShare_42 : decode cX1_takeShare 42 = .ok (.getfield 72, 3) := by decide +kernel
theorem dX1_takeShare_45 : decode cX1_takeShare 45 = .ok (.lload_n 3, 1) := by decide +kernel
theorem dX1_takeShare_46 : decode cX1_takeShare 46 = .ok (.invokestatic 99, 3) := by decide +kernel
theorem dX1_takeShare_49 : decode cX1_takeShare 49 = .ok (.aload_n 0, 1) := by decide +kernel
theorem dX1_takeShare_50 : decode cX1_takeShare 50 = .ok (.getfield 25, 3) := by decide +kernel
theorem dX1_takeShare_53 : decode cX1_takeShare 53 = .ok (.iload_n 2, 1) := by decide +kernel
theorem dX1_takeShare_54 : decode cX1_takeShare 54 = .ok (.laload, 1) := by decide +kernel
theorem dX1_takeShare_55 : decode cX1_takeShare 55 = .ok (.lload 5, 2) := by decide +kernel
theorem dX1_takeShare_57 : decode cX1_takeShare 57 = .ok (.invokestatic 99, 3) := by decide +kernel
theorem dX1_takeShare_60 : decode cX1_takeShare 60 = .ok (.lmul, 1) := by decide +kernel
theorem dX1_takeShare_61 : decode cX1_takeShare 61 = .ok (.lstore 7, 2) := by decide +kernel
theorem dX1_takeShare_63 : decode cX1_takeShare 63 = .ok (.aload_n 0, 1) := by decide +kernel
theorem dX1_takeShare_64 : decode cX1_takeShare 64 = .ok (.getfield 76, 3) := by decide +kernel
theorem dX1_takeShare_67 : decode cX1_takeShare 67 = .ok (.lload 5, 2) := by decide +kernel
theorem dX1_takeShare_69 : decode cX1_takeShare 69 = .ok (.invokestatic 99, 3) := by decide +kernel
theorem dX1_takeShare_72 : decode cX1_takeShare 72 = .ok (.aload_n 0, 1) := by decide +kernel
theorem dX1_takeShare_73 : decode cX1_takeShare 73 = .ok (.getfield 28, 3) := by decide +kernel
theorem dX1_takeShare_76 : decode cX1_takeShare 76 = .ok (.iload_n 2, 1) := by decide +kernel
theorem dX1_takeShare_77 : decode cX1_takeShare 77 = .ok (.laload, 1) := by decide +kernel
theorem dX1_takeShare_78 : decode cX1_takeShare 78 = .ok (.lload_n 3, 1) := by decide +kernel
theorem dX1_takeShare_79 : decode cX1_takeShare 79 = .ok (.invokestatic 99, 3) := by decide +kernel
theorem dX1_takeShare_82 : decode cX1_takeShare 82 = .ok (.lmul, 1) := by decide +kernel
theorem dX1_takeShare_83 : decode cX1_takeShare 83 = .ok (.lstore 9, 2) := by decide +kernel
theorem dX1_takeShare_85 : decode cX1_takeShare 85 = .ok (.aload_n 0, 1) := by decide +kernel
theorem dX1_takeShare_86 : decode cX1_takeShare 86 = .ok (.getfield 25, 3) := by decide +kernel
theorem dX1_takeShare_89 : decode cX1_takeShare 89 = .ok (.iload_n 1, 1) := by decide +kernel
theorem dX1_takeShare_90 : decode cX1_takeShare 90 = .ok (.laload, 1) := by decide +kernel
theorem dX1_takeShare_91 : decode cX1_takeShare 91 = .ok (.lload 9, 2) := by decide +kernel
theorem dX1_takeShare_93 : decode cX1_takeShare 93 = .ok (.lmul, 1) := by decide +kernel
theorem dX1_takeShare_94 : decode cX1_takeShare 94 = .ok (.lload 7, 2) := by decide +kernel
theorem dX1_takeShare_96 : decode cX1_takeShare 96 = .ok (.aload_n 0, 1) := by decide +kernel
theorem dX1_takeShare_97 : decode cX1_takeShare 97 = .ok (.getfield 28, 3) := by decide +kernel
theorem dX1_takeShare_100 : decode cX1_takeShare 100 = .ok (.iload_n 1, 1) := by decide +kernel
theorem dX1_takeShare_101 : decode cX1_takeShare 101 = .ok (.laload, 1) := by decide +kernel
theorem dX1_takeShare_102 : decode cX1_takeShare 102 = .ok (.lmul, 1) := by decide +kernel
theorem dX1_takeShare_103 : decode cX1_takeShare 103 = .ok (.lsub, 1) := by decide +kernel
theorem dX1_takeShare_104 : decode cX1_takeShare 104 = .ok (.lstore 11, 2) := by decide +kernel
theorem dX1_takeShare_106 : decode cX1_takeShare 106 = .ok (.aload_n 0, 1) := by decide +kernel
theorem dX1_takeShare_107 : decode cX1_takeShare 107 = .ok (.getfield 28, 3) := by decide +kernel
theorem dX1_takeShare_110 : decode cX1_takeShare 110 = .ok (.iload_n 1, 1) := by decide +kernel
theorem dX1_takeShare_111 : decode cX1_takeShare 111 = .ok (.laload, 1) := by decide +kernel
theorem dX1_takeShare_112 : decode cX1_takeShare 112 = .ok (.lload 9, 2) := by decide +kernel
theorem dX1_takeShare_114 : decode cX1_takeShare 114 = .ok (.lmul, 1) := by decide +kernel
theorem dX1_takeShare_115 : decode cX1_takeShare 115 = .ok (.lstore 13, 2) := by decide +kernel
theorem dX1_takeShare_117 : decode cX1_takeShare 117 = .ok (.lload 11, 2) := by decide +kernel
theorem dX1_takeShare_119 : decode cX1_takeShare 119 = .ok (.lload 13, 2) := by decide +kernel
theorem dX1_takeShare_121 : decode cX1_takeShare 121 = .ok (.invokestatic 95, 3) := by decide +kernel
theorem dX1_takeShare_124 : decode cX1_takeShare 124 = .ok (.lstore 15, 2) := by decide +kernel
theorem dX1_takeShare_126 : decode cX1_takeShare 126 = .ok (.aload_n 0, 1) := by decide +kernel
theorem dX1_takeShare_127 : decode cX1_takeShare 127 = .ok (.getfield 25, 3) := by decide +kernel
theorem dX1_takeShare_130 : decode cX1_takeShare 130 = .ok (.iload_n 1, 1) := by decide +kernel
theorem dX1_takeShare_131 : decode cX1_takeShare 131 = .ok (.lload 11, 2) := by decide +kernel
theorem dX1_takeShare_133 : decode cX1_takeShare 133 = .ok (.lload 15, 2) := by decide +kernel
theorem dX1_takeShare_135 : decode cX1_takeShare 135 = .ok (.invokestatic 99, 3) := by decide +kernel
theorem dX1_takeShare_138 : decode cX1_takeShare 138 = .ok (.lastore, 1) := by decide +kernel
theorem dX1_takeShare_139 : decode cX1_takeShare 139 = .ok (.aload_n 0, 1) := by decide +kernel
theorem dX1_takeShare_140 : decode cX1_takeShare 140 = .ok (.getfield 28, 3) := by decide +kernel
theorem dX1_takeShare_143 : decode cX1_takeShare 143 = .ok (.iload_n 1, 1) := by decide +kernel
theorem dX1_takeShare_144 : decode cX1_takeShare 144 = .ok (.lload 13, 2) := by decide +kernel
theorem dX1_takeShare_146 : decode cX1_takeShare 146 = .ok (.lload 15, 2) := by decide +kernel
theorem dX1_takeShare_148 : decode cX1_takeShare 148 = .ok (.invokestatic 99, 3) := by decide +kernel
theorem dX1_takeShare_151 : decode cX1_takeShare 151 = .ok (.lastore, 1) := by decide +kernel
theorem dX1_takeShare_152 : decode cX1_takeShare 152 = .ok (.return_, 1) := by decide +kernel
theorem dX1_standOnLine_0 : decode cX1_standOnLine 0 = .ok (.iconst 0, 1) := by decide +kernel
theorem dX1_standOnLine_1 : decode cX1_standOnLine 1 = .ok (.istore_n 1, 1) := by decide +kernel
theorem dX1_standOnLine_2 : decode cX1_standOnLine 2 = .ok (.iload_n 1, 1) := by decide +kernel
theorem dX1_standOnLine_3 : decode cX1_standOnLine 3 = .ok (.aload_n 0, 1) := by decide +kernel
theorem dX1_standOnLine_4 : decode cX1_standOnLine 4 = .ok (.getfield 58, 3) := by decide +kernel
theorem dX1_standOnLine_7 : decode cX1_standOnLine 7 = .ok (.if_icmp .ge 47, 3) := by decide +kernel
theorem dX1_standOnLine_10 : decode cX1_standOnLine 10 = .ok (.iconst 2, 1) := by decide +kernel
theorem dX1_standOnLine_11 : decode cX1_standOnLine 11 = .ok (.iload_n 1, 1) := by decide +kernel
theorem dX1_standOnLine_12 : decode cX1_standOnLine 12 = .ok (.iload_n 1, 1) := by decide +kernel
theorem dX1_standOnLine_13 : decode cX1_standOnLine 13 = .ok (.invokestatic 61, 3) := by decide +kernel
theorem dX1_standOnLine_16 : decode cX1_standOnLine 16 = .ok (.istore_n 2, 1) := by decide +kernel
theorem dX1_standOnLine_17 : decode cX1_standOnLine 17 = .ok (.aload_n 0, 1) := by decide +kernel
theorem dX1_standOnLine_18 : decode cX1_standOnLine 18 = .ok (.getfield 25, 3) := by decide +kernel
theorem dX1_standOnLine_21 : decode cX1_standOnLine 21 = .ok (.iload_n 2, 1) := by decide +kernel
theorem dX1_standOnLine_22 : decode cX1_standOnLine 22 = .ok (.laload, 1) := by decide +kernel
theorem dX1_standOnLine_23 : decode cX1_standOnLine 23 = .ok (.lconst 0, 1) := by decide +kernel
theorem dX1_standOnLine_24 : decode cX1_standOnLine 24 = .ok (.lcmp, 1) := by decide +kernel
theorem dX1_standOnLine_25 : decode cX1_standOnLine 25 = .ok (.ifCond .gt 5, 3) := by decide +kernel
theorem dX1_standOnLine_28 : decode cX1_standOnLine 28 = .ok (.iconst 0, 1) := by decide +kernel
theorem dX1_standOnLine_29 : decode cX1_standOnLine 29 = .ok (.ireturn, 1) := by decide +kernel
theorem dX1_standOnLine_30 : decode cX1_standOnLine 30 = .ok (.aload_n 0, 1) := by decide +kernel
theorem dX1_standOnLine_31 : decode cX1_standOnLine 31 = .ok (.iconst 2, 1) := by decide +kernel
theorem dX1_standOnLine_32 : decode cX1_standOnLine 32 = .ok (.iload_n 1, 1) := by decide +kernel
theorem dX1_standOnLine_33 : decode cX1_standOnLine 33 = .ok (.aload_n 0, 1) := by decide +kernel
theorem dX1_standOnLine_34 : decode cX1_standOnLine 34 = .ok (.getfield 25, 3) := by decide +kernel
theorem dX1_standOnLine_37 : decode cX1_standOnLine 37 = .ok (.iload_n 2, 1) := by decide +kernel
theorem dX1_standOnLine_38 : decode cX1_standOnLine 38 = .ok (.laload, 1) := by decide +kernel
theorem dX1_standOnLine_39 : decode cX1_standOnLine 39 = .ok (.aload_n 0, 1) := by decide +kernel
theorem dX1_standOnLine_40 : decode cX1_standOnLine 40 = .ok (.getfield 28, 3) := by decide +kernel
theorem dX1_standOnLine_43 : decode cX1_standOnLine 43 = .ok (.iload_n 2, 1) := by decide +kernel
theorem dX1_standOnLine_44 : decode cX1_standOnLine 44 = .ok (.laload, 1) := by decide +kernel
theorem dX1_standOnLine_45 : decode cX1_standOnLine 45 = .ok (.invokevirtual 79, 3) := by decide +kernel
theorem dX1_standOnLine_48 : decode cX1_standOnLine 48 = .ok (.iinc 1 1, 3) := by decide +kernel
theorem dX1_standOnLine_51 : decode cX1_standOnLine 51 = .ok (.goto (-49), 3) := by decide +kernel
theorem dX1_standOnLine_54 : decode cX1_standOnLine 54 = .ok (.iconst 1, 1) := by decide +kernel
theorem dX1_standOnLine_55 : decode cX1_standOnLine 55 = .ok (.ireturn, 1) := by decide +kernel
theorem dX1_note_0 : decode cX1_note 0 = .ok (.aload_n 0, 1) := by decide +kernel
theorem dX1_note_1 : decode cX1_note 1 = .ok (.getfield 43, 3) := by decide +kernel
theorem dX1_note_4 : decode cX1_note 4 = .ok (.bipush 9, 2) := by decide +kernel
theorem dX1_note_6 : decode cX1_note 6 = .ok (.if_icmp .ge 54, 3) := by decide +kernel
theorem dX1_note_9 : decode cX1_note 9 = .ok (.aload_n 0, 1) := by decide +kernel
theorem dX1_note_10 : decode cX1_note 10 = .ok (.getfield 9, 3) := by decide +kernel
theorem dX1_note_13 : decode cX1_note 13 = .ok (.aload_n 0, 1) := by decide +kernel
theorem dX1_note_14 : decode cX1_note 14 = .ok (.getfield 43, 3) := by decide +kernel
theorem dX1_note_17 : decode cX1_note 17 = .ok (.iload_n 1, 1) := by decide +kernel
theorem dX1_note_18 : decode cX1_note 18 = .ok (.iastore, 1) := by decide +kernel
theorem dX1_note_19 : decode cX1_note 19 = .ok (.aload_n 0, 1) := by decide +kernel
theorem dX1_note_20 : decode cX1_note 20 = .ok (.getfield 15, 3) := by decide +kernel
theorem dX1_note_23 : decode cX1_note 23 = .ok (.aload_n 0, 1) := by decide +kernel
theorem dX1_note_24 : decode cX1_note 24 = .ok (.getfield 43, 3) := by decide +kernel
theorem dX1_note_27 : decode cX1_note 27 = .ok (.iload_n 2, 1) := by decide +kernel
theorem dX1_note_28 : decode cX1_note 28 = .ok (.iastore, 1) := by decide +kernel
theorem dX1_note_29 : decode cX1_note 29 = .ok (.aload_n 0, 1) := by decide +kernel
theorem dX1_note_30 : decode cX1_note 30 = .ok (.getfield 18, 3) := by decide +kernel
theorem dX1_note_33 : decode cX1_note 33 = .ok (.aload_n 0, 1) := by decide +kernel
theorem dX1_note_34 : decode cX1_note 34 = .ok (.getfield 43, 3) := by decide +kernel
theorem dX1_note_37 : decode cX1_note 37 = .ok (.lload_n 3, 1) := by decide +kernel
theorem dX1_note_38 : decode cX1_note 38 = .ok (.lastore, 1) := by decide +kernel
theorem dX1_note_39 : decode cX1_note 39 = .ok (.aload_n 0, 1) := by decide +kernel
theorem dX1_note_40 : decode cX1_note 40 = .ok (.getfield 22, 3) := by decide +kernel
theorem dX1_note_43 : decode cX1_note 43 = .ok (.aload_n 0, 1) := by decide +kernel
theorem dX1_note_44 : decode cX1_note 44 = .ok (.getfield 43, 3) := by decide +kernel
theorem dX1_note_47 : decode cX1_note 47 = .ok (.lload 5, 2) := by decide +kernel
theorem dX1_note_49 : decode cX1_note 49 = .ok (.lastore, 1) := by decide +kernel
theorem dX1_note_50 : decode cX1_note 50 = .ok (.aload_n 0, 1) := by decide +kernel
theorem dX1_note_51 : decode cX1_note 51 = .ok (.dup, 1) := by decide +kernel
theorem dX1_note_52 : decode cX1_note 52 = .ok (.getfield 43, 3) := by decide +kernel
theorem dX1_note_55 : decode cX1_note 55 = .ok (.iconst 1, 1) := by decide +kernel
theorem dX1_note_56 : decode cX1_note 56 = .ok (.iadd, 1) := by decide +kernel
theorem dX1_note_57 : decode cX1_note 57 = .ok (.putfield 43, 3) := by decide +kernel
theorem dX1_note_60 : decode cX1_note 60 = .ok (.return_, 1) := by decide +kernel
theorem dX1_commonOf_0 : decode cX1_commonOf 0 = .ok (.lload_n 0, 1) := by decide +kernel
theorem dX1_commonOf_1 : decode cX1_commonOf 1 = .ok (.invokestatic 91, 3) := by decide +kernel
theorem dX1_commonOf_4 : decode cX1_commonOf 4 = .ok (.lstore 4, 2) := by decide +kernel
theorem dX1_commonOf_6 : decode cX1_commonOf 6 = .ok (.lload_n 2, 1) := by decide +kernel
theorem dX1_commonOf_7 : decode cX1_commonOf 7 = .ok (.invokestatic 91, 3) := by decide +kernel
theorem dX1_commonOf_10 : decode cX1_commonOf 10 = .ok (.lstore 6, 2) := by decide +kernel
theorem dX1_commonOf_12 : decode cX1_commonOf 12 = .ok (.iconst 0, 1) := by decide +kernel
theorem dX1_commonOf_13 : decode cX1_commonOf 13 = .ok (.istore 8, 2) := by decide +kernel
theorem dX1_commonOf_15 : decode cX1_commonOf 15 = .ok (.iload 8, 2) := by decide +kernel
theorem dX1_commonOf_17 : decode cX1_commonOf 17 = .ok (.bipush 100, 2) := by decide +kernel
theorem dX1_commonOf_19 : decode cX1_commonOf 19 = .ok (.if_icmp .ge 31, 3) := by decide +kernel
theorem dX1_commonOf_22 : decode cX1_commonOf 22 = .ok (.lload 6, 2) := by decide +kernel
theorem dX1_commonOf_24 : decode cX1_commonOf 24 = .ok (.lconst 0, 1) := by decide +kernel
theorem dX1_commonOf_25 : decode cX1_commonOf 25 = .ok (.lcmp, 1) := by decide +kernel
theorem dX1_commonOf_26 : decode cX1_commonOf 26 = .ok (.ifCond .eq 24, 3) := by decide +kernel
theorem dX1_commonOf_29 : decode cX1_commonOf 29 = .ok (.lload 4, 2) := by decide +kernel
theorem dX1_commonOf_31 : decode cX1_commonOf 31 = .ok (.lload 6, 2) := by decide +kernel
theorem dX1_commonOf_33 : decode cX1_commonOf 33 = .ok (.lrem, 1) := by decide +kernel
theorem dX1_commonOf_34 : decode cX1_commonOf 34 = .ok (.lstore 9, 2) := by decide +kernel
theorem dX1_commonOf_36 : decode cX1_commonOf 36 = .ok (.lload 6, 2) := by decide +kernel
theorem dX1_commonOf_38 : decode cX1_commonOf 38 = .ok (.lstore 4, 2) := by decide +kernel
theorem dX1_commonOf_40 : decode cX1_commonOf 40 = .ok (.lload 9, 2) := by decide +kernel
theorem dX1_commonOf_42 : decode cX1_commonOf 42 = .ok (.lstore 6, 2) := by decide +kernel
theorem dX1_commonOf_44 : decode cX1_commonOf 44 = .ok (.iinc 8 1, 3) := by decide +kernel
theorem dX1_commonOf_47 : decode cX1_commonOf 47 = .ok (.goto (-32), 3) := by decide +kernel
theorem dX1_commonOf_50 : decode cX1_commonOf 50 = .ok (.lload 4, 2) := by decide +kernel
theorem dX1_commonOf_52 : decode cX1_commonOf 52 = .ok (.lreturn, 1) := by decide +kernel
theorem dX1_without_0 : decode cX1_without 0 = .ok (.lload_n 2, 1) := by decide +kernel
theorem dX1_without_1 : decode cX1_without 1 = .ok (.lconst 1, 1) := by decide +kernel
theorem dX1_without_2 : decode cX1_without 2 = .ok (.lcmp, 1) := by decide +kernel
theorem dX1_without_3 : decode cX1_without 3 = .ok (.ifCond .le 9, 3) := by decide +kernel
theorem dX1_without_6 : decode cX1_without 6 = .ok (.lload_n 0, 1) := by decide +kernel
theorem dX1_without_7 : decode cX1_without 7 = .ok (.lload_n 2, 1) := by decide +kernel
theorem dX1_without_8 : decode cX1_without 8 = .ok (.ldiv, 1) := by decide +kernel
theorem dX1_without_9 : decode cX1_without 9 = .ok (.goto 4, 3) := by decide +kernel
theorem dX1_without_12 : decode cX1_without 12 = .ok (.lload_n 0, 1) := by decide +kernel
theorem dX1_without_13 : decode cX1_without 13 = .ok (.lreturn, 1) := by decide +kernel
theorem dX2_init_0 : decode cX2_init 0 = .ok (.aload_n 0, 1) := by decide +kernel
theorem dX2_init_1 : decode cX2_init 1 = .ok (.invokespecial 3, 3) := by decide +kernel
theorem dX2_init_4 : decode cX2_init 4 = .ok (.aload_n 0, 1) := by decide +kernel
theorem dX2_init_5 : decode cX2_init 5 = .ok (.sipush 544, 3) := by decide +kernel
theorem dX2_init_8 : decode cX2_init 8 = .ok (.newarray .long, 2) := by decide +kernel
theorem dX2_init_10 : decode cX2_init 10 = .ok (.putfield 9, 3) := by decide +kernel
theorem dX2_init_13 : decode cX2_init 13 = .ok (.return_, 1) := by decide +kernel
theorem dX2_lead_0 : decode cX2_lead 0 = .ok (.iconst 0, 1) := by decide +kernel
theorem dX2_lead_1 : decode cX2_lead 1 = .ok (.istore 5, 2) := by decide +kernel
theorem dX2_lead_3 : decode cX2_lead 3 = .ok (.iload 5, 2) := by decide +kernel
theorem dX2_lead_5 : decode cX2_lead 5 = .ok (.bipush 32, 2) := by decide +kernel
theorem dX2_lead_7 : decode cX2_lead 7 = .ok (.if_icmp .ge 35, 3) := by decide +kernel
theorem dX2_lead_10 : decode cX2_lead 10 = .ok (.aload_n 0, 1) := by decide +kernel
theorem dX2_lead_11 : decode cX2_lead 11 = .ok (.getfield 9, 3) := by decide +kernel
theorem dX2_lead_14 : decode cX2_lead 14 = .ok (.aload_n 1, 1) := by decide +kernel
theorem dX2_lead_15 : decode cX2_lead 15 = .ok (.getfield 15, 3) := by decide +kernel
theorem dX2_lead_18 : decode cX2_lead 18 = .ok (.bipush 32, 2) := by decide +kernel
theorem dX2_lead_20 : decode cX2_lead 20 = .ok (.imul, 1) := by decide +kernel
theorem dX2_lead_21 : decode cX2_lead 21 = .ok (.iload 5, 2) := by decide +kernel
theorem dX2_lead_23 : decode cX2_lead 23 = .ok (.iadd, 1) := by decide +kernel
theorem dX2_lead_24 : decode cX2_lead 24 = .ok (.iload 5, 2) := by decide +kernel
theorem dX2_lead_26 : decode cX2_lead 26 = .ok (.iload_n 3, 1) := by decide +kernel
theorem dX2_lead_27 : decode cX2_lead 27 = .ok (.if_icmp .ne 7, 3) := by decide +kernel
theorem dX2_lead_30 : decode cX2_lead 30 = .ok (.lconst 1, 1) := by decide +kernel
theorem dX2_lead_31 : decode cX2_lead 31 = .ok (.goto 4, 3) := by decide +kernel
theorem dX2_lead_34 : decode cX2_lead 34 = .ok (.lconst 0, 1) := by decide +kernel
theorem dX2_lead_35 : decode cX2_lead 35 = .ok (.lastore, 1) := by decide +kernel
theorem dX2_lead_36 : decode cX2_lead 36 = .ok (.iinc 5 1, 3) := by decide +kernel
theorem dX2_lead_39 : decode cX2_lead 39 = .ok (.goto (-36), 3) := by decide +kernel
theorem dX2_lead_42 : decode cX2_lead 42 = .ok (.aload_n 1, 1) := by decide +kernel
theorem dX2_lead_43 : decode cX2_lead 43 = .ok (.getfield 15, 3) := by decide +kernel
theorem dX2_lead_46 : decode cX2_lead 46 = .ok (.iconst 1, 1) := by decide +kernel
theorem dX2_lead_47 : decode cX2_lead 47 = .ok (.isub, 1) := by decide +kernel
theorem dX2_lead_48 : decode cX2_lead 48 = .ok (.istore 5, 2) := by decide +kernel
theorem dX2_lead_50 : decode cX2_lead 50 = .ok (.iload 5, 2) := by decide +kernel
theorem dX2_lead_52 : decode cX2_lead 52 = .ok (.ifCond .lt 49, 3) := by decide +kernel
theorem dX2_lead_55 : decode cX2_lead 55 = .ok (.iconst 0, 1) := by decide +kernel
theorem dX2_lead_56 : decode cX2_lead 56 = .ok (.istore 6, 2) := by decide +kernel
theorem dX2_lead_58 : decode cX2_lead 58 = .ok (.iload 6, 2) := by decide +kernel
theorem dX2_lead_60 : decode cX2_lead 60 = .ok (.bipush 32, 2) := by decide +kernel
theorem dX2_lead_62 : decode cX2_lead 62 = .ok (.if_icmp .ge 33, 3) := by decide +kernel
theorem dX2_lead_65 : decode cX2_lead 65 = .ok (.aload_n 0, 1) := by decide +kernel
theorem dX2_lead_66 : decode cX2_lead 66 = .ok (.getfield 9, 3) := by decide +kernel
theorem dX2_lead_69 : decode cX2_lead 69 = .ok (.iload 5, 2) := by decide +kernel
theorem dX2_lead_71 : decode cX2_lead 71 = .ok (.bipush 32, 2) := by decide +kernel
theorem dX2_lead_73 : decode cX2_lead 73 = .ok (.imul, 1) := by decide +kernel
theorem dX2_lead_74 : decode cX2_lead 74 = .ok (.iload 6, 2) := by decide +kernel
theorem dX2_lead_76 : decode cX2_lead 76 = .ok (.iadd, 1) := by decide +kernel
theorem dX2_lead_77 : decode cX2_lead 77 = .ok (.aload_n 0, 1) := by decide +kernel
theorem dX2_lead_78 : decode cX2_lead 78 = .ok (.aload_n 1, 1) := by decide +kernel
theorem dX2_lead_79 : decode cX2_lead 79 = .ok (.iload 5, 2) := by decide +kernel
theorem dX2_lead_81 : decode cX2_lead 81 = .ok (.iload 6, 2) := by decide +kernel
theorem dX2_lead_83 : decode cX2_lead 83 = .ok (.iload 4, 2) := by decide +kernel
theorem dX2_lead_85 : decode cX2_lead 85 = .ok (.invokevirtual 21, 3) := by decide +kernel
theorem dX2_lead_88 : decode cX2_lead 88 = .ok (.lastore, 1) := by decide +kernel
theorem dX2_lead_89 : decode cX2_lead 89 = .ok (.iinc 6 1, 3) := by decide +kernel
theorem dX2_lead_92 : decode cX2_lead 92 = .ok (.goto (-34), 3) := by decide +kernel
theorem dX2_lead_95 : decode cX2_lead 95 = .ok (.iinc 5 (-1), 3) := by decide +kernel
theorem dX2_lead_98 : decode cX2_lead 98 = .ok (.goto (-48), 3) := by decide +kernel
theorem dX2_lead_101 : decode cX2_lead 101 = .ok (.iload_n 2, 1) := by decide +kernel
theorem dX2_lead_102 : decode cX2_lead 102 = .ok (.ifCond .lt 18, 3) := by decide +kernel
theorem dX2_lead_105 : decode cX2_lead 105 = .ok (.iload_n 2, 1) := by decide +kernel
theorem dX2_lead_106 : decode cX2_lead 106 = .ok (.bipush 32, 2) := by decide +kernel
theorem dX2_lead_108 : decode cX2_lead 108 = .ok (.if_icmp .ge 12, 3) := by decide +kernel
theorem dX2_lead_111 : decode cX2_lead 111 = .ok (.aload_n 0, 1) := by decide +kernel
theorem dX2_lead_112 : decode cX2_lead 112 = .ok (.getfield 9, 3) := by decide +kernel
theorem dX2_lead_115 : decode cX2_lead 115 = .ok (.iload_n 2, 1) := by decide +kernel
theorem dX2_lead_116 : decode cX2_lead 116 = .ok (.laload, 1) := by decide +kernel
theorem dX2_lead_117 : decode cX2_lead 117 = .ok (.goto 4, 3) := by decide +kernel
theorem dX2_lead_120 : decode cX2_lead 120 = .ok (.lconst 0, 1) := by decide +kernel
theorem dX2_lead_121 : decode cX2_lead 121 = .ok (.lreturn, 1) := by decide +kernel
theorem dX2_fromStep_0 : decode cX2_fromStep 0 = .ok (.iload 4, 2) := by decide +kernel
theorem dX2_fromStep_2 : decode cX2_fromStep 2 = .ok (.ifCond .eq 13, 3) := by decide +kernel
theorem dX2_fromStep_5 : decode cX2_fromStep 5 = .ok (.aload_n 1, 1) := by decide +kernel
theorem dX2_fromStep_6 : decode cX2_fromStep 6 = .ok (.getfield 25, 3) := by decide +kernel
theorem dX2_fromStep_9 : decode cX2_fromStep 9 = .ok (.iload_n 2, 1) := by decide +kernel
theorem dX2_fromStep_10 : decode cX2_fromStep 10 = .ok (.iaload, 1) := by decide +kernel
theorem dX2_fromStep_11 : decode cX2_fromStep 11 = .ok (.i2l, 1) := by decide +kernel
theorem dX2_fromStep_12 : decode cX2_fromStep 12 = .ok (.goto 4, 3) := by decide +kernel
theorem dX2_fromStep_15 : decode cX2_fromStep 15 = .ok (.lconst 1, 1) := by decide +kernel
theorem dX2_fromStep_16 : decode cX2_fromStep 16 = .ok (.lstore 5, 2) := by decide +kernel
theorem dX2_fromStep_18 : decode cX2_fromStep 18 = .ok (.aload_n 0, 1) := by decide +kernel
theorem dX2_fromStep_19 : decode cX2_fromStep 19 = .ok (.getfield 9, 3) := by decide +kernel
theorem dX2_fromStep_22 : decode cX2_fromStep 22 = .ok (.iload_n 2, 1) := by decide +kernel
theorem dX2_fromStep_23 : decode cX2_fromStep 23 = .ok (.iconst 1, 1) := by decide +kernel
theorem dX2_fromStep_24 : decode cX2_fromStep 24 = .ok (.iadd, 1) := by decide +kernel
theorem dX2_fromStep_25 : decode cX2_fromStep 25 = .ok (.bipush 32, 2) := by decide +kernel
theorem dX2_fromStep_27 : decode cX2_fromStep 27 = .ok (.imul, 1) := by decide +kernel
theorem dX2_fromStep_28 : decode cX2_fromStep 28 = .ok (.iload_n 3, 1) := by decide +kernel
theorem dX2_fromStep_29 : decode cX2_fromStep 29 = .ok (.iadd, 1) := by decide +kernel
theorem dX2_fromStep_30 : decode cX2_fromStep 30 = .ok (.laload, 1) := by decide +kernel
theorem dX2_fromStep_31 : decode cX2_fromStep 31 = .ok (.lstore 7, 2) := by decide +kernel
theorem dX2_fromStep_33 : decode cX2_fromStep 33 = .ok (.aload_n 1, 1) := by decide +kernel
theorem dX2_fromStep_34 : decode cX2_fromStep 34 = .ok (.iload_n 2, 1) := by decide +kernel
theorem dX2_fromStep_35 : decode cX2_fromStep 35 = .ok (.iload_n 3, 1) := by decide +kernel
theorem dX2_fromStep_36 : decode cX2_fromStep 36 = .ok (.invokevirtual 29, 3) := by decide +kernel
theorem dX2_fromStep_39 : decode cX2_fromStep 39 = .ok (.ifCond .eq 9, 3) := by decide +kernel
theorem dX2_fromStep_42 : decode cX2_fromStep 42 = .ok (.lload 5, 2) := by decide +kernel
theorem dX2_fromStep_44 : decode cX2_fromStep 44 = .ok (.lload 7, 2) := by decide +kernel
theorem dX2_fromStep_46 : decode cX2_fromStep 46 = .ok (.lmul, 1) := by decide +kernel
theorem dX2_fromStep_47 : decode cX2_fromStep 47 = .ok (.lreturn, 1) := by decide +kernel
theorem dX2_fromStep_48 : decode cX2_fromStep 48 = .ok (.aload_n 1, 1) := by decide +kernel
theorem dX2_fromStep_49 : decode cX2_fromStep 49 = .ok (.iload_n 2, 1) := by decide +kernel
theorem dX2_fromStep_50 : decode cX2_fromStep 50 = .ok (.iload_n 3, 1) := by decide +kernel
theorem dX2_fromStep_51 : decode cX2_fromStep 51 = .ok (.invokevirtual 33, 3) := by decide +kernel
theorem dX2_fromStep_54 : decode cX2_fromStep 54 = .ok (.istore 9, 2) := by decide +kernel
theorem dX2_fromStep_56 : decode cX2_fromStep 56 = .ok (.iload 9, 2) := by decide +kernel
theorem dX2_fromStep_58 : decode cX2_fromStep 58 = .ok (.iload_n 3, 1) := by decide +kernel
theorem dX2_fromStep_59 : decode cX2_fromStep 59 = .ok (.if_icmp .ne 8, 3) := by decide +kernel
theorem dX2_fromStep_62 : decode cX2_fromStep 62 = .ok (.lload 7, 2) := by decide +kernel
theorem dX2_fromStep_64 : decode cX2_fromStep 64 = .ok (.goto 23, 3) := by decide +kernel
theorem dX2_fromStep_67 : decode cX2_fromStep 67 = .ok (.lload 7, 2) := by decide +kernel
theorem dX2_fromStep_69 : decode cX2_fromStep 69 = .ok (.lload 5, 2) := by decide +kernel
theorem dX2_fromStep_71 : decode cX2_fromStep 71 = .ok (.aload_n 0, 1) := by decide +kernel
theorem dX2_fromStep_72 : decode cX2_fromStep 72 = .ok (.getfield 9, 3) := by decide +kernel
theorem dX2_fromStep_75 : decode cX2_fromStep 75 = .ok (.iload_n 2, 1) := by decide +kernel
theorem dX2_fromStep_76 : decode cX2_fromStep 76 = .ok (.iconst 1, 1) := by decide +kernel
theorem dX2_fromStep_77 : decode cX2_fromStep 77 = .ok (.iadd, 1) := by decide +kernel
theorem dX2_fromStep_78 : decode cX2_fromStep 78 = .ok (.bipush 32, 2) := by decide +kernel
theorem dX2_fromStep_80 : decode cX2_fromStep 80 = .ok (.imul, 1) := by decide +kernel
theorem dX2_fromStep_81 : decode cX2_fromStep 81 = .ok (.iload 9, 2) := by decide +kernel
theorem dX2_fromStep_83 : decode cX2_fromStep 83 = .ok (.iadd, 1) := by decide +kernel
theorem dX2_fromStep_84 : decode cX2_fromStep 84 = .ok (.laload, 1) := by decide +kernel
theorem dX2_fromStep_85 : decode cX2_fromStep 85 = .ok (.lmul, 1) := by decide +kernel
theorem dX2_fromStep_86 : decode cX2_fromStep 86 = .ok (.ladd, 1) := by decide +kernel
theorem dX2_fromStep_87 : decode cX2_fromStep 87 = .ok (.lreturn, 1) := by decide +kernel
theorem dX2_linesAhead_0 : decode cX2_linesAhead 0 = .ok (.iload_n 2, 1) := by decide +kernel
theorem dX2_linesAhead_1 : decode cX2_linesAhead 1 = .ok (.istore 5, 2) := by decide +kernel
theorem dX2_linesAhead_3 : decode cX2_linesAhead 3 = .ok (.iload 4, 2) := by decide +kernel
theorem dX2_linesAhead_5 : decode cX2_linesAhead 5 = .ok (.i2l, 1) := by decide +kernel
theorem dX2_linesAhead_6 : decode cX2_linesAhead 6 = .ok (.lstore 6, 2) := by decide +kernel
theorem dX2_linesAhead_8 : decode cX2_linesAhead 8 = .ok (.iconst 0, 1) := by decide +kernel
theorem dX2_linesAhead_9 : decode cX2_linesAhead 9 = .ok (.istore 8, 2) := by decide +kernel
theorem dX2_linesAhead_11 : decode cX2_linesAhead 11 = .ok (.iload 8, 2) := by decide +kernel
theorem dX2_linesAhead_13 : decode cX2_linesAhead 13 = .ok (.iload_n 3, 1) := by decide +kernel
theorem dX2_linesAhead_14 : decode cX2_linesAhead 14 = .ok (.if_icmp .ge 71, 3) := by decide +kernel
theorem dX2_linesAhead_17 : decode cX2_linesAhead 17 = .ok (.iload 8, 2) := by decide +kernel
theorem dX2_linesAhead_19 : decode cX2_linesAhead 19 = .ok (.aload_n 1, 1) := by decide +kernel
theorem dX2_linesAhead_20 : decode cX2_linesAhead 20 = .ok (.getfield 15, 3) := by decide +kernel
theorem dX2_linesAhead_23 : decode cX2_linesAhead 23 = .ok (.if_icmp .ge 62, 3) := by decide +kernel
theorem dX2_linesAhead_26 : decode cX2_linesAhead 26 = .ok (.aload_n 1, 1) := by decide +kernel
theorem dX2_linesAhead_27 : decode cX2_linesAhead 27 = .ok (.iload 8, 2) := by decide +kernel
theorem dX2_linesAhead_29 : decode cX2_linesAhead 29 = .ok (.iload 5, 2) := by decide +kernel
theorem dX2_linesAhead_31 : decode cX2_linesAhead 31 = .ok (.invokevirtual 33, 3) := by decide +kernel
theorem dX2_linesAhead_34 : decode cX2_linesAhead 34 = .ok (.istore 9, 2) := by decide +kernel
theorem dX2_linesAhead_36 : decode cX2_linesAhead 36 = .ok (.aload_n 0, 1) := by decide +kernel
theorem dX2_linesAhead_37 : decode cX2_linesAhead 37 = .ok (.getfield 9, 3) := by decide +kernel
theorem dX2_linesAhead_40 : decode cX2_linesAhead 40 = .ok (.iload 8, 2) := by decide +kernel
theorem dX2_linesAhead_42 : decode cX2_linesAhead 42 = .ok (.iconst 1, 1) := by decide +kernel
theorem dX2_linesAhead_43 : decode cX2_linesAhead 43 = .ok (.iadd, 1) := by decide +kernel
theorem dX2_linesAhead_44 : decode cX2_linesAhead 44 = .ok (.bipush 32, 2) := by decide +kernel
theorem dX2_linesAhead_46 : decode cX2_linesAhead 46 = .ok (.imul, 1) := by decide +kernel
theorem dX2_linesAhead_47 : decode cX2_linesAhead 47 = .ok (.iload 5, 2) := by decide +kernel
theorem dX2_linesAhead_49 : decode cX2_linesAhead 49 = .ok (.iadd, 1) := by decide +kernel
theorem dX2_linesAhead_50 : decode cX2_linesAhead 50 = .ok (.laload, 1) := by decide +kernel
theorem dX2_linesAhead_51 : decode cX2_linesAhead 51 = .ok (.lstore 10, 2) := by decide +kernel
theorem dX2_linesAhead_53 : decode cX2_linesAhead 53 = .ok (.iload 9, 2) := by decide +kernel
theorem dX2_linesAhead_55 : decode cX2_linesAhead 55 = .ok (.iload 5, 2) := by decide +kernel
theorem dX2_linesAhead_57 : decode cX2_linesAhead 57 = .ok (.if_icmp .eq 22, 3) := by decide +kernel
theorem dX2_linesAhead_60 : decode cX2_linesAhead 60 = .ok (.lload 6, 2) := by decide +kernel
theorem dX2_linesAhead_62 : decode cX2_linesAhead 62 = .ok (.lload 10, 2) := by decide +kernel
theorem dX2_linesAhead_64 : decode cX2_linesAhead 64 = .ok (.lcmp, 1) := by decide +kernel
theorem dX2_linesAhead_65 : decode cX2_linesAhead 65 = .ok (.ifCond .lt 14, 3) := by decide +kernel
theorem dX2_linesAhead_68 : decode cX2_linesAhead 68 = .ok (.lload 6, 2) := by decide +kernel
theorem dX2_linesAhead_70 : decode cX2_linesAhead 70 = .ok (.lload 10, 2) := by decide +kernel
theorem dX2_linesAhead_72 : decode cX2_linesAhead 72 = .ok (.lsub, 1) := by decide +kernel
theorem dX2_linesAhead_73 : decode cX2_linesAhead 73 = .ok (.lstore 6, 2) := by decide +kernel
theorem dX2_linesAhead_75 : decode cX2_linesAhead 75 = .ok (.iload 9, 2) := by decide +kernel
theorem dX2_linesAhead_77 : decode cX2_linesAhead 77 = .ok (.istore 5, 2) := by decide +kernel
theorem dX2_linesAhead_79 : decode cX2_linesAhead 79 = .ok (.iinc 8 1, 3) := by decide +kernel
theorem dX2_linesAhead_82 : decode cX2_linesAhead 82 = .ok (.goto (-71), 3) := by decide +kernel
theorem dX2_linesAhead_85 : decode cX2_linesAhead 85 = .ok (.iload 5, 2) := by decide +kernel
theorem dX2_linesAhead_87 : decode cX2_linesAhead 87 = .ok (.ireturn, 1) := by decide +kernel
theorem dX3_init_0 : decode cX3_init 0 = .ok (.aload_n 0, 1) := by decide +kernel
theorem dX3_init_1 : decode cX3_init 1 = .ok (.invokespecial 3, 3) := by decide +kernel
theorem dX3_init_4 : decode cX3_init 4 = .ok (.aload_n 0, 1) := by decide +kernel
theorem dX3_init_5 : decode cX3_init 5 = .ok (.bipush 16, 2) := by decide +kernel
theorem dX3_init_7 : decode cX3_init 7 = .ok (.newarray .int, 2) := by decide +kernel
theorem dX3_init_9 : decode cX3_init 9 = .ok (.putfield 9, 3) := by decide +kernel
theorem dX3_init_12 : decode cX3_init 12 = .ok (.aload_n 0, 1) := by decide +kernel
theorem dX3_init_13 : decode cX3_init 13 = .ok (.bipush 16, 2) := by decide +kernel
theorem dX3_init_15 : decode cX3_init 15 = .ok (.newarray .int, 2) := by decide +kernel
theorem dX3_init_17 : decode cX3_init 17 = .ok (.putfield 15, 3) := by decide +kernel
theorem dX3_init_20 : decode cX3_init 20 = .ok (.aload_n 0, 1) := by decide +kernel
theorem dX3_init_21 : decode cX3_init 21 = .ok (.bipush 16, 2) := by decide +kernel
theorem dX3_init_23 : decode cX3_init 23 = .ok (.newarray .int, 2) := by decide +kernel
theorem dX3_init_25 : decode cX3_init 25 = .ok (.putfield 18, 3) := by decide +kernel
theorem dX3_init_28 : decode cX3_init 28 = .ok (.return_, 1) := by decide +kernel
theorem dX3_begin_0 : decode cX3_begin 0 = .ok (.aload_n 0, 1) := by decide +kernel
theorem dX3_begin_1 : decode cX3_begin 1 = .ok (.iload_n 1, 1) := by decide +kernel
theorem dX3_begin_2 : decode cX3_begin 2 = .ok (.putfield 21, 3) := by decide +kernel
theorem dX3_begin_5 : decode cX3_begin 5 = .ok (.aload_n 0, 1) := by decide +kernel
theorem dX3_begin_6 : decode cX3_begin 6 = .ok (.iconst 0, 1) := by decide +kernel
theorem dX3_begin_7 : decode cX3_begin 7 = .ok (.putfield 25, 3) := by decide +kernel
theorem dX3_begin_10 : decode cX3_begin 10 = .ok (.return_, 1) := by decide +kernel
theorem dX3_takes_0 : decode cX3_takes 0 = .ok (.iload_n 1, 1) := by decide +kernel
theorem dX3_takes_1 : decode cX3_takes 1 = .ok (.ifCond .eq 8, 3) := by decide +kernel
theorem dX3_takes_4 : decode cX3_takes 4 = .ok (.iload_n 1, 1) := by decide +kernel
theorem dX3_takes_5 : decode cX3_takes 5 = .ok (.iconst 1, 1) := by decide +kernel
theorem dX3_takes_6 : decode cX3_takes 6 = .ok (.if_icmp .ne 23, 3) := by decide +kernel
theorem dX3_takes_9 : decode cX3_takes 9 = .ok (.iload_n 2, 1) := by decide +kernel
theorem dX3_takes_10 : decode cX3_takes 10 = .ok (.ifCond .lt 17, 3) := by decide +kernel
theorem dX3_takes_13 : decode cX3_takes 13 = .ok (.iload_n 2, 1) := by decide +kernel
theorem dX3_takes_14 : decode cX3_takes 14 = .ok (.aload_n 0, 1) := by decide +kernel
theorem dX3_takes_15 : decode cX3_takes 15 = .ok (.getfield 21, 3) := by decide +kernel
theorem dX3_takes_18 : decode cX3_takes 18 = .ok (.iconst 1, 1) := by decide +kernel
theorem dX3_takes_19 : decode cX3_takes 19 = .ok (.isub, 1) := by decide +kernel
theorem dX3_takes_20 : decode cX3_takes 20 = .ok (.if_icmp .ge 7, 3) := by decide +kernel
theorem dX3_takes_23 : decode cX3_takes 23 = .ok (.iconst 1, 1) := by decide +kernel
theorem dX3_takes_24 : decode cX3_takes 24 = .ok (.goto 4, 3) := by decide +kernel
theorem dX3_takes_27 : decode cX3_takes 27 = .ok (.iconst 0, 1) := by decide +kernel
theorem dX3_takes_28 : decode cX3_takes 28 = .ok (.ireturn, 1) := by decide +kernel
theorem dX3_takes_29 : decode cX3_takes 29 = .ok (.iload_n 1, 1) := by decide +kernel
theorem dX3_takes_30 : decode cX3_takes 30 = .ok (.iconst 2, 1) := by decide +kernel
theorem dX3_takes_31 : decode cX3_takes 31 = .ok (.if_icmp .ne 19, 3) := by decide +kernel
theorem dX3_takes_34 : decode cX3_takes 34 = .ok (.iload_n 2, 1) := by decide +kernel
theorem dX3_takes_35 : decode cX3_takes 35 = .ok (.ifCond .lt 15, 3) := by decide +kernel
theorem dX3_takes_38 : decode cX3_takes 38 = .ok (.iload_n 2, 1) := by decide +kernel
theorem dX3_takes_39 : decode cX3_takes 39 = .ok (.aload_n 0, 1) := by decide +kernel
theorem dX3_takes_40 : decode cX3_takes 40 = .ok (.getfield 21, 3) := by decide +kernel
theorem dX3_takes_43 : decode cX3_takes 43 = .ok (.if_icmp .ge 7, 3) := by decide +kernel
theorem dX3_takes_46 : decode cX3_takes 46 = .ok (.iconst 1, 1) := by decide +kernel
theorem dX3_takes_47 : decode cX3_takes 47 = .ok (.goto 4, 3) := by decide +kernel
theorem dX3_takes_50 : decode cX3_takes 50 = .ok (.iconst 0, 1) := by decide +kernel
theorem dX3_takes_51 : decode cX3_takes 51 = .ok (.ireturn, 1) := by decide +kernel
theorem dX3_add_0 : decode cX3_add 0 = .ok (.aload_n 0, 1) := by decide +kernel
theorem dX3_add_1 : decode cX3_add 1 = .ok (.getfield 25, 3) := by decide +kernel
theorem dX3_add_4 : decode cX3_add 4 = .ok (.bipush 16, 2) := by decide +kernel
theorem dX3_add_6 : decode cX3_add 6 = .ok (.if_icmp .ge 43, 3) := by decide +kernel
theorem dX3_add_9 : decode cX3_add 9 = .ok (.aload_n 0, 1) := by decide +kernel
theorem dX3_add_10 : decode cX3_add 10 = .ok (.getfield 9, 3) := by decide +kernel
theorem dX3_add_13 : decode cX3_add 13 = .ok (.aload_n 0, 1) := by decide +kernel
theorem dX3_add_14 : decode cX3_add 14 = .ok (.getfield 25, 3) := by decide +kernel
theorem dX3_add_17 : decode cX3_add 17 = .ok (.iload_n 1, 1) := by decide +kernel
theorem dX3_add_18 : decode cX3_add 18 = .ok (.iastore, 1) := by decide +kernel
theorem dX3_add_19 : decode cX3_add 19 = .ok (.aload_n 0, 1) := by decide +kernel
theorem dX3_add_20 : decode cX3_add 20 = .ok (.getfield 15, 3) := by decide +kernel
theorem dX3_add_23 : decode cX3_add 23 = .ok (.aload_n 0, 1) := by decide +kernel
theorem dX3_add_24 : decode cX3_add 24 = .ok (.getfield 25, 3) := by decide +kernel
theorem dX3_add_27 : decode cX3_add 27 = .ok (.iload_n 2, 1) := by decide +kernel
theorem dX3_add_28 : decode cX3_add 28 = .ok (.iastore, 1) := by decide +kernel
theorem dX3_add_29 : decode cX3_add 29 = .ok (.aload_n 0, 1) := by decide +kernel
theorem dX3_add_30 : decode cX3_add 30 = .ok (.getfield 18, 3) := by decide +kernel
theorem dX3_add_33 : decode cX3_add 33 = .ok (.aload_n 0, 1) := by decide +kernel
theorem dX3_add_34 : decode cX3_add 34 = .ok (.getfield 25, 3) := by decide +kernel
theorem dX3_add_37 : decode cX3_add 37 = .ok (.iload_n 3, 1) := by decide +kernel
theorem dX3_add_38 : decode cX3_add 38 = .ok (.iastore, 1) := by decide +kernel
theorem dX3_add_39 : decode cX3_add 39 = .ok (.aload_n 0, 1) := by decide +kernel
theorem dX3_add_40 : decode cX3_add 40 = .ok (.dup, 1) := by decide +kernel
theorem dX3_add_41 : decode cX3_add 41 = .ok (.getfield 25, 3) := by decide +kernel
theorem dX3_add_44 : decode cX3_add 44 = .ok (.iconst 1, 1) := by decide +kernel
theorem dX3_add_45 : decode cX3_add 45 = .ok (.iadd, 1) := by decide +kernel
theorem dX3_add_46 : decode cX3_add 46 = .ok (.putfield 25, 3) := by decide +kernel
theorem dX3_add_49 : decode cX3_add 49 = .ok (.return_, 1) := by decide +kernel
theorem dX3_isWeighedOn_0 : decode cX3_isWeighedOn 0 = .ok (.aload_n 0, 1) := by decide +kernel
theorem dX3_isWeighedOn_1 : decode cX3_isWeighedOn 1 = .ok (.getfield 9, 3) := by decide +kernel
theorem dX3_isWeighedOn_4 : decode cX3_isWeighedOn 4 = .ok (.iload_n 1, 1) := by decide +kernel
theorem dX3_isWeighedOn_5 : decode cX3_isWeighedOn 5 = .ok (.iaload, 1) := by decide +kernel
theorem dX3_isWeighedOn_6 : decode cX3_isWeighedOn 6 = .ok (.iconst 2, 1) := by decide +kernel
theorem dX3_isWeighedOn_7 : decode cX3_isWeighedOn 7 = .ok (.if_icmp .ne 20, 3) := by decide +kernel
theorem dX3_isWeighedOn_10 : decode cX3_isWeighedOn 10 = .ok (.iload_n 2, 1) := by decide +kernel
theorem dX3_isWeighedOn_11 : decode cX3_isWeighedOn 11 = .ok (.aload_n 0, 1) := by decide +kernel
theorem dX3_isWeighedOn_12 : decode cX3_isWeighedOn 12 = .ok (.getfield 15, 3) := by decide +kernel
theorem dX3_isWeighedOn_15 : decode cX3_isWeighedOn 15 = .ok (.iload_n 1, 1) := by decide +kernel
theorem dX3_isWeighedOn_16 : decode cX3_isWeighedOn 16 = .ok (.iaload, 1) := by decide +kernel
theorem dX3_isWeighedOn_17 : decode cX3_isWeighedOn 17 = .ok (.invokestatic 28, 3) := by decide +kernel
theorem dX3_isWeighedOn_20 : decode cX3_isWeighedOn 20 = .ok (.ifCond .eq 7, 3) := by decide +kernel
theorem dX3_isWeighedOn_23 : decode cX3_isWeighedOn 23 = .ok (.iconst 1, 1) := by decide +kernel
theorem dX3_isWeighedOn_24 : decode cX3_isWeighedOn 24 = .ok (.goto 4, 3) := by decide +kernel
theorem dX3_isWeighedOn_27 : decode cX3_isWeighedOn 27 = .ok (.iconst 0, 1) := by decide +kernel
theorem dX3_isWeighedOn_28 : decode cX3_isWeighedOn 28 = .ok (.ireturn, 1) := by decide +kernel
theorem dX3_afterGoing_0 : decode cX3_afterGoing 0 = .ok (.aload_n 0, 1) := by decide +kernel
theorem dX3_afterGoing_1 : decode cX3_afterGoing 1 = .ok (.getfield 9, 3) := by decide +kernel
theorem dX3_afterGoing_4 : decode cX3_afterGoing 4 = .ok (.iload_n 1, 1) := by decide +kernel
theorem dX3_afterGoing_5 : decode cX3_afterGoing 5 = .ok (.iaload, 1) := by decide +kernel
theorem dX3_afterGoing_6 : decode cX3_afterGoing 6 = .ok (.iconst 2, 1) := by decide +kernel
theorem dX3_afterGoing_7 : decode cX3_afterGoing 7 = .ok (.if_icmp .ne 5, 3) := by decide +kernel
theorem dX3_afterGoing_10 : decode cX3_afterGoing 10 = .ok (.iload_n 2, 1) := by decide +kernel
theorem dX3_afterGoing_11 : decode cX3_afterGoing 11 = .ok (.ireturn, 1) := by decide +kernel
theorem dX3_afterGoing_12 : decode cX3_afterGoing 12 = .ok (.aload_n 0, 1) := by decide +kernel
theorem dX3_afterGoing_13 : decode cX3_afterGoing 13 = .ok (.getfield 15, 3) := by decide +kernel
theorem dX3_afterGoing_16 : decode cX3_afterGoing 16 = .ok (.iload_n 1, 1) := by decide +kernel
theorem dX3_afterGoing_17 : decode cX3_afterGoing 17 = .ok (.iaload, 1) := by decide +kernel
theorem dX3_afterGoing_18 : decode cX3_afterGoing 18 = .ok (.istore_n 3, 1) := by decide +kernel
theorem dX3_afterGoing_19 : decode cX3_afterGoing 19 = .ok (.aload_n 0, 1) := by decide +kernel
theorem dX3_afterGoing_20 : decode cX3_afterGoing 20 = .ok (.getfield 9, 3) := by decide +kernel
theorem dX3_afterGoing_23 : decode cX3_afterGoing 23 = .ok (.iload_n 1, 1) := by decide +kernel
theorem dX3_afterGoing_24 : decode cX3_afterGoing 24 = .ok (.iaload, 1) := by decide +kernel
theorem dX3_afterGoing_25 : decode cX3_afterGoing 25 = .ok (.ifCond .ne 7, 3) := by decide +kernel
theorem dX3_afterGoing_28 : decode cX3_afterGoing 28 = .ok (.iload_n 3, 1) := by decide +kernel
theorem dX3_afterGoing_29 : decode cX3_afterGoing 29 = .ok (.goto 6, 3) := by decide +kernel
theorem dX3_afterGoing_32 : decode cX3_afterGoing 32 = .ok (.iload_n 3, 1) := by decide +kernel
theorem dX3_afterGoing_33 : decode cX3_afterGoing 33 = .ok (.iconst 1, 1) := by decide +kernel
theorem dX3_afterGoing_34 : decode cX3_afterGoing 34 = .ok (.iadd, 1) := by decide +kernel
theorem dX3_afterGoing_35 : decode cX3_afterGoing 35 = .ok (.istore 4, 2) := by decide +kernel
theorem dX3_afterGoing_37 : decode cX3_afterGoing 37 = .ok (.aload_n 0, 1) := by decide +kernel
theorem dX3_afterGoing_38 : decode cX3_afterGoing 38 = .ok (.getfield 9, 3) := by decide +kernel
theorem dX3_afterGoing_41 : decode cX3_afterGoing 41 = .ok (.iload_n 1, 1) := by decide +kernel
theorem dX3_afterGoing_42 : decode cX3_afterGoing 42 = .ok (.iaload, 1) := by decide +kernel
theorem dX3_afterGoing_43 : decode cX3_afterGoing 43 = .ok (.ifCond .ne 9, 3) := by decide +kernel
theorem dX3_afterGoing_46 : decode cX3_afterGoing 46 = .ok (.iload_n 3, 1) := by decide +kernel
theorem dX3_afterGoing_47 : decode cX3_afterGoing 47 = .ok (.iconst 1, 1) := by decide +kernel
theorem dX3_afterGoing_48 : decode cX3_afterGoing 48 = .ok (.iadd, 1) := by decide +kernel
theorem dX3_afterGoing_49 : decode cX3_afterGoing 49 = .ok (.goto 4, 3) := by decide +kernel
theorem dX3_afterGoing_52 : decode cX3_afterGoing 52 = .ok (.iload_n 3, 1) := by decide +kernel
theorem dX3_afterGoing_53 : decode cX3_afterGoing 53 = .ok (.istore 5, 2) := by decide +kernel
theorem dX3_afterGoing_55 : decode cX3_afterGoing 55 = .ok (.iload_n 2, 1) := by decide +kernel
theorem dX3_afterGoing_56 : decode cX3_afterGoing 56 = .ok (.iload 4, 2) := by decide +kernel
theorem dX3_afterGoing_58 : decode cX3_afterGoing 58 = .ok (.invokestatic 28, 3) := by decide +kernel
theorem dX3_afterGoing_61 : decode cX3_afterGoing 61 = .ok (.ifCond .eq 16, 3) := by decide +kernel
theorem dX3_afterGoing_64 : decode cX3_afterGoing 64 = .ok (.iload_n 2, 1) := by decide +kernel
theorem dX3_afterGoing_65 : decode cX3_afterGoing 65 = .ok (.iload 5, 2) := by decide +kernel
theorem dX3_afterGoing_67 : decode cX3_afterGoing 67 = .ok (.invokestatic 28, 3) := by decide +kernel
theorem dX3_afterGoing_70 : decode cX3_afterGoing 70 = .ok (.ifCond .ne 7, 3) := by decide +kernel
theorem dX3_afterGoing_73 : decode cX3_afterGoing 73 = .ok (.iconst 1, 1) := by decide +kernel
theorem dX3_afterGoing_74 : decode cX3_afterGoing 74 = .ok (.goto 4, 3) := by decide +kernel
theorem dX3_afterGoing_77 : decode cX3_afterGoing 77 = .ok (.iconst 0, 1) := by decide +kernel
theorem dX3_afterGoing_78 : decode cX3_afterGoing 78 = .ok (.istore 6, 2) := by decide +kernel
theorem dX3_afterGoing_80 : decode cX3_afterGoing 80 = .ok (.iload 6, 2) := by decide +kernel
theorem dX3_afterGoing_82 : decode cX3_afterGoing 82 = .ok (.ifCond .eq 17, 3) := by decide +kernel
theorem dX3_afterGoing_85 : decode cX3_afterGoing 85 = .ok (.iload_n 2, 1) := by decide +kernel
theorem dX3_afterGoing_86 : decode cX3_afterGoing 86 = .ok (.iconst 1, 1) := by decide +kernel
theorem dX3_afterGoing_87 : decode cX3_afterGoing 87 = .ok (.iload 4, 2) := by decide +kernel
theorem dX3_afterGoing_89 : decode cX3_afterGoing 89 = .ok (.ishl, 1) := by decide +kernel
theorem dX3_afterGoing_90 : decode cX3_afterGoing 90 = .ok (.iconst 1, 1) := by decide +kernel
theorem dX3_afterGoing_91 : decode cX3_afterGoing 91 = .ok (.iload 5, 2) := by decide +kernel
theorem dX3_afterGoing_93 : decode cX3_afterGoing 93 = .ok (.ishl, 1) := by decide +kernel
theorem dX3_afterGoing_94 : decode cX3_afterGoing 94 = .ok (.ior, 1) := by decide +kernel
theorem dX3_afterGoing_95 : decode cX3_afterGoing 95 = .ok (.ixor, 1) := by decide +kernel
theorem dX3_afterGoing_96 : decode cX3_afterGoing 96 = .ok (.goto 4, 3) := by decide +kernel
theorem dX3_afterGoing_99 : decode cX3_afterGoing 99 = .ok (.iload_n 2, 1) := by decide +kernel
theorem dX3_afterGoing_100 : decode cX3_afterGoing 100 = .ok (.ireturn, 1) := by decide +kernel
theorem dX4_init_0 : decode cX4_init 0 = .ok (.aload_n 0, 1) := by decide +kernel
theorem dX4_init_1 : decode cX4_init 1 = .ok (.invokespecial 3, 3) := by decide +kernel
theorem dX4_init_4 : decode cX4_init 4 = .ok (.aload_n 0, 1) := by decide +kernel
theorem dX4_init_5 : decode cX4_init 5 = .ok (.bipush 32, 2) := by decide +kernel
theorem dX4_init_7 : decode cX4_init 7 = .ok (.newarray .long, 2) := by decide +kernel
theorem dX4_init_9 : decode cX4_init 9 = .ok (.putfield 9, 3) := by decide +kernel
theorem dX4_init_12 : decode cX4_init 12 = .ok (.aload_n 0, 1) := by decide +kernel
theorem dX4_init_13 : decode cX4_init 13 = .ok (.iconst 5, 1) := by decide +kernel
theorem dX4_init_14 : decode cX4_init 14 = .ok (.newarray .int, 2) := by decide +kernel
theorem dX4_init_16 : decode cX4_init 16 = .ok (.putfield 15, 3) := by decide +kernel
theorem dX4_init_19 : decode cX4_init 19 = .ok (.return_, 1) := by decide +kernel
theorem dX4_ofPart_0 : decode cX4_ofPart 0 = .ok (.aload_n 0, 1) := by decide +kernel
theorem dX4_ofPart_1 : decode cX4_ofPart 1 = .ok (.aload_n 1, 1) := by decide +kernel
theorem dX4_ofPart_2 : decode cX4_ofPart 2 = .ok (.iload_n 2, 1) := by decide +kernel
theorem dX4_ofPart_3 : decode cX4_ofPart 3 = .ok (.invokevirtual 19, 3) := by decide +kernel
theorem dX4_ofPart_6 : decode cX4_ofPart 6 = .ok (.iload_n 3, 1) := by decide +kernel
theorem dX4_ofPart_7 : decode cX4_ofPart 7 = .ok (.ifCond .lt 18, 3) := by decide +kernel
theorem dX4_ofPart_10 : decode cX4_ofPart 10 = .ok (.iload_n 3, 1) := by decide +kernel
theorem dX4_ofPart_11 : decode cX4_ofPart 11 = .ok (.bipush 32, 2) := by decide +kernel
theorem dX4_ofPart_13 : decode cX4_ofPart 13 = .ok (.if_icmp .ge 12, 3) := by decide +kernel
theorem dX4_ofPart_16 : decode cX4_ofPart 16 = .ok (.aload_n 0, 1) := by decide +kernel
theorem dX4_ofPart_17 : decode cX4_ofPart 17 = .ok (.getfield 9, 3) := by decide +kernel
theorem dX4_ofPart_20 : decode cX4_ofPart 20 = .ok (.iload_n 3, 1) := by decide +kernel
theorem dX4_ofPart_21 : decode cX4_ofPart 21 = .ok (.laload, 1) := by decide +kernel
theorem dX4_ofPart_22 : decode cX4_ofPart 22 = .ok (.goto 4, 3) := by decide +kernel
theorem dX4_ofPart_25 : decode cX4_ofPart 25 = .ok (.lconst 0, 1) := by decide +kernel
theorem dX4_ofPart_26 : decode cX4_ofPart 26 = .ok (.lreturn, 1) := by decide +kernel
theorem dX4_firstLow_0 : decode cX4_firstLow 0 = .ok (.iconst 1, 1) := by decide +kernel
theorem dX4_firstLow_1 : decode cX4_firstLow 1 = .ok (.istore_n 3, 1) := by decide +kernel
theorem dX4_firstLow_2 : decode cX4_firstLow 2 = .ok (.iload_n 3, 1) := by decide +kernel
theorem dX4_firstLow_3 : decode cX4_firstLow 3 = .ok (.aload_n 1, 1) := by decide +kernel
theorem dX4_firstLow_4 : decode cX4_firstLow 4 = .ok (.getfield 23, 3) := by decide +kernel
theorem dX4_firstLow_7 : decode cX4_firstLow 7 = .ok (.aload_n 1, 1) := by decide +kernel
theorem dX4_firstLow_8 : decode cX4_firstLow 8 = .ok (.getfield 29, 3) := by decide +kernel
theorem dX4_firstLow_11 : decode cX4_firstLow 11 = .ok (.invokestatic 32, 3) := by decide +kernel
theorem dX4_firstLow_14 : decode cX4_firstLow 14 = .ok (.if_icmp .gt 63, 3) := by decide +kernel
theorem dX4_firstLow_17 : decode cX4_firstLow 17 = .ok (.iconst 1, 1) := by decide +kernel
theorem dX4_firstLow_18 : decode cX4_firstLow 18 = .ok (.istore 4, 2) := by decide +kernel
theorem dX4_firstLow_20 : decode cX4_firstLow 20 = .ok (.iload 4, 2) := by decide +kernel
theorem dX4_firstLow_22 : decode cX4_firstLow 22 = .ok (.iconst 1, 1) := by decide +kernel
theorem dX4_firstLow_23 : decode cX4_firstLow 23 = .ok (.aload_n 1, 1) := by decide +kernel
theorem dX4_firstLow_24 : decode cX4_firstLow 24 = .ok (.getfield 23, 3) := by decide +kernel
theorem dX4_firstLow_27 : decode cX4_firstLow 27 = .ok (.ishl, 1) := by decide +kernel
theorem dX4_firstLow_28 : decode cX4_firstLow 28 = .ok (.if_icmp .ge 43, 3) := by decide +kernel
theorem dX4_firstLow_31 : decode cX4_firstLow 31 = .ok (.iload 4, 2) := by decide +kernel
theorem dX4_firstLow_33 : decode cX4_firstLow 33 = .ok (.invokestatic 38, 3) := by decide +kernel
theorem dX4_firstLow_36 : decode cX4_firstLow 36 = .ok (.iload_n 3, 1) := by decide +kernel
theorem dX4_firstLow_37 : decode cX4_firstLow 37 = .ok (.if_icmp .ne 28, 3) := by decide +kernel
theorem dX4_firstLow_40 : decode cX4_firstLow 40 = .ok (.aload_n 0, 1) := by decide +kernel
theorem dX4_firstLow_41 : decode cX4_firstLow 41 = .ok (.aload_n 1, 1) := by decide +kernel
theorem dX4_firstLow_42 : decode cX4_firstLow 42 = .ok (.iload 4, 2) := by decide +kernel
theorem dX4_firstLow_44 : decode cX4_firstLow 44 = .ok (.iload_n 2, 1) := by decide +kernel
theorem dX4_firstLow_45 : decode cX4_firstLow 45 = .ok (.invokevirtual 44, 3) := by decide +kernel
theorem dX4_firstLow_48 : decode cX4_firstLow 48 = .ok (.istore 5, 2) := by decide +kernel
theorem dX4_firstLow_50 : decode cX4_firstLow 50 = .ok (.iload 5, 2) := by decide +kernel
theorem dX4_firstLow_52 : decode cX4_firstLow 52 = .ok (.iconst (-1), 1) := by decide +kernel
theorem dX4_firstLow_53 : decode cX4_firstLow 53 = .ok (.if_icmp .eq 12, 3) := by decide +kernel
theorem dX4_firstLow_56 : decode cX4_firstLow 56 = .ok (.bipush 32, 2) := by decide +kernel
theorem dX4_firstLow_58 : decode cX4_firstLow 58 = .ok (.iload 4, 2) := by decide +kernel
theorem dX4_firstLow_60 : decode cX4_firstLow 60 = .ok (.imul, 1) := by decide +kernel
theorem dX4_firstLow_61 : decode cX4_firstLow 61 = .ok (.iload 5, 2) := by decide +kernel
theorem dX4_firstLow_63 : decode cX4_firstLow 63 = .ok (.iadd, 1) := by decide +kernel
theorem dX4_firstLow_64 : decode cX4_firstLow 64 = .ok (.ireturn, 1) := by decide +kernel
theorem dX4_firstLow_65 : decode cX4_firstLow 65 = .ok (.iinc 4 1, 3) := by decide +kernel
theorem dX4_firstLow_68 : decode cX4_firstLow 68 = .ok (.goto (-48), 3) := by decide +kernel
theorem dX4_firstLow_71 : decode cX4_firstLow 71 = .ok (.iinc 3 1, 3) := by decide +kernel
theorem dX4_firstLow_74 : decode cX4_firstLow 74 = .ok (.goto (-72), 3) := by decide +kernel
theorem dX4_firstLow_77 : decode cX4_firstLow 77 = .ok (.iconst (-1), 1) := by decide +kernel
theorem dX4_firstLow_78 : decode cX4_firstLow 78 = .ok (.ireturn, 1) := by decide +kernel
theorem dX4_firstLowColumns_0 : decode cX4_firstLowColumns 0 = .ok (.aload_n 0, 1) := by decide +kernel
theorem dX4_firstLowColumns_1 : decode cX4_firstLowColumns 1 = .ok (.aload_n 1, 1) := by decide +kernel
theorem dX4_firstLowColumns_2 : decode cX4_firstLowColumns 2 = .ok (.iload_n 2, 1) := by decide +kernel
theorem dX4_firstLowColumns_3 : decode cX4_firstLowColumns 3 = .ok (.invokevirtual 19, 3) := by decide +kernel
theorem dX4_firstLowColumns_6 : decode cX4_firstLowColumns 6 = .ok (.iconst 1, 1) := by decide +kernel
theorem dX4_firstLowColumns_7 : decode cX4_firstLowColumns 7 = .ok (.istore 4, 2) := by decide +kernel
theorem dX4_firstLowColumns_9 : decode cX4_firstLowColumns 9 = .ok (.iload 4, 2) := by decide +kernel
theorem dX4_firstLowColumns_11 : decode cX4_firstLowColumns 11 = .ok (.iconst 1, 1) := by decide +kernel
theorem dX4_firstLowColumns_12 : decode cX4_firstLowColumns 12 = .ok (.aload_n 1, 1) := by decide +kernel
theorem dX4_firstLowColumns_13 : decode cX4_firstLowColumns 13 = .ok (.getfield 29, 3) := by decide +kernel
theorem dX4_firstLowColumns_16 : decode cX4_firstLowColumns 16 = .ok (.ishl, 1) := by decide +kernel
theorem dX4_firstLowColumns_17 : decode cX4_firstLowColumns 17 = .ok (.if_icmp .ge 69, 3) := by decide +kernel
theorem dX4_firstLowColumns_20 : decode cX4_firstLowColumns 20 = .ok (.iload_n 3, 1) := by decide +kernel
theorem dX4_firstLowColumns_21 : decode cX4_firstLowColumns 21 = .ok (.ifCond .eq 23, 3) := by decide +kernel
theorem dX4_firstLowColumns_24 : decode cX4_firstLowColumns 24 = .ok (.aload_n 0, 1) := by decide +kernel
theorem dX4_firstLowColumns_25 : decode cX4_firstLowColumns 25 = .ok (.getfield 9, 3) := by decide +kernel
theorem dX4_firstLowColumns_28 : decode cX4_firstLowColumns 28 = .ok (.iload 4, 2) := by decide +kernel
theorem dX4_firstLowColumns_30 : decode cX4_firstLowColumns 30 = .ok (.laload, 1) := by decide +kernel
theorem dX4_firstLowColumns_31 : decode cX4_firstLowColumns 31 = .ok (.lconst 0, 1) := by decide +kernel
theorem dX4_firstLowColumns_32 : decode cX4_firstLowColumns 32 = .ok (.lcmp, 1) := by decide +kernel
theorem dX4_firstLowColumns_33 : decode cX4_firstLowColumns 33 = .ok (.ifCond .gt 7, 3) := by decide +kernel
theorem dX4_firstLowColumns_36 : decode cX4_firstLowColumns 36 = .ok (.iconst 1, 1) := by decide +kernel
theorem dX4_firstLowColumns_37 : decode cX4_firstLowColumns 37 = .ok (.goto 24, 3) := by decide +kernel
theorem dX4_firstLowColumns_40 : decode cX4_firstLowColumns 40 = .ok (.iconst 0, 1) := by decide +kernel
theorem dX4_firstLowColumns_41 : decode cX4_firstLowColumns 41 = .ok (.goto 20, 3) := by decide +kernel
theorem dX4_firstLowColumns_44 : decode cX4_firstLowColumns 44 = .ok (.aload_n 0, 1) := by decide +kernel
theorem dX4_firstLowColumns_45 : decode cX4_firstLowColumns 45 = .ok (.getfield 9, 3) := by decide +kernel
theorem dX4_firstLowColumns_48 : decode cX4_firstLowColumns 48 = .ok (.iload 4, 2) := by decide +kernel
theorem dX4_firstLowColumns_50 : decode cX4_firstLowColumns 50 = .ok (.laload, 1) := by decide +kernel
theorem dX4_firstLowColumns_51 : decode cX4_firstLowColumns 51 = .ok (.lconst 0, 1) := by decide +kernel
theorem dX4_firstLowColumns_52 : decode cX4_firstLowColumns 52 = .ok (.lcmp, 1) := by decide +kernel
theorem dX4_firstLowColumns_53 : decode cX4_firstLowColumns 53 = .ok (.ifCond .ge 7, 3) := by decide +kernel
theorem dX4_firstLowColumns_56 : decode cX4_firstLowColumns 56 = .ok (.iconst 1, 1) := by decide +kernel
theorem dX4_firstLowColumns_57 : decode cX4_firstLowColumns 57 = .ok (.goto 4, 3) := by decide +kernel
theorem dX4_firstLowColumns_60 : decode cX4_firstLowColumns 60 = .ok (.iconst 0, 1) := by decide +kernel
theorem dX4_firstLowColumns_61 : decode cX4_firstLowColumns 61 = .ok (.istore 5, 2) := by decide +kernel
theorem dX4_firstLowColumns_63 : decode cX4_firstLowColumns 63 = .ok (.iload 5, 2) := by decide +kernel
theorem dX4_firstLowColumns_65 : decode cX4_firstLowColumns 65 = .ok (.ifCond .eq 15, 3) := by decide +kernel
theorem dX4_firstLowColumns_68 : decode cX4_firstLowColumns 68 = .ok (.iload_n 2, 1) := by decide +kernel
theorem dX4_firstLowColumns_69 : decode cX4_firstLowColumns 69 = .ok (.iload 4, 2) := by decide +kernel
theorem dX4_firstLowColumns_71 : decode cX4_firstLowColumns 71 = .ok (.invokestatic 48, 3) := by decide +kernel
theorem dX4_firstLowColumns_74 : decode cX4_firstLowColumns 74 = .ok (.ifCond .eq 6, 3) := by decide +kernel
theorem dX4_firstLowColumns_77 : decode cX4_firstLowColumns 77 = .ok (.iload 4, 2) := by decide +kernel
theorem dX4_firstLowColumns_79 : decode cX4_firstLowColumns 79 = .ok (.ireturn, 1) := by decide +kernel
theorem dX4_firstLowColumns_80 : decode cX4_firstLowColumns 80 = .ok (.iinc 4 1, 3) := by decide +kernel
theorem dX4_firstLowColumns_83 : decode cX4_firstLowColumns 83 = .ok (.goto (-74), 3) := by decide +kernel
theorem dX4_firstLowColumns_86 : decode cX4_firstLowColumns 86 = .ok (.iconst (-1), 1) := by decide +kernel
theorem dX4_firstLowColumns_87 : decode cX4_firstLowColumns 87 = .ok (.ireturn, 1) := by decide +kernel
theorem dX4_manyOf_0 : decode cX4_manyOf 0 = .ok (.iconst 0, 1) := by decide +kernel
theorem dX4_manyOf_1 : decode cX4_manyOf 1 = .ok (.istore_n 3, 1) := by decide +kernel
theorem dX4_manyOf_2 : decode cX4_manyOf 2 = .ok (.iconst 1, 1) := by decide +kernel
theorem dX4_manyOf_3 : decode cX4_manyOf 3 = .ok (.istore 4, 2) := by decide +kernel
theorem dX4_manyOf_5 : decode cX4_manyOf 5 = .ok (.iload 4, 2) := by decide +kernel
theorem dX4_manyOf_7 : decode cX4_manyOf 7 = .ok (.iconst 1, 1) := by decide +kernel
theorem dX4_manyOf_8 : decode cX4_manyOf 8 = .ok (.aload_n 1, 1) := by decide +kernel
theorem dX4_manyOf_9 : decode cX4_manyOf 9 = .ok (.getfield 23, 3) := by decide +kernel
theorem dX4_manyOf_12 : decode cX4_manyOf 12 = .ok (.ishl, 1) := by decide +kernel
theorem dX4_manyOf_13 : decode cX4_manyOf 13 = .ok (.if_icmp .ge 63, 3) := by decide +kernel
theorem dX4_manyOf_16 : decode cX4_manyOf 16 = .ok (.aload_n 0, 1) := by decide +kernel
theorem dX4_manyOf_17 : decode cX4_manyOf 17 = .ok (.aload_n 1, 1) := by decide +kernel
theorem dX4_manyOf_18 : decode cX4_manyOf 18 = .ok (.iload 4, 2) := by decide +kernel
theorem dX4_manyOf_20 : decode cX4_manyOf 20 = .ok (.invokevirtual 19, 3) := by decide +kernel
theorem dX4_manyOf_23 : decode cX4_manyOf 23 = .ok (.iconst 1, 1) := by decide +kernel
theorem dX4_manyOf_24 : decode cX4_manyOf 24 = .ok (.istore 5, 2) := by decide +kernel
theorem dX4_manyOf_26 : decode cX4_manyOf 26 = .ok (.iload 5, 2) := by decide +kernel
theorem dX4_manyOf_28 : decode cX4_manyOf 28 = .ok (.iconst 1, 1) := by decide +kernel
theorem dX4_manyOf_29 : decode cX4_manyOf 29 = .ok (.aload_n 1, 1) := by decide +kernel
theorem dX4_manyOf_30 : decode cX4_manyOf 30 = .ok (.getfield 29, 3) := by decide +kernel
theorem dX4_manyOf_33 : decode cX4_manyOf 33 = .ok (.ishl, 1) := by decide +kernel
theorem dX4_manyOf_34 : decode cX4_manyOf 34 = .ok (.if_icmp .ge 36, 3) := by decide +kernel
theorem dX4_manyOf_37 : decode cX4_manyOf 37 = .ok (.iload 4, 2) := by decide +kernel
theorem dX4_manyOf_39 : decode cX4_manyOf 39 = .ok (.iload 5, 2) := by decide +kernel
theorem dX4_manyOf_41 : decode cX4_manyOf 41 = .ok (.invokestatic 48, 3) := by decide +kernel
theorem dX4_manyOf_44 : decode cX4_manyOf 44 = .ok (.ifCond .eq 20, 3) := by decide +kernel
theorem dX4_manyOf_47 : decode cX4_manyOf 47 = .ok (.aload_n 0, 1) := by decide +kernel
theorem dX4_manyOf_48 : decode cX4_manyOf 48 = .ok (.getfield 9, 3) := by decide +kernel
theorem dX4_manyOf_51 : decode cX4_manyOf 51 = .ok (.iload 5, 2) := by decide +kernel
theorem dX4_manyOf_53 : decode cX4_manyOf 53 = .ok (.laload, 1) := by decide +kernel
theorem dX4_manyOf_54 : decode cX4_manyOf 54 = .ok (.invokestatic 52, 3) := by decide +kernel
theorem dX4_manyOf_57 : decode cX4_manyOf 57 = .ok (.iload_n 2, 1) := by decide +kernel
theorem dX4_manyOf_58 : decode cX4_manyOf 58 = .ok (.if_icmp .ne 6, 3) := by decide +kernel
theorem dX4_manyOf_61 : decode cX4_manyOf 61 = .ok (.iinc 3 1, 3) := by decide +kernel
theorem dX4_manyOf_64 : decode cX4_manyOf 64 = .ok (.iinc 5 1, 3) := by decide +kernel
theorem dX4_manyOf_67 : decode cX4_manyOf 67 = .ok (.goto (-41), 3) := by decide +kernel
theorem dX4_manyOf_70 : decode cX4_manyOf 70 = .ok (.iinc 4 1, 3) := by decide +kernel
theorem dX4_manyOf_73 : decode cX4_manyOf 73 = .ok (.goto (-68), 3) := by decide +kernel
theorem dX4_manyOf_76 : decode cX4_manyOf 76 = .ok (.iload_n 3, 1) := by decide +kernel
theorem dX4_manyOf_77 : decode cX4_manyOf 77 = .ok (.ireturn, 1) := by decide +kernel
theorem dX4_looks_0 : decode cX4_looks 0 = .ok (.iconst 0, 1) := by decide +kernel
theorem dX4_looks_1 : decode cX4_looks 1 = .ok (.istore_n 3, 1) := by decide +kernel
theorem dX4_looks_2 : decode cX4_looks 2 = .ok (.iconst 1, 1) := by decide +kernel
theorem dX4_looks_3 : decode cX4_looks 3 = .ok (.istore 4, 2) := by decide +kernel
theorem dX4_looks_5 : decode cX4_looks 5 = .ok (.iload 4, 2) := by decide +kernel
theorem dX4_looks_7 : decode cX4_looks 7 = .ok (.aload_n 1, 1) := by decide +kernel
theorem dX4_looks_8 : decode cX4_looks 8 = .ok (.getfield 23, 3) := by decide +kernel
theorem dX4_looks_11 : decode cX4_looks 11 = .ok (.aload_n 1, 1) := by decide +kernel
theorem dX4_looks_12 : decode cX4_looks 12 = .ok (.getfield 29, 3) := by decide +kernel
theorem dX4_looks_15 : decode cX4_looks 15 = .ok (.invokestatic 32, 3) := by decide +kernel
theorem dX4_looks_18 : decode cX4_looks 18 = .ok (.if_icmp .gt 109, 3) := by decide +kernel
theorem dX4_looks_21 : decode cX4_looks 21 = .ok (.iconst 0, 1) := by decide +kernel
theorem dX4_looks_22 : decode cX4_looks 22 = .ok (.istore 5, 2) := by decide +kernel
theorem dX4_looks_24 : decode cX4_looks 24 = .ok (.iload 5, 2) := by decide +kernel
theorem dX4_looks_26 : decode cX4_looks 26 = .ok (.iload 4, 2) := by decide +kernel
theorem dX4_looks_28 : decode cX4_looks 28 = .ok (.iadd, 1) := by decide +kernel
theorem dX4_looks_29 : decode cX4_looks 29 = .ok (.aload_n 1, 1) := by decide +kernel
theorem dX4_looks_30 : decode cX4_looks 30 = .ok (.getfield 23, 3) := by decide +kernel
theorem dX4_looks_33 : decode cX4_looks 33 = .ok (.if_icmp .gt 88, 3) := by decide +kernel
theorem dX4_looks_36 : decode cX4_looks 36 = .ok (.aload_n 0, 1) := by decide +kernel
theorem dX4_looks_37 : decode cX4_looks 37 = .ok (.aload_n 1, 1) := by decide +kernel
theorem dX4_looks_38 : decode cX4_looks 38 = .ok (.iload 5, 2) := by decide +kernel
theorem dX4_looks_40 : decode cX4_looks 40 = .ok (.iload 4, 2) := by decide +kernel
theorem dX4_looks_42 : decode cX4_looks 42 = .ok (.invokestatic 56, 3) := by decide +kernel
theorem dX4_looks_45 : decode cX4_looks 45 = .ok (.invokevirtual 19, 3) := by decide +kernel
theorem dX4_looks_48 : decode cX4_looks 48 = .ok (.iconst 0, 1) := by decide +kernel
theorem dX4_looks_49 : decode cX4_looks 49 = .ok (.istore 6, 2) := by decide +kernel
theorem dX4_looks_51 : decode cX4_looks 51 = .ok (.iload 6, 2) := by decide +kernel
theorem dX4_looks_53 : decode cX4_looks 53 = .ok (.iload 4, 2) := by decide +kernel
theorem dX4_looks_55 : decode cX4_looks 55 = .ok (.iadd, 1) := by decide +kernel
theorem dX4_looks_56 : decode cX4_looks 56 = .ok (.aload_n 1, 1) := by decide +kernel
theorem dX4_looks_57 : decode cX4_looks 57 = .ok (.getfield 29, 3) := by decide +kernel
theorem dX4_looks_60 : decode cX4_looks 60 = .ok (.if_icmp .gt 55, 3) := by decide +kernel
theorem dX4_looks_63 : decode cX4_looks 63 = .ok (.iload 5, 2) := by decide +kernel
theorem dX4_looks_65 : decode cX4_looks 65 = .ok (.ifCond .eq 8, 3) := by decide +kernel
theorem dX4_looks_68 : decode cX4_looks 68 = .ok (.iload 6, 2) := by decide +kernel
theorem dX4_looks_70 : decode cX4_looks 70 = .ok (.ifCond .ne 7, 3) := by decide +kernel
theorem dX4_looks_73 : decode cX4_looks 73 = .ok (.iconst 1, 1) := by decide +kernel
theorem dX4_looks_74 : decode cX4_looks 74 = .ok (.goto 4, 3) := by decide +kernel
theorem dX4_looks_77 : decode cX4_looks 77 = .ok (.iconst 0, 1) := by decide +kernel
theorem dX4_looks_78 : decode cX4_looks 78 = .ok (.istore 7, 2) := by decide +kernel
theorem dX4_looks_80 : decode cX4_looks 80 = .ok (.iload 7, 2) := by decide +kernel
theorem dX4_looks_82 : decode cX4_looks 82 = .ok (.ifCond .eq 27, 3) := by decide +kernel
theorem dX4_looks_85 : decode cX4_looks 85 = .ok (.iload_n 2, 1) := by decide +kernel
theorem dX4_looks_86 : decode cX4_looks 86 = .ok (.ifCond .eq 20, 3) := by decide +kernel
theorem dX4_looks_89 : decode cX4_looks 89 = .ok (.aload_n 0, 1) := by decide +kernel
theorem dX4_looks_90 : decode cX4_looks 90 = .ok (.getfield 9, 3) := by decide +kernel
theorem dX4_looks_93 : decode cX4_looks 93 = .ok (.iload 6, 2) := by decide +kernel
theorem dX4_looks_95 : decode cX4_looks 95 = .ok (.iload 4, 2) := by decide +kernel
theorem dX4_looks_97 : decode cX4_looks 97 = .ok (.invokestatic 56, 3) := by decide +kernel
theorem dX4_looks_100 : decode cX4_looks 100 = .ok (.laload, 1) := by decide +kernel
theorem dX4_looks_101 : decode cX4_looks 101 = .ok (.lconst 0, 1) := by decide +kernel
theorem dX4_looks_102 : decode cX4_looks 102 = .ok (.lcmp, 1) := by decide +kernel
theorem dX4_looks_103 : decode cX4_looks 103 = .ok (.ifCond .le 6, 3) := by decide +kernel
theorem dX4_looks_106 : decode cX4_looks 106 = .ok (.iinc 3 1, 3) := by decide +kernel
theorem dX4_looks_109 : decode cX4_looks 109 = .ok (.iinc 6 1, 3) := by decide +kernel
theorem dX4_looks_112 : decode cX4_looks 112 = .ok (.goto (-61), 3) := by decide +kernel
theorem dX4_looks_115 : decode cX4_looks 115 = .ok (.iinc 5 1, 3) := by decide +kernel
theorem dX4_looks_118 : decode cX4_looks 118 = .ok (.goto (-94), 3) := by decide +kernel
theorem dX4_looks_121 : decode cX4_looks 121 = .ok (.iinc 4 1, 3) := by decide +kernel
theorem dX4_looks_124 : decode cX4_looks 124 = .ok (.goto (-119), 3) := by decide +kernel
theorem dX4_looks_127 : decode cX4_looks 127 = .ok (.iload_n 3, 1) := by decide +kernel
theorem dX4_looks_128 : decode cX4_looks 128 = .ok (.ireturn, 1) := by decide +kernel
theorem dX4_stretch_0 : decode cX4_stretch 0 = .ok (.iconst 1, 1) := by decide +kernel
theorem dX4_stretch_1 : decode cX4_stretch 1 = .ok (.iload_n 1, 1) := by decide +kernel
theorem dX4_stretch_2 : decode cX4_stretch 2 = .ok (.ishl, 1) := by decide +kernel
theorem dX4_stretch_3 : decode cX4_stretch 3 = .ok (.iconst 1, 1) := by decide +kernel
theorem dX4_stretch_4 : decode cX4_stretch 4 = .ok (.isub, 1) := by decide +kernel
theorem dX4_stretch_5 : decode cX4_stretch 5 = .ok (.iload_n 0, 1) := by decide +kernel
theorem dX4_stretch_6 : decode cX4_stretch 6 = .ok (.ishl, 1) := by decide +kernel
theorem dX4_stretch_7 : decode cX4_stretch 7 = .ok (.ireturn, 1) := by decide +kernel
theorem dX4_findAll_0 : decode cX4_findAll 0 = .ok (.aload_n 0, 1) := by decide +kernel
theorem dX4_findAll_1 : decode cX4_findAll 1 = .ok (.iload_n 2, 1) := by decide +kernel
theorem dX4_findAll_2 : decode cX4_findAll 2 = .ok (.invokevirtual 59, 3) := by decide +kernel
theorem dX4_findAll_5 : decode cX4_findAll 5 = .ok (.istore_n 3, 1) := by decide +kernel
theorem dX4_findAll_6 : decode cX4_findAll 6 = .ok (.aload_n 0, 1) := by decide +kernel
theorem dX4_findAll_7 : decode cX4_findAll 7 = .ok (.getfield 9, 3) := by decide +kernel
theorem dX4_findAll_10 : decode cX4_findAll 10 = .ok (.iconst 0, 1) := by decide +kernel
theorem dX4_findAll_11 : decode cX4_findAll 11 = .ok (.lconst 1, 1) := by decide +kernel
theorem dX4_findAll_12 : decode cX4_findAll 12 = .ok (.lastore, 1) := by decide +kernel
theorem dX4_findAll_13 : decode cX4_findAll 13 = .ok (.iconst 1, 1) := by decide +kernel
theorem dX4_findAll_14 : decode cX4_findAll 14 = .ok (.istore 4, 2) := by decide +kernel
theorem dX4_findAll_16 : decode cX4_findAll 16 = .ok (.iload 4, 2) := by decide +kernel
theorem dX4_findAll_18 : decode cX4_findAll 18 = .ok (.iconst 1, 1) := by decide +kernel
theorem dX4_findAll_19 : decode cX4_findAll 19 = .ok (.aload_n 1, 1) := by decide +kernel
theorem dX4_findAll_20 : decode cX4_findAll 20 = .ok (.getfield 29, 3) := by decide +kernel
theorem dX4_findAll_23 : decode cX4_findAll 23 = .ok (.ishl, 1) := by decide +kernel
theorem dX4_findAll_24 : decode cX4_findAll 24 = .ok (.if_icmp .ge 45, 3) := by decide +kernel
theorem dX4_findAll_27 : decode cX4_findAll 27 = .ok (.iload 4, 2) := by decide +kernel
theorem dX4_findAll_29 : decode cX4_findAll 29 = .ok (.invokestatic 38, 3) := by decide +kernel
theorem dX4_findAll_32 : decode cX4_findAll 32 = .ok (.istore 5, 2) := by decide +kernel
theorem dX4_findAll_34 : decode cX4_findAll 34 = .ok (.iload 5, 2) := by decide +kernel
theorem dX4_findAll_36 : decode cX4_findAll 36 = .ok (.iload_n 3, 1) := by decide +kernel
theorem dX4_findAll_37 : decode cX4_findAll 37 = .ok (.if_icmp .gt 26, 3) := by decide +kernel
theorem dX4_findAll_40 : decode cX4_findAll 40 = .ok (.aload_n 0, 1) := by decide +kernel
theorem dX4_findAll_41 : decode cX4_findAll 41 = .ok (.getfield 9, 3) := by decide +kernel
theorem dX4_findAll_44 : decode cX4_findAll 44 = .ok (.iload 4, 2) := by decide +kernel
theorem dX4_findAll_46 : decode cX4_findAll 46 = .ok (.aload_n 0, 1) := by decide +kernel
theorem dX4_findAll_47 : decode cX4_findAll 47 = .ok (.aload_n 1, 1) := by decide +kernel
theorem dX4_findAll_48 : decode cX4_findAll 48 = .ok (.aload_n 0, 1) := by decide +kernel
theorem dX4_findAll_49 : decode cX4_findAll 49 = .ok (.getfield 15, 3) := by decide +kernel
theorem dX4_findAll_52 : decode cX4_findAll 52 = .ok (.iload 5, 2) := by decide +kernel
theorem dX4_findAll_54 : decode cX4_findAll 54 = .ok (.iconst 1, 1) := by decide +kernel
theorem dX4_findAll_55 : decode cX4_findAll 55 = .ok (.isub, 1) := by decide +kernel
theorem dX4_findAll_56 : decode cX4_findAll 56 = .ok (.iaload, 1) := by decide +kernel
theorem dX4_findAll_57 : decode cX4_findAll 57 = .ok (.iload 4, 2) := by decide +kernel
theorem dX4_findAll_59 : decode cX4_findAll 59 = .ok (.invokevirtual 62, 3) := by decide +kernel
theorem dX4_findAll_62 : decode cX4_findAll 62 = .ok (.lastore, 1) := by decide +kernel
theorem dX4_findAll_63 : decode cX4_findAll 63 = .ok (.iinc 4 1, 3) := by decide +kernel
theorem dX4_findAll_66 : decode cX4_findAll 66 = .ok (.goto (-50), 3) := by decide +kernel
theorem dX4_findAll_69 : decode cX4_findAll 69 = .ok (.return_, 1) := by decide +kernel
theorem dX4_choose_0 : decode cX4_choose 0 = .ok (.iconst 0, 1) := by decide +kernel
theorem dX4_choose_1 : decode cX4_choose 1 = .ok (.istore_n 2, 1) := by decide +kernel
theorem dX4_choose_2 : decode cX4_choose 2 = .ok (.iconst 0, 1) := by decide +kernel
theorem dX4_choose_3 : decode cX4_choose 3 = .ok (.istore_n 3, 1) := by decide +kernel
theorem dX4_choose_4 : decode cX4_choose 4 = .ok (.iload_n 3, 1) := by decide +kernel
theorem dX4_choose_5 : decode cX4_choose 5 = .ok (.iconst 5, 1) := by decide +kernel
theorem dX4_choose_6 : decode cX4_choose 6 = .ok (.if_icmp .ge 27, 3) := by decide +kernel
theorem dX4_choose_9 : decode cX4_choose 9 = .ok (.iload_n 1, 1) := by decide +kernel
theorem dX4_choose_10 : decode cX4_choose 10 = .ok (.iload_n 3, 1) := by decide +kernel
theorem dX4_choose_11 : decode cX4_choose 11 = .ok (.invokestatic 66, 3) := by decide +kernel
theorem dX4_choose_14 : decode cX4_choose 14 = .ok (.ifCond .eq 13, 3) := by decide +kernel
theorem dX4_choose_17 : decode cX4_choose 17 = .ok (.aload_n 0, 1) := by decide +kernel
theorem dX4_choose_18 : decode cX4_choose 18 = .ok (.getfield 15, 3) := by decide +kernel
theorem dX4_choose_21 : decode cX4_choose 21 = .ok (.iload_n 2, 1) := by decide +kernel
theorem dX4_choose_22 : decode cX4_choose 22 = .ok (.iload_n 3, 1) := by decide +kernel
theorem dX4_choose_23 : decode cX4_choose 23 = .ok (.iastore, 1) := by decide +kernel
theorem dX4_choose_24 : decode cX4_choose 24 = .ok (.iinc 2 1, 3) := by decide +kernel
theorem dX4_choose_27 : decode cX4_choose 27 = .ok (.iinc 3 1, 3) := by decide +kernel
theorem dX4_choose_30 : decode cX4_choose 30 = .ok (.goto (-26), 3) := by decide +kernel
theorem dX4_choose_33 : decode cX4_choose 33 = .ok (.iload_n 2, 1) := by decide +kernel
theorem dX4_choose_34 : decode cX4_choose 34 = .ok (.ireturn, 1) := by decide +kernel
theorem dX4_alongLastRow_0 : decode cX4_alongLastRow 0 = .ok (.lconst 0, 1) := by decide +kernel
theorem dX4_alongLastRow_1 : decode cX4_alongLastRow 1 = .ok (.lstore 4, 2) := by decide +kernel
theorem dX4_alongLastRow_3 : decode cX4_alongLastRow 3 = .ok (.lconst 1, 1) := by decide +kernel
theorem dX4_alongLastRow_4 : decode cX4_alongLastRow 4 = .ok (.lstore 6, 2) := by decide +kernel
theorem dX4_alongLastRow_6 : decode cX4_alongLastRow 6 = .ok (.aload_n 1, 1) := by decide +kernel
theorem dX4_alongLastRow_7 : decode cX4_alongLastRow 7 = .ok (.getfield 29, 3) := by decide +kernel
theorem dX4_alongLastRow_10 : decode cX4_alongLastRow 10 = .ok (.iconst 1, 1) := by decide +kernel
theorem dX4_alongLastRow_11 : decode cX4_alongLastRow 11 = .ok (.isub, 1) := by decide +kernel
theorem dX4_alongLastRow_12 : decode cX4_alongLastRow 12 = .ok (.istore 8, 2) := by decide +kernel
theorem dX4_alongLastRow_14 : decode cX4_alongLastRow 14 = .ok (.iload 8, 2) := by decide +kernel
theorem dX4_alongLastRow_16 : decode cX4_alongLastRow 16 = .ok (.ifCond .lt 51, 3) := by decide +kernel
theorem dX4_alongLastRow_19 : decode cX4_alongLastRow 19 = .ok (.iload_n 3, 1) := by decide +kernel
theorem dX4_alongLastRow_20 : decode cX4_alongLastRow 20 = .ok (.iload 8, 2) := by decide +kernel
theorem dX4_alongLastRow_22 : decode cX4_alongLastRow 22 = .ok (.invokestatic 66, 3) := by decide +kernel
theorem dX4_alongLastRow_25 : decode cX4_alongLastRow 25 = .ok (.ifCond .eq 36, 3) := by decide +kernel
theorem dX4_alongLastRow_28 : decode cX4_alongLastRow 28 = .ok (.lload 4, 2) := by decide +kernel
theorem dX4_alongLastRow_30 : decode cX4_alongLastRow 30 = .ok (.lload 6, 2) := by decide +kernel
theorem dX4_alongLastRow_32 : decode cX4_alongLastRow 32 = .ok (.aload_n 1, 1) := by decide +kernel
theorem dX4_alongLastRow_33 : decode cX4_alongLastRow 33 = .ok (.iload_n 2, 1) := by decide +kernel
theorem dX4_alongLastRow_34 : decode cX4_alongLastRow 34 = .ok (.iload 8, 2) := by decide +kernel
theorem dX4_alongLastRow_36 : decode cX4_alongLastRow 36 = .ok (.invokevirtual 69, 3) := by decide +kernel
theorem dX4_alongLastRow_39 : decode cX4_alongLastRow 39 = .ok (.i2l, 1) := by decide +kernel
theorem dX4_alongLastRow_40 : decode cX4_alongLastRow 40 = .ok (.lmul, 1) := by decide +kernel
theorem dX4_alongLastRow_41 : decode cX4_alongLastRow 41 = .ok (.aload_n 0, 1) := by decide +kernel
theorem dX4_alongLastRow_42 : decode cX4_alongLastRow 42 = .ok (.getfield 9, 3) := by decide +kernel
theorem dX4_alongLastRow_45 : decode cX4_alongLastRow 45 = .ok (.iload_n 3, 1) := by decide +kernel
theorem dX4_alongLastRow_46 : decode cX4_alongLastRow 46 = .ok (.iconst 1, 1) := by decide +kernel
theorem dX4_alongLastRow_47 : decode cX4_alongLastRow 47 = .ok (.iload 8, 2) := by decide +kernel
theorem dX4_alongLastRow_49 : decode cX4_alongLastRow 49 = .ok (.ishl, 1) := by decide +kernel
theorem dX4_alongLastRow_50 : decode cX4_alongLastRow 50 = .ok (.ixor, 1) := by decide +kernel
theorem dX4_alongLastRow_51 : decode cX4_alongLastRow 51 = .ok (.laload, 1) := by decide +kernel
theorem dX4_alongLastRow_52 : decode cX4_alongLastRow 52 = .ok (.lmul, 1) := by decide +kernel
theorem dX4_alongLastRow_53 : decode cX4_alongLastRow 53 = .ok (.ladd, 1) := by decide +kernel
theorem dX4_alongLastRow_54 : decode cX4_alongLastRow 54 = .ok (.lstore 4, 2) := by decide +kernel
theorem dX4_alongLastRow_56 : decode cX4_alongLastRow 56 = .ok (.lload 6, 2) := by decide +kernel
theorem dX4_alongLastRow_58 : decode cX4_alongLastRow 58 = .ok (.lneg, 1) := by decide +kernel
theorem dX4_alongLastRow_59 : decode cX4_alongLastRow 59 = .ok (.lstore 6, 2) := by decide +kernel
theorem dX4_alongLastRow_61 : decode cX4_alongLastRow 61 = .ok (.iinc 8 (-1), 3) := by decide +kernel
theorem dX4_alongLastRow_64 : decode cX4_alongLastRow 64 = .ok (.goto (-50), 3) := by decide +kernel
theorem dX4_alongLastRow_67 : decode cX4_alongLastRow 67 = .ok (.lload 4, 2) := by decide +kernel
theorem dX4_alongLastRow_69 : decode cX4_alongLastRow 69 = .ok (.lreturn, 1) := by decide +kernel
theorem dX5_init_0 : decode cX5_init 0 = .ok (.aload_n 0, 1) := by decide +kernel
theorem dX5_init_1 : decode cX5_init 1 = .ok (.invokespecial 3, 3) := by decide +kernel
theorem dX5_init_4 : decode cX5_init 4 = .ok (.aload_n 0, 1) := by decide +kernel
theorem dX5_init_5 : decode cX5_init 5 = .ok (.bipush 12, 2) := by decide +kernel
theorem dX5_init_7 : decode cX5_init 7 = .ok (.anewarray 9, 3) := by decide +kernel
theorem dX5_init_10 : decode cX5_init 10 = .ok (.putfield 11, 3) := by decide +kernel
theorem dX5_init_13 : decode cX5_init 13 = .ok (.aload_n 0, 1) := by decide +kernel
theorem dX5_init_14 : decode cX5_init 14 = .ok (.iconst 4, 1) := by decide +kernel
theorem dX5_init_15 : decode cX5_init 15 = .ok (.anewarray 15, 3) := by decide +kernel
theorem dX5_init_18 : decode cX5_init 18 = .ok (.putfield 17, 3) := by decide +kernel
theorem dX5_init_21 : decode cX5_init 21 = .ok (.aload_n 0, 1) := by decide +kernel
theorem dX5_init_22 : decode cX5_init 22 = .ok (.bipush 16, 2) := by decide +kernel
theorem dX5_init_24 : decode cX5_init 24 = .ok (.newarray .int, 2) := by decide +kernel
theorem dX5_init_26 : decode cX5_init 26 = .ok (.putfield 21, 3) := by decide +kernel
theorem dX5_init_29 : decode cX5_init 29 = .ok (.aload_n 0, 1) := by decide +kernel
theorem dX5_init_30 : decode cX5_init 30 = .ok (.iconst 5, 1) := by decide +kernel
theorem dX5_init_31 : decode cX5_init 31 = .ok (.newarray .int, 2) := by decide +kernel
theorem dX5_init_33 : decode cX5_init 33 = .ok (.putfield 25, 3) := by decide +kernel
theorem dX5_init_36 : decode cX5_init 36 = .ok (.aload_n 0, 1) := by decide +kernel
theorem dX5_init_37 : decode cX5_init 37 = .ok (.bipush 9, 2) := by decide +kernel
theorem dX5_init_39 : decode cX5_init 39 = .ok (.newarray .int, 2) := by decide +kernel
theorem dX5_init_41 : decode cX5_init 41 = .ok (.putfield 28, 3) := by decide +kernel
theorem dX5_init_44 : decode cX5_init 44 = .ok (.aload_n 0, 1) := by decide +kernel
theorem dX5_init_45 : decode cX5_init 45 = .ok (.new 31, 3) := by decide +kernel
theorem dX5_init_48 : decode cX5_init 48 = .ok (.dup, 1) := by decide +kernel
theorem dX5_init_49 : decode cX5_init 49 = .ok (.invokespecial 33, 3) := by decide +kernel
theorem dX5_init_52 : decode cX5_init 52 = .ok (.putfield 34, 3) := by decide +kernel
theorem dX5_init_55 : decode cX5_init 55 = .ok (.aload_n 0, 1) := by decide +kernel
theorem dX5_init_56 : decode cX5_init 56 = .ok (.new 38, 3) := by decide +kernel
theorem dX5_init_59 : decode cX5_init 59 = .ok (.dup, 1) := by decide +kernel
theorem dX5_init_60 : decode cX5_init 60 = .ok (.invokespecial 40, 3) := by decide +kernel
theorem dX5_init_63 : decode cX5_init 63 = .ok (.putfield 41, 3) := by decide +kernel
theorem dX5_init_66 : decode cX5_init 66 = .ok (.aload_n 0, 1) := by decide +kernel
theorem dX5_init_67 : decode cX5_init 67 = .ok (.new 45, 3) := by decide +kernel
theorem dX5_init_70 : decode cX5_init 70 = .ok (.dup, 1) := by decide +kernel
theorem dX5_init_71 : decode cX5_init 71 = .ok (.invokespecial 47, 3) := by decide +kernel
theorem dX5_init_74 : decode cX5_init 74 = .ok (.putfield 48, 3) := by decide +kernel
theorem dX5_init_77 : decode cX5_init 77 = .ok (.iconst 0, 1) := by decide +kernel
theorem dX5_init_78 : decode cX5_init 78 = .ok (.istore_n 1, 1) := by decide +kernel
theorem dX5_init_79 : decode cX5_init 79 = .ok (.iload_n 1, 1) := by decide +kernel
theorem dX5_init_80 : decode cX5_init 80 = .ok (.bipush 12, 2) := by decide +kernel
theorem dX5_init_82 : decode cX5_init 82 = .ok (.if_icmp .ge 22, 3) := by decide +kernel
theorem dX5_init_85 : decode cX5_init 85 = .ok (.aload_n 0, 1) := by decide +kernel
theorem dX5_init_86 : decode cX5_init 86 = .ok (.getfield 11, 3) := by decide +kernel
theorem dX5_init_89 : decode cX5_init 89 = .ok (.iload_n 1, 1) := by decide +kernel
theorem dX5_init_90 : decode cX5_init 90 = .ok (.new 9, 3) := by decide +kernel
theorem dX5_init_93 : decode cX5_init 93 = .ok (.dup, 1) := by decide +kernel
theorem dX5_init_94 : decode cX5_init 94 = .ok (.invokespecial 52, 3) := by decide +kernel
theorem dX5_init_97 : decode cX5_init 97 = .ok (.aastore, 1) := by decide +kernel
theorem dX5_init_98 : decode cX5_init 98 = .ok (.iinc 1 1, 3) := by decide +kernel
theorem dX5_init_101 : decode cX5_init 101 = .ok (.goto (-22), 3) := by decide +kernel
theorem dX5_init_104 : decode cX5_init 104 = .ok (.iconst 0, 1) := by decide +kernel
theorem dX5_init_105 : decode cX5_init 105 = .ok (.istore_n 1, 1) := by decide +kernel
theorem dX5_init_106 : decode cX5_init 106 = .ok (.iload_n 1, 1) := by decide +kernel
theorem dX5_init_107 : decode cX5_init 107 = .ok (.iconst 4, 1) := by decide +kernel
theorem dX5_init_108 : decode cX5_init 108 = .ok (.if_icmp .ge 22, 3) := by decide +kernel
theorem dX5_init_111 : decode cX5_init 111 = .ok (.aload_n 0, 1) := by decide +kernel
theorem dX5_init_112 : decode cX5_init 112 = .ok (.getfield 17, 3) := by decide +kernel
theorem dX5_init_115 : decode cX5_init 115 = .ok (.iload_n 1, 1) := by decide +kernel
theorem dX5_init_116 : decode cX5_init 116 = .ok (.new 15, 3) := by decide +kernel
theorem dX5_init_119 : decode cX5_init 119 = .ok (.dup, 1) := by decide +kernel
theorem dX5_init_120 : decode cX5_init 120 = .ok (.invokespecial 53, 3) := by decide +kernel
theorem dX5_init_123 : decode cX5_init 123 = .ok (.aastore, 1) := by decide +kernel
theorem dX5_init_124 : decode cX5_init 124 = .ok (.iinc 1 1, 3) := by decide +kernel
theorem dX5_init_127 : decode cX5_init 127 = .ok (.goto (-21), 3) := by decide +kernel
theorem dX5_init_130 : decode cX5_init 130 = .ok (.return_, 1) := by decide +kernel
theorem dX5_table_0 : decode cX5_table 0 = .ok (.iload_n 1, 1) := by decide +kernel
theorem dX5_table_1 : decode cX5_table 1 = .ok (.invokestatic 54, 3) := by decide +kernel
theorem dX5_table_4 : decode cX5_table 4 = .ok (.ifCond .eq 10, 3) := by decide +kernel
theorem dX5_table_7 : decode cX5_table 7 = .ok (.iload_n 2, 1) := by decide +kernel
theorem dX5_table_8 : decode cX5_table 8 = .ok (.invokestatic 54, 3) := by decide +kernel
theorem dX5_table_11 : decode cX5_table 11 = .ok (.ifCond .ne 10, 3) := by decide +kernel
theorem dX5_table_14 : decode cX5_table 14 = .ok (.aload_n 0, 1) := by decide +kernel
theorem dX5_table_15 : decode cX5_table 15 = .ok (.bipush (-7), 2) := by decide +kernel
theorem dX5_table_17 : decode cX5_table 17 = .ok (.invokevirtual 58, 3) := by decide +kernel
theorem dX5_table_20 : decode cX5_table 20 = .ok (.ireturn, 1) := by decide +kernel
theorem dX5_table_21 : decode cX5_table 21 = .ok (.aload_n 0, 1) := by decide +kernel
theorem dX5_table_22 : decode cX5_table 22 = .ok (.invokevirtual 62, 3) := by decide +kernel
theorem dX5_table_25 : decode cX5_table 25 = .ok (.astore_n 3, 1) := by decide +kernel
theorem dX5_table_26 : decode cX5_table 26 = .ok (.aload_n 3, 1) := by decide +kernel
theorem dX5_table_27 : decode cX5_table 27 = .ok (.ifnonnull 10, 3) := by decide +kernel
theorem dX5_table_30 : decode cX5_table 30 = .ok (.aload_n 0, 1) := by decide +kernel
theorem dX5_table_31 : decode cX5_table 31 = .ok (.bipush (-8), 2) := by decide +kernel
theorem dX5_table_33 : decode cX5_table 33 = .ok (.invokevirtual 58, 3) := by decide +kernel
theorem dX5_table_36 : decode cX5_table 36 = .ok (.ireturn, 1) := by decide +kernel
theorem dX5_table_37 : decode cX5_table 37 = .ok (.aload_n 3, 1) := by decide +kernel
theorem dX5_table_38 : decode cX5_table 38 = .ok (.iload_n 1, 1) := by decide +kernel
theorem dX5_table_39 : decode cX5_table 39 = .ok (.iload_n 2, 1) := by decide +kernel
theorem dX5_table_40 : decode cX5_table 40 = .ok (.iconst 0, 1) := by decide +kernel
theorem dX5_table_41 : decode cX5_table 41 = .ok (.invokevirtual 66, 3) := by decide +kernel
theorem dX5_table_44 : decode cX5_table 44 = .ok (.aload_n 0, 1) := by decide +kernel
theorem dX5_table_45 : decode cX5_table 45 = .ok (.aload_n 3, 1) := by decide +kernel
theorem dX5_table_46 : decode cX5_table 46 = .ok (.invokevirtual 70, 3) := by decide +kernel
theorem dX5_table_49 : decode cX5_table 49 = .ok (.ireturn, 1) := by decide +kernel
theorem dX5_set_0 : decode cX5_set 0 = .ok (.aload_n 0, 1) := by decide +kernel
theorem dX5_set_1 : decode cX5_set 1 = .ok (.iload_n 1, 1) := by decide +kernel
theorem dX5_set_2 : decode cX5_set 2 = .ok (.invokevirtual 74, 3) := by decide +kernel
theorem dX5_set_5 : decode cX5_set 5 = .ok (.astore 5, 2) := by decide +kernel
theorem dX5_set_7 : decode cX5_set 7 = .ok (.aload 5, 2) := by decide +kernel
theorem dX5_set_9 : decode cX5_set 9 = .ok (.ifnull 13, 3) := by decide +kernel
theorem dX5_set_12 : decode cX5_set 12 = .ok (.aload 5, 2) := by decide +kernel
theorem dX5_set_14 : decode cX5_set 14 = .ok (.iload_n 2, 1) := by decide +kernel
theorem dX5_set_15 : decode cX5_set 15 = .ok (.iload_n 3, 1) := by decide +kernel
theorem dX5_set_16 : decode cX5_set 16 = .ok (.invokevirtual 78, 3) := by decide +kernel
theorem dX5_set_19 : decode cX5_set 19 = .ok (.ifCond .ne 10, 3) := by decide +kernel
theorem dX5_set_22 : decode cX5_set 22 = .ok (.aload_n 0, 1) := by decide +kernel
theorem dX5_set_23 : decode cX5_set 23 = .ok (.bipush (-3), 2) := by decide +kernel
theorem dX5_set_25 : decode cX5_set 25 = .ok (.invokevirtual 82, 3) := by decide +kernel
theorem dX5_set_28 : decode cX5_set 28 = .ok (.ireturn, 1) := by decide +kernel
theorem dX5_set_29 : decode cX5_set 29 = .ok (.aload 5, 2) := by decide +kernel
theorem dX5_set_31 : decode cX5_set 31 = .ok (.getfield 85, 3) := by decide +kernel
theorem dX5_set_34 : decode cX5_set 34 = .ok (.ifCond .eq 10, 3) := by decide +kernel
theorem dX5_set_37 : decode cX5_set 37 = .ok (.aload_n 0, 1) := by decide +kernel
theorem dX5_set_38 : decode cX5_set 38 = .ok (.bipush (-5), 2) := by decide +kernel
theorem dX5_set_40 : decode cX5_set 40 = .ok (.invokevirtual 82, 3) := by decide +kernel
theorem dX5_set_43 : decode cX5_set 43 = .ok (.ireturn, 1) := by decide +kernel
theorem dX5_set_44 : decode cX5_set 44 = .ok (.iload 4, 2) := by decide +kernel
theorem dX5_set_46 : decode cX5_set 46 = .ok (.i2l, 1) := by decide +kernel
theorem dX5_set_47 : decode cX5_set 47 = .ok (.invokestatic 89, 3) := by decide +kernel
theorem dX5_set_50 : decode cX5_set 50 = .ok (.ifCond .ne 10, 3) := by decide +kernel
theorem dX5_set_53 : decode cX5_set 53 = .ok (.aload_n 0, 1) := by decide +kernel
theorem dX5_set_54 : decode cX5_set 54 = .ok (.bipush (-7), 2) := by decide +kernel
theorem dX5_set_56 : decode cX5_set 56 = .ok (.invokevirtual 82, 3) := by decide +kernel
theorem dX5_set_59 : decode cX5_set 59 = .ok (.ireturn, 1) := by decide +kernel
theorem dX5_set_60 : decode cX5_set 60 = .ok (.aload 5, 2) := by decide +kernel
theorem dX5_set_62 : decode cX5_set 62 = .ok (.iload_n 2, 1) := by decide +kernel
theorem dX5_set_63 : decode cX5_set 63 = .ok (.iload_n 3, 1) := by decide +kernel
theorem dX5_set_64 : decode cX5_set 64 = .ok (.invokevirtual 93, 3) := by decide +kernel
theorem dX5_set_67 : decode cX5_set 67 = .ok (.istore 6, 2) := by decide +kernel
theorem dX5_set_69 : decode cX5_set 69 = .ok (.aload 5, 2) := by decide +kernel
theorem dX5_set_71 : decode cX5_set 71 = .ok (.iload_n 2, 1) := by decide +kernel
theorem dX5_set_72 : decode cX5_set 72 = .ok (.iload_n 3, 1) := by decide +kernel
theorem dX5_set_73 : decode cX5_set 73 = .ok (.iload 4, 2) := by decide +kernel
theorem dX5_set_75 : decode cX5_set 75 = .ok (.i2l, 1) := by decide +kernel
theorem dX5_set_76 : decode cX5_set 76 = .ok (.invokevirtual 97, 3) := by decide +kernel
theorem dX5_set_79 : decode cX5_set 79 = .ok (.iload 6, 2) := by decide +kernel
theorem dX5_set_81 : decode cX5_set 81 = .ok (.ireturn, 1) := by decide +kernel
theorem dX5_at_0 : decode cX5_at 0 = .ok (.aload_n 0, 1) := by decide +kernel
theorem dX5_at_1 : decode cX5_at 1 = .ok (.iload_n 1, 1) := by decide +kernel
theorem dX5_at_2 : decode cX5_at 2 = .ok (.invokevirtual 74, 3) := by decide +kernel
theorem dX5_at_5 : decode cX5_at 5 = .ok (.astore 4, 2) := by decide +kernel
theorem dX5_at_7 : decode cX5_at 7 = .ok (.aload 4, 2) := by decide +kernel
theorem dX5_at_9 : decode cX5_at 9 = .ok (.ifnull 13, 3) := by decide +kernel
theorem dX5_at_12 : decode cX5_at 12 = .ok (.aload 4, 2) := by decide +kernel
theorem dX5_at_14 : decode cX5_at 14 = .ok (.iload_n 2, 1) := by decide +kernel
theorem dX5_at_15 : decode cX5_at 15 = .ok (.iload_n 3, 1) := by decide +kernel
theorem dX5_at_16 : decode cX5_at 16 = .ok (.invokevirtual 78, 3) := by decide +kernel
theorem dX5_at_19 : decode cX5_at 19 = .ok (.ifCond .ne 10, 3) := by decide +kernel
theorem dX5_at_22 : decode cX5_at 22 = .ok (.aload_n 0, 1) := by decide +kernel
theorem dX5_at_23 : decode cX5_at 23 = .ok (.bipush (-3), 2) := by decide +kernel
theorem dX5_at_25 : decode cX5_at 25 = .ok (.invokevirtual 82, 3) := by decide +kernel
theorem dX5_at_28 : decode cX5_at 28 = .ok (.ireturn, 1) := by decide +kernel
theorem dX5_at_29 : decode cX5_at 29 = .ok (.aload 4, 2) := by decide +kernel
theorem dX5_at_31 : decode cX5_at 31 = .ok (.iload_n 2, 1) := by decide +kernel
theorem dX5_at_32 : decode cX5_at 32 = .ok (.iload_n 3, 1) := by decide +kernel
theorem dX5_at_33 : decode cX5_at 33 = .ok (.invokevirtual 93, 3) := by decide +kernel
theorem dX5_at_36 : decode cX5_at 36 = .ok (.ireturn, 1) := by decide +kernel
theorem dX5_look_0 : decode cX5_look 0 = .ok (.aload_n 0, 1) := by decide +kernel
theorem dX5_look_1 : decode cX5_look 1 = .ok (.iload_n 1, 1) := by decide +kernel
theorem dX5_look_2 : decode cX5_look 2 = .ok (.invokevirtual 74, 3) := by decide +kernel
theorem dX5_look_5 : decode cX5_look 5 = .ok (.astore_n 3, 1) := by decide +kernel
theorem dX5_look_6 : decode cX5_look 6 = .ok (.aload_n 3, 1) := by decide +kernel
theorem dX5_look_7 : decode cX5_look 7 = .ok (.ifnonnull 10, 3) := by decide +kernel
theorem dX5_look_10 : decode cX5_look 10 = .ok (.aload_n 0, 1) := by decide +kernel
theorem dX5_look_11 : decode cX5_look 11 = .ok (.bipush (-3), 2) := by decide +kernel
theorem dX5_look_13 : decode cX5_look 13 = .ok (.invokevirtual 58, 3) := by decide +kernel
theorem dX5_look_16 : decode cX5_look 16 = .ok (.ireturn, 1) := by decide +kernel
theorem dX5_look_17 : decode cX5_look 17 = .ok (.iload_n 2, 1) := by decide +kernel
theorem dX5_look_18 : decode cX5_look 18 = .ok (.tableswitch 141 0 7 #[46, 51, 56, 61, 80, 99, 109, 119], 46) := by decide +kernel
theorem dX5_look_64 : decode cX5_look 64 = .ok (.aload_n 3, 1) := by decide +kernel
theorem dX5_look_65 : decode cX5_look 65 = .ok (.getfield 85, 3) := by decide +kernel
theorem dX5_look_68 : decode cX5_look 68 = .ok (.ireturn, 1) := by decide +kernel
theorem dX5_look_69 : decode cX5_look 69 = .ok (.aload_n 3, 1) := by decide +kernel
theorem dX5_look_70 : decode cX5_look 70 = .ok (.getfield 101, 3) := by decide +kernel
theorem dX5_look_73 : decode cX5_look 73 = .ok (.ireturn, 1) := by decide +kernel
theorem dX5_look_74 : decode cX5_look 74 = .ok (.aload_n 3, 1) := by decide +kernel
theorem dX5_look_75 : decode cX5_look 75 = .ok (.getfield 104, 3) := by decide +kernel
theorem dX5_look_78 : decode cX5_look 78 = .ok (.ireturn, 1) := by decide +kernel
theorem dX5_look_79 : decode cX5_look 79 = .ok (.aload_n 0, 1) := by decide +kernel
theorem dX5_look_80 : decode cX5_look 80 = .ok (.getfield 34, 3) := by decide +kernel
theorem dX5_look_83 : decode cX5_look 83 = .ok (.aload_n 3, 1) := by decide +kernel
theorem dX5_look_84 : decode cX5_look 84 = .ok (.iconst 0, 1) := by decide +kernel
theorem dX5_look_85 : decode cX5_look 85 = .ok (.invokevirtual 107, 3) := by decide +kernel
theorem dX5_look_88 : decode cX5_look 88 = .ok (.iconst (-1), 1) := by decide +kernel
theorem dX5_look_89 : decode cX5_look 89 = .ok (.if_icmp .ne 7, 3) := by decide +kernel
theorem dX5_look_92 : decode cX5_look 92 = .ok (.iconst 1, 1) := by decide +kernel
theorem dX5_look_93 : decode cX5_look 93 = .ok (.goto 4, 3) := by decide +kernel
theorem dX5_look_96 : decode cX5_look 96 = .ok (.iconst 0, 1) := by decide +kernel
theorem dX5_look_97 : decode cX5_look 97 = .ok (.ireturn, 1) := by decide +kernel
theorem dX5_look_98 : decode cX5_look 98 = .ok (.aload_n 0, 1) := by decide +kernel
theorem dX5_look_99 : decode cX5_look 99 = .ok (.getfield 34, 3) := by decide +kernel
theorem dX5_look_102 : decode cX5_look 102 = .ok (.aload_n 3, 1) := by decide +kernel
theorem dX5_look_103 : decode cX5_look 103 = .ok (.iconst 1, 1) := by decide +kernel
theorem dX5_look_104 : decode cX5_look 104 = .ok (.invokevirtual 107, 3) := by decide +kernel
theorem dX5_look_107 : decode cX5_look 107 = .ok (.iconst (-1), 1) := by decide +kernel
theorem dX5_look_108 : decode cX5_look 108 = .ok (.if_icmp .ne 7, 3) := by decide +kernel
theorem dX5_look_111 : decode cX5_look 111 = .ok (.iconst 1, 1) := by decide +kernel
theorem dX5_look_112 : decode cX5_look 112 = .ok (.goto 4, 3) := by decide +kernel
theorem dX5_look_115 : decode cX5_look 115 = .ok (.iconst 0, 1) := by decide +kernel
theorem dX5_look_116 : decode cX5_look 116 = .ok (.ireturn, 1) := by decide +kernel
theorem dX5_look_117 : decode cX5_look 117 = .ok (.aload_n 0, 1) := by decide +kernel
theorem dX5_look_118 : decode cX5_look 118 = .ok (.getfield 34, 3) := by decide +kernel
theorem dX5_look_121 : decode cX5_look 121 = .ok (.aload_n 3, 1) := by decide +kernel
theorem dX5_look_122 : decode cX5_look 122 = .ok (.iconst 0, 1) := by decide +kernel
theorem dX5_look_123 : decode cX5_look 123 = .ok (.invokevirtual 111, 3) := by decide +kernel
theorem dX5_look_126 : decode cX5_look 126 = .ok (.ireturn, 1) := by decide +kernel
theorem dX5_look_127 : decode cX5_look 127 = .ok (.aload_n 0, 1) := by decide +kernel
theorem dX5_look_128 : decode cX5_look 128 = .ok (.getfield 34, 3) := by decide +kernel
theorem dX5_look_131 : decode cX5_look 131 = .ok (.aload_n 3, 1) := by decide +kernel
theorem dX5_look_132 : decode cX5_look 132 = .ok (.iconst 1, 1) := by decide +kernel
theorem dX5_look_133 : decode cX5_look 133 = .ok (.invokevirtual 111, 3) := by decide +kernel
theorem dX5_look_136 : decode cX5_look 136 = .ok (.ireturn, 1) := by decide +kernel
theorem dX5_look_137 : decode cX5_look 137 = .ok (.aload_n 3, 1) := by decide +kernel
theorem dX5_look_138 : decode cX5_look 138 = .ok (.getfield 85, 3) := by decide +kernel
theorem dX5_look_141 : decode cX5_look 141 = .ok (.iconst 1, 1) := by decide +kernel
theorem dX5_look_142 : decode cX5_look 142 = .ok (.if_icmp .ne 10, 3) := by decide +kernel
theorem dX5_look_145 : decode cX5_look 145 = .ok (.aload_n 3, 1) := by decide +kernel
theorem dX5_look_146 : decode cX5_look 146 = .ok (.getfield 114, 3) := by decide +kernel
theorem dX5_look_149 : decode cX5_look 149 = .ok (.goto 9, 3) := by decide +kernel
theorem dX5_look_152 : decode cX5_look 152 = .ok (.aload_n 0, 1) := by decide +kernel
theorem dX5_look_153 : decode cX5_look 153 = .ok (.bipush (-5), 2) := by decide +kernel
theorem dX5_look_155 : decode cX5_look 155 = .ok (.invokevirtual 58, 3) := by decide +kernel
theorem dX5_look_158 : decode cX5_look 158 = .ok (.ireturn, 1) := by decide +kernel
theorem dX5_look_159 : decode cX5_look 159 = .ok (.aload_n 0, 1) := by decide +kernel
theorem dX5_look_160 : decode cX5_look 160 = .ok (.bipush (-7), 2) := by decide +kernel
theorem dX5_look_162 : decode cX5_look 162 = .ok (.invokevirtual 58, 3) := by decide +kernel
theorem dX5_look_165 : decode cX5_look 165 = .ok (.ireturn, 1) := by decide +kernel
theorem dX5_drop_0 : decode cX5_drop 0 = .ok (.aload_n 0, 1) := by decide +kernel
theorem dX5_drop_1 : decode cX5_drop 1 = .ok (.getfield 117, 3) := by decide +kernel
theorem dX5_drop_4 : decode cX5_drop 4 = .ok (.ifCond .ne 10, 3) := by decide +kernel
theorem dX5_drop_7 : decode cX5_drop 7 = .ok (.aload_n 0, 1) := by decide +kernel
theorem dX5_drop_8 : decode cX5_drop 8 = .ok (.bipush (-2), 2) := by decide +kernel
theorem dX5_drop_10 : decode cX5_drop 10 = .ok (.invokevirtual 58, 3) := by decide +kernel
theorem dX5_drop_13 : decode cX5_drop 13 = .ok (.ireturn, 1) := by decide +kernel
theorem dX5_drop_14 : decode cX5_drop 14 = .ok (.aload_n 0, 1) := by decide +kernel
theorem dX5_drop_15 : decode cX5_drop 15 = .ok (.dup, 1) := by decide +kernel
theorem dX5_drop_16 : decode cX5_drop 16 = .ok (.getfield 117, 3) := by decide +kernel
theorem dX5_drop_19 : decode cX5_drop 19 = .ok (.iconst 1, 1) := by decide +kernel
theorem dX5_drop_20 : decode cX5_drop 20 = .ok (.isub, 1) := by decide +kernel
theorem dX5_drop_21 : decode cX5_drop 21 = .ok (.putfield 117, 3) := by decide +kernel
theorem dX5_drop_24 : decode cX5_drop 24 = .ok (.aload_n 0, 1) := by decide +kernel
theorem dX5_drop_25 : decode cX5_drop 25 = .ok (.getfield 117, 3) := by decide +kernel
theorem dX5_drop_28 : decode cX5_drop 28 = .ok (.ireturn, 1) := by decide +kernel
theorem dX5_worth_0 : decode cX5_worth 0 = .ok (.aload_n 0, 1) := by decide +kernel
theorem dX5_worth_1 : decode cX5_worth 1 = .ok (.iload_n 1, 1) := by decide +kernel
theorem dX5_worth_2 : decode cX5_worth 2 = .ok (.invokevirtual 74, 3) := by decide +kernel
theorem dX5_worth_5 : decode cX5_worth 5 = .ok (.astore 4, 2) := by decide +kernel
theorem dX5_worth_7 : decode cX5_worth 7 = .ok (.aload 4, 2) := by decide +kernel
theorem dX5_worth_9 : decode cX5_worth 9 = .ok (.ifnull 27, 3) := by decide +kernel
theorem dX5_worth_12 : decode cX5_worth 12 = .ok (.iload_n 2, 1) := by decide +kernel
theorem dX5_worth_13 : decode cX5_worth 13 = .ok (.aload 4, 2) := by decide +kernel
theorem dX5_worth_15 : decode cX5_worth 15 = .ok (.getfield 101, 3) := by decide +kernel
theorem dX5_worth_18 : decode cX5_worth 18 = .ok (.invokestatic 120, 3) := by decide +kernel
theorem dX5_worth_21 : decode cX5_worth 21 = .ok (.ifCond .eq 15, 3) := by decide +kernel
theorem dX5_worth_24 : decode cX5_worth 24 = .ok (.iload_n 3, 1) := by decide +kernel
theorem dX5_worth_25 : decode cX5_worth 25 = .ok (.aload 4, 2) := by decide +kernel
theorem dX5_worth_27 : decode cX5_worth 27 = .ok (.getfield 104, 3) := by decide +kernel
theorem dX5_worth_30 : decode cX5_worth 30 = .ok (.invokestatic 120, 3) := by decide +kernel
theorem dX5_worth_33 : decode cX5_worth 33 = .ok (.ifCond .ne 11, 3) := by decide +kernel
theorem dX5_worth_36 : decode cX5_worth 36 = .ok (.aload_n 0, 1) := by decide +kernel
theorem dX5_worth_37 : decode cX5_worth 37 = .ok (.bipush (-3), 2) := by decide +kernel
theorem dX5_worth_39 : decode cX5_worth 39 = .ok (.invokevirtual 82, 3) := by decide +kernel
theorem dX5_worth_42 : decode cX5_worth 42 = .ok (.i2l, 1) := by decide +kernel
theorem dX5_worth_43 : decode cX5_worth 43 = .ok (.lreturn, 1) := by decide +kernel
theorem dX5_worth_44 : decode cX5_worth 44 = .ok (.iload_n 2, 1) := by decide +kernel
theorem dX5_worth_45 : decode cX5_worth 45 = .ok (.iload_n 3, 1) := by decide +kernel
theorem dX5_worth_46 : decode cX5_worth 46 = .ok (.invokestatic 123, 3) := by decide +kernel
theorem dX5_worth_49 : decode cX5_worth 49 = .ok (.ifCond .ne 11, 3) := by decide +kernel
theorem dX5_worth_52 : decode cX5_worth 52 = .ok (.aload_n 0, 1) := by decide +kernel
theorem dX5_worth_53 : decode cX5_worth 53 = .ok (.bipush (-7), 2) := by decide +kernel
theorem dX5_worth_55 : decode cX5_worth 55 = .ok (.invokevirtual 82, 3) := by decide +kernel
theorem dX5_worth_58 : decode cX5_worth 58 = .ok (.i2l, 1) := by decide +kernel
theorem dX5_worth_59 : decode cX5_worth 59 = .ok (.lreturn, 1) := by decide +kernel
theorem dX5_worth_60 : decode cX5_worth 60 = .ok (.aload_n 0, 1) := by decide +kernel
theorem dX5_worth_61 : decode cX5_worth 61 = .ok (.getfield 34, 3) := by decide +kernel
theorem dX5_worth_64 : decode cX5_worth 64 = .ok (.aload 4, 2) := by decide +kernel
theorem dX5_worth_66 : decode cX5_worth 66 = .ok (.iload_n 2, 1) := by decide +kernel
theorem dX5_worth_67 : decode cX5_worth 67 = .ok (.iload_n 3, 1) := by decide +kernel
theorem dX5_worth_68 : decode cX5_worth 68 = .ok (.invokevirtual 126, 3) := by decide +kernel
theorem dX5_worth_71 : decode cX5_worth 71 = .ok (.lreturn, 1) := by decide +kernel
theorem dX5_low_0 : decode cX5_low 0 = .ok (.aload_n 0, 1) := by decide +kernel
theorem dX5_low_1 : decode cX5_low 1 = .ok (.iload_n 1, 1) := by decide +kernel
theorem dX5_low_2 : decode cX5_low 2 = .ok (.invokevirtual 74, 3) := by decide +kernel
theorem dX5_low_5 : decode cX5_low 5 = .ok (.astore_n 3, 1) := by decide +kernel
theorem dX5_low_6 : decode cX5_low 6 = .ok (.aload_n 3, 1) := by decide +kernel
theorem dX5_low_7 : decode cX5_low 7 = .ok (.ifnonnull 10, 3) := by decide +kernel
theorem dX5_low_10 : decode cX5_low 10 = .ok (.aload_n 0, 1) := by decide +kernel
theorem dX5_low_11 : decode cX5_low 11 = .ok (.bipush (-3), 2) := by decide +kernel
theorem dX5_low_13 : decode cX5_low 13 = .ok (.invokevirtual 58, 3) := by decide +kernel
theorem dX5_low_16 : decode cX5_low 16 = .ok (.ireturn, 1) := by decide +kernel
theorem dX5_low_17 : decode cX5_low 17 = .ok (.aload_n 0, 1) := by decide +kernel
theorem dX5_low_18 : decode cX5_low 18 = .ok (.getfield 34, 3) := by decide +kernel
theorem dX5_low_21 : decode cX5_low 21 = .ok (.aload_n 3, 1) := by decide +kernel
theorem dX5_low_22 : decode cX5_low 22 = .ok (.iload_n 2, 1) := by decide +kernel
theorem dX5_low_23 : decode cX5_low 23 = .ok (.invokevirtual 107, 3) := by decide +kernel
theorem dX5_low_26 : decode cX5_low 26 = .ok (.ireturn, 1) := by decide +kernel
theorem dX5_count_0 : decode cX5_count 0 = .ok (.aload_n 0, 1) := by decide +kernel
theorem dX5_count_1 : decode cX5_count 1 = .ok (.iload_n 1, 1) := by decide +kernel
theorem dX5_count_2 : decode cX5_count 2 = .ok (.invokevirtual 74, 3) := by decide +kernel
theorem dX5_count_5 : decode cX5_count 5 = .ok (.astore_n 3, 1) := by decide +kernel
theorem dX5_count_6 : decode cX5_count 6 = .ok (.aload_n 3, 1) := by decide +kernel
theorem dX5_count_7 : decode cX5_count 7 = .ok (.ifnonnull 10, 3) := by decide +kernel
theorem dX5_count_10 : decode cX5_count 10 = .ok (.aload_n 0, 1) := by decide +kernel
theorem dX5_count_11 : decode cX5_count 11 = .ok (.bipush (-3), 2) := by decide +kernel
theorem dX5_count_13 : decode cX5_count 13 = .ok (.invokevirtual 58, 3) := by decide +kernel
theorem dX5_count_16 : decode cX5_count 16 = .ok (.ireturn, 1) := by decide +kernel
theorem dX5_count_17 : decode cX5_count 17 = .ok (.iload_n 2, 1) := by decide +kernel
theorem dX5_count_18 : decode cX5_count 18 = .ok (.iconst (-1), 1) := by decide +kernel
theorem dX5_count_19 : decode cX5_count 19 = .ok (.if_icmp .lt 8, 3) := by decide +kernel
theorem dX5_count_22 : decode cX5_count 22 = .ok (.iload_n 2, 1) := by decide +kernel
theorem dX5_count_23 : decode cX5_count 23 = .ok (.iconst 1, 1) := by decide +kernel
theorem dX5_count_24 : decode cX5_count 24 = .ok (.if_icmp .le 10, 3) := by decide +kernel
theorem dX5_count_27 : decode cX5_count 27 = .ok (.aload_n 0, 1) := by decide +kernel
theorem dX5_count_28 : decode cX5_count 28 = .ok (.bipush (-7), 2) := by decide +kernel
theorem dX5_count_30 : decode cX5_count 30 = .ok (.invokevirtual 58, 3) := by decide +kernel
theorem dX5_count_33 : decode cX5_count 33 = .ok (.ireturn, 1) := by decide +kernel
theorem dX5_count_34 : decode cX5_count 34 = .ok (.aload_n 0, 1) := by decide +kernel
theorem dX5_count_35 : decode cX5_count 35 = .ok (.getfield 34, 3) := by decide +kernel
theorem dX5_count_38 : decode cX5_count 38 = .ok (.aload_n 3, 1) := by decide +kernel
theorem dX5_count_39 : decode cX5_count 39 = .ok (.iload_n 2, 1) := by decide +kernel
theorem dX5_count_40 : decode cX5_count 40 = .ok (.invokevirtual 130, 3) := by decide +kernel
theorem dX5_count_43 : decode cX5_count 43 = .ok (.ireturn, 1) := by decide +kernel
theorem dX5_product_0 : decode cX5_product 0 = .ok (.aload_n 0, 1) := by decide +kernel
theorem dX5_product_1 : decode cX5_product 1 = .ok (.iload_n 1, 1) := by decide +kernel
theorem dX5_product_2 : decode cX5_product 2 = .ok (.invokevirtual 74, 3) := by decide +kernel
theorem dX5_product_5 : decode cX5_product 5 = .ok (.astore_n 3, 1) := by decide +kernel
theorem dX5_product_6 : decode cX5_product 6 = .ok (.aload_n 0, 1) := by decide +kernel
theorem dX5_product_7 : decode cX5_product 7 = .ok (.iload_n 2, 1) := by decide +kernel
theorem dX5_product_8 : decode cX5_product 8 = .ok (.invokevirtual 74, 3) := by decide +kernel
theorem dX5_product_11 : decode cX5_product 11 = .ok (.astore 4, 2) := by decide +kernel
theorem dX5_product_13 : decode cX5_product 13 = .ok (.aload_n 3, 1) := by decide +kernel
theorem dX5_product_14 : decode cX5_product 14 = .ok (.ifnull 8, 3) := by decide +kernel
theorem dX5_product_17 : decode cX5_product 17 = .ok (.aload 4, 2) := by decide +kernel
theorem dX5_product_19 : decode cX5_product 19 = .ok (.ifnonnull 10, 3) := by decide +kernel
theorem dX5_product_22 : decode cX5_product 22 = .ok (.aload_n 0, 1) := by decide +kernel
theorem dX5_product_23 : decode cX5_product 23 = .ok (.bipush (-3), 2) := by decide +kernel
theorem dX5_product_25 : decode cX5_product 25 = .ok (.invokevirtual 58, 3) := by decide +kernel
theorem dX5_product_28 : decode cX5_product 28 = .ok (.ireturn, 1) := by decide +kernel
theorem dX5_product_29 : decode cX5_product 29 = .ok (.aload_n 3, 1) := by decide +kernel
theorem dX5_product_30 : decode cX5_product 30 = .ok (.getfield 104, 3) := by decide +kernel
theorem dX5_product_33 : decode cX5_product 33 = .ok (.aload 4, 2) := by decide +kernel
theorem dX5_product_35 : decode cX5_product 35 = .ok (.getfield 101, 3) := by decide +kernel
theorem dX5_product_38 : decode cX5_product 38 = .ok (.if_icmp .eq 10, 3) := by decide +kernel
theorem dX5_product_41 : decode cX5_product 41 = .ok (.aload_n 0, 1) := by decide +kernel
theorem dX5_product_42 : decode cX5_product 42 = .ok (.bipush (-7), 2) := by decide +kernel
theorem dX5_product_44 : decode cX5_product 44 = .ok (.invokevirtual 58, 3) := by decide +kernel
theorem dX5_product_47 : decode cX5_product 47 = .ok (.ireturn, 1) := by decide +kernel
theorem dX5_product_48 : decode cX5_product 48 = .ok (.aload_n 0, 1) := by decide +kernel
theorem dX5_product_49 : decode cX5_product 49 = .ok (.invokevirtual 62, 3) := by decide +kernel
theorem dX5_product_52 : decode cX5_product 52 = .ok (.astore 5, 2) := by decide +kernel
theorem dX5_product_54 : decode cX5_product 54 = .ok (.aload 5, 2) := by decide +kernel
theorem dX5_product_56 : decode cX5_product 56 = .ok (.ifnonnull 10, 3) := by decide +kernel
theorem dX5_product_59 : decode cX5_product 59 = .ok (.aload_n 0, 1) := by decide +kernel
theorem dX5_product_60 : decode cX5_product 60 = .ok (.bipush (-8), 2) := by decide +kernel
theorem dX5_product_62 : decode cX5_product 62 = .ok (.invokevirtual 58, 3) := by decide +kernel
theorem dX5_product_65 : decode cX5_product 65 = .ok (.ireturn, 1) := by decide +kernel
theorem dX5_product_66 : decode cX5_product 66 = .ok (.aload 5, 2) := by decide +kernel
theorem dX5_product_68 : decode cX5_product 68 = .ok (.aload_n 3, 1) := by decide +kernel
theorem dX5_product_69 : decode cX5_product 69 = .ok (.getfield 101, 3) := by decide +kernel
theorem dX5_product_72 : decode cX5_product 72 = .ok (.aload 4, 2) := by decide +kernel
theorem dX5_product_74 : decode cX5_product 74 = .ok (.getfield 104, 3) := by decide +kernel
theorem dX5_product_77 : decode cX5_product 77 = .ok (.iconst 3, 1) := by decide +kernel
theorem dX5_product_78 : decode cX5_product 78 = .ok (.invokevirtual 66, 3) := by decide +kernel
theorem dX5_product_81 : decode cX5_product 81 = .ok (.iconst 0, 1) := by decide +kernel
theorem dX5_product_82 : decode cX5_product 82 = .ok (.istore 6, 2) := by decide +kernel
theorem dX5_product_84 : decode cX5_product 84 = .ok (.iload 6, 2) := by decide +kernel
theorem dX5_product_86 : decode cX5_product 86 = .ok (.aload_n 3, 1) := by decide +kernel
theorem dX5_product_87 : decode cX5_product 87 = .ok (.getfield 101, 3) := by decide +kernel
theorem dX5_product_90 : decode cX5_product 90 = .ok (.if_icmp .ge 48, 3) := by decide +kernel
theorem dX5_product_93 : decode cX5_product 93 = .ok (.iconst 0, 1) := by decide +kernel
theorem dX5_product_94 : decode cX5_product 94 = .ok (.istore 7, 2) := by decide +kernel
theorem dX5_product_96 : decode cX5_product 96 = .ok (.iload 7, 2) := by decide +kernel
theorem dX5_product_98 : decode cX5_product 98 = .ok (.aload 4, 2) := by decide +kernel
theorem dX5_product_100 : decode cX5_product 100 = .ok (.getfield 104, 3) := by decide +kernel
theorem dX5_product_103 : decode cX5_product 103 = .ok (.if_icmp .ge 29, 3) := by decide +kernel
theorem dX5_product_106 : decode cX5_product 106 = .ok (.aload 5, 2) := by decide +kernel
theorem dX5_product_108 : decode cX5_product 108 = .ok (.iload 6, 2) := by decide +kernel
theorem dX5_product_110 : decode cX5_product 110 = .ok (.iload 7, 2) := by decide +kernel
theorem dX5_product_112 : decode cX5_product 112 = .ok (.aload_n 3, 1) := by decide +kernel
theorem dX5_product_113 : decode cX5_product 113 = .ok (.iload 6, 2) := by decide +kernel
theorem dX5_product_115 : decode cX5_product 115 = .ok (.aload 4, 2) := by decide +kernel
theorem dX5_product_117 : decode cX5_product 117 = .ok (.iload 7, 2) := by decide +kernel
theorem dX5_product_119 : decode cX5_product 119 = .ok (.invokestatic 134, 3) := by decide +kernel
theorem dX5_product_122 : decode cX5_product 122 = .ok (.i2l, 1) := by decide +kernel
theorem dX5_product_123 : decode cX5_product 123 = .ok (.invokevirtual 97, 3) := by decide +kernel
theorem dX5_product_126 : decode cX5_product 126 = .ok (.iinc 7 1, 3) := by decide +kernel
theorem dX5_product_129 : decode cX5_product 129 = .ok (.goto (-33), 3) := by decide +kernel
theorem dX5_product_132 : decode cX5_product 132 = .ok (.iinc 6 1, 3) := by decide +kernel
theorem dX5_product_135 : decode cX5_product 135 = .ok (.goto (-51), 3) := by decide +kernel
theorem dX5_product_138 : decode cX5_product 138 = .ok (.aload_n 0, 1) := by decide +kernel
theorem dX5_product_139 : decode cX5_product 139 = .ok (.aload 5, 2) := by decide +kernel
theorem dX5_product_141 : decode cX5_product 141 = .ok (.invokevirtual 70, 3) := by decide +kernel
theorem dX5_product_144 : decode cX5_product 144 = .ok (.ireturn, 1) := by decide +kernel
theorem dX5_sum_0 : decode cX5_sum 0 = .ok (.aload_n 0, 1) := by decide +kernel
theorem dX5_sum_1 : decode cX5_sum 1 = .ok (.iload_n 1, 1) := by decide +kernel
theorem dX5_sum_2 : decode cX5_sum 2 = .ok (.invokevirtual 74, 3) := by decide +kernel
theorem dX5_sum_5 : decode cX5_sum 5 = .ok (.astore_n 3, 1) := by decide +kernel
theorem dX5_sum_6 : decode cX5_sum 6 = .ok (.aload_n 0, 1) := by decide +kernel
theorem dX5_sum_7 : decode cX5_sum 7 = .ok (.iload_n 2, 1) := by decide +kernel
theorem dX5_sum_8 : decode cX5_sum 8 = .ok (.invokevirtual 74, 3) := by decide +kernel
theorem dX5_sum_11 : decode cX5_sum 11 = .ok (.astore 4, 2) := by decide +kernel
theorem dX5_sum_13 : decode cX5_sum 13 = .ok (.aload_n 3, 1) := by decide +kernel
theorem dX5_sum_14 : decode cX5_sum 14 = .ok (.ifnull 8, 3) := by decide +kernel
theorem dX5_sum_17 : decode cX5_sum 17 = .ok (.aload 4, 2) := by decide +kernel
theorem dX5_sum_19 : decode cX5_sum 19 = .ok (.ifnonnull 10, 3) := by decide +kernel
theorem dX5_sum_22 : decode cX5_sum 22 = .ok (.aload_n 0, 1) := by decide +kernel
theorem dX5_sum_23 : decode cX5_sum 23 = .ok (.bipush (-3), 2) := by decide +kernel
theorem dX5_sum_25 : decode cX5_sum 25 = .ok (.invokevirtual 58, 3) := by decide +kernel
theorem dX5_sum_28 : decode cX5_sum 28 = .ok (.ireturn, 1) := by decide +kernel
theorem dX5_sum_29 : decode cX5_sum 29 = .ok (.aload_n 3, 1) := by decide +kernel
theorem dX5_sum_30 : decode cX5_sum 30 = .ok (.getfield 101, 3) := by decide +kernel
theorem dX5_sum_33 : decode cX5_sum 33 = .ok (.aload 4, 2) := by decide +kernel
theorem dX5_sum_35 : decode cX5_sum 35 = .ok (.getfield 101, 3) := by decide +kernel
theorem dX5_sum_38 : decode cX5_sum 38 = .ok (.if_icmp .ne 15, 3) := by decide +kernel
theorem dX5_sum_41 : decode cX5_sum 41 = .ok (.aload_n 3, 1) := by decide +kernel
theorem dX5_sum_42 : decode cX5_sum 42 = .ok (.getfield 104, 3) := by decide +kernel
theorem dX5_sum_45 : decode cX5_sum 45 = .ok (.aload 4, 2) := by decide +kernel
theorem dX5_sum_47 : decode cX5_sum 47 = .ok (.getfield 104, 3) := by decide +kernel
theorem dX5_sum_50 : decode cX5_sum 50 = .ok (.if_icmp .eq 10, 3) := by decide +kernel
theorem dX5_sum_53 : decode cX5_sum 53 = .ok (.aload_n 0, 1) := by decide +kernel
theorem dX5_sum_54 : decode cX5_sum 54 = .ok (.bipush (-7), 2) := by decide +kernel
theorem dX5_sum_56 : decode cX5_sum 56 = .ok (.invokevirtual 58, 3) := by decide +kernel
theorem dX5_sum_59 : decode cX5_sum 59 = .ok (.ireturn, 1) := by decide +kernel
theorem dX5_sum_60 : decode cX5_sum 60 = .ok (.aload_n 0, 1) := by decide +kernel
theorem dX5_sum_61 : decode cX5_sum 61 = .ok (.invokevirtual 62, 3) := by decide +kernel
theorem dX5_sum_64 : decode cX5_sum 64 = .ok (.astore 5, 2) := by decide +kernel
theorem dX5_sum_66 : decode cX5_sum 66 = .ok (.aload 5, 2) := by decide +kernel
theorem dX5_sum_68 : decode cX5_sum 68 = .ok (.ifnonnull 10, 3) := by decide +kernel
theorem dX5_sum_71 : decode cX5_sum 71 = .ok (.aload_n 0, 1) := by decide +kernel
theorem dX5_sum_72 : decode cX5_sum 72 = .ok (.bipush (-8), 2) := by decide +kernel
theorem dX5_sum_74 : decode cX5_sum 74 = .ok (.invokevirtual 58, 3) := by decide +kernel
theorem dX5_sum_77 : decode cX5_sum 77 = .ok (.ireturn, 1) := by decide +kernel
theorem dX5_sum_78 : decode cX5_sum 78 = .ok (.aload 5, 2) := by decide +kernel
theorem dX5_sum_80 : decode cX5_sum 80 = .ok (.aload_n 3, 1) := by decide +kernel
theorem dX5_sum_81 : decode cX5_sum 81 = .ok (.getfield 101, 3) := by decide +kernel
theorem dX5_sum_84 : decode cX5_sum 84 = .ok (.aload_n 3, 1) := by decide +kernel
theorem dX5_sum_85 : decode cX5_sum 85 = .ok (.getfield 104, 3) := by decide +kernel
theorem dX5_sum_88 : decode cX5_sum 88 = .ok (.iconst 3, 1) := by decide +kernel
theorem dX5_sum_89 : decode cX5_sum 89 = .ok (.invokevirtual 66, 3) := by decide +kernel
theorem dX5_sum_92 : decode cX5_sum 92 = .ok (.iconst 0, 1) := by decide +kernel
theorem dX5_sum_93 : decode cX5_sum 93 = .ok (.istore 6, 2) := by decide +kernel
theorem dX5_sum_95 : decode cX5_sum 95 = .ok (.iload 6, 2) := by decide +kernel
theorem dX5_sum_97 : decode cX5_sum 97 = .ok (.aload_n 3, 1) := by decide +kernel
theorem dX5_sum_98 : decode cX5_sum 98 = .ok (.getfield 101, 3) := by decide +kernel
theorem dX5_sum_101 : decode cX5_sum 101 = .ok (.if_icmp .ge 55, 3) := by decide +kernel
theorem dX5_sum_104 : decode cX5_sum 104 = .ok (.iconst 0, 1) := by decide +kernel
theorem dX5_sum_105 : decode cX5_sum 105 = .ok (.istore 7, 2) := by decide +kernel
theorem dX5_sum_107 : decode cX5_sum 107 = .ok (.iload 7, 2) := by decide +kernel
theorem dX5_sum_109 : decode cX5_sum 109 = .ok (.aload_n 3, 1) := by decide +kernel
theorem dX5_sum_110 : decode cX5_sum 110 = .ok (.getfield 104, 3) := by decide +kernel
theorem dX5_sum_113 : decode cX5_sum 113 = .ok (.if_icmp .ge 37, 3) := by decide +kernel
theorem dX5_sum_116 : decode cX5_sum 116 = .ok (.aload 5, 2) := by decide +kernel
theorem dX5_sum_118 : decode cX5_sum 118 = .ok (.iload 6, 2) := by decide +kernel
theorem dX5_sum_120 : decode cX5_sum 120 = .ok (.iload 7, 2) := by decide +kernel
theorem dX5_sum_122 : decode cX5_sum 122 = .ok (.aload_n 3, 1) := by decide +kernel
theorem dX5_sum_123 : decode cX5_sum 123 = .ok (.iload 6, 2) := by decide +kernel
theorem dX5_sum_125 : decode cX5_sum 125 = .ok (.iload 7, 2) := by decide +kernel
theorem dX5_sum_127 : decode cX5_sum 127 = .ok (.invokevirtual 93, 3) := by decide +kernel
theorem dX5_sum_130 : decode cX5_sum 130 = .ok (.aload 4, 2) := by decide +kernel
theorem dX5_sum_132 : decode cX5_sum 132 = .ok (.iload 6, 2) := by decide +kernel
theorem dX5_sum_134 : decode cX5_sum 134 = .ok (.iload 7, 2) := by decide +kernel
theorem dX5_sum_136 : decode cX5_sum 136 = .ok (.invokevirtual 93, 3) := by decide +kernel
theorem dX5_sum_139 : decode cX5_sum 139 = .ok (.iadd, 1) := by decide +kernel
theorem dX5_sum_140 : decode cX5_sum 140 = .ok (.i2l, 1) := by decide +kernel
theorem dX5_sum_141 : decode cX5_sum 141 = .ok (.invokevirtual 97, 3) := by decide +kernel
theorem dX5_sum_144 : decode cX5_sum 144 = .ok (.iinc 7 1, 3) := by decide +kernel
theorem dX5_sum_147 : decode cX5_sum 147 = .ok (.goto (-40), 3) := by decide +kernel
theorem dX5_sum_150 : decode cX5_sum 150 = .ok (.iinc 6 1, 3) := by decide +kernel
theorem dX5_sum_153 : decode cX5_sum 153 = .ok (.goto (-58), 3) := by decide +kernel
theorem dX5_sum_156 : decode cX5_sum 156 = .ok (.aload_n 0, 1) := by decide +kernel
theorem dX5_sum_157 : decode cX5_sum 157 = .ok (.aload 5, 2) := by decide +kernel
theorem dX5_sum_159 : decode cX5_sum 159 = .ok (.invokevirtual 70, 3) := by decide +kernel
theorem dX5_sum_162 : decode cX5_sum 162 = .ok (.ireturn, 1) := by decide +kernel
theorem dX5_part_0 : decode cX5_part 0 = .ok (.aload_n 0, 1) := by decide +kernel
theorem dX5_part_1 : decode cX5_part 1 = .ok (.iload_n 1, 1) := by decide +kernel
theorem dX5_part_2 : decode cX5_part 2 = .ok (.invokevirtual 74, 3) := by decide +kernel
theorem dX5_part_5 : decode cX5_part 5 = .ok (.astore 4, 2) := by decide +kernel
theorem dX5_part_7 : decode cX5_part 7 = .ok (.aload 4, 2) := by decide +kernel
theorem dX5_part_9 : decode cX5_part 9 = .ok (.ifnull 27, 3) := by decide +kernel
theorem dX5_part_12 : decode cX5_part 12 = .ok (.iload_n 2, 1) := by decide +kernel
theorem dX5_part_13 : decode cX5_part 13 = .ok (.aload 4, 2) := by decide +kernel
theorem dX5_part_15 : decode cX5_part 15 = .ok (.getfield 101, 3) := by decide +kernel
theorem dX5_part_18 : decode cX5_part 18 = .ok (.invokestatic 120, 3) := by decide +kernel
theorem dX5_part_21 : decode cX5_part 21 = .ok (.ifCond .eq 15, 3) := by decide +kernel
theorem dX5_part_24 : decode cX5_part 24 = .ok (.iload_n 3, 1) := by decide +kernel
theorem dX5_part_25 : decode cX5_part 25 = .ok (.aload 4, 2) := by decide +kernel
theorem dX5_part_27 : decode cX5_part 27 = .ok (.getfield 104, 3) := by decide +kernel
theorem dX5_part_30 : decode cX5_part 30 = .ok (.invokestatic 120, 3) := by decide +kernel
theorem dX5_part_33 : decode cX5_part 33 = .ok (.ifCond .ne 10, 3) := by decide +kernel
theorem dX5_part_36 : decode cX5_part 36 = .ok (.aload_n 0, 1) := by decide +kernel
theorem dX5_part_37 : decode cX5_part 37 = .ok (.bipush (-3), 2) := by decide +kernel
theorem dX5_part_39 : decode cX5_part 39 = .ok (.invokevirtual 58, 3) := by decide +kernel
theorem dX5_part_42 : decode cX5_part 42 = .ok (.ireturn, 1) := by decide +kernel
theorem dX5_part_43 : decode cX5_part 43 = .ok (.aload_n 0, 1) := by decide +kernel
theorem dX5_part_44 : decode cX5_part 44 = .ok (.invokevirtual 62, 3) := by decide +kernel
theorem dX5_part_47 : decode cX5_part 47 = .ok (.astore 5, 2) := by decide +kernel
theorem dX5_part_49 : decode cX5_part 49 = .ok (.aload 5, 2) := by decide +kernel
theorem dX5_part_51 : decode cX5_part 51 = .ok (.ifnonnull 10, 3) := by decide +kernel
theorem dX5_part_54 : decode cX5_part 54 = .ok (.aload_n 0, 1) := by decide +kernel
theorem dX5_part_55 : decode cX5_part 55 = .ok (.bipush (-8), 2) := by decide +kernel
theorem dX5_part_57 : decode cX5_part 57 = .ok (.invokevirtual 58, 3) := by decide +kernel
theorem dX5_part_60 : decode cX5_part 60 = .ok (.ireturn, 1) := by decide +kernel
theorem dX5_part_61 : decode cX5_part 61 = .ok (.aload 5, 2) := by decide +kernel
theorem dX5_part_63 : decode cX5_part 63 = .ok (.iload_n 2, 1) := by decide +kernel
theorem dX5_part_64 : decode cX5_part 64 = .ok (.invokestatic 138, 3) := by decide +kernel
theorem dX5_part_67 : decode cX5_part 67 = .ok (.iload_n 3, 1) := by decide +kernel
theorem dX5_part_68 : decode cX5_part 68 = .ok (.invokestatic 138, 3) := by decide +kernel
theorem dX5_part_71 : decode cX5_part 71 = .ok (.iconst 3, 1) := by decide +kernel
theorem dX5_part_72 : decode cX5_part 72 = .ok (.invokevirtual 66, 3) := by decide +kernel
theorem dX5_part_75 : decode cX5_part 75 = .ok (.iconst 0, 1) := by decide +kernel
theorem dX5_part_76 : decode cX5_part 76 = .ok (.istore 6, 2) := by decide +kernel
theorem dX5_part_78 : decode cX5_part 78 = .ok (.iconst 0, 1) := by decide +kernel
theorem dX5_part_79 : decode cX5_part 79 = .ok (.istore 7, 2) := by decide +kernel
theorem dX5_part_81 : decode cX5_part 81 = .ok (.iload 7, 2) := by decide +kernel
theorem dX5_part_83 : decode cX5_part 83 = .ok (.aload 4, 2) := by decide +kernel
theorem dX5_part_85 : decode cX5_part 85 = .ok (.getfield 101, 3) := by decide +kernel
theorem dX5_part_88 : decode cX5_part 88 = .ok (.if_icmp .ge 33, 3) := by decide +kernel
theorem dX5_part_91 : decode cX5_part 91 = .ok (.iload_n 2, 1) := by decide +kernel
theorem dX5_part_92 : decode cX5_part 92 = .ok (.iload 7, 2) := by decide +kernel
theorem dX5_part_94 : decode cX5_part 94 = .ok (.invokestatic 143, 3) := by decide +kernel
theorem dX5_part_97 : decode cX5_part 97 = .ok (.ifCond .eq 18, 3) := by decide +kernel
theorem dX5_part_100 : decode cX5_part 100 = .ok (.aload 5, 2) := by decide +kernel
theorem dX5_part_102 : decode cX5_part 102 = .ok (.iload 6, 2) := by decide +kernel
theorem dX5_part_104 : decode cX5_part 104 = .ok (.aload 4, 2) := by decide +kernel
theorem dX5_part_106 : decode cX5_part 106 = .ok (.iload 7, 2) := by decide +kernel
theorem dX5_part_108 : decode cX5_part 108 = .ok (.iload_n 3, 1) := by decide +kernel
theorem dX5_part_109 : decode cX5_part 109 = .ok (.invokestatic 146, 3) := by decide +kernel
theorem dX5_part_112 : decode cX5_part 112 = .ok (.iinc 6 1, 3) := by decide +kernel
theorem dX5_part_115 : decode cX5_part 115 = .ok (.iinc 7 1, 3) := by decide +kernel
theorem dX5_part_118 : decode cX5_part 118 = .ok (.goto (-37), 3) := by decide +kernel
theorem dX5_part_121 : decode cX5_part 121 = .ok (.aload_n 0, 1) := by decide +kernel
theorem dX5_part_122 : decode cX5_part 122 = .ok (.aload 5, 2) := by decide +kernel
theorem dX5_part_124 : decode cX5_part 124 = .ok (.invokevirtual 70, 3) := by decide +kernel
theorem dX5_part_127 : decode cX5_part 127 = .ok (.ireturn, 1) := by decide +kernel
theorem dX5_turn_0 : decode cX5_turn 0 = .ok (.aload_n 0, 1) := by decide +kernel
theorem dX5_turn_1 : decode cX5_turn 1 = .ok (.iload_n 1, 1) := by decide +kernel
theorem dX5_turn_2 : decode cX5_turn 2 = .ok (.invokevirtual 74, 3) := by decide +kernel
theorem dX5_turn_5 : decode cX5_turn 5 = .ok (.astore_n 3, 1) := by decide +kernel
theorem dX5_turn_6 : decode cX5_turn 6 = .ok (.aload_n 3, 1) := by decide +kernel
theorem dX5_turn_7 : decode cX5_turn 7 = .ok (.ifnonnull 10, 3) := by decide +kernel
theorem dX5_turn_10 : decode cX5_turn 10 = .ok (.aload_n 0, 1) := by decide +kernel
theorem dX5_turn_11 : decode cX5_turn 11 = .ok (.bipush (-3), 2) := by decide +kernel
theorem dX5_turn_13 : decode cX5_turn 13 = .ok (.invokevirtual 58, 3) := by decide +kernel
theorem dX5_turn_16 : decode cX5_turn 16 = .ok (.ireturn, 1) := by decide +kernel
theorem dX5_turn_17 : decode cX5_turn 17 = .ok (.iload_n 2, 1) := by decide +kernel
theorem dX5_turn_18 : decode cX5_turn 18 = .ok (.ifCond .lt 8, 3) := by decide +kernel
theorem dX5_turn_21 : decode cX5_turn 21 = .ok (.iload_n 2, 1) := by decide +kernel
theorem dX5_turn_22 : decode cX5_turn 22 = .ok (.iconst 2, 1) := by decide +kernel
theorem dX5_turn_23 : decode cX5_turn 23 = .ok (.if_icmp .le 10, 3) := by decide +kernel
theorem dX5_turn_26 : decode cX5_turn 26 = .ok (.aload_n 0, 1) := by decide +kernel
theorem dX5_turn_27 : decode cX5_turn 27 = .ok (.bipush (-7), 2) := by decide +kernel
theorem dX5_turn_29 : decode cX5_turn 29 = .ok (.invokevirtual 58, 3) := by decide +kernel
theorem dX5_turn_32 : decode cX5_turn 32 = .ok (.ireturn, 1) := by decide +kernel
theorem dX5_turn_33 : decode cX5_turn 33 = .ok (.aload_n 0, 1) := by decide +kernel
theorem dX5_turn_34 : decode cX5_turn 34 = .ok (.invokevirtual 62, 3) := by decide +kernel
theorem dX5_turn_37 : decode cX5_turn 37 = .ok (.astore 4, 2) := by decide +kernel
theorem dX5_turn_39 : decode cX5_turn 39 = .ok (.aload 4, 2) := by decide +kernel
theorem dX5_turn_41 : decode cX5_turn 41 = .ok (.ifnonnull 10, 3) := by decide +kernel
theorem dX5_turn_44 : decode cX5_turn 44 = .ok (.aload_n 0, 1) := by decide +kernel
theorem dX5_turn_45 : decode cX5_turn 45 = .ok (.bipush (-8), 2) := by decide +kernel
theorem dX5_turn_47 : decode cX5_turn 47 = .ok (.invokevirtual 58, 3) := by decide +kernel
theorem dX5_turn_50 : decode cX5_turn 50 = .ok (.ireturn, 1) := by decide +kernel
theorem dX5_turn_51 : decode cX5_turn 51 = .ok (.iload_n 2, 1) := by decide +kernel
theorem dX5_turn_52 : decode cX5_turn 52 = .ok (.ifCond .ne 12, 3) := by decide +kernel
theorem dX5_turn_55 : decode cX5_turn 55 = .ok (.aload 4, 2) := by decide +kernel
theorem dX5_turn_57 : decode cX5_turn 57 = .ok (.aload_n 3, 1) := by decide +kernel
theorem dX5_turn_58 : decode cX5_turn 58 = .ok (.invokestatic 150, 3) := by decide +kernel
theorem dX5_turn_61 : decode cX5_turn 61 = .ok (.goto 19, 3) := by decide +kernel
theorem dX5_turn_64 : decode cX5_turn 64 = .ok (.aload 4, 2) := by decide +kernel
theorem dX5_turn_66 : decode cX5_turn 66 = .ok (.aload_n 3, 1) := by decide +kernel
theorem dX5_turn_67 : decode cX5_turn 67 = .ok (.iload_n 2, 1) := by decide +kernel
theorem dX5_turn_68 : decode cX5_turn 68 = .ok (.iconst 1, 1) := by decide +kernel
theorem dX5_turn_69 : decode cX5_turn 69 = .ok (.if_icmp .ne 7, 3) := by decide +kernel
theorem dX5_turn_72 : decode cX5_turn 72 = .ok (.iconst 1, 1) := by decide +kernel
theorem dX5_turn_73 : decode cX5_turn 73 = .ok (.goto 4, 3) := by decide +kernel
theorem dX5_turn_76 : decode cX5_turn 76 = .ok (.iconst 0, 1) := by decide +kernel
theorem dX5_turn_77 : decode cX5_turn 77 = .ok (.invokestatic 154, 3) := by decide +kernel
theorem dX5_turn_80 : decode cX5_turn 80 = .ok (.aload_n 0, 1) := by decide +kernel
theorem dX5_turn_81 : decode cX5_turn 81 = .ok (.aload 4, 2) := by decide +kernel
theorem dX5_turn_83 : decode cX5_turn 83 = .ok (.invokevirtual 70, 3) := by decide +kernel
theorem dX5_turn_86 : decode cX5_turn 86 = .ok (.ireturn, 1) := by decide +kernel
theorem dX5_same_0 : decode cX5_same 0 = .ok (.aload_n 0, 1) := by decide +kernel
theorem dX5_same_1 : decode cX5_same 1 = .ok (.iload_n 1, 1) := by decide +kernel
theorem dX5_same_2 : decode cX5_same 2 = .ok (.invokevirtual 74, 3) := by decide +kernel
theorem dX5_same_5 : decode cX5_same 5 = .ok (.astore_n 3, 1) := by decide +kernel
theorem dX5_same_6 : decode cX5_same 6 = .ok (.aload_n 0, 1) := by decide +kernel
theorem dX5_same_7 : decode cX5_same 7 = .ok (.iload_n 2, 1) := by decide +kernel
theorem dX5_same_8 : decode cX5_same 8 = .ok (.invokevirtual 74, 3) := by decide +kernel
theorem dX5_same_11 : decode cX5_same 11 = .ok (.astore 4, 2) := by decide +kernel
theorem dX5_same_13 : decode cX5_same 13 = .ok (.aload_n 3, 1) := by decide +kernel
theorem dX5_same_14 : decode cX5_same 14 = .ok (.ifnull 8, 3) := by decide +kernel
theorem dX5_same_17 : decode cX5_same 17 = .ok (.aload 4, 2) := by decide +kernel
theorem dX5_same_19 : decode cX5_same 19 = .ok (.ifnonnull 10, 3) := by decide +kernel
theorem dX5_same_22 : decode cX5_same 22 = .ok (.aload_n 0, 1) := by decide +kernel
theorem dX5_same_23 : decode cX5_same 23 = .ok (.bipush (-3), 2) := by decide +kernel
theorem dX5_same_25 : decode cX5_same 25 = .ok (.invokevirtual 58, 3) := by decide +kernel
theorem dX5_same_28 : decode cX5_same 28 = .ok (.ireturn, 1) := by decide +kernel
theorem dX5_same_29 : decode cX5_same 29 = .ok (.aload_n 3, 1) := by decide +kernel
theorem dX5_same_30 : decode cX5_same 30 = .ok (.getfield 101, 3) := by decide +kernel
theorem dX5_same_33 : decode cX5_same 33 = .ok (.aload 4, 2) := by decide +kernel
theorem dX5_same_35 : decode cX5_same 35 = .ok (.getfield 101, 3) := by decide +kernel
theorem dX5_same_38 : decode cX5_same 38 = .ok (.if_icmp .ne 15, 3) := by decide +kernel
theorem dX5_same_41 : decode cX5_same 41 = .ok (.aload_n 3, 1) := by decide +kernel
theorem dX5_same_42 : decode cX5_same 42 = .ok (.getfield 104, 3) := by decide +kernel
theorem dX5_same_45 : decode cX5_same 45 = .ok (.aload 4, 2) := by decide +kernel
theorem dX5_same_47 : decode cX5_same 47 = .ok (.getfield 104, 3) := by decide +kernel
theorem dX5_same_50 : decode cX5_same 50 = .ok (.if_icmp .eq 5, 3) := by decide +kernel
theorem dX5_same_53 : decode cX5_same 53 = .ok (.iconst 0, 1) := by decide +kernel
theorem dX5_same_54 : decode cX5_same 54 = .ok (.ireturn, 1) := by decide +kernel
theorem dX5_same_55 : decode cX5_same 55 = .ok (.iconst 0, 1) := by decide +kernel
theorem dX5_same_56 : decode cX5_same 56 = .ok (.istore 5, 2) := by decide +kernel
theorem dX5_same_58 : decode cX5_same 58 = .ok (.iload 5, 2) := by decide +kernel
theorem dX5_same_60 : decode cX5_same 60 = .ok (.aload_n 3, 1) := by decide +kernel
theorem dX5_same_61 : decode cX5_same 61 = .ok (.getfield 101, 3) := by decide +kernel
theorem dX5_same_64 : decode cX5_same 64 = .ok (.if_icmp .ge 49, 3) := by decide +kernel
theorem dX5_same_67 : decode cX5_same 67 = .ok (.iconst 0, 1) := by decide +kernel
theorem dX5_same_68 : decode cX5_same 68 = .ok (.istore 6, 2) := by decide +kernel
theorem dX5_same_70 : decode cX5_same 70 = .ok (.iload 6, 2) := by decide +kernel
theorem dX5_same_72 : decode cX5_same 72 = .ok (.aload_n 3, 1) := by decide +kernel
theorem dX5_same_73 : decode cX5_same 73 = .ok (.getfield 104, 3) := by decide +kernel
theorem dX5_same_76 : decode cX5_same 76 = .ok (.if_icmp .ge 31, 3) := by decide +kernel
theorem dX5_same_79 : decode cX5_same 79 = .ok (.aload_n 3, 1) := by decide +kernel
theorem dX5_same_80 : decode cX5_same 80 = .ok (.iload 5, 2) := by decide +kernel
theorem dX5_same_82 : decode cX5_same 82 = .ok (.iload 6, 2) := by decide +kernel
theorem dX5_same_84 : decode cX5_same 84 = .ok (.invokevirtual 93, 3) := by decide +kernel
theorem dX5_same_87 : decode cX5_same 87 = .ok (.aload 4, 2) := by decide +kernel
theorem dX5_same_89 : decode cX5_same 89 = .ok (.iload 5, 2) := by decide +kernel
theorem dX5_same_91 : decode cX5_same 91 = .ok (.iload 6, 2) := by decide +kernel
theorem dX5_same_93 : decode cX5_same 93 = .ok (.invokevirtual 93, 3) := by decide +kernel
theorem dX5_same_96 : decode cX5_same 96 = .ok (.if_icmp .eq 5, 3) := by decide +kernel
theorem dX5_same_99 : decode cX5_same 99 = .ok (.iconst 0, 1) := by decide +kernel
theorem dX5_same_100 : decode cX5_same 100 = .ok (.ireturn, 1) := by decide +kernel
theorem dX5_same_101 : decode cX5_same 101 = .ok (.iinc 6 1, 3) := by decide +kernel
theorem dX5_same_104 : decode cX5_same 104 = .ok (.goto (-34), 3) := by decide +kernel
theorem dX5_same_107 : decode cX5_same 107 = .ok (.iinc 5 1, 3) := by decide +kernel
theorem dX5_same_110 : decode cX5_same 110 = .ok (.goto (-52), 3) := by decide +kernel
theorem dX5_same_113 : decode cX5_same 113 = .ok (.iconst 1, 1) := by decide +kernel
theorem dX5_same_114 : decode cX5_same 114 = .ok (.ireturn, 1) := by decide +kernel
theorem dX5_net_0 : decode cX5_net 0 = .ok (.iload_n 1, 1) := by decide +kernel
theorem dX5_net_1 : decode cX5_net 1 = .ok (.invokestatic 54, 3) := by decide +kernel
theorem dX5_net_4 : decode cX5_net 4 = .ok (.ifCond .ne 10, 3) := by decide +kernel
theorem dX5_net_7 : decode cX5_net 7 = .ok (.aload_n 0, 1) := by decide +kernel
theorem dX5_net_8 : decode cX5_net 8 = .ok (.bipush (-7), 2) := by decide +kernel
theorem dX5_net_10 : decode cX5_net 10 = .ok (.invokevirtual 58, 3) := by decide +kernel
theorem dX5_net_13 : decode cX5_net 13 = .ok (.ireturn, 1) := by decide +kernel
theorem dX5_net_14 : decode cX5_net 14 = .ok (.aload_n 0, 1) := by decide +kernel
theorem dX5_net_15 : decode cX5_net 15 = .ok (.getfield 158, 3) := by decide +kernel
theorem dX5_net_18 : decode cX5_net 18 = .ok (.iconst 4, 1) := by decide +kernel
theorem dX5_net_19 : decode cX5_net 19 = .ok (.if_icmp .lt 10, 3) := by decide +kernel
theorem dX5_net_22 : decode cX5_net 22 = .ok (.aload_n 0, 1) := by decide +kernel
theorem dX5_net_23 : decode cX5_net 23 = .ok (.bipush (-8), 2) := by decide +kernel
theorem dX5_net_25 : decode cX5_net 25 = .ok (.invokevirtual 58, 3) := by decide +kernel
theorem dX5_net_28 : decode cX5_net 28 = .ok (.ireturn, 1) := by decide +kernel
theorem dX5_net_29 : decode cX5_net 29 = .ok (.aload_n 0, 1) := by decide +kernel
theorem dX5_net_30 : decode cX5_net 30 = .ok (.getfield 17, 3) := by decide +kernel
theorem dX5_net_33 : decode cX5_net 33 = .ok (.aload_n 0, 1) := by decide +kernel
theorem dX5_net_34 : decode cX5_net 34 = .ok (.getfield 158, 3) := by decide +kernel
theorem dX5_net_37 : decode cX5_net 37 = .ok (.aaload, 1) := by decide +kernel
theorem dX5_net_38 : decode cX5_net 38 = .ok (.astore_n 2, 1) := by decide +kernel
theorem dX5_net_39 : decode cX5_net 39 = .ok (.aload_n 2, 1) := by decide +kernel
theorem dX5_net_40 : decode cX5_net 40 = .ok (.ifnonnull 10, 3) := by decide +kernel
theorem dX5_net_43 : decode cX5_net 43 = .ok (.aload_n 0, 1) := by decide +kernel
theorem dX5_net_44 : decode cX5_net 44 = .ok (.bipush (-8), 2) := by decide +kernel
theorem dX5_net_46 : decode cX5_net 46 = .ok (.invokevirtual 58, 3) := by decide +kernel
theorem dX5_net_49 : decode cX5_net 49 = .ok (.ireturn, 1) := by decide +kernel
theorem dX5_net_50 : decode cX5_net 50 = .ok (.aload_n 2, 1) := by decide +kernel
theorem dX5_net_51 : decode cX5_net 51 = .ok (.iload_n 1, 1) := by decide +kernel
theorem dX5_net_52 : decode cX5_net 52 = .ok (.invokevirtual 161, 3) := by decide +kernel
theorem dX5_net_55 : decode cX5_net 55 = .ok (.aload_n 0, 1) := by decide +kernel
theorem dX5_net_56 : decode cX5_net 56 = .ok (.dup, 1) := by decide +kernel
theorem dX5_net_57 : decode cX5_net 57 = .ok (.getfield 158, 3) := by decide +kernel
theorem dX5_net_60 : decode cX5_net 60 = .ok (.iconst 1, 1) := by decide +kernel
theorem dX5_net_61 : decode cX5_net 61 = .ok (.iadd, 1) := by decide +kernel
theorem dX5_net_62 : decode cX5_net 62 = .ok (.putfield 158, 3) := by decide +kernel
theorem dX5_net_65 : decode cX5_net 65 = .ok (.aload_n 0, 1) := by decide +kernel
theorem dX5_net_66 : decode cX5_net 66 = .ok (.getfield 158, 3) := by decide +kernel
theorem dX5_net_69 : decode cX5_net 69 = .ok (.iconst 1, 1) := by decide +kernel
theorem dX5_net_70 : decode cX5_net 70 = .ok (.isub, 1) := by decide +kernel
theorem dX5_net_71 : decode cX5_net 71 = .ok (.ireturn, 1) := by decide +kernel
theorem dX5_step_0 : decode cX5_step 0 = .ok (.aload_n 0, 1) := by decide +kernel
theorem dX5_step_1 : decode cX5_step 1 = .ok (.iload_n 1, 1) := by decide +kernel
theorem dX5_step_2 : decode cX5_step 2 = .ok (.invokevirtual 164, 3) := by decide +kernel
theorem dX5_step_5 : decode cX5_step 5 = .ok (.astore 5, 2) := by decide +kernel
theorem dX5_step_7 : decode cX5_step 7 = .ok (.aload 5, 2) := by decide +kernel
theorem dX5_step_9 : decode cX5_step 9 = .ok (.ifnonnull 10, 3) := by decide +kernel
theorem dX5_step_12 : decode cX5_step 12 = .ok (.aload_n 0, 1) := by decide +kernel
theorem dX5_step_13 : decode cX5_step 13 = .ok (.bipush (-3), 2) := by decide +kernel
theorem dX5_step_15 : decode cX5_step 15 = .ok (.invokevirtual 58, 3) := by decide +kernel
theorem dX5_step_18 : decode cX5_step 18 = .ok (.ireturn, 1) := by decide +kernel
theorem dX5_step_19 : decode cX5_step 19 = .ok (.aload 5, 2) := by decide +kernel
theorem dX5_step_21 : decode cX5_step 21 = .ok (.iload_n 2, 1) := by decide +kernel
theorem dX5_step_22 : decode cX5_step 22 = .ok (.iload_n 3, 1) := by decide +kernel
theorem dX5_step_23 : decode cX5_step 23 = .ok (.invokevirtual 168, 3) := by decide +kernel
theorem dX5_step_26 : decode cX5_step 26 = .ok (.ifCond .eq 16, 3) := by decide +kernel
theorem dX5_step_29 : decode cX5_step 29 = .ok (.iload 4, 2) := by decide +kernel
theorem dX5_step_31 : decode cX5_step 31 = .ok (.iconst 1, 1) := by decide +kernel
theorem dX5_step_32 : decode cX5_step 32 = .ok (.if_icmp .lt 10, 3) := by decide +kernel
theorem dX5_step_35 : decode cX5_step 35 = .ok (.iload 4, 2) := by decide +kernel
theorem dX5_step_37 : decode cX5_step 37 = .ok (.bipush 9, 2) := by decide +kernel
theorem dX5_step_39 : decode cX5_step 39 = .ok (.if_icmp .le 10, 3) := by decide +kernel
theorem dX5_step_42 : decode cX5_step 42 = .ok (.aload_n 0, 1) := by decide +kernel
theorem dX5_step_43 : decode cX5_step 43 = .ok (.bipush (-7), 2) := by decide +kernel
theorem dX5_step_45 : decode cX5_step 45 = .ok (.invokevirtual 58, 3) := by decide +kernel
theorem dX5_step_48 : decode cX5_step 48 = .ok (.ireturn, 1) := by decide +kernel
theorem dX5_step_49 : decode cX5_step 49 = .ok (.aload 5, 2) := by decide +kernel
theorem dX5_step_51 : decode cX5_step 51 = .ok (.getfield 171, 3) := by decide +kernel
theorem dX5_step_54 : decode cX5_step 54 = .ok (.bipush 16, 2) := by decide +kernel
theorem dX5_step_56 : decode cX5_step 56 = .ok (.if_icmp .lt 10, 3) := by decide +kernel
theorem dX5_step_59 : decode cX5_step 59 = .ok (.aload_n 0, 1) := by decide +kernel
theorem dX5_step_60 : decode cX5_step 60 = .ok (.bipush (-8), 2) := by decide +kernel
theorem dX5_step_62 : decode cX5_step 62 = .ok (.invokevirtual 58, 3) := by decide +kernel
theorem dX5_step_65 : decode cX5_step 65 = .ok (.ireturn, 1) := by decide +kernel
theorem dX5_step_66 : decode cX5_step 66 = .ok (.aload 5, 2) := by decide +kernel
theorem dX5_step_68 : decode cX5_step 68 = .ok (.iload_n 2, 1) := by decide +kernel
theorem dX5_step_69 : decode cX5_step 69 = .ok (.iload_n 3, 1) := by decide +kernel
theorem dX5_step_70 : decode cX5_step 70 = .ok (.iload 4, 2) := by decide +kernel
theorem dX5_step_72 : decode cX5_step 72 = .ok (.invokevirtual 174, 3) := by decide +kernel
theorem dX5_step_75 : decode cX5_step 75 = .ok (.aload 5, 2) := by decide +kernel
theorem dX5_step_77 : decode cX5_step 77 = .ok (.getfield 171, 3) := by decide +kernel
theorem dX5_step_80 : decode cX5_step 80 = .ok (.ireturn, 1) := by decide +kernel
theorem dX5_back_0 : decode cX5_back 0 = .ok (.aload_n 0, 1) := by decide +kernel
theorem dX5_back_1 : decode cX5_back 1 = .ok (.iload_n 1, 1) := by decide +kernel
theorem dX5_back_2 : decode cX5_back 2 = .ok (.invokevirtual 164, 3) := by decide +kernel
theorem dX5_back_5 : decode cX5_back 5 = .ok (.astore_n 2, 1) := by decide +kernel
theorem dX5_back_6 : decode cX5_back 6 = .ok (.aload_n 2, 1) := by decide +kernel
theorem dX5_back_7 : decode cX5_back 7 = .ok (.ifnonnull 10, 3) := by decide +kernel
theorem dX5_back_10 : decode cX5_back 10 = .ok (.aload_n 0, 1) := by decide +kernel
theorem dX5_back_11 : decode cX5_back 11 = .ok (.bipush (-3), 2) := by decide +kernel
theorem dX5_back_13 : decode cX5_back 13 = .ok (.invokevirtual 58, 3) := by decide +kernel
theorem dX5_back_16 : decode cX5_back 16 = .ok (.ireturn, 1) := by decide +kernel
theorem dX5_back_17 : decode cX5_back 17 = .ok (.aload_n 2, 1) := by decide +kernel
theorem dX5_back_18 : decode cX5_back 18 = .ok (.getfield 171, 3) := by decide +kernel
theorem dX5_back_21 : decode cX5_back 21 = .ok (.ifCond .ne 10, 3) := by decide +kernel
theorem dX5_back_24 : decode cX5_back 24 = .ok (.aload_n 0, 1) := by decide +kernel
theorem dX5_back_25 : decode cX5_back 25 = .ok (.bipush (-2), 2) := by decide +kernel
theorem dX5_back_27 : decode cX5_back 27 = .ok (.invokevirtual 58, 3) := by decide +kernel
theorem dX5_back_30 : decode cX5_back 30 = .ok (.ireturn, 1) := by decide +kernel
theorem dX5_back_31 : decode cX5_back 31 = .ok (.aload_n 2, 1) := by decide +kernel
theorem dX5_back_32 : decode cX5_back 32 = .ok (.dup, 1) := by decide +kernel
theorem dX5_back_33 : decode cX5_back 33 = .ok (.getfield 171, 3) := by decide +kernel
theorem dX5_back_36 : decode cX5_back 36 = .ok (.iconst 1, 1) := by decide +kernel
theorem dX5_back_37 : decode cX5_back 37 = .ok (.isub, 1) := by decide +kernel
theorem dX5_back_38 : decode cX5_back 38 = .ok (.putfield 171, 3) := by decide +kernel
theorem dX5_back_41 : decode cX5_back 41 = .ok (.aload_n 2, 1) := by decide +kernel
theorem dX5_back_42 : decode cX5_back 42 = .ok (.getfield 171, 3) := by decide +kernel
theorem dX5_back_45 : decode cX5_back 45 = .ok (.ireturn, 1) := by decide +kernel
theorem dX5_made_0 : decode cX5_made 0 = .ok (.aload_n 0, 1) := by decide +kernel
theorem dX5_made_1 : decode cX5_made 1 = .ok (.iload_n 1, 1) := by decide +kernel
theorem dX5_made_2 : decode cX5_made 2 = .ok (.invokevirtual 164, 3) := by decide +kernel
theorem dX5_made_5 : decode cX5_made 5 = .ok (.astore_n 2, 1) := by decide +kernel
theorem dX5_made_6 : decode cX5_made 6 = .ok (.aload_n 2, 1) := by decide +kernel
theorem dX5_made_7 : decode cX5_made 7 = .ok (.ifnonnull 10, 3) := by decide +kernel
theorem dX5_made_10 : decode cX5_made 10 = .ok (.aload_n 0, 1) := by decide +kernel
theorem dX5_made_11 : decode cX5_made 11 = .ok (.bipush (-3), 2) := by decide +kernel
theorem dX5_made_13 : decode cX5_made 13 = .ok (.invokevirtual 58, 3) := by decide +kernel
theorem dX5_made_16 : decode cX5_made 16 = .ok (.ireturn, 1) := by decide +kernel
theorem dX5_made_17 : decode cX5_made 17 = .ok (.aload_n 0, 1) := by decide +kernel
theorem dX5_made_18 : decode cX5_made 18 = .ok (.invokevirtual 62, 3) := by decide +kernel
theorem dX5_made_21 : decode cX5_made 21 = .ok (.astore_n 3, 1) := by decide +kernel
theorem dX5_made_22 : decode cX5_made 22 = .ok (.aload_n 3, 1) := by decide +kernel
theorem dX5_made_23 : decode cX5_made 23 = .ok (.ifnonnull 10, 3) := by decide +kernel
theorem dX5_made_26 : decode cX5_made 26 = .ok (.aload_n 0, 1) := by decide +kernel
theorem dX5_made_27 : decode cX5_made 27 = .ok (.bipush (-8), 2) := by decide +kernel
theorem dX5_made_29 : decode cX5_made 29 = .ok (.invokevirtual 58, 3) := by decide +kernel
theorem dX5_made_32 : decode cX5_made 32 = .ok (.ireturn, 1) := by decide +kernel
theorem dX5_made_33 : decode cX5_made 33 = .ok (.aload_n 3, 1) := by decide +kernel
theorem dX5_made_34 : decode cX5_made 34 = .ok (.aload_n 2, 1) := by decide +kernel
theorem dX5_made_35 : decode cX5_made 35 = .ok (.getfield 177, 3) := by decide +kernel
theorem dX5_made_38 : decode cX5_made 38 = .ok (.aload_n 2, 1) := by decide +kernel
theorem dX5_made_39 : decode cX5_made 39 = .ok (.getfield 177, 3) := by decide +kernel
theorem dX5_made_42 : decode cX5_made 42 = .ok (.iconst 1, 1) := by decide +kernel
theorem dX5_made_43 : decode cX5_made 43 = .ok (.invokevirtual 66, 3) := by decide +kernel
theorem dX5_made_46 : decode cX5_made 46 = .ok (.aload_n 3, 1) := by decide +kernel
theorem dX5_made_47 : decode cX5_made 47 = .ok (.iload_n 1, 1) := by decide +kernel
theorem dX5_made_48 : decode cX5_made 48 = .ok (.putfield 114, 3) := by decide +kernel
theorem dX5_made_51 : decode cX5_made 51 = .ok (.iconst 0, 1) := by decide +kernel
theorem dX5_made_52 : decode cX5_made 52 = .ok (.istore 4, 2) := by decide +kernel
theorem dX5_made_54 : decode cX5_made 54 = .ok (.iload 4, 2) := by decide +kernel
theorem dX5_made_56 : decode cX5_made 56 = .ok (.aload_n 2, 1) := by decide +kernel
theorem dX5_made_57 : decode cX5_made 57 = .ok (.getfield 177, 3) := by decide +kernel
theorem dX5_made_60 : decode cX5_made 60 = .ok (.if_icmp .ge 52, 3) := by decide +kernel
theorem dX5_made_63 : decode cX5_made 63 = .ok (.iconst 0, 1) := by decide +kernel
theorem dX5_made_64 : decode cX5_made 64 = .ok (.istore 5, 2) := by decide +kernel
theorem dX5_made_66 : decode cX5_made 66 = .ok (.iload 5, 2) := by decide +kernel
theorem dX5_made_68 : decode cX5_made 68 = .ok (.aload_n 2, 1) := by decide +kernel
theorem dX5_made_69 : decode cX5_made 69 = .ok (.getfield 177, 3) := by decide +kernel
theorem dX5_made_72 : decode cX5_made 72 = .ok (.if_icmp .ge 34, 3) := by decide +kernel
theorem dX5_made_75 : decode cX5_made 75 = .ok (.aload_n 3, 1) := by decide +kernel
theorem dX5_made_76 : decode cX5_made 76 = .ok (.iload 4, 2) := by decide +kernel
theorem dX5_made_78 : decode cX5_made 78 = .ok (.iload 5, 2) := by decide +kernel
theorem dX5_made_80 : decode cX5_made 80 = .ok (.aload_n 0, 1) := by decide +kernel
theorem dX5_made_81 : decode cX5_made 81 = .ok (.getfield 41, 3) := by decide +kernel
theorem dX5_made_84 : decode cX5_made 84 = .ok (.aload_n 2, 1) := by decide +kernel
theorem dX5_made_85 : decode cX5_made 85 = .ok (.iconst 1, 1) := by decide +kernel
theorem dX5_made_86 : decode cX5_made 86 = .ok (.iload 4, 2) := by decide +kernel
theorem dX5_made_88 : decode cX5_made 88 = .ok (.ishl, 1) := by decide +kernel
theorem dX5_made_89 : decode cX5_made 89 = .ok (.iconst 1, 1) := by decide +kernel
theorem dX5_made_90 : decode cX5_made 90 = .ok (.iload 5, 2) := by decide +kernel
theorem dX5_made_92 : decode cX5_made 92 = .ok (.ishl, 1) := by decide +kernel
theorem dX5_made_93 : decode cX5_made 93 = .ok (.iconst 1, 1) := by decide +kernel
theorem dX5_made_94 : decode cX5_made 94 = .ok (.invokevirtual 180, 3) := by decide +kernel
theorem dX5_made_97 : decode cX5_made 97 = .ok (.invokevirtual 97, 3) := by decide +kernel
theorem dX5_made_100 : decode cX5_made 100 = .ok (.iinc 5 1, 3) := by decide +kernel
theorem dX5_made_103 : decode cX5_made 103 = .ok (.goto (-37), 3) := by decide +kernel
theorem dX5_made_106 : decode cX5_made 106 = .ok (.iinc 4 1, 3) := by decide +kernel
theorem dX5_made_109 : decode cX5_made 109 = .ok (.goto (-55), 3) := by decide +kernel
theorem dX5_made_112 : decode cX5_made 112 = .ok (.aload_n 0, 1) := by decide +kernel
theorem dX5_made_113 : decode cX5_made 113 = .ok (.aload_n 3, 1) := by decide +kernel
theorem dX5_made_114 : decode cX5_made 114 = .ok (.invokevirtual 70, 3) := by decide +kernel
theorem dX5_made_117 : decode cX5_made 117 = .ok (.ireturn, 1) := by decide +kernel
theorem dX5_families_0 : decode cX5_families 0 = .ok (.aload_n 0, 1) := by decide +kernel
theorem dX5_families_1 : decode cX5_families 1 = .ok (.iload_n 1, 1) := by decide +kernel
theorem dX5_families_2 : decode cX5_families 2 = .ok (.iload_n 2, 1) := by decide +kernel
theorem dX5_families_3 : decode cX5_families 3 = .ok (.iload_n 3, 1) := by decide +kernel
theorem dX5_families_4 : decode cX5_families 4 = .ok (.iconst 0, 1) := by decide +kernel
theorem dX5_families_5 : decode cX5_families 5 = .ok (.invokevirtual 184, 3) := by decide +kernel
theorem dX5_families_8 : decode cX5_families 8 = .ok (.l2i, 1) := by decide +kernel
theorem dX5_families_9 : decode cX5_families 9 = .ok (.ireturn, 1) := by decide +kernel
theorem dX5_weight_0 : decode cX5_weight 0 = .ok (.lconst 0, 1) := by decide +kernel
theorem dX5_weight_1 : decode cX5_weight 1 = .ok (.aload_n 0, 1) := by decide +kernel
theorem dX5_weight_2 : decode cX5_weight 2 = .ok (.iload_n 1, 1) := by decide +kernel
theorem dX5_weight_3 : decode cX5_weight 3 = .ok (.iload_n 2, 1) := by decide +kernel
theorem dX5_weight_4 : decode cX5_weight 4 = .ok (.iload_n 3, 1) := by decide +kernel
theorem dX5_weight_5 : decode cX5_weight 5 = .ok (.iconst 1, 1) := by decide +kernel
theorem dX5_weight_6 : decode cX5_weight 6 = .ok (.invokevirtual 184, 3) := by decide +kernel
theorem dX5_weight_9 : decode cX5_weight 9 = .ok (.invokestatic 188, 3) := by decide +kernel
theorem dX5_weight_12 : decode cX5_weight 12 = .ok (.lreturn, 1) := by decide +kernel
theorem dX5_family_0 : decode cX5_family 0 = .ok (.aload_n 0, 1) := by decide +kernel
theorem dX5_family_1 : decode cX5_family 1 = .ok (.iload_n 1, 1) := by decide +kernel
theorem dX5_family_2 : decode cX5_family 2 = .ok (.iload_n 2, 1) := by decide +kernel
theorem dX5_family_3 : decode cX5_family 3 = .ok (.iload_n 3, 1) := by decide +kernel
theorem dX5_family_4 : decode cX5_family 4 = .ok (.iconst 0, 1) := by decide +kernel
theorem dX5_family_5 : decode cX5_family 5 = .ok (.invokevirtual 184, 3) := by decide +kernel
theorem dX5_family_8 : decode cX5_family 8 = .ok (.lstore 5, 2) := by decide +kernel
theorem dX5_family_10 : decode cX5_family 10 = .ok (.lload 5, 2) := by decide +kernel
theorem dX5_family_12 : decode cX5_family 12 = .ok (.lconst 0, 1) := by decide +kernel
theorem dX5_family_13 : decode cX5_family 13 = .ok (.lcmp, 1) := by decide +kernel
theorem dX5_family_14 : decode cX5_family 14 = .ok (.ifCond .ge 7, 3) := by decide +kernel
theorem dX5_family_17 : decode cX5_family 17 = .ok (.lload 5, 2) := by decide +kernel
theorem dX5_family_19 : decode cX5_family 19 = .ok (.l2i, 1) := by decide +kernel
theorem dX5_family_20 : decode cX5_family 20 = .ok (.ireturn, 1) := by decide +kernel
theorem dX5_family_21 : decode cX5_family 21 = .ok (.aload_n 0, 1) := by decide +kernel
theorem dX5_family_22 : decode cX5_family 22 = .ok (.iload_n 1, 1) := by decide +kernel
theorem dX5_family_23 : decode cX5_family 23 = .ok (.invokevirtual 164, 3) := by decide +kernel
theorem dX5_family_26 : decode cX5_family 26 = .ok (.astore 7, 2) := by decide +kernel
theorem dX5_family_28 : decode cX5_family 28 = .ok (.iload 4, 2) := by decide +kernel
theorem dX5_family_30 : decode cX5_family 30 = .ok (.bipush 20, 2) := by decide +kernel
theorem dX5_family_32 : decode cX5_family 32 = .ok (.ishr, 1) := by decide +kernel
theorem dX5_family_33 : decode cX5_family 33 = .ok (.istore 8, 2) := by decide +kernel
theorem dX5_family_35 : decode cX5_family 35 = .ok (.iload 4, 2) := by decide +kernel
theorem dX5_family_37 : decode cX5_family 37 = .ok (.ldc 194, 2) := by decide +kernel
theorem dX5_family_39 : decode cX5_family 39 = .ok (.iand, 1) := by decide +kernel
theorem dX5_family_40 : decode cX5_family 40 = .ok (.istore 9, 2) := by decide +kernel
theorem dX5_family_42 : decode cX5_family 42 = .ok (.aload 7, 2) := by decide +kernel
theorem dX5_family_44 : decode cX5_family 44 = .ok (.ifnull 27, 3) := by decide +kernel
theorem dX5_family_47 : decode cX5_family 47 = .ok (.iload 8, 2) := by decide +kernel
theorem dX5_family_49 : decode cX5_family 49 = .ok (.ifCond .lt 22, 3) := by decide +kernel
theorem dX5_family_52 : decode cX5_family 52 = .ok (.iload 8, 2) := by decide +kernel
theorem dX5_family_54 : decode cX5_family 54 = .ok (.aload 7, 2) := by decide +kernel
theorem dX5_family_56 : decode cX5_family 56 = .ok (.getfield 171, 3) := by decide +kernel
theorem dX5_family_59 : decode cX5_family 59 = .ok (.if_icmp .gt 12, 3) := by decide +kernel
theorem dX5_family_62 : decode cX5_family 62 = .ok (.iload 9, 2) := by decide +kernel
theorem dX5_family_64 : decode cX5_family 64 = .ok (.i2l, 1) := by decide +kernel
theorem dX5_family_65 : decode cX5_family 65 = .ok (.lload 5, 2) := by decide +kernel
theorem dX5_family_67 : decode cX5_family 67 = .ok (.lcmp, 1) := by decide +kernel
theorem dX5_family_68 : decode cX5_family 68 = .ok (.ifCond .lt 10, 3) := by decide +kernel
theorem dX5_family_71 : decode cX5_family 71 = .ok (.aload_n 0, 1) := by decide +kernel
theorem dX5_family_72 : decode cX5_family 72 = .ok (.bipush (-3), 2) := by decide +kernel
theorem dX5_family_74 : decode cX5_family 74 = .ok (.invokevirtual 58, 3) := by decide +kernel
theorem dX5_family_77 : decode cX5_family 77 = .ok (.ireturn, 1) := by decide +kernel
theorem dX5_family_78 : decode cX5_family 78 = .ok (.aload_n 0, 1) := by decide +kernel
theorem dX5_family_79 : decode cX5_family 79 = .ok (.getfield 41, 3) := by decide +kernel
theorem dX5_family_82 : decode cX5_family 82 = .ok (.aload 7, 2) := by decide +kernel
theorem dX5_family_84 : decode cX5_family 84 = .ok (.iload_n 2, 1) := by decide +kernel
theorem dX5_family_85 : decode cX5_family 85 = .ok (.iload 8, 2) := by decide +kernel
theorem dX5_family_87 : decode cX5_family 87 = .ok (.iload 9, 2) := by decide +kernel
theorem dX5_family_89 : decode cX5_family 89 = .ok (.invokevirtual 195, 3) := by decide +kernel
theorem dX5_family_92 : decode cX5_family 92 = .ok (.ireturn, 1) := by decide +kernel
theorem dX5_unnet_0 : decode cX5_unnet 0 = .ok (.aload_n 0, 1) := by decide +kernel
theorem dX5_unnet_1 : decode cX5_unnet 1 = .ok (.getfield 158, 3) := by decide +kernel
theorem dX5_unnet_4 : decode cX5_unnet 4 = .ok (.ifCond .ne 10, 3) := by decide +kernel
theorem dX5_unnet_7 : decode cX5_unnet 7 = .ok (.aload_n 0, 1) := by decide +kernel
theorem dX5_unnet_8 : decode cX5_unnet 8 = .ok (.bipush (-2), 2) := by decide +kernel
theorem dX5_unnet_10 : decode cX5_unnet 10 = .ok (.invokevirtual 58, 3) := by decide +kernel
theorem dX5_unnet_13 : decode cX5_unnet 13 = .ok (.ireturn, 1) := by decide +kernel
theorem dX5_unnet_14 : decode cX5_unnet 14 = .ok (.aload_n 0, 1) := by decide +kernel
theorem dX5_unnet_15 : decode cX5_unnet 15 = .ok (.dup, 1) := by decide +kernel
theorem dX5_unnet_16 : decode cX5_unnet 16 = .ok (.getfield 158, 3) := by decide +kernel
theorem dX5_unnet_19 : decode cX5_unnet 19 = .ok (.iconst 1, 1) := by decide +kernel
theorem dX5_unnet_20 : decode cX5_unnet 20 = .ok (.isub, 1) := by decide +kernel
theorem dX5_unnet_21 : decode cX5_unnet 21 = .ok (.putfield 158, 3) := by decide +kernel
theorem dX5_unnet_24 : decode cX5_unnet 24 = .ok (.aload_n 0, 1) := by decide +kernel
theorem dX5_unnet_25 : decode cX5_unnet 25 = .ok (.getfield 158, 3) := by decide +kernel
theorem dX5_unnet_28 : decode cX5_unnet 28 = .ok (.ireturn, 1) := by decide +kernel
theorem dX5_tell_0 : decode cX5_tell 0 = .ok (.iload_n 1, 1) := by decide +kernel
theorem dX5_tell_1 : decode cX5_tell 1 = .ok (.ifCond .lt 9, 3) := by decide +kernel
theorem dX5_tell_4 : decode cX5_tell 4 = .ok (.iload_n 1, 1) := by decide +kernel
theorem dX5_tell_5 : decode cX5_tell 5 = .ok (.bipush 16, 2) := by decide +kernel
theorem dX5_tell_7 : decode cX5_tell 7 = .ok (.if_icmp .lt 10, 3) := by decide +kernel
theorem dX5_tell_10 : decode cX5_tell 10 = .ok (.aload_n 0, 1) := by decide +kernel
theorem dX5_tell_11 : decode cX5_tell 11 = .ok (.bipush (-3), 2) := by decide +kernel
theorem dX5_tell_13 : decode cX5_tell 13 = .ok (.invokevirtual 58, 3) := by decide +kernel
theorem dX5_tell_16 : decode cX5_tell 16 = .ok (.ireturn, 1) := by decide +kernel
theorem dX5_tell_17 : decode cX5_tell 17 = .ok (.iload_n 2, 1) := by decide +kernel
theorem dX5_tell_18 : decode cX5_tell 18 = .ok (.i2l, 1) := by decide +kernel
theorem dX5_tell_19 : decode cX5_tell 19 = .ok (.invokestatic 89, 3) := by decide +kernel
theorem dX5_tell_22 : decode cX5_tell 22 = .ok (.ifCond .ne 10, 3) := by decide +kernel
theorem dX5_tell_25 : decode cX5_tell 25 = .ok (.aload_n 0, 1) := by decide +kernel
theorem dX5_tell_26 : decode cX5_tell 26 = .ok (.bipush (-7), 2) := by decide +kernel
theorem dX5_tell_28 : decode cX5_tell 28 = .ok (.invokevirtual 58, 3) := by decide +kernel
theorem dX5_tell_31 : decode cX5_tell 31 = .ok (.ireturn, 1) := by decide +kernel
theorem dX5_tell_32 : decode cX5_tell 32 = .ok (.aload_n 0, 1) := by decide +kernel
theorem dX5_tell_33 : decode cX5_tell 33 = .ok (.getfield 199, 3) := by decide +kernel
theorem dX5_tell_36 : decode cX5_tell 36 = .ok (.ifCond .ne 7, 3) := by decide +kernel
theorem dX5_tell_39 : decode cX5_tell 39 = .ok (.aload_n 0, 1) := by decide +kernel
theorem dX5_tell_40 : decode cX5_tell 40 = .ok (.invokevirtual 203, 3) := by decide +kernel
theorem dX5_tell_43 : decode cX5_tell 43 = .ok (.aload_n 0, 1) := by decide +kernel
theorem dX5_tell_44 : decode cX5_tell 44 = .ok (.getfield 21, 3) := by decide +kernel
theorem dX5_tell_47 : decode cX5_tell 47 = .ok (.iload_n 1, 1) := by decide +kernel
theorem dX5_tell_48 : decode cX5_tell 48 = .ok (.iload_n 2, 1) := by decide +kernel
theorem dX5_tell_49 : decode cX5_tell 49 = .ok (.iastore, 1) := by decide +kernel
theorem dX5_tell_50 : decode cX5_tell 50 = .ok (.iconst 1, 1) := by decide +kernel
theorem dX5_tell_51 : decode cX5_tell 51 = .ok (.ireturn, 1) := by decide +kernel
theorem dX5_changes_0 : decode cX5_changes 0 = .ok (.aload_n 0, 1) := by decide +kernel
theorem dX5_changes_1 : decode cX5_changes 1 = .ok (.iload_n 1, 1) := by decide +kernel
theorem dX5_changes_2 : decode cX5_changes 2 = .ok (.invokevirtual 74, 3) := by decide +kernel
theorem dX5_changes_5 : decode cX5_changes 5 = .ok (.astore_n 2, 1) := by decide +kernel
theorem dX5_changes_6 : decode cX5_changes 6 = .ok (.aload_n 2, 1) := by decide +kernel
theorem dX5_changes_7 : decode cX5_changes 7 = .ok (.ifnonnull 10, 3) := by decide +kernel
theorem dX5_changes_10 : decode cX5_changes 10 = .ok (.aload_n 0, 1) := by decide +kernel
theorem dX5_changes_11 : decode cX5_changes 11 = .ok (.bipush (-3), 2) := by decide +kernel
theorem dX5_changes_13 : decode cX5_changes 13 = .ok (.invokevirtual 58, 3) := by decide +kernel
theorem dX5_changes_16 : decode cX5_changes 16 = .ok (.ireturn, 1) := by decide +kernel
theorem dX5_changes_17 : decode cX5_changes 17 = .ok (.aload_n 0, 1) := by decide +kernel
theorem dX5_changes_18 : decode cX5_changes 18 = .ok (.getfield 199, 3) := by decide +kernel
theorem dX5_changes_21 : decode cX5_changes 21 = .ok (.ifCond .ne 10, 3) := by decide +kernel
theorem dX5_changes_24 : decode cX5_changes 24 = .ok (.aload_n 0, 1) := by decide +kernel
theorem dX5_changes_25 : decode cX5_changes 25 = .ok (.bipush (-2), 2) := by decide +kernel
theorem dX5_changes_27 : decode cX5_changes 27 = .ok (.invokevirtual 58, 3) := by decide +kernel
theorem dX5_changes_30 : decode cX5_changes 30 = .ok (.ireturn, 1) := by decide +kernel
theorem dX5_changes_31 : decode cX5_changes 31 = .ok (.iconst 0, 1) := by decide +kernel
theorem dX5_changes_32 : decode cX5_changes 32 = .ok (.istore_n 3, 1) := by decide +kernel
theorem dX5_changes_33 : decode cX5_changes 33 = .ok (.iload_n 3, 1) := by decide +kernel
theorem dX5_changes_34 : decode cX5_changes 34 = .ok (.aload_n 2, 1) := by decide +kernel
theorem dX5_changes_35 : decode cX5_changes 35 = .ok (.getfield 101, 3) := by decide +kernel
theorem dX5_changes_38 : decode cX5_changes 38 = .ok (.if_icmp .ge 58, 3) := by decide +kernel
theorem dX5_changes_41 : decode cX5_changes 41 = .ok (.aload_n 0, 1) := by decide +kernel
theorem dX5_changes_42 : decode cX5_changes 42 = .ok (.getfield 25, 3) := by decide +kernel
theorem dX5_changes_45 : decode cX5_changes 45 = .ok (.iload_n 3, 1) := by decide +kernel
theorem dX5_changes_46 : decode cX5_changes 46 = .ok (.iconst 0, 1) := by decide +kernel
theorem dX5_changes_47 : decode cX5_changes 47 = .ok (.iastore, 1) := by decide +kernel
theorem dX5_changes_48 : decode cX5_changes 48 = .ok (.iconst 0, 1) := by decide +kernel
theorem dX5_changes_49 : decode cX5_changes 49 = .ok (.istore 4, 2) := by decide +kernel
theorem dX5_changes_51 : decode cX5_changes 51 = .ok (.iload 4, 2) := by decide +kernel
theorem dX5_changes_53 : decode cX5_changes 53 = .ok (.aload_n 2, 1) := by decide +kernel
theorem dX5_changes_54 : decode cX5_changes 54 = .ok (.getfield 104, 3) := by decide +kernel
theorem dX5_changes_57 : decode cX5_changes 57 = .ok (.if_icmp .ge 33, 3) := by decide +kernel
theorem dX5_changes_60 : decode cX5_changes 60 = .ok (.aload_n 0, 1) := by decide +kernel
theorem dX5_changes_61 : decode cX5_changes 61 = .ok (.getfield 25, 3) := by decide +kernel
theorem dX5_changes_64 : decode cX5_changes 64 = .ok (.iload_n 3, 1) := by decide +kernel
theorem dX5_changes_65 : decode cX5_changes 65 = .ok (.dup2, 1) := by decide +kernel
theorem dX5_changes_66 : decode cX5_changes 66 = .ok (.iaload, 1) := by decide +kernel
theorem dX5_changes_67 : decode cX5_changes 67 = .ok (.aload_n 2, 1) := by decide +kernel
theorem dX5_changes_68 : decode cX5_changes 68 = .ok (.iload_n 3, 1) := by decide +kernel
theorem dX5_changes_69 : decode cX5_changes 69 = .ok (.iload 4, 2) := by decide +kernel
theorem dX5_changes_71 : decode cX5_changes 71 = .ok (.invokevirtual 93, 3) := by decide +kernel
theorem dX5_changes_74 : decode cX5_changes 74 = .ok (.aload_n 0, 1) := by decide +kernel
theorem dX5_changes_75 : decode cX5_changes 75 = .ok (.getfield 21, 3) := by decide +kernel
theorem dX5_changes_78 : decode cX5_changes 78 = .ok (.iload 4, 2) := by decide +kernel
theorem dX5_changes_80 : decode cX5_changes 80 = .ok (.iaload, 1) := by decide +kernel
theorem dX5_changes_81 : decode cX5_changes 81 = .ok (.imul, 1) := by decide +kernel
theorem dX5_changes_82 : decode cX5_changes 82 = .ok (.iadd, 1) := by decide +kernel
theorem dX5_changes_83 : decode cX5_changes 83 = .ok (.iastore, 1) := by decide +kernel
theorem dX5_changes_84 : decode cX5_changes 84 = .ok (.iinc 4 1, 3) := by decide +kernel
theorem dX5_changes_87 : decode cX5_changes 87 = .ok (.goto (-36), 3) := by decide +kernel
theorem dX5_changes_90 : decode cX5_changes 90 = .ok (.iinc 3 1, 3) := by decide +kernel
theorem dX5_changes_93 : decode cX5_changes 93 = .ok (.goto (-60), 3) := by decide +kernel
theorem dX5_changes_96 : decode cX5_changes 96 = .ok (.bipush 10, 2) := by decide +kernel
theorem dX5_changes_98 : decode cX5_changes 98 = .ok (.aload_n 0, 1) := by decide +kernel
theorem dX5_changes_99 : decode cX5_changes 99 = .ok (.getfield 21, 3) := by decide +kernel
theorem dX5_changes_102 : decode cX5_changes 102 = .ok (.aload_n 2, 1) := by decide +kernel
theorem dX5_changes_103 : decode cX5_changes 103 = .ok (.getfield 104, 3) := by decide +kernel
theorem dX5_changes_106 : decode cX5_changes 106 = .ok (.invokestatic 206, 3) := by decide +kernel
theorem dX5_changes_109 : decode cX5_changes 109 = .ok (.imul, 1) := by decide +kernel
theorem dX5_changes_110 : decode cX5_changes 110 = .ok (.aload_n 0, 1) := by decide +kernel
theorem dX5_changes_111 : decode cX5_changes 111 = .ok (.getfield 25, 3) := by decide +kernel
theorem dX5_changes_114 : decode cX5_changes 114 = .ok (.aload_n 2, 1) := by decide +kernel
theorem dX5_changes_115 : decode cX5_changes 115 = .ok (.getfield 101, 3) := by decide +kernel
theorem dX5_changes_118 : decode cX5_changes 118 = .ok (.invokestatic 206, 3) := by decide +kernel
theorem dX5_changes_121 : decode cX5_changes 121 = .ok (.iadd, 1) := by decide +kernel
theorem dX5_changes_122 : decode cX5_changes 122 = .ok (.ireturn, 1) := by decide +kernel
theorem dX5_band_0 : decode cX5_band 0 = .ok (.aload_n 0, 1) := by decide +kernel
theorem dX5_band_1 : decode cX5_band 1 = .ok (.getfield 199, 3) := by decide +kernel
theorem dX5_band_4 : decode cX5_band 4 = .ok (.ifCond .ne 10, 3) := by decide +kernel
theorem dX5_band_7 : decode cX5_band 7 = .ok (.aload_n 0, 1) := by decide +kernel
theorem dX5_band_8 : decode cX5_band 8 = .ok (.bipush (-2), 2) := by decide +kernel
theorem dX5_band_10 : decode cX5_band 10 = .ok (.invokevirtual 58, 3) := by decide +kernel
theorem dX5_band_13 : decode cX5_band 13 = .ok (.ireturn, 1) := by decide +kernel
theorem dX5_band_14 : decode cX5_band 14 = .ok (.iload_n 1, 1) := by decide +kernel
theorem dX5_band_15 : decode cX5_band 15 = .ok (.invokestatic 54, 3) := by decide +kernel
theorem dX5_band_18 : decode cX5_band 18 = .ok (.ifCond .eq 10, 3) := by decide +kernel
theorem dX5_band_21 : decode cX5_band 21 = .ok (.iload_n 2, 1) := by decide +kernel
theorem dX5_band_22 : decode cX5_band 22 = .ok (.invokestatic 54, 3) := by decide +kernel
theorem dX5_band_25 : decode cX5_band 25 = .ok (.ifCond .ne 10, 3) := by decide +kernel
theorem dX5_band_28 : decode cX5_band 28 = .ok (.aload_n 0, 1) := by decide +kernel
theorem dX5_band_29 : decode cX5_band 29 = .ok (.bipush (-7), 2) := by decide +kernel
theorem dX5_band_31 : decode cX5_band 31 = .ok (.invokevirtual 58, 3) := by decide +kernel
theorem dX5_band_34 : decode cX5_band 34 = .ok (.ireturn, 1) := by decide +kernel
theorem dX5_band_35 : decode cX5_band 35 = .ok (.aload_n 0, 1) := by decide +kernel
theorem dX5_band_36 : decode cX5_band 36 = .ok (.invokevirtual 62, 3) := by decide +kernel
theorem dX5_band_39 : decode cX5_band 39 = .ok (.astore_n 3, 1) := by decide +kernel
theorem dX5_band_40 : decode cX5_band 40 = .ok (.aload_n 3, 1) := by decide +kernel
theorem dX5_band_41 : decode cX5_band 41 = .ok (.ifnonnull 10, 3) := by decide +kernel
theorem dX5_band_44 : decode cX5_band 44 = .ok (.aload_n 0, 1) := by decide +kernel
theorem dX5_band_45 : decode cX5_band 45 = .ok (.bipush (-8), 2) := by decide +kernel
theorem dX5_band_47 : decode cX5_band 47 = .ok (.invokevirtual 58, 3) := by decide +kernel
theorem dX5_band_50 : decode cX5_band 50 = .ok (.ireturn, 1) := by decide +kernel
theorem dX5_band_51 : decode cX5_band 51 = .ok (.aload_n 3, 1) := by decide +kernel
theorem dX5_band_52 : decode cX5_band 52 = .ok (.iload_n 1, 1) := by decide +kernel
theorem dX5_band_53 : decode cX5_band 53 = .ok (.iload_n 1, 1) := by decide +kernel
theorem dX5_band_54 : decode cX5_band 54 = .ok (.iconst 2, 1) := by decide +kernel
theorem dX5_band_55 : decode cX5_band 55 = .ok (.invokevirtual 66, 3) := by decide +kernel
theorem dX5_band_58 : decode cX5_band 58 = .ok (.iconst 0, 1) := by decide +kernel
theorem dX5_band_59 : decode cX5_band 59 = .ok (.istore 4, 2) := by decide +kernel
theorem dX5_band_61 : decode cX5_band 61 = .ok (.iload 4, 2) := by decide +kernel
theorem dX5_band_63 : decode cX5_band 63 = .ok (.iload_n 1, 1) := by decide +kernel
theorem dX5_band_64 : decode cX5_band 64 = .ok (.if_icmp .ge 53, 3) := by decide +kernel
theorem dX5_band_67 : decode cX5_band 67 = .ok (.iload 4, 2) := by decide +kernel
theorem dX5_band_69 : decode cX5_band 69 = .ok (.istore 5, 2) := by decide +kernel
theorem dX5_band_71 : decode cX5_band 71 = .ok (.iload 5, 2) := by decide +kernel
theorem dX5_band_73 : decode cX5_band 73 = .ok (.iload_n 1, 1) := by decide +kernel
theorem dX5_band_74 : decode cX5_band 74 = .ok (.if_icmp .ge 37, 3) := by decide +kernel
theorem dX5_band_77 : decode cX5_band 77 = .ok (.iload 5, 2) := by decide +kernel
theorem dX5_band_79 : decode cX5_band 79 = .ok (.iload 4, 2) := by decide +kernel
theorem dX5_band_81 : decode cX5_band 81 = .ok (.isub, 1) := by decide +kernel
theorem dX5_band_82 : decode cX5_band 82 = .ok (.iload_n 2, 1) := by decide +kernel
theorem dX5_band_83 : decode cX5_band 83 = .ok (.if_icmp .ge 28, 3) := by decide +kernel
theorem dX5_band_86 : decode cX5_band 86 = .ok (.aload_n 3, 1) := by decide +kernel
theorem dX5_band_87 : decode cX5_band 87 = .ok (.iload 4, 2) := by decide +kernel
theorem dX5_band_89 : decode cX5_band 89 = .ok (.iload 5, 2) := by decide +kernel
theorem dX5_band_91 : decode cX5_band 91 = .ok (.aload_n 0, 1) := by decide +kernel
theorem dX5_band_92 : decode cX5_band 92 = .ok (.getfield 21, 3) := by decide +kernel
theorem dX5_band_95 : decode cX5_band 95 = .ok (.iload 5, 2) := by decide +kernel
theorem dX5_band_97 : decode cX5_band 97 = .ok (.iload 4, 2) := by decide +kernel
theorem dX5_band_99 : decode cX5_band 99 = .ok (.isub, 1) := by decide +kernel
theorem dX5_band_100 : decode cX5_band 100 = .ok (.iaload, 1) := by decide +kernel
theorem dX5_band_101 : decode cX5_band 101 = .ok (.i2l, 1) := by decide +kernel
theorem dX5_band_102 : decode cX5_band 102 = .ok (.invokevirtual 97, 3) := by decide +kernel
theorem dX5_band_105 : decode cX5_band 105 = .ok (.iinc 5 1, 3) := by decide +kernel
theorem dX5_band_108 : decode cX5_band 108 = .ok (.goto (-37), 3) := by decide +kernel
theorem dX5_band_111 : decode cX5_band 111 = .ok (.iinc 4 1, 3) := by decide +kernel
theorem dX5_band_114 : decode cX5_band 114 = .ok (.goto (-53), 3) := by decide +kernel
theorem dX5_band_117 : decode cX5_band 117 = .ok (.aload_n 0, 1) := by decide +kernel
theorem dX5_band_118 : decode cX5_band 118 = .ok (.aload_n 3, 1) := by decide +kernel
theorem dX5_band_119 : decode cX5_band 119 = .ok (.invokevirtual 70, 3) := by decide +kernel
theorem dX5_band_122 : decode cX5_band 122 = .ok (.ireturn, 1) := by decide +kernel
theorem dX5_make_0 : decode cX5_make 0 = .ok (.aload_n 0, 1) := by decide +kernel
theorem dX5_make_1 : decode cX5_make 1 = .ok (.iload_n 1, 1) := by decide +kernel
theorem dX5_make_2 : decode cX5_make 2 = .ok (.invokevirtual 74, 3) := by decide +kernel
theorem dX5_make_5 : decode cX5_make 5 = .ok (.astore_n 2, 1) := by decide +kernel
theorem dX5_make_6 : decode cX5_make 6 = .ok (.aload_n 2, 1) := by decide +kernel
theorem dX5_make_7 : decode cX5_make 7 = .ok (.ifnonnull 10, 3) := by decide +kernel
theorem dX5_make_10 : decode cX5_make 10 = .ok (.aload_n 0, 1) := by decide +kernel
theorem dX5_make_11 : decode cX5_make 11 = .ok (.bipush (-3), 2) := by decide +kernel
theorem dX5_make_13 : decode cX5_make 13 = .ok (.invokevirtual 58, 3) := by decide +kernel
theorem dX5_make_16 : decode cX5_make 16 = .ok (.ireturn, 1) := by decide +kernel
theorem dX5_make_17 : decode cX5_make 17 = .ok (.aload_n 2, 1) := by decide +kernel
theorem dX5_make_18 : decode cX5_make 18 = .ok (.getfield 101, 3) := by decide +kernel
theorem dX5_make_21 : decode cX5_make 21 = .ok (.aload_n 2, 1) := by decide +kernel
theorem dX5_make_22 : decode cX5_make 22 = .ok (.getfield 104, 3) := by decide +kernel
theorem dX5_make_25 : decode cX5_make 25 = .ok (.if_icmp .ne 11, 3) := by decide +kernel
theorem dX5_make_28 : decode cX5_make 28 = .ok (.aload_n 2, 1) := by decide +kernel
theorem dX5_make_29 : decode cX5_make 29 = .ok (.getfield 101, 3) := by decide +kernel
theorem dX5_make_32 : decode cX5_make 32 = .ok (.iconst 3, 1) := by decide +kernel
theorem dX5_make_33 : decode cX5_make 33 = .ok (.if_icmp .le 10, 3) := by decide +kernel
theorem dX5_make_36 : decode cX5_make 36 = .ok (.aload_n 0, 1) := by decide +kernel
theorem dX5_make_37 : decode cX5_make 37 = .ok (.bipush (-7), 2) := by decide +kernel
theorem dX5_make_39 : decode cX5_make 39 = .ok (.invokevirtual 58, 3) := by decide +kernel
theorem dX5_make_42 : decode cX5_make 42 = .ok (.ireturn, 1) := by decide +kernel
theorem dX5_make_43 : decode cX5_make 43 = .ok (.aload_n 0, 1) := by decide +kernel
theorem dX5_make_44 : decode cX5_make 44 = .ok (.getfield 48, 3) := by decide +kernel
theorem dX5_make_47 : decode cX5_make 47 = .ok (.aload_n 2, 1) := by decide +kernel
theorem dX5_make_48 : decode cX5_make 48 = .ok (.invokevirtual 210, 3) := by decide +kernel
theorem dX5_make_51 : decode cX5_make 51 = .ok (.ireturn, 1) := by decide +kernel
theorem dX5_making_0 : decode cX5_making 0 = .ok (.iload_n 1, 1) := by decide +kernel
theorem dX5_making_1 : decode cX5_making 1 = .ok (.ifCond .lt 14, 3) := by decide +kernel
theorem dX5_making_4 : decode cX5_making 4 = .ok (.iload_n 1, 1) := by decide +kernel
theorem dX5_making_5 : decode cX5_making 5 = .ok (.aload_n 0, 1) := by decide +kernel
theorem dX5_making_6 : decode cX5_making 6 = .ok (.getfield 48, 3) := by decide +kernel
theorem dX5_making_9 : decode cX5_making 9 = .ok (.getfield 213, 3) := by decide +kernel
theorem dX5_making_12 : decode cX5_making 12 = .ok (.if_icmp .lt 11, 3) := by decide +kernel
theorem dX5_making_15 : decode cX5_making 15 = .ok (.aload_n 0, 1) := by decide +kernel
theorem dX5_making_16 : decode cX5_making 16 = .ok (.bipush (-3), 2) := by decide +kernel
theorem dX5_making_18 : decode cX5_making 18 = .ok (.invokevirtual 82, 3) := by decide +kernel
theorem dX5_making_21 : decode cX5_making 21 = .ok (.i2l, 1) := by decide +kernel
theorem dX5_making_22 : decode cX5_making 22 = .ok (.lreturn, 1) := by decide +kernel
theorem dX5_making_23 : decode cX5_making 23 = .ok (.iload_n 2, 1) := by decide +kernel
theorem dX5_making_24 : decode cX5_making 24 = .ok (.tableswitch 74 0 3 #[32, 43, 54, 64], 32) := by decide +kernel
theorem dX5_making_56 : decode cX5_making 56 = .ok (.aload_n 0, 1) := by decide +kernel
theorem dX5_making_57 : decode cX5_making 57 = .ok (.getfield 48, 3) := by decide +kernel
theorem dX5_making_60 : decode cX5_making 60 = .ok (.getfield 214, 3) := by decide +kernel
theorem dX5_making_63 : decode cX5_making 63 = .ok (.iload_n 1, 1) := by decide +kernel
theorem dX5_making_64 : decode cX5_making 64 = .ok (.iaload, 1) := by decide +kernel
theorem dX5_making_65 : decode cX5_making 65 = .ok (.i2l, 1) := by decide +kernel
theorem dX5_making_66 : decode cX5_making 66 = .ok (.lreturn, 1) := by decide +kernel
theorem dX5_making_67 : decode cX5_making 67 = .ok (.aload_n 0, 1) := by decide +kernel
theorem dX5_making_68 : decode cX5_making 68 = .ok (.getfield 48, 3) := by decide +kernel
theorem dX5_making_71 : decode cX5_making 71 = .ok (.getfield 217, 3) := by decide +kernel
theorem dX5_making_74 : decode cX5_making 74 = .ok (.iload_n 1, 1) := by decide +kernel
theorem dX5_making_75 : decode cX5_making 75 = .ok (.iaload, 1) := by decide +kernel
theorem dX5_making_76 : decode cX5_making 76 = .ok (.i2l, 1) := by decide +kernel
theorem dX5_making_77 : decode cX5_making 77 = .ok (.lreturn, 1) := by decide +kernel
theorem dX5_making_78 : decode cX5_making 78 = .ok (.aload_n 0, 1) := by decide +kernel
theorem dX5_making_79 : decode cX5_making 79 = .ok (.getfield 48, 3) := by decide +kernel
theorem dX5_making_82 : decode cX5_making 82 = .ok (.getfield 219, 3) := by decide +kernel
theorem dX5_making_85 : decode cX5_making 85 = .ok (.iload_n 1, 1) := by decide +kernel
theorem dX5_making_86 : decode cX5_making 86 = .ok (.laload, 1) := by decide +kernel
theorem dX5_making_87 : decode cX5_making 87 = .ok (.lreturn, 1) := by decide +kernel
theorem dX5_making_88 : decode cX5_making 88 = .ok (.aload_n 0, 1) := by decide +kernel
theorem dX5_making_89 : decode cX5_making 89 = .ok (.getfield 48, 3) := by decide +kernel
theorem dX5_making_92 : decode cX5_making 92 = .ok (.getfield 223, 3) := by decide +kernel
theorem dX5_making_95 : decode cX5_making 95 = .ok (.iload_n 1, 1) := by decide +kernel
theorem dX5_making_96 : decode cX5_making 96 = .ok (.laload, 1) := by decide +kernel
theorem dX5_making_97 : decode cX5_making 97 = .ok (.lreturn, 1) := by decide +kernel
theorem dX5_making_98 : decode cX5_making 98 = .ok (.aload_n 0, 1) := by decide +kernel
theorem dX5_making_99 : decode cX5_making 99 = .ok (.bipush (-7), 2) := by decide +kernel
theorem dX5_making_101 : decode cX5_making 101 = .ok (.invokevirtual 82, 3) := by decide +kernel
theorem dX5_making_104 : decode cX5_making 104 = .ok (.i2l, 1) := by decide +kernel
theorem dX5_making_105 : decode cX5_making 105 = .ok (.lreturn, 1) := by decide +kernel
theorem dX5_lay_0 : decode cX5_lay 0 = .ok (.aload_n 0, 1) := by decide +kernel
theorem dX5_lay_1 : decode cX5_lay 1 = .ok (.iload_n 1, 1) := by decide +kernel
theorem dX5_lay_2 : decode cX5_lay 2 = .ok (.invokevirtual 74, 3) := by decide +kernel
theorem dX5_lay_5 : decode cX5_lay 5 = .ok (.astore_n 3, 1) := by decide +kernel
theorem dX5_lay_6 : decode cX5_lay 6 = .ok (.aload_n 3, 1) := by decide +kernel
theorem dX5_lay_7 : decode cX5_lay 7 = .ok (.ifnull 12, 3) := by decide +kernel
theorem dX5_lay_10 : decode cX5_lay 10 = .ok (.aload_n 3, 1) := by decide +kernel
theorem dX5_lay_11 : decode cX5_lay 11 = .ok (.iload_n 2, 1) := by decide +kernel
theorem dX5_lay_12 : decode cX5_lay 12 = .ok (.iconst 0, 1) := by decide +kernel
theorem dX5_lay_13 : decode cX5_lay 13 = .ok (.invokevirtual 78, 3) := by decide +kernel
theorem dX5_lay_16 : decode cX5_lay 16 = .ok (.ifCond .ne 10, 3) := by decide +kernel
theorem dX5_lay_19 : decode cX5_lay 19 = .ok (.aload_n 0, 1) := by decide +kernel
theorem dX5_lay_20 : decode cX5_lay 20 = .ok (.bipush (-3), 2) := by decide +kernel
theorem dX5_lay_22 : decode cX5_lay 22 = .ok (.invokevirtual 58, 3) := by decide +kernel
theorem dX5_lay_25 : decode cX5_lay 25 = .ok (.ireturn, 1) := by decide +kernel
theorem dX5_lay_26 : decode cX5_lay 26 = .ok (.aload_n 0, 1) := by decide +kernel
theorem dX5_lay_27 : decode cX5_lay 27 = .ok (.invokevirtual 203, 3) := by decide +kernel
theorem dX5_lay_30 : decode cX5_lay 30 = .ok (.iconst 0, 1) := by decide +kernel
theorem dX5_lay_31 : decode cX5_lay 31 = .ok (.istore 4, 2) := by decide +kernel
theorem dX5_lay_33 : decode cX5_lay 33 = .ok (.iload 4, 2) := by decide +kernel
theorem dX5_lay_35 : decode cX5_lay 35 = .ok (.aload_n 3, 1) := by decide +kernel
theorem dX5_lay_36 : decode cX5_lay 36 = .ok (.getfield 104, 3) := by decide +kernel
theorem dX5_lay_39 : decode cX5_lay 39 = .ok (.if_icmp .ge 23, 3) := by decide +kernel
theorem dX5_lay_42 : decode cX5_lay 42 = .ok (.aload_n 0, 1) := by decide +kernel
theorem dX5_lay_43 : decode cX5_lay 43 = .ok (.getfield 21, 3) := by decide +kernel
theorem dX5_lay_46 : decode cX5_lay 46 = .ok (.iload 4, 2) := by decide +kernel
theorem dX5_lay_48 : decode cX5_lay 48 = .ok (.aload_n 3, 1) := by decide +kernel
theorem dX5_lay_49 : decode cX5_lay 49 = .ok (.iload_n 2, 1) := by decide +kernel
theorem dX5_lay_50 : decode cX5_lay 50 = .ok (.iload 4, 2) := by decide +kernel
theorem dX5_lay_52 : decode cX5_lay 52 = .ok (.invokevirtual 93, 3) := by decide +kernel
theorem dX5_lay_55 : decode cX5_lay 55 = .ok (.iastore, 1) := by decide +kernel
theorem dX5_lay_56 : decode cX5_lay 56 = .ok (.iinc 4 1, 3) := by decide +kernel
theorem dX5_lay_59 : decode cX5_lay 59 = .ok (.goto (-26), 3) := by decide +kernel
theorem dX5_lay_62 : decode cX5_lay 62 = .ok (.aload_n 3, 1) := by decide +kernel
theorem dX5_lay_63 : decode cX5_lay 63 = .ok (.getfield 104, 3) := by decide +kernel
theorem dX5_lay_66 : decode cX5_lay 66 = .ok (.ireturn, 1) := by decide +kernel
theorem dX5_tear_0 : decode cX5_tear 0 = .ok (.aload_n 0, 1) := by decide +kernel
theorem dX5_tear_1 : decode cX5_tear 1 = .ok (.getfield 199, 3) := by decide +kernel
theorem dX5_tear_4 : decode cX5_tear 4 = .ok (.ifCond .eq 7, 3) := by decide +kernel
theorem dX5_tear_7 : decode cX5_tear 7 = .ok (.iconst 1, 1) := by decide +kernel
theorem dX5_tear_8 : decode cX5_tear 8 = .ok (.goto 4, 3) := by decide +kernel
theorem dX5_tear_11 : decode cX5_tear 11 = .ok (.iconst 0, 1) := by decide +kernel
theorem dX5_tear_12 : decode cX5_tear 12 = .ok (.istore_n 1, 1) := by decide +kernel
theorem dX5_tear_13 : decode cX5_tear 13 = .ok (.aload_n 0, 1) := by decide +kernel
theorem dX5_tear_14 : decode cX5_tear 14 = .ok (.iconst 0, 1) := by decide +kernel
theorem dX5_tear_15 : decode cX5_tear 15 = .ok (.putfield 199, 3) := by decide +kernel
theorem dX5_tear_18 : decode cX5_tear 18 = .ok (.iload_n 1, 1) := by decide +kernel
theorem dX5_tear_19 : decode cX5_tear 19 = .ok (.ireturn, 1) := by decide +kernel
theorem dX5_row_0 : decode cX5_row 0 = .ok (.aload_n 0, 1) := by decide +kernel
theorem dX5_row_1 : decode cX5_row 1 = .ok (.getfield 199, 3) := by decide +kernel
theorem dX5_row_4 : decode cX5_row 4 = .ok (.ifCond .ne 10, 3) := by decide +kernel
theorem dX5_row_7 : decode cX5_row 7 = .ok (.aload_n 0, 1) := by decide +kernel
theorem dX5_row_8 : decode cX5_row 8 = .ok (.bipush (-2), 2) := by decide +kernel
theorem dX5_row_10 : decode cX5_row 10 = .ok (.invokevirtual 82, 3) := by decide +kernel
theorem dX5_row_13 : decode cX5_row 13 = .ok (.ireturn, 1) := by decide +kernel
theorem dX5_row_14 : decode cX5_row 14 = .ok (.iload_n 1, 1) := by decide +kernel
theorem dX5_row_15 : decode cX5_row 15 = .ok (.ifCond .lt 9, 3) := by decide +kernel
theorem dX5_row_18 : decode cX5_row 18 = .ok (.iload_n 1, 1) := by decide +kernel
theorem dX5_row_19 : decode cX5_row 19 = .ok (.bipush 16, 2) := by decide +kernel
theorem dX5_row_21 : decode cX5_row 21 = .ok (.if_icmp .lt 10, 3) := by decide +kernel
theorem dX5_row_24 : decode cX5_row 24 = .ok (.aload_n 0, 1) := by decide +kernel
theorem dX5_row_25 : decode cX5_row 25 = .ok (.bipush (-3), 2) := by decide +kernel
theorem dX5_row_27 : decode cX5_row 27 = .ok (.invokevirtual 82, 3) := by decide +kernel
theorem dX5_row_30 : decode cX5_row 30 = .ok (.ireturn, 1) := by decide +kernel
theorem dX5_row_31 : decode cX5_row 31 = .ok (.aload_n 0, 1) := by decide +kernel
theorem dX5_row_32 : decode cX5_row 32 = .ok (.getfield 21, 3) := by decide +kernel
theorem dX5_row_35 : decode cX5_row 35 = .ok (.iload_n 1, 1) := by decide +kernel
theorem dX5_row_36 : decode cX5_row 36 = .ok (.iaload, 1) := by decide +kernel
theorem dX5_row_37 : decode cX5_row 37 = .ok (.ireturn, 1) := by decide +kernel
theorem dX5_copy_0 : decode cX5_copy 0 = .ok (.aload_n 0, 1) := by decide +kernel
theorem dX5_copy_1 : decode cX5_copy 1 = .ok (.getfield 199, 3) := by decide +kernel
theorem dX5_copy_4 : decode cX5_copy 4 = .ok (.ifCond .ne 10, 3) := by decide +kernel
theorem dX5_copy_7 : decode cX5_copy 7 = .ok (.aload_n 0, 1) := by decide +kernel
theorem dX5_copy_8 : decode cX5_copy 8 = .ok (.bipush (-2), 2) := by decide +kernel
theorem dX5_copy_10 : decode cX5_copy 10 = .ok (.invokevirtual 58, 3) := by decide +kernel
theorem dX5_copy_13 : decode cX5_copy 13 = .ok (.ireturn, 1) := by decide +kernel
theorem dX5_copy_14 : decode cX5_copy 14 = .ok (.iload_n 3, 1) := by decide +kernel
theorem dX5_copy_15 : decode cX5_copy 15 = .ok (.ifCond .ge 10, 3) := by decide +kernel
theorem dX5_copy_18 : decode cX5_copy 18 = .ok (.aload_n 0, 1) := by decide +kernel
theorem dX5_copy_19 : decode cX5_copy 19 = .ok (.bipush (-4), 2) := by decide +kernel
theorem dX5_copy_21 : decode cX5_copy 21 = .ok (.invokevirtual 58, 3) := by decide +kernel
theorem dX5_copy_24 : decode cX5_copy 24 = .ok (.ireturn, 1) := by decide +kernel
theorem dX5_copy_25 : decode cX5_copy 25 = .ok (.iload_n 1, 1) := by decide +kernel
theorem dX5_copy_26 : decode cX5_copy 26 = .ok (.ifCond .lt 23, 3) := by decide +kernel
theorem dX5_copy_29 : decode cX5_copy 29 = .ok (.iload_n 2, 1) := by decide +kernel
theorem dX5_copy_30 : decode cX5_copy 30 = .ok (.ifCond .lt 19, 3) := by decide +kernel
theorem dX5_copy_33 : decode cX5_copy 33 = .ok (.iload_n 3, 1) := by decide +kernel
theorem dX5_copy_34 : decode cX5_copy 34 = .ok (.bipush 16, 2) := by decide +kernel
theorem dX5_copy_36 : decode cX5_copy 36 = .ok (.iload_n 1, 1) := by decide +kernel
theorem dX5_copy_37 : decode cX5_copy 37 = .ok (.isub, 1) := by decide +kernel
theorem dX5_copy_38 : decode cX5_copy 38 = .ok (.if_icmp .gt 11, 3) := by decide +kernel
theorem dX5_copy_41 : decode cX5_copy 41 = .ok (.iload_n 3, 1) := by decide +kernel
theorem dX5_copy_42 : decode cX5_copy 42 = .ok (.bipush 16, 2) := by decide +kernel
theorem dX5_copy_44 : decode cX5_copy 44 = .ok (.iload_n 2, 1) := by decide +kernel
theorem dX5_copy_45 : decode cX5_copy 45 = .ok (.isub, 1) := by decide +kernel
theorem dX5_copy_46 : decode cX5_copy 46 = .ok (.if_icmp .le 10, 3) := by decide +kernel
theorem dX5_copy_49 : decode cX5_copy 49 = .ok (.aload_n 0, 1) := by decide +kernel
theorem dX5_copy_50 : decode cX5_copy 50 = .ok (.bipush (-6), 2) := by decide +kernel
theorem dX5_copy_52 : decode cX5_copy 52 = .ok (.invokevirtual 58, 3) := by decide +kernel
theorem dX5_copy_55 : decode cX5_copy 55 = .ok (.ireturn, 1) := by decide +kernel
theorem dX5_copy_56 : decode cX5_copy 56 = .ok (.aload_n 0, 1) := by decide +kernel
theorem dX5_copy_57 : decode cX5_copy 57 = .ok (.getfield 21, 3) := by decide +kernel
theorem dX5_copy_60 : decode cX5_copy 60 = .ok (.iload_n 1, 1) := by decide +kernel
theorem dX5_copy_61 : decode cX5_copy 61 = .ok (.aload_n 0, 1) := by decide +kernel
theorem dX5_copy_62 : decode cX5_copy 62 = .ok (.getfield 21, 3) := by decide +kernel
theorem dX5_copy_65 : decode cX5_copy 65 = .ok (.iload_n 2, 1) := by decide +kernel
theorem dX5_copy_66 : decode cX5_copy 66 = .ok (.iload_n 3, 1) := by decide +kernel
theorem dX5_copy_67 : decode cX5_copy 67 = .ok (.invokestatic 226, 3) := by decide +kernel
theorem dX5_copy_70 : decode cX5_copy 70 = .ok (.iload_n 3, 1) := by decide +kernel
theorem dX5_copy_71 : decode cX5_copy 71 = .ok (.ireturn, 1) := by decide +kernel
theorem dX5_status_0 : decode cX5_status 0 = .ok (.iload_n 1, 1) := by decide +kernel
theorem dX5_status_1 : decode cX5_status 1 = .ok (.bipush (-8), 2) := by decide +kernel
theorem dX5_status_3 : decode cX5_status 3 = .ok (.if_icmp .lt 9, 3) := by decide +kernel
theorem dX5_status_6 : decode cX5_status 6 = .ok (.iload_n 1, 1) := by decide +kernel
theorem dX5_status_7 : decode cX5_status 7 = .ok (.bipush (-2), 2) := by decide +kernel
theorem dX5_status_9 : decode cX5_status 9 = .ok (.if_icmp .le 10, 3) := by decide +kernel
theorem dX5_status_12 : decode cX5_status 12 = .ok (.aload_n 0, 1) := by decide +kernel
theorem dX5_status_13 : decode cX5_status 13 = .ok (.bipush (-7), 2) := by decide +kernel
theorem dX5_status_15 : decode cX5_status 15 = .ok (.invokevirtual 58, 3) := by decide +kernel
theorem dX5_status_18 : decode cX5_status 18 = .ok (.ireturn, 1) := by decide +kernel
theorem dX5_status_19 : decode cX5_status 19 = .ok (.aload_n 0, 1) := by decide +kernel
theorem dX5_status_20 : decode cX5_status 20 = .ok (.getfield 28, 3) := by decide +kernel
theorem dX5_status_23 : decode cX5_status 23 = .ok (.iload_n 1, 1) := by decide +kernel
theorem dX5_status_24 : decode cX5_status 24 = .ok (.ineg, 1) := by decide +kernel
theorem dX5_status_25 : decode cX5_status 25 = .ok (.iaload, 1) := by decide +kernel
theorem dX5_status_26 : decode cX5_status 26 = .ok (.ireturn, 1) := by decide +kernel
theorem dX5_refused_0 : decode cX5_refused 0 = .ok (.iload_n 1, 1) := by decide +kernel
theorem dX5_refused_1 : decode cX5_refused 1 = .ok (.bipush (-8), 2) := by decide +kernel
theorem dX5_refused_3 : decode cX5_refused 3 = .ok (.if_icmp .lt 20, 3) := by decide +kernel
theorem dX5_refused_6 : decode cX5_refused 6 = .ok (.iload_n 1, 1) := by decide +kernel
theorem dX5_refused_7 : decode cX5_refused 7 = .ok (.bipush (-2), 2) := by decide +kernel
theorem dX5_refused_9 : decode cX5_refused 9 = .ok (.if_icmp .gt 14, 3) := by decide +kernel
theorem dX5_refused_12 : decode cX5_refused 12 = .ok (.aload_n 0, 1) := by decide +kernel
theorem dX5_refused_13 : decode cX5_refused 13 = .ok (.getfield 28, 3) := by decide +kernel
theorem dX5_refused_16 : decode cX5_refused 16 = .ok (.iload_n 1, 1) := by decide +kernel
theorem dX5_refused_17 : decode cX5_refused 17 = .ok (.ineg, 1) := by decide +kernel
theorem dX5_refused_18 : decode cX5_refused 18 = .ok (.dup2, 1) := by decide +kernel
theorem dX5_refused_19 : decode cX5_refused 19 = .ok (.iaload, 1) := by decide +kernel
theorem dX5_refused_20 : decode cX5_refused 20 = .ok (.iconst 1, 1) := by decide +kernel
theorem dX5_refused_21 : decode cX5_refused 21 = .ok (.iadd, 1) := by decide +kernel
theorem dX5_refused_22 : decode cX5_refused 22 = .ok (.iastore, 1) := by decide +kernel
theorem dX5_refused_23 : decode cX5_refused 23 = .ok (.iload_n 1, 1) := by decide +kernel
theorem dX5_refused_24 : decode cX5_refused 24 = .ok (.ireturn, 1) := by decide +kernel
theorem dX5_nought_0 : decode cX5_nought 0 = .ok (.aload_n 0, 1) := by decide +kernel
theorem dX5_nought_1 : decode cX5_nought 1 = .ok (.iload_n 1, 1) := by decide +kernel
theorem dX5_nought_2 : decode cX5_nought 2 = .ok (.invokevirtual 58, 3) := by decide +kernel
theorem dX5_nought_5 : decode cX5_nought 5 = .ok (.pop, 1) := by decide +kernel
theorem dX5_nought_6 : decode cX5_nought 6 = .ok (.iconst 0, 1) := by decide +kernel
theorem dX5_nought_7 : decode cX5_nought 7 = .ok (.ireturn, 1) := by decide +kernel
theorem dX5_gridOf_0 : decode cX5_gridOf 0 = .ok (.iload_n 1, 1) := by decide +kernel
theorem dX5_gridOf_1 : decode cX5_gridOf 1 = .ok (.ifCond .lt 11, 3) := by decide +kernel
theorem dX5_gridOf_4 : decode cX5_gridOf 4 = .ok (.iload_n 1, 1) := by decide +kernel
theorem dX5_gridOf_5 : decode cX5_gridOf 5 = .ok (.aload_n 0, 1) := by decide +kernel
theorem dX5_gridOf_6 : decode cX5_gridOf 6 = .ok (.getfield 117, 3) := by decide +kernel
theorem dX5_gridOf_9 : decode cX5_gridOf 9 = .ok (.if_icmp .lt 7, 3) := by decide +kernel
theorem dX5_gridOf_12 : decode cX5_gridOf 12 = .ok (.aconst_null, 1) := by decide +kernel
theorem dX5_gridOf_13 : decode cX5_gridOf 13 = .ok (.goto 9, 3) := by decide +kernel
theorem dX5_gridOf_16 : decode cX5_gridOf 16 = .ok (.aload_n 0, 1) := by decide +kernel
theorem dX5_gridOf_17 : decode cX5_gridOf 17 = .ok (.getfield 11, 3) := by decide +kernel
theorem dX5_gridOf_20 : decode cX5_gridOf 20 = .ok (.iload_n 1, 1) := by decide +kernel
theorem dX5_gridOf_21 : decode cX5_gridOf 21 = .ok (.aaload, 1) := by decide +kernel
theorem dX5_gridOf_22 : decode cX5_gridOf 22 = .ok (.areturn, 1) := by decide +kernel
theorem dX5_webOf_0 : decode cX5_webOf 0 = .ok (.iload_n 1, 1) := by decide +kernel
theorem dX5_webOf_1 : decode cX5_webOf 1 = .ok (.ifCond .lt 11, 3) := by decide +kernel
theorem dX5_webOf_4 : decode cX5_webOf 4 = .ok (.iload_n 1, 1) := by decide +kernel
theorem dX5_webOf_5 : decode cX5_webOf 5 = .ok (.aload_n 0, 1) := by decide +kernel
theorem dX5_webOf_6 : decode cX5_webOf 6 = .ok (.getfield 158, 3) := by decide +kernel
theorem dX5_webOf_9 : decode cX5_webOf 9 = .ok (.if_icmp .lt 7, 3) := by decide +kernel
theorem dX5_webOf_12 : decode cX5_webOf 12 = .ok (.aconst_null, 1) := by decide +kernel
theorem dX5_webOf_13 : decode cX5_webOf 13 = .ok (.goto 9, 3) := by decide +kernel
theorem dX5_webOf_16 : decode cX5_webOf 16 = .ok (.aload_n 0, 1) := by decide +kernel
theorem dX5_webOf_17 : decode cX5_webOf 17 = .ok (.getfield 17, 3) := by decide +kernel
theorem dX5_webOf_20 : decode cX5_webOf 20 = .ok (.iload_n 1, 1) := by decide +kernel
theorem dX5_webOf_21 : decode cX5_webOf 21 = .ok (.aaload, 1) := by decide +kernel
theorem dX5_webOf_22 : decode cX5_webOf 22 = .ok (.areturn, 1) := by decide +kernel
theorem dX5_freeGrid_0 : decode cX5_freeGrid 0 = .ok (.aload_n 0, 1) := by decide +kernel
theorem dX5_freeGrid_1 : decode cX5_freeGrid 1 = .ok (.getfield 117, 3) := by decide +kernel
theorem dX5_freeGrid_4 : decode cX5_freeGrid 4 = .ok (.bipush 12, 2) := by decide +kernel
theorem dX5_freeGrid_6 : decode cX5_freeGrid 6 = .ok (.if_icmp .lt 7, 3) := by decide +kernel
theorem dX5_freeGrid_9 : decode cX5_freeGrid 9 = .ok (.aconst_null, 1) := by decide +kernel
theorem dX5_freeGrid_10 : decode cX5_freeGrid 10 = .ok (.goto 12, 3) := by decide +kernel
theorem dX5_freeGrid_13 : decode cX5_freeGrid 13 = .ok (.aload_n 0, 1) := by decide +kernel
theorem dX5_freeGrid_14 : decode cX5_freeGrid 14 = .ok (.getfield 11, 3) := by decide +kernel
theorem dX5_freeGrid_17 : decode cX5_freeGrid 17 = .ok (.aload_n 0, 1) := by decide +kernel
theorem dX5_freeGrid_18 : decode cX5_freeGrid 18 = .ok (.getfield 117, 3) := by decide +kernel
theorem dX5_freeGrid_21 : decode cX5_freeGrid 21 = .ok (.aaload, 1) := by decide +kernel
theorem dX5_freeGrid_22 : decode cX5_freeGrid 22 = .ok (.areturn, 1) := by decide +kernel
theorem dX5_come_0 : decode cX5_come 0 = .ok (.aload_n 1, 1) := by decide +kernel
theorem dX5_come_1 : decode cX5_come 1 = .ok (.getfield 232, 3) := by decide +kernel
theorem dX5_come_4 : decode cX5_come 4 = .ok (.ifCond .ne 10, 3) := by decide +kernel
theorem dX5_come_7 : decode cX5_come 7 = .ok (.aload_n 0, 1) := by decide +kernel
theorem dX5_come_8 : decode cX5_come 8 = .ok (.bipush (-8), 2) := by decide +kernel
theorem dX5_come_10 : decode cX5_come 10 = .ok (.invokevirtual 58, 3) := by decide +kernel
theorem dX5_come_13 : decode cX5_come 13 = .ok (.ireturn, 1) := by decide +kernel
theorem dX5_come_14 : decode cX5_come 14 = .ok (.aload_n 0, 1) := by decide +kernel
theorem dX5_come_15 : decode cX5_come 15 = .ok (.dup, 1) := by decide +kernel
theorem dX5_come_16 : decode cX5_come 16 = .ok (.getfield 117, 3) := by decide +kernel
theorem dX5_come_19 : decode cX5_come 19 = .ok (.iconst 1, 1) := by decide +kernel
theorem dX5_come_20 : decode cX5_come 20 = .ok (.iadd, 1) := by decide +kernel
theorem dX5_come_21 : decode cX5_come 21 = .ok (.putfield 117, 3) := by decide +kernel
theorem dX5_come_24 : decode cX5_come 24 = .ok (.aload_n 0, 1) := by decide +kernel
theorem dX5_come_25 : decode cX5_come 25 = .ok (.getfield 117, 3) := by decide +kernel
theorem dX5_come_28 : decode cX5_come 28 = .ok (.iconst 1, 1) := by decide +kernel
theorem dX5_come_29 : decode cX5_come 29 = .ok (.isub, 1) := by decide +kernel
theorem dX5_come_30 : decode cX5_come 30 = .ok (.ireturn, 1) := by decide +kernel
theorem dX5_leading_0 : decode cX5_leading 0 = .ok (.aload_n 0, 1) := by decide +kernel
theorem dX5_leading_1 : decode cX5_leading 1 = .ok (.iload_n 1, 1) := by decide +kernel
theorem dX5_leading_2 : decode cX5_leading 2 = .ok (.invokevirtual 164, 3) := by decide +kernel
theorem dX5_leading_5 : decode cX5_leading 5 = .ok (.astore 5, 2) := by decide +kernel
theorem dX5_leading_7 : decode cX5_leading 7 = .ok (.aload 5, 2) := by decide +kernel
theorem dX5_leading_9 : decode cX5_leading 9 = .ok (.ifnull 27, 3) := by decide +kernel
theorem dX5_leading_12 : decode cX5_leading 12 = .ok (.iload_n 2, 1) := by decide +kernel
theorem dX5_leading_13 : decode cX5_leading 13 = .ok (.aload 5, 2) := by decide +kernel
theorem dX5_leading_15 : decode cX5_leading 15 = .ok (.getfield 177, 3) := by decide +kernel
theorem dX5_leading_18 : decode cX5_leading 18 = .ok (.invokestatic 120, 3) := by decide +kernel
theorem dX5_leading_21 : decode cX5_leading 21 = .ok (.ifCond .eq 15, 3) := by decide +kernel
theorem dX5_leading_24 : decode cX5_leading 24 = .ok (.iload_n 3, 1) := by decide +kernel
theorem dX5_leading_25 : decode cX5_leading 25 = .ok (.aload 5, 2) := by decide +kernel
theorem dX5_leading_27 : decode cX5_leading 27 = .ok (.getfield 177, 3) := by decide +kernel
theorem dX5_leading_30 : decode cX5_leading 30 = .ok (.invokestatic 120, 3) := by decide +kernel
theorem dX5_leading_33 : decode cX5_leading 33 = .ok (.ifCond .ne 11, 3) := by decide +kernel
theorem dX5_leading_36 : decode cX5_leading 36 = .ok (.aload_n 0, 1) := by decide +kernel
theorem dX5_leading_37 : decode cX5_leading 37 = .ok (.bipush (-3), 2) := by decide +kernel
theorem dX5_leading_39 : decode cX5_leading 39 = .ok (.invokevirtual 58, 3) := by decide +kernel
theorem dX5_leading_42 : decode cX5_leading 42 = .ok (.i2l, 1) := by decide +kernel
theorem dX5_leading_43 : decode cX5_leading 43 = .ok (.lreturn, 1) := by decide +kernel
theorem dX5_leading_44 : decode cX5_leading 44 = .ok (.iload_n 2, 1) := by decide +kernel
theorem dX5_leading_45 : decode cX5_leading 45 = .ok (.iload_n 3, 1) := by decide +kernel
theorem dX5_leading_46 : decode cX5_leading 46 = .ok (.invokestatic 123, 3) := by decide +kernel
theorem dX5_leading_49 : decode cX5_leading 49 = .ok (.ifCond .ne 11, 3) := by decide +kernel
theorem dX5_leading_52 : decode cX5_leading 52 = .ok (.aload_n 0, 1) := by decide +kernel
theorem dX5_leading_53 : decode cX5_leading 53 = .ok (.bipush (-7), 2) := by decide +kernel
theorem dX5_leading_55 : decode cX5_leading 55 = .ok (.invokevirtual 58, 3) := by decide +kernel
theorem dX5_leading_58 : decode cX5_leading 58 = .ok (.i2l, 1) := by decide +kernel
theorem dX5_leading_59 : decode cX5_leading 59 = .ok (.lreturn, 1) := by decide +kernel
theorem dX5_leading_60 : decode cX5_leading 60 = .ok (.aload_n 0, 1) := by decide +kernel
theorem dX5_leading_61 : decode cX5_leading 61 = .ok (.getfield 41, 3) := by decide +kernel
theorem dX5_leading_64 : decode cX5_leading 64 = .ok (.aload 5, 2) := by decide +kernel
theorem dX5_leading_66 : decode cX5_leading 66 = .ok (.iload_n 2, 1) := by decide +kernel
theorem dX5_leading_67 : decode cX5_leading 67 = .ok (.iload_n 3, 1) := by decide +kernel
theorem dX5_leading_68 : decode cX5_leading 68 = .ok (.iload 4, 2) := by decide +kernel
theorem dX5_leading_70 : decode cX5_leading 70 = .ok (.invokevirtual 180, 3) := by decide +kernel
theorem dX5_leading_73 : decode cX5_leading 73 = .ok (.lreturn, 1) := by decide +kernel
theorem dX5_emptyTheRow_0 : decode cX5_emptyTheRow 0 = .ok (.aload_n 0, 1) := by decide +kernel
theorem dX5_emptyTheRow_1 : decode cX5_emptyTheRow 1 = .ok (.getfield 21, 3) := by decide +kernel
theorem dX5_emptyTheRow_4 : decode cX5_emptyTheRow 4 = .ok (.iconst 0, 1) := by decide +kernel
theorem dX5_emptyTheRow_5 : decode cX5_emptyTheRow 5 = .ok (.invokestatic 235, 3) := by decide +kernel
theorem dX5_emptyTheRow_8 : decode cX5_emptyTheRow 8 = .ok (.aload_n 0, 1) := by decide +kernel
theorem dX5_emptyTheRow_9 : decode cX5_emptyTheRow 9 = .ok (.iconst 1, 1) := by decide +kernel
theorem dX5_emptyTheRow_10 : decode cX5_emptyTheRow 10 = .ok (.putfield 199, 3) := by decide +kernel
theorem dX5_emptyTheRow_13 : decode cX5_emptyTheRow 13 = .ok (.return_, 1) := by decide +kernel
theorem dX5_isSide_0 : decode cX5_isSide 0 = .ok (.iload_n 0, 1) := by decide +kernel
theorem dX5_isSide_1 : decode cX5_isSide 1 = .ok (.iconst 1, 1) := by decide +kernel
theorem dX5_isSide_2 : decode cX5_isSide 2 = .ok (.if_icmp .lt 12, 3) := by decide +kernel
theorem dX5_isSide_5 : decode cX5_isSide 5 = .ok (.iload_n 0, 1) := by decide +kernel
theorem dX5_isSide_6 : decode cX5_isSide 6 = .ok (.iconst 5, 1) := by decide +kernel
theorem dX5_isSide_7 : decode cX5_isSide 7 = .ok (.if_icmp .gt 7, 3) := by decide +kernel
theorem dX5_isSide_10 : decode cX5_isSide 10 = .ok (.iconst 1, 1) := by decide +kernel
theorem dX5_isSide_11 : decode cX5_isSide 11 = .ok (.goto 4, 3) := by decide +kernel
theorem dX5_isSide_14 : decode cX5_isSide 14 = .ok (.iconst 0, 1) := by decide +kernel
theorem dX5_isSide_15 : decode cX5_isSide 15 = .ok (.ireturn, 1) := by decide +kernel
theorem dX5_isNumber_0 : decode cX5_isNumber 0 = .ok (.lload_n 0, 1) := by decide +kernel
theorem dX5_isNumber_1 : decode cX5_isNumber 1 = .ok (.ldc2_w 241, 3) := by decide +kernel
theorem dX5_isNumber_4 : decode cX5_isNumber 4 = .ok (.lcmp, 1) := by decide +kernel
theorem dX5_isNumber_5 : decode cX5_isNumber 5 = .ok (.ifCond .lt 15, 3) := by decide +kernel
theorem dX5_isNumber_8 : decode cX5_isNumber 8 = .ok (.lload_n 0, 1) := by decide +kernel
theorem dX5_isNumber_9 : decode cX5_isNumber 9 = .ok (.ldc2_w 243, 3) := by decide +kernel
theorem dX5_isNumber_12 : decode cX5_isNumber 12 = .ok (.lcmp, 1) := by decide +kernel
theorem dX5_isNumber_13 : decode cX5_isNumber 13 = .ok (.ifCond .gt 7, 3) := by decide +kernel
theorem dX5_isNumber_16 : decode cX5_isNumber 16 = .ok (.iconst 1, 1) := by decide +kernel
theorem dX5_isNumber_17 : decode cX5_isNumber 17 = .ok (.goto 4, 3) := by decide +kernel
theorem dX5_isNumber_20 : decode cX5_isNumber 20 = .ok (.iconst 0, 1) := by decide +kernel
theorem dX5_isNumber_21 : decode cX5_isNumber 21 = .ok (.ireturn, 1) := by decide +kernel
theorem dX5_areSome_0 : decode cX5_areSome 0 = .ok (.iload_n 0, 1) := by decide +kernel
theorem dX5_areSome_1 : decode cX5_areSome 1 = .ok (.ifCond .le 14, 3) := by decide +kernel
theorem dX5_areSome_4 : decode cX5_areSome 4 = .ok (.iload_n 0, 1) := by decide +kernel
theorem dX5_areSome_5 : decode cX5_areSome 5 = .ok (.iconst 1, 1) := by decide +kernel
theorem dX5_areSome_6 : decode cX5_areSome 6 = .ok (.iload_n 1, 1) := by decide +kernel
theorem dX5_areSome_7 : decode cX5_areSome 7 = .ok (.ishl, 1) := by decide +kernel
theorem dX5_areSome_8 : decode cX5_areSome 8 = .ok (.if_icmp .ge 7, 3) := by decide +kernel
theorem dX5_areSome_11 : decode cX5_areSome 11 = .ok (.iconst 1, 1) := by decide +kernel
theorem dX5_areSome_12 : decode cX5_areSome 12 = .ok (.goto 4, 3) := by decide +kernel
theorem dX5_areSome_15 : decode cX5_areSome 15 = .ok (.iconst 0, 1) := by decide +kernel
theorem dX5_areSome_16 : decode cX5_areSome 16 = .ok (.ireturn, 1) := by decide +kernel
theorem dX5_areAsMany_0 : decode cX5_areAsMany 0 = .ok (.iload_n 0, 1) := by decide +kernel
theorem dX5_areAsMany_1 : decode cX5_areAsMany 1 = .ok (.invokestatic 138, 3) := by decide +kernel
theorem dX5_areAsMany_4 : decode cX5_areAsMany 4 = .ok (.iload_n 1, 1) := by decide +kernel
theorem dX5_areAsMany_5 : decode cX5_areAsMany 5 = .ok (.invokestatic 138, 3) := by decide +kernel
theorem dX5_areAsMany_8 : decode cX5_areAsMany 8 = .ok (.if_icmp .ne 7, 3) := by decide +kernel
theorem dX5_areAsMany_11 : decode cX5_areAsMany 11 = .ok (.iconst 1, 1) := by decide +kernel
theorem dX5_areAsMany_12 : decode cX5_areAsMany 12 = .ok (.goto 4, 3) := by decide +kernel
theorem dX5_areAsMany_15 : decode cX5_areAsMany 15 = .ok (.iconst 0, 1) := by decide +kernel
theorem dX5_areAsMany_16 : decode cX5_areAsMany 16 = .ok (.ireturn, 1) := by decide +kernel
theorem dX5_holds_0 : decode cX5_holds 0 = .ok (.iload_n 0, 1) := by decide +kernel
theorem dX5_holds_1 : decode cX5_holds 1 = .ok (.iload_n 1, 1) := by decide +kernel
theorem dX5_holds_2 : decode cX5_holds 2 = .ok (.ishr, 1) := by decide +kernel
theorem dX5_holds_3 : decode cX5_holds 3 = .ok (.iconst 1, 1) := by decide +kernel
theorem dX5_holds_4 : decode cX5_holds 4 = .ok (.iand, 1) := by decide +kernel
theorem dX5_holds_5 : decode cX5_holds 5 = .ok (.iconst 1, 1) := by decide +kernel
theorem dX5_holds_6 : decode cX5_holds 6 = .ok (.if_icmp .ne 7, 3) := by decide +kernel
theorem dX5_holds_9 : decode cX5_holds 9 = .ok (.iconst 1, 1) := by decide +kernel
theorem dX5_holds_10 : decode cX5_holds 10 = .ok (.goto 4, 3) := by decide +kernel
theorem dX5_holds_13 : decode cX5_holds 13 = .ok (.iconst 0, 1) := by decide +kernel
theorem dX5_holds_14 : decode cX5_holds 14 = .ok (.ireturn, 1) := by decide +kernel
theorem dX5_signOf_0 : decode cX5_signOf 0 = .ok (.lload_n 0, 1) := by decide +kernel
theorem dX5_signOf_1 : decode cX5_signOf 1 = .ok (.lconst 0, 1) := by decide +kernel
theorem dX5_signOf_2 : decode cX5_signOf 2 = .ok (.lcmp, 1) := by decide +kernel
theorem dX5_signOf_3 : decode cX5_signOf 3 = .ok (.ifCond .le 7, 3) := by decide +kernel
theorem dX5_signOf_6 : decode cX5_signOf 6 = .ok (.iconst 1, 1) := by decide +kernel
theorem dX5_signOf_7 : decode cX5_signOf 7 = .ok (.goto 14, 3) := by decide +kernel
theorem dX5_signOf_10 : decode cX5_signOf 10 = .ok (.lload_n 0, 1) := by decide +kernel
theorem dX5_signOf_11 : decode cX5_signOf 11 = .ok (.lconst 0, 1) := by decide +kernel
theorem dX5_signOf_12 : decode cX5_signOf 12 = .ok (.lcmp, 1) := by decide +kernel
theorem dX5_signOf_13 : decode cX5_signOf 13 = .ok (.ifCond .ge 7, 3) := by decide +kernel
theorem dX5_signOf_16 : decode cX5_signOf 16 = .ok (.iconst (-1), 1) := by decide +kernel
theorem dX5_signOf_17 : decode cX5_signOf 17 = .ok (.goto 4, 3) := by decide +kernel
theorem dX5_signOf_20 : decode cX5_signOf 20 = .ok (.iconst 0, 1) := by decide +kernel
theorem dX5_signOf_21 : decode cX5_signOf 21 = .ok (.ireturn, 1) := by decide +kernel
theorem dX5_rowByColumn_0 : decode cX5_rowByColumn 0 = .ok (.iconst 0, 1) := by decide +kernel
theorem dX5_rowByColumn_1 : decode cX5_rowByColumn 1 = .ok (.istore 4, 2) := by decide +kernel
theorem dX5_rowByColumn_3 : decode cX5_rowByColumn 3 = .ok (.iconst 0, 1) := by decide +kernel
theorem dX5_rowByColumn_4 : decode cX5_rowByColumn 4 = .ok (.istore 5, 2) := by decide +kernel
theorem dX5_rowByColumn_6 : decode cX5_rowByColumn 6 = .ok (.iload 5, 2) := by decide +kernel
theorem dX5_rowByColumn_8 : decode cX5_rowByColumn 8 = .ok (.aload_n 0, 1) := by decide +kernel
theorem dX5_rowByColumn_9 : decode cX5_rowByColumn 9 = .ok (.getfield 104, 3) := by decide +kernel
theorem dX5_rowByColumn_12 : decode cX5_rowByColumn 12 = .ok (.if_icmp .ge 29, 3) := by decide +kernel
theorem dX5_rowByColumn_15 : decode cX5_rowByColumn 15 = .ok (.iload 4, 2) := by decide +kernel
theorem dX5_rowByColumn_17 : decode cX5_rowByColumn 17 = .ok (.aload_n 0, 1) := by decide +kernel
theorem dX5_rowByColumn_18 : decode cX5_rowByColumn 18 = .ok (.iload_n 1, 1) := by decide +kernel
theorem dX5_rowByColumn_19 : decode cX5_rowByColumn 19 = .ok (.iload 5, 2) := by decide +kernel
theorem dX5_rowByColumn_21 : decode cX5_rowByColumn 21 = .ok (.invokevirtual 93, 3) := by decide +kernel
theorem dX5_rowByColumn_24 : decode cX5_rowByColumn 24 = .ok (.aload_n 2, 1) := by decide +kernel
theorem dX5_rowByColumn_25 : decode cX5_rowByColumn 25 = .ok (.iload 5, 2) := by decide +kernel
theorem dX5_rowByColumn_27 : decode cX5_rowByColumn 27 = .ok (.iload_n 3, 1) := by decide +kernel
theorem dX5_rowByColumn_28 : decode cX5_rowByColumn 28 = .ok (.invokevirtual 93, 3) := by decide +kernel
theorem dX5_rowByColumn_31 : decode cX5_rowByColumn 31 = .ok (.imul, 1) := by decide +kernel
theorem dX5_rowByColumn_32 : decode cX5_rowByColumn 32 = .ok (.iadd, 1) := by decide +kernel
theorem dX5_rowByColumn_33 : decode cX5_rowByColumn 33 = .ok (.istore 4, 2) := by decide +kernel
theorem dX5_rowByColumn_35 : decode cX5_rowByColumn 35 = .ok (.iinc 5 1, 3) := by decide +kernel
theorem dX5_rowByColumn_38 : decode cX5_rowByColumn 38 = .ok (.goto (-32), 3) := by decide +kernel
theorem dX5_rowByColumn_41 : decode cX5_rowByColumn 41 = .ok (.iload 4, 2) := by decide +kernel
theorem dX5_rowByColumn_43 : decode cX5_rowByColumn 43 = .ok (.ireturn, 1) := by decide +kernel
theorem dX5_takeRow_0 : decode cX5_takeRow 0 = .ok (.iconst 0, 1) := by decide +kernel
theorem dX5_takeRow_1 : decode cX5_takeRow 1 = .ok (.istore 5, 2) := by decide +kernel
theorem dX5_takeRow_3 : decode cX5_takeRow 3 = .ok (.iconst 0, 1) := by decide +kernel
theorem dX5_takeRow_4 : decode cX5_takeRow 4 = .ok (.istore 6, 2) := by decide +kernel
theorem dX5_takeRow_6 : decode cX5_takeRow 6 = .ok (.iload 6, 2) := by decide +kernel
theorem dX5_takeRow_8 : decode cX5_takeRow 8 = .ok (.aload_n 2, 1) := by decide +kernel
theorem dX5_takeRow_9 : decode cX5_takeRow 9 = .ok (.getfield 104, 3) := by decide +kernel
theorem dX5_takeRow_12 : decode cX5_takeRow 12 = .ok (.if_icmp .ge 37, 3) := by decide +kernel
theorem dX5_takeRow_15 : decode cX5_takeRow 15 = .ok (.iload 4, 2) := by decide +kernel
theorem dX5_takeRow_17 : decode cX5_takeRow 17 = .ok (.iload 6, 2) := by decide +kernel
theorem dX5_takeRow_19 : decode cX5_takeRow 19 = .ok (.invokestatic 143, 3) := by decide +kernel
theorem dX5_takeRow_22 : decode cX5_takeRow 22 = .ok (.ifCond .eq 21, 3) := by decide +kernel
theorem dX5_takeRow_25 : decode cX5_takeRow 25 = .ok (.aload_n 0, 1) := by decide +kernel
theorem dX5_takeRow_26 : decode cX5_takeRow 26 = .ok (.iload_n 1, 1) := by decide +kernel
theorem dX5_takeRow_27 : decode cX5_takeRow 27 = .ok (.iload 5, 2) := by decide +kernel
theorem dX5_takeRow_29 : decode cX5_takeRow 29 = .ok (.aload_n 2, 1) := by decide +kernel
theorem dX5_takeRow_30 : decode cX5_takeRow 30 = .ok (.iload_n 3, 1) := by decide +kernel
theorem dX5_takeRow_31 : decode cX5_takeRow 31 = .ok (.iload 6, 2) := by decide +kernel
theorem dX5_takeRow_33 : decode cX5_takeRow 33 = .ok (.invokevirtual 93, 3) := by decide +kernel
theorem dX5_takeRow_36 : decode cX5_takeRow 36 = .ok (.i2l, 1) := by decide +kernel
theorem dX5_takeRow_37 : decode cX5_takeRow 37 = .ok (.invokevirtual 97, 3) := by decide +kernel
theorem dX5_takeRow_40 : decode cX5_takeRow 40 = .ok (.iinc 5 1, 3) := by decide +kernel
theorem dX5_takeRow_43 : decode cX5_takeRow 43 = .ok (.iinc 6 1, 3) := by decide +kernel
theorem dX5_takeRow_46 : decode cX5_takeRow 46 = .ok (.goto (-40), 3) := by decide +kernel
theorem dX5_takeRow_49 : decode cX5_takeRow 49 = .ok (.return_, 1) := by decide +kernel
theorem dX5_exchange_0 : decode cX5_exchange 0 = .ok (.aload_n 0, 1) := by decide +kernel
theorem dX5_exchange_1 : decode cX5_exchange 1 = .ok (.aload_n 1, 1) := by decide +kernel
theorem dX5_exchange_2 : decode cX5_exchange 2 = .ok (.getfield 104, 3) := by decide +kernel
theorem dX5_exchange_5 : decode cX5_exchange 5 = .ok (.aload_n 1, 1) := by decide +kernel
theorem dX5_exchange_6 : decode cX5_exchange 6 = .ok (.getfield 101, 3) := by decide +kernel
theorem dX5_exchange_9 : decode cX5_exchange 9 = .ok (.iconst 3, 1) := by decide +kernel
theorem dX5_exchange_10 : decode cX5_exchange 10 = .ok (.invokevirtual 66, 3) := by decide +kernel
theorem dX5_exchange_13 : decode cX5_exchange 13 = .ok (.iconst 0, 1) := by decide +kernel
theorem dX5_exchange_14 : decode cX5_exchange 14 = .ok (.istore_n 2, 1) := by decide +kernel
theorem dX5_exchange_15 : decode cX5_exchange 15 = .ok (.iload_n 2, 1) := by decide +kernel
theorem dX5_exchange_16 : decode cX5_exchange 16 = .ok (.aload_n 1, 1) := by decide +kernel
theorem dX5_exchange_17 : decode cX5_exchange 17 = .ok (.getfield 101, 3) := by decide +kernel
theorem dX5_exchange_20 : decode cX5_exchange 20 = .ok (.if_icmp .ge 38, 3) := by decide +kernel
theorem dX5_exchange_23 : decode cX5_exchange 23 = .ok (.iconst 0, 1) := by decide +kernel
theorem dX5_exchange_24 : decode cX5_exchange 24 = .ok (.istore_n 3, 1) := by decide +kernel
theorem dX5_exchange_25 : decode cX5_exchange 25 = .ok (.iload_n 3, 1) := by decide +kernel
theorem dX5_exchange_26 : decode cX5_exchange 26 = .ok (.aload_n 1, 1) := by decide +kernel
theorem dX5_exchange_27 : decode cX5_exchange 27 = .ok (.getfield 104, 3) := by decide +kernel
theorem dX5_exchange_30 : decode cX5_exchange 30 = .ok (.if_icmp .ge 22, 3) := by decide +kernel
theorem dX5_exchange_33 : decode cX5_exchange 33 = .ok (.aload_n 0, 1) := by decide +kernel
theorem dX5_exchange_34 : decode cX5_exchange 34 = .ok (.iload_n 3, 1) := by decide +kernel
theorem dX5_exchange_35 : decode cX5_exchange 35 = .ok (.iload_n 2, 1) := by decide +kernel
theorem dX5_exchange_36 : decode cX5_exchange 36 = .ok (.aload_n 1, 1) := by decide +kernel
theorem dX5_exchange_37 : decode cX5_exchange 37 = .ok (.iload_n 2, 1) := by decide +kernel
theorem dX5_exchange_38 : decode cX5_exchange 38 = .ok (.iload_n 3, 1) := by decide +kernel
theorem dX5_exchange_39 : decode cX5_exchange 39 = .ok (.invokevirtual 93, 3) := by decide +kernel
theorem dX5_exchange_42 : decode cX5_exchange 42 = .ok (.i2l, 1) := by decide +kernel
theorem dX5_exchange_43 : decode cX5_exchange 43 = .ok (.invokevirtual 97, 3) := by decide +kernel
theorem dX5_exchange_46 : decode cX5_exchange 46 = .ok (.iinc 3 1, 3) := by decide +kernel
theorem dX5_exchange_49 : decode cX5_exchange 49 = .ok (.goto (-24), 3) := by decide +kernel
theorem dX5_exchange_52 : decode cX5_exchange 52 = .ok (.iinc 2 1, 3) := by decide +kernel
theorem dX5_exchange_55 : decode cX5_exchange 55 = .ok (.goto (-40), 3) := by decide +kernel
theorem dX5_exchange_58 : decode cX5_exchange 58 = .ok (.return_, 1) := by decide +kernel
theorem dX5_reverse_0 : decode cX5_reverse 0 = .ok (.aload_n 0, 1) := by decide +kernel
theorem dX5_reverse_1 : decode cX5_reverse 1 = .ok (.aload_n 1, 1) := by decide +kernel
theorem dX5_reverse_2 : decode cX5_reverse 2 = .ok (.getfield 101, 3) := by decide +kernel
theorem dX5_reverse_5 : decode cX5_reverse 5 = .ok (.aload_n 1, 1) := by decide +kernel
theorem dX5_reverse_6 : decode cX5_reverse 6 = .ok (.getfield 104, 3) := by decide +kernel
theorem dX5_reverse_9 : decode cX5_reverse 9 = .ok (.iconst 3, 1) := by decide +kernel
theorem dX5_reverse_10 : decode cX5_reverse 10 = .ok (.invokevirtual 66, 3) := by decide +kernel
theorem dX5_reverse_13 : decode cX5_reverse 13 = .ok (.iconst 0, 1) := by decide +kernel
theorem dX5_reverse_14 : decode cX5_reverse 14 = .ok (.istore_n 3, 1) := by decide +kernel
theorem dX5_reverse_15 : decode cX5_reverse 15 = .ok (.iload_n 3, 1) := by decide +kernel
theorem dX5_reverse_16 : decode cX5_reverse 16 = .ok (.aload_n 1, 1) := by decide +kernel
theorem dX5_reverse_17 : decode cX5_reverse 17 = .ok (.getfield 101, 3) := by decide +kernel
theorem dX5_reverse_20 : decode cX5_reverse 20 = .ok (.if_icmp .ge 69, 3) := by decide +kernel
theorem dX5_reverse_23 : decode cX5_reverse 23 = .ok (.iconst 0, 1) := by decide +kernel
theorem dX5_reverse_24 : decode cX5_reverse 24 = .ok (.istore 4, 2) := by decide +kernel
theorem dX5_reverse_26 : decode cX5_reverse 26 = .ok (.iload 4, 2) := by decide +kernel
theorem dX5_reverse_28 : decode cX5_reverse 28 = .ok (.aload_n 1, 1) := by decide +kernel
theorem dX5_reverse_29 : decode cX5_reverse 29 = .ok (.getfield 104, 3) := by decide +kernel
theorem dX5_reverse_32 : decode cX5_reverse 32 = .ok (.if_icmp .ge 51, 3) := by decide +kernel
theorem dX5_reverse_35 : decode cX5_reverse 35 = .ok (.iload_n 2, 1) := by decide +kernel
theorem dX5_reverse_36 : decode cX5_reverse 36 = .ok (.ifCond .eq 15, 3) := by decide +kernel
theorem dX5_reverse_39 : decode cX5_reverse 39 = .ok (.aload_n 1, 1) := by decide +kernel
theorem dX5_reverse_40 : decode cX5_reverse 40 = .ok (.getfield 104, 3) := by decide +kernel
theorem dX5_reverse_43 : decode cX5_reverse 43 = .ok (.iconst 1, 1) := by decide +kernel
theorem dX5_reverse_44 : decode cX5_reverse 44 = .ok (.isub, 1) := by decide +kernel
theorem dX5_reverse_45 : decode cX5_reverse 45 = .ok (.iload 4, 2) := by decide +kernel
theorem dX5_reverse_47 : decode cX5_reverse 47 = .ok (.isub, 1) := by decide +kernel
theorem dX5_reverse_48 : decode cX5_reverse 48 = .ok (.goto 5, 3) := by decide +kernel
theorem dX5_reverse_51 : decode cX5_reverse 51 = .ok (.iload 4, 2) := by decide +kernel
theorem dX5_reverse_53 : decode cX5_reverse 53 = .ok (.istore 5, 2) := by decide +kernel
theorem dX5_reverse_55 : decode cX5_reverse 55 = .ok (.aload_n 0, 1) := by decide +kernel
theorem dX5_reverse_56 : decode cX5_reverse 56 = .ok (.aload_n 1, 1) := by decide +kernel
theorem dX5_reverse_57 : decode cX5_reverse 57 = .ok (.getfield 101, 3) := by decide +kernel
theorem dX5_reverse_60 : decode cX5_reverse 60 = .ok (.iconst 1, 1) := by decide +kernel
theorem dX5_reverse_61 : decode cX5_reverse 61 = .ok (.isub, 1) := by decide +kernel
theorem dX5_reverse_62 : decode cX5_reverse 62 = .ok (.iload_n 3, 1) := by decide +kernel
theorem dX5_reverse_63 : decode cX5_reverse 63 = .ok (.isub, 1) := by decide +kernel
theorem dX5_reverse_64 : decode cX5_reverse 64 = .ok (.iload 5, 2) := by decide +kernel
theorem dX5_reverse_66 : decode cX5_reverse 66 = .ok (.aload_n 1, 1) := by decide +kernel
theorem dX5_reverse_67 : decode cX5_reverse 67 = .ok (.iload_n 3, 1) := by decide +kernel
theorem dX5_reverse_68 : decode cX5_reverse 68 = .ok (.iload 4, 2) := by decide +kernel
theorem dX5_reverse_70 : decode cX5_reverse 70 = .ok (.invokevirtual 93, 3) := by decide +kernel
theorem dX5_reverse_73 : decode cX5_reverse 73 = .ok (.i2l, 1) := by decide +kernel
theorem dX5_reverse_74 : decode cX5_reverse 74 = .ok (.invokevirtual 97, 3) := by decide +kernel
theorem dX5_reverse_77 : decode cX5_reverse 77 = .ok (.iinc 4 1, 3) := by decide +kernel
theorem dX5_reverse_80 : decode cX5_reverse 80 = .ok (.goto (-54), 3) := by decide +kernel
theorem dX5_reverse_83 : decode cX5_reverse 83 = .ok (.iinc 3 1, 3) := by decide +kernel
theorem dX5_reverse_86 : decode cX5_reverse 86 = .ok (.goto (-71), 3) := by decide +kernel
theorem dX5_reverse_89 : decode cX5_reverse 89 = .ok (.return_, 1) := by decide +kernel
theorem dX5_signChanges_0 : decode cX5_signChanges 0 = .ok (.iconst 0, 1) := by decide +kernel
theorem dX5_signChanges_1 : decode cX5_signChanges 1 = .ok (.istore_n 2, 1) := by decide +kernel
theorem dX5_signChanges_2 : decode cX5_signChanges 2 = .ok (.iconst 0, 1) := by decide +kernel
theorem dX5_signChanges_3 : decode cX5_signChanges 3 = .ok (.istore_n 3, 1) := by decide +kernel
theorem dX5_signChanges_4 : decode cX5_signChanges 4 = .ok (.iconst 0, 1) := by decide +kernel
theorem dX5_signChanges_5 : decode cX5_signChanges 5 = .ok (.istore 4, 2) := by decide +kernel
theorem dX5_signChanges_7 : decode cX5_signChanges 7 = .ok (.iload 4, 2) := by decide +kernel
theorem dX5_signChanges_9 : decode cX5_signChanges 9 = .ok (.iload_n 1, 1) := by decide +kernel
theorem dX5_signChanges_10 : decode cX5_signChanges 10 = .ok (.if_icmp .ge 49, 3) := by decide +kernel
theorem dX5_signChanges_13 : decode cX5_signChanges 13 = .ok (.iload 4, 2) := by decide +kernel
theorem dX5_signChanges_15 : decode cX5_signChanges 15 = .ok (.aload_n 0, 1) := by decide +kernel
theorem dX5_signChanges_16 : decode cX5_signChanges 16 = .ok (.arraylength, 1) := by decide +kernel
theorem dX5_signChanges_17 : decode cX5_signChanges 17 = .ok (.if_icmp .ge 42, 3) := by decide +kernel
theorem dX5_signChanges_20 : decode cX5_signChanges 20 = .ok (.aload_n 0, 1) := by decide +kernel
theorem dX5_signChanges_21 : decode cX5_signChanges 21 = .ok (.iload 4, 2) := by decide +kernel
theorem dX5_signChanges_23 : decode cX5_signChanges 23 = .ok (.iaload, 1) := by decide +kernel
theorem dX5_signChanges_24 : decode cX5_signChanges 24 = .ok (.i2l, 1) := by decide +kernel
theorem dX5_signChanges_25 : decode cX5_signChanges 25 = .ok (.invokestatic 245, 3) := by decide +kernel
theorem dX5_signChanges_28 : decode cX5_signChanges 28 = .ok (.istore 5, 2) := by decide +kernel
theorem dX5_signChanges_30 : decode cX5_signChanges 30 = .ok (.iload 5, 2) := by decide +kernel
theorem dX5_signChanges_32 : decode cX5_signChanges 32 = .ok (.iload_n 3, 1) := by decide +kernel
theorem dX5_signChanges_33 : decode cX5_signChanges 33 = .ok (.ineg, 1) := by decide +kernel
theorem dX5_signChanges_34 : decode cX5_signChanges 34 = .ok (.if_icmp .ne 11, 3) := by decide +kernel
theorem dX5_signChanges_37 : decode cX5_signChanges 37 = .ok (.iload 5, 2) := by decide +kernel
theorem dX5_signChanges_39 : decode cX5_signChanges 39 = .ok (.ifCond .eq 6, 3) := by decide +kernel
theorem dX5_signChanges_42 : decode cX5_signChanges 42 = .ok (.iinc 2 1, 3) := by decide +kernel
theorem dX5_signChanges_45 : decode cX5_signChanges 45 = .ok (.iload 5, 2) := by decide +kernel
theorem dX5_signChanges_47 : decode cX5_signChanges 47 = .ok (.ifCond .eq 6, 3) := by decide +kernel
theorem dX5_signChanges_50 : decode cX5_signChanges 50 = .ok (.iload 5, 2) := by decide +kernel
theorem dX5_signChanges_52 : decode cX5_signChanges 52 = .ok (.istore_n 3, 1) := by decide +kernel
theorem dX5_signChanges_53 : decode cX5_signChanges 53 = .ok (.iinc 4 1, 3) := by decide +kernel
theorem dX5_signChanges_56 : decode cX5_signChanges 56 = .ok (.goto (-49), 3) := by decide +kernel
theorem dX5_signChanges_59 : decode cX5_signChanges 59 = .ok (.iload_n 2, 1) := by decide +kernel
theorem dX5_signChanges_60 : decode cX5_signChanges 60 = .ok (.ireturn, 1) := by decide +kernel
end
section
theorem dX6_init_0 : decode cX6_init 0 = .ok (.aload_n 0, 1) := by decide +kernel
theorem dX6_init_1 : decode cX6_init 1 = .ok (.invokespecial 1, 3) := by decide +kernel
theorem dX6_init_4 : decode cX6_init 4 = .ok (.aload_n 0, 1) := by decide +kernel
theorem dX6_init_5 : decode cX6_init 5 = .ok (.sipush 300, 3) := by decide +kernel
theorem dX6_init_8 : decode cX6_init 8 = .ok (.newarray .int, 2) := by decide +kernel
theorem dX6_init_10 : decode cX6_init 10 = .ok (.putfield 7, 3) := by decide +kernel
theorem dX6_init_13 : decode cX6_init 13 = .ok (.aload_n 0, 1) := by decide +kernel
theorem dX6_init_14 : decode cX6_init 14 = .ok (.bipush 12, 2) := by decide +kernel
theorem dX6_init_16 : decode cX6_init 16 = .ok (.newarray .int, 2) := by decide +kernel
theorem dX6_init_18 : decode cX6_init 18 = .ok (.putfield 13, 3) := by decide +kernel
theorem dX6_init_21 : decode cX6_init 21 = .ok (.aload_n 0, 1) := by decide +kernel
theorem dX6_init_22 : decode cX6_init 22 = .ok (.bipush 12, 2) := by decide +kernel
theorem dX6_init_24 : decode cX6_init 24 = .ok (.newarray .int, 2) := by decide +kernel
theorem dX6_init_26 : decode cX6_init 26 = .ok (.putfield 16, 3) := by decide +kernel
theorem dX6_init_29 : decode cX6_init 29 = .ok (.aload_n 0, 1) := by decide +kernel
theorem dX6_init_30 : decode cX6_init 30 = .ok (.bipush 12, 2) := by decide +kernel
theorem dX6_init_32 : decode cX6_init 32 = .ok (.newarray .int, 2) := by decide +kernel
theorem dX6_init_34 : decode cX6_init 34 = .ok (.putfield 19, 3) := by decide +kernel
theorem dX6_init_37 : decode cX6_init 37 = .ok (.aload_n 0, 1) := by decide +kernel
theorem dX6_init_38 : decode cX6_init 38 = .ok (.bipush 12, 2) := by decide +kernel
theorem dX6_init_40 : decode cX6_init 40 = .ok (.newarray .int, 2) := by decide +kernel
theorem dX6_init_42 : decode cX6_init 42 = .ok (.putfield 22, 3) := by decide +kernel
theorem dX6_init_45 : decode cX6_init 45 = .ok (.aload_n 0, 1) := by decide +kernel
theorem dX6_init_46 : decode cX6_init 46 = .ok (.iconst 4, 1) := by decide +kernel
theorem dX6_init_47 : decode cX6_init 47 = .ok (.newarray .int, 2) := by decide +kernel
theorem dX6_init_49 : decode cX6_init 49 = .ok (.putfield 25, 3) := by decide +kernel
theorem dX6_init_52 : decode cX6_init 52 = .ok (.aload_n 0, 1) := by decide +kernel
theorem dX6_init_53 : decode cX6_init 53 = .ok (.iconst 4, 1) := by decide +kernel
theorem dX6_init_54 : decode cX6_init 54 = .ok (.newarray .int, 2) := by decide +kernel
theorem dX6_init_56 : decode cX6_init 56 = .ok (.putfield 28, 3) := by decide +kernel
theorem dX6_init_59 : decode cX6_init 59 = .ok (.aload_n 0, 1) := by decide +kernel
theorem dX6_init_60 : decode cX6_init 60 = .ok (.bipush 64, 2) := by decide +kernel
theorem dX6_init_62 : decode cX6_init 62 = .ok (.newarray .int, 2) := by decide +kernel
theorem dX6_init_64 : decode cX6_init 64 = .ok (.putfield 31, 3) := by decide +kernel
theorem dX6_init_67 : decode cX6_init 67 = .ok (.aload_n 0, 1) := by decide +kernel
theorem dX6_init_68 : decode cX6_init 68 = .ok (.bipush 64, 2) := by decide +kernel
theorem dX6_init_70 : decode cX6_init 70 = .ok (.newarray .int, 2) := by decide +kernel
theorem dX6_init_72 : decode cX6_init 72 = .ok (.putfield 34, 3) := by decide +kernel
theorem dX6_init_75 : decode cX6_init 75 = .ok (.aload_n 0, 1) := by decide +kernel
theorem dX6_init_76 : decode cX6_init 76 = .ok (.bipush 64, 2) := by decide +kernel
theorem dX6_init_78 : decode cX6_init 78 = .ok (.newarray .int, 2) := by decide +kernel
theorem dX6_init_80 : decode cX6_init 80 = .ok (.putfield 37, 3) := by decide +kernel
theorem dX6_init_83 : decode cX6_init 83 = .ok (.aload_n 0, 1) := by decide +kernel
theorem dX6_init_84 : decode cX6_init 84 = .ok (.bipush 9, 2) := by decide +kernel
theorem dX6_init_86 : decode cX6_init 86 = .ok (.newarray .int, 2) := by decide +kernel
theorem dX6_init_88 : decode cX6_init 88 = .ok (.putfield 40, 3) := by decide +kernel
theorem dX6_init_91 : decode cX6_init 91 = .ok (.aload_n 0, 1) := by decide +kernel
theorem dX6_init_92 : decode cX6_init 92 = .ok (.bipush 32, 2) := by decide +kernel
theorem dX6_init_94 : decode cX6_init 94 = .ok (.newarray .long, 2) := by decide +kernel
theorem dX6_init_96 : decode cX6_init 96 = .ok (.putfield 43, 3) := by decide +kernel
theorem dX6_init_99 : decode cX6_init 99 = .ok (.aload_n 0, 1) := by decide +kernel
theorem dX6_init_100 : decode cX6_init 100 = .ok (.bipush 25, 2) := by decide +kernel
theorem dX6_init_102 : decode cX6_init 102 = .ok (.newarray .long, 2) := by decide +kernel
theorem dX6_init_104 : decode cX6_init 104 = .ok (.putfield 47, 3) := by decide +kernel
theorem dX6_init_107 : decode cX6_init 107 = .ok (.aload_n 0, 1) := by decide +kernel
theorem dX6_init_108 : decode cX6_init 108 = .ok (.sipush 544, 3) := by decide +kernel
theorem dX6_init_111 : decode cX6_init 111 = .ok (.newarray .int, 2) := by decide +kernel
theorem dX6_init_113 : decode cX6_init 113 = .ok (.putfield 50, 3) := by decide +kernel
theorem dX6_init_116 : decode cX6_init 116 = .ok (.aload_n 0, 1) := by decide +kernel
theorem dX6_init_117 : decode cX6_init 117 = .ok (.sipush 544, 3) := by decide +kernel
theorem dX6_init_120 : decode cX6_init 120 = .ok (.newarray .long, 2) := by decide +kernel
theorem dX6_init_122 : decode cX6_init 122 = .ok (.putfield 53, 3) := by decide +kernel
theorem dX6_init_125 : decode cX6_init 125 = .ok (.aload_n 0, 1) := by decide +kernel
theorem dX6_init_126 : decode cX6_init 126 = .ok (.bipush 16, 2) := by decide +kernel
theorem dX6_init_128 : decode cX6_init 128 = .ok (.newarray .int, 2) := by decide +kernel
theorem dX6_init_130 : decode cX6_init 130 = .ok (.putfield 56, 3) := by decide +kernel
theorem dX6_init_133 : decode cX6_init 133 = .ok (.aload_n 0, 1) := by decide +kernel
theorem dX6_init_134 : decode cX6_init 134 = .ok (.bipush 16, 2) := by decide +kernel
theorem dX6_init_136 : decode cX6_init 136 = .ok (.newarray .int, 2) := by decide +kernel
theorem dX6_init_138 : decode cX6_init 138 = .ok (.putfield 59, 3) := by decide +kernel
theorem dX6_init_141 : decode cX6_init 141 = .ok (.aload_n 0, 1) := by decide +kernel
theorem dX6_init_142 : decode cX6_init 142 = .ok (.bipush 9, 2) := by decide +kernel
theorem dX6_init_144 : decode cX6_init 144 = .ok (.newarray .long, 2) := by decide +kernel
theorem dX6_init_146 : decode cX6_init 146 = .ok (.putfield 62, 3) := by decide +kernel
theorem dX6_init_149 : decode cX6_init 149 = .ok (.aload_n 0, 1) := by decide +kernel
theorem dX6_init_150 : decode cX6_init 150 = .ok (.bipush 9, 2) := by decide +kernel
theorem dX6_init_152 : decode cX6_init 152 = .ok (.newarray .long, 2) := by decide +kernel
theorem dX6_init_154 : decode cX6_init 154 = .ok (.putfield 65, 3) := by decide +kernel
theorem dX6_init_157 : decode cX6_init 157 = .ok (.aload_n 0, 1) := by decide +kernel
theorem dX6_init_158 : decode cX6_init 158 = .ok (.bipush 12, 2) := by decide +kernel
theorem dX6_init_160 : decode cX6_init 160 = .ok (.newarray .long, 2) := by decide +kernel
theorem dX6_init_162 : decode cX6_init 162 = .ok (.putfield 68, 3) := by decide +kernel
theorem dX6_init_165 : decode cX6_init 165 = .ok (.aload_n 0, 1) := by decide +kernel
theorem dX6_init_166 : decode cX6_init 166 = .ok (.bipush 12, 2) := by decide +kernel
theorem dX6_init_168 : decode cX6_init 168 = .ok (.newarray .long, 2) := by decide +kernel
theorem dX6_init_170 : decode cX6_init 170 = .ok (.putfield 71, 3) := by decide +kernel
theorem dX6_init_173 : decode cX6_init 173 = .ok (.aload_n 0, 1) := by decide +kernel
theorem dX6_init_174 : decode cX6_init 174 = .ok (.bipush 12, 2) := by decide +kernel
theorem dX6_init_176 : decode cX6_init 176 = .ok (.newarray .int, 2) := by decide +kernel
theorem dX6_init_178 : decode cX6_init 178 = .ok (.putfield 74, 3) := by decide +kernel
theorem dX6_init_181 : decode cX6_init 181 = .ok (.aload_n 0, 1) := by decide +kernel
theorem dX6_init_182 : decode cX6_init 182 = .ok (.bipush 12, 2) := by decide +kernel
theorem dX6_init_184 : decode cX6_init 184 = .ok (.newarray .int, 2) := by decide +kernel
theorem dX6_init_186 : decode cX6_init 186 = .ok (.putfield 77, 3) := by decide +kernel
theorem dX6_init_189 : decode cX6_init 189 = .ok (.return_, 1) := by decide +kernel
theorem dX6_isIn_0 : decode cX6_isIn 0 = .ok (.lload_n 0, 1) := by decide +kernel
theorem dX6_isIn_1 : decode cX6_isIn 1 = .ok (.lload_n 2, 1) := by decide +kernel
theorem dX6_isIn_2 : decode cX6_isIn 2 = .ok (.lcmp, 1) := by decide +kernel
theorem dX6_isIn_3 : decode cX6_isIn 3 = .ok (.ifCond .lt 14, 3) := by decide +kernel
theorem dX6_isIn_6 : decode cX6_isIn 6 = .ok (.lload_n 0, 1) := by decide +kernel
theorem dX6_isIn_7 : decode cX6_isIn 7 = .ok (.lload 4, 2) := by decide +kernel
theorem dX6_isIn_9 : decode cX6_isIn 9 = .ok (.lcmp, 1) := by decide +kernel
theorem dX6_isIn_10 : decode cX6_isIn 10 = .ok (.ifCond .gt 7, 3) := by decide +kernel
theorem dX6_isIn_13 : decode cX6_isIn 13 = .ok (.iconst 1, 1) := by decide +kernel
theorem dX6_isIn_14 : decode cX6_isIn 14 = .ok (.goto 4, 3) := by decide +kernel
theorem dX6_isIn_17 : decode cX6_isIn 17 = .ok (.iconst 0, 1) := by decide +kernel
theorem dX6_isIn_18 : decode cX6_isIn 18 = .ok (.ireturn, 1) := by decide +kernel
theorem dX6_no_0 : decode cX6_no 0 = .ok (.aload_n 0, 1) := by decide +kernel
theorem dX6_no_1 : decode cX6_no 1 = .ok (.getfield 40, 3) := by decide +kernel
theorem dX6_no_4 : decode cX6_no 4 = .ok (.iload_n 1, 1) := by decide +kernel
theorem dX6_no_5 : decode cX6_no 5 = .ok (.ineg, 1) := by decide +kernel
theorem dX6_no_6 : decode cX6_no 6 = .ok (.dup2, 1) := by decide +kernel
theorem dX6_no_7 : decode cX6_no 7 = .ok (.iaload, 1) := by decide +kernel
theorem dX6_no_8 : decode cX6_no 8 = .ok (.iconst 1, 1) := by decide +kernel
theorem dX6_no_9 : decode cX6_no 9 = .ok (.iadd, 1) := by decide +kernel
theorem dX6_no_10 : decode cX6_no 10 = .ok (.iastore, 1) := by decide +kernel
theorem dX6_no_11 : decode cX6_no 11 = .ok (.iload_n 1, 1) := by decide +kernel
theorem dX6_no_12 : decode cX6_no 12 = .ok (.ireturn, 1) := by decide +kernel
theorem dX6_none_0 : decode cX6_none 0 = .ok (.aload_n 0, 1) := by decide +kernel
theorem dX6_none_1 : decode cX6_none 1 = .ok (.iload_n 1, 1) := by decide +kernel
theorem dX6_none_2 : decode cX6_none 2 = .ok (.invokevirtual 80, 3) := by decide +kernel
theorem dX6_none_5 : decode cX6_none 5 = .ok (.istore_n 2, 1) := by decide +kernel
theorem dX6_none_6 : decode cX6_none 6 = .ok (.iconst 0, 1) := by decide +kernel
theorem dX6_none_7 : decode cX6_none 7 = .ok (.ireturn, 1) := by decide +kernel
theorem dX6_isTable_0 : decode cX6_isTable 0 = .ok (.iload_n 1, 1) := by decide +kernel
theorem dX6_isTable_1 : decode cX6_isTable 1 = .ok (.ifCond .lt 15, 3) := by decide +kernel
theorem dX6_isTable_4 : decode cX6_isTable 4 = .ok (.iload_n 1, 1) := by decide +kernel
theorem dX6_isTable_5 : decode cX6_isTable 5 = .ok (.aload_n 0, 1) := by decide +kernel
theorem dX6_isTable_6 : decode cX6_isTable 6 = .ok (.getfield 84, 3) := by decide +kernel
theorem dX6_isTable_9 : decode cX6_isTable 9 = .ok (.if_icmp .ge 7, 3) := by decide +kernel
theorem dX6_isTable_12 : decode cX6_isTable 12 = .ok (.iconst 1, 1) := by decide +kernel
theorem dX6_isTable_13 : decode cX6_isTable 13 = .ok (.goto 4, 3) := by decide +kernel
theorem dX6_isTable_16 : decode cX6_isTable 16 = .ok (.iconst 0, 1) := by decide +kernel
theorem dX6_isTable_17 : decode cX6_isTable 17 = .ok (.ireturn, 1) := by decide +kernel
theorem dX6_bits_0 : decode cX6_bits 0 = .ok (.iconst 0, 1) := by decide +kernel
theorem dX6_bits_1 : decode cX6_bits 1 = .ok (.istore_n 1, 1) := by decide +kernel
theorem dX6_bits_2 : decode cX6_bits 2 = .ok (.iconst 0, 1) := by decide +kernel
theorem dX6_bits_3 : decode cX6_bits 3 = .ok (.istore_n 2, 1) := by decide +kernel
theorem dX6_bits_4 : decode cX6_bits 4 = .ok (.iload_n 2, 1) := by decide +kernel
theorem dX6_bits_5 : decode cX6_bits 5 = .ok (.iconst 5, 1) := by decide +kernel
theorem dX6_bits_6 : decode cX6_bits 6 = .ok (.if_icmp .ge 17, 3) := by decide +kernel
theorem dX6_bits_9 : decode cX6_bits 9 = .ok (.iload_n 1, 1) := by decide +kernel
theorem dX6_bits_10 : decode cX6_bits 10 = .ok (.iload_n 0, 1) := by decide +kernel
theorem dX6_bits_11 : decode cX6_bits 11 = .ok (.iload_n 2, 1) := by decide +kernel
theorem dX6_bits_12 : decode cX6_bits 12 = .ok (.ishr, 1) := by decide +kernel
theorem dX6_bits_13 : decode cX6_bits 13 = .ok (.iconst 1, 1) := by decide +kernel
theorem dX6_bits_14 : decode cX6_bits 14 = .ok (.iand, 1) := by decide +kernel
theorem dX6_bits_15 : decode cX6_bits 15 = .ok (.iadd, 1) := by decide +kernel
theorem dX6_bits_16 : decode cX6_bits 16 = .ok (.istore_n 1, 1) := by decide +kernel
theorem dX6_bits_17 : decode cX6_bits 17 = .ok (.iinc 2 1, 3) := by decide +kernel
theorem dX6_bits_20 : decode cX6_bits 20 = .ok (.goto (-16), 3) := by decide +kernel
theorem dX6_bits_23 : decode cX6_bits 23 = .ok (.iload_n 1, 1) := by decide +kernel
theorem dX6_bits_24 : decode cX6_bits 24 = .ok (.ireturn, 1) := by decide +kernel
theorem dX6_place_0 : decode cX6_place 0 = .ok (.bipush 25, 2) := by decide +kernel
theorem dX6_place_2 : decode cX6_place 2 = .ok (.iload_n 0, 1) := by decide +kernel
theorem dX6_place_3 : decode cX6_place 3 = .ok (.imul, 1) := by decide +kernel
theorem dX6_place_4 : decode cX6_place 4 = .ok (.iconst 5, 1) := by decide +kernel
theorem dX6_place_5 : decode cX6_place 5 = .ok (.iload_n 1, 1) := by decide +kernel
theorem dX6_place_6 : decode cX6_place 6 = .ok (.imul, 1) := by decide +kernel
theorem dX6_place_7 : decode cX6_place 7 = .ok (.iadd, 1) := by decide +kernel
theorem dX6_place_8 : decode cX6_place 8 = .ok (.iload_n 2, 1) := by decide +kernel
theorem dX6_place_9 : decode cX6_place 9 = .ok (.iadd, 1) := by decide +kernel
theorem dX6_place_10 : decode cX6_place 10 = .ok (.ireturn, 1) := by decide +kernel
theorem dX6_begins_0 : decode cX6_begins 0 = .ok (.aload_n 0, 1) := by decide +kernel
theorem dX6_begins_1 : decode cX6_begins 1 = .ok (.getfield 84, 3) := by decide +kernel
theorem dX6_begins_4 : decode cX6_begins 4 = .ok (.bipush 12, 2) := by decide +kernel
theorem dX6_begins_6 : decode cX6_begins 6 = .ok (.if_icmp .ne 10, 3) := by decide +kernel
theorem dX6_begins_9 : decode cX6_begins 9 = .ok (.aload_n 0, 1) := by decide +kernel
theorem dX6_begins_10 : decode cX6_begins 10 = .ok (.bipush (-8), 2) := by decide +kernel
theorem dX6_begins_12 : decode cX6_begins 12 = .ok (.invokevirtual 80, 3) := by decide +kernel
theorem dX6_begins_15 : decode cX6_begins 15 = .ok (.ireturn, 1) := by decide +kernel
theorem dX6_begins_16 : decode cX6_begins 16 = .ok (.aload_n 0, 1) := by decide +kernel
theorem dX6_begins_17 : decode cX6_begins 17 = .ok (.getfield 13, 3) := by decide +kernel
theorem dX6_begins_20 : decode cX6_begins 20 = .ok (.aload_n 0, 1) := by decide +kernel
theorem dX6_begins_21 : decode cX6_begins 21 = .ok (.getfield 84, 3) := by decide +kernel
theorem dX6_begins_24 : decode cX6_begins 24 = .ok (.iload_n 1, 1) := by decide +kernel
theorem dX6_begins_25 : decode cX6_begins 25 = .ok (.iastore, 1) := by decide +kernel
theorem dX6_begins_26 : decode cX6_begins 26 = .ok (.aload_n 0, 1) := by decide +kernel
theorem dX6_begins_27 : decode cX6_begins 27 = .ok (.getfield 16, 3) := by decide +kernel
theorem dX6_begins_30 : decode cX6_begins 30 = .ok (.aload_n 0, 1) := by decide +kernel
theorem dX6_begins_31 : decode cX6_begins 31 = .ok (.getfield 84, 3) := by decide +kernel
theorem dX6_begins_34 : decode cX6_begins 34 = .ok (.iload_n 2, 1) := by decide +kernel
theorem dX6_begins_35 : decode cX6_begins 35 = .ok (.iastore, 1) := by decide +kernel
theorem dX6_begins_36 : decode cX6_begins 36 = .ok (.aload_n 0, 1) := by decide +kernel
theorem dX6_begins_37 : decode cX6_begins 37 = .ok (.getfield 19, 3) := by decide +kernel
theorem dX6_begins_40 : decode cX6_begins 40 = .ok (.aload_n 0, 1) := by decide +kernel
theorem dX6_begins_41 : decode cX6_begins 41 = .ok (.getfield 84, 3) := by decide +kernel
theorem dX6_begins_44 : decode cX6_begins 44 = .ok (.iload_n 3, 1) := by decide +kernel
theorem dX6_begins_45 : decode cX6_begins 45 = .ok (.iastore, 1) := by decide +kernel
theorem dX6_begins_46 : decode cX6_begins 46 = .ok (.iconst 0, 1) := by decide +kernel
theorem dX6_begins_47 : decode cX6_begins 47 = .ok (.istore 4, 2) := by decide +kernel
theorem dX6_begins_49 : decode cX6_begins 49 = .ok (.iload 4, 2) := by decide +kernel
theorem dX6_begins_51 : decode cX6_begins 51 = .ok (.bipush 25, 2) := by decide +kernel
theorem dX6_begins_53 : decode cX6_begins 53 = .ok (.if_icmp .ge 25, 3) := by decide +kernel
theorem dX6_begins_56 : decode cX6_begins 56 = .ok (.aload_n 0, 1) := by decide +kernel
theorem dX6_begins_57 : decode cX6_begins 57 = .ok (.getfield 7, 3) := by decide +kernel
theorem dX6_begins_60 : decode cX6_begins 60 = .ok (.bipush 25, 2) := by decide +kernel
theorem dX6_begins_62 : decode cX6_begins 62 = .ok (.aload_n 0, 1) := by decide +kernel
theorem dX6_begins_63 : decode cX6_begins 63 = .ok (.getfield 84, 3) := by decide +kernel
theorem dX6_begins_66 : decode cX6_begins 66 = .ok (.imul, 1) := by decide +kernel
theorem dX6_begins_67 : decode cX6_begins 67 = .ok (.iload 4, 2) := by decide +kernel
theorem dX6_begins_69 : decode cX6_begins 69 = .ok (.iadd, 1) := by decide +kernel
theorem dX6_begins_70 : decode cX6_begins 70 = .ok (.iconst 0, 1) := by decide +kernel
theorem dX6_begins_71 : decode cX6_begins 71 = .ok (.iastore, 1) := by decide +kernel
theorem dX6_begins_72 : decode cX6_begins 72 = .ok (.iinc 4 1, 3) := by decide +kernel
theorem dX6_begins_75 : decode cX6_begins 75 = .ok (.goto (-26), 3) := by decide +kernel
theorem dX6_begins_78 : decode cX6_begins 78 = .ok (.aload_n 0, 1) := by decide +kernel
theorem dX6_begins_79 : decode cX6_begins 79 = .ok (.dup, 1) := by decide +kernel
theorem dX6_begins_80 : decode cX6_begins 80 = .ok (.getfield 84, 3) := by decide +kernel
theorem dX6_begins_83 : decode cX6_begins 83 = .ok (.iconst 1, 1) := by decide +kernel
theorem dX6_begins_84 : decode cX6_begins 84 = .ok (.iadd, 1) := by decide +kernel
theorem dX6_begins_85 : decode cX6_begins 85 = .ok (.putfield 84, 3) := by decide +kernel
theorem dX6_begins_88 : decode cX6_begins 88 = .ok (.aload_n 0, 1) := by decide +kernel
theorem dX6_begins_89 : decode cX6_begins 89 = .ok (.getfield 84, 3) := by decide +kernel
theorem dX6_begins_92 : decode cX6_begins 92 = .ok (.iconst 1, 1) := by decide +kernel
theorem dX6_begins_93 : decode cX6_begins 93 = .ok (.isub, 1) := by decide +kernel
theorem dX6_begins_94 : decode cX6_begins 94 = .ok (.ireturn, 1) := by decide +kernel
theorem dX6_table_0 : decode cX6_table 0 = .ok (.iload_n 1, 1) := by decide +kernel
theorem dX6_table_1 : decode cX6_table 1 = .ok (.i2l, 1) := by decide +kernel
theorem dX6_table_2 : decode cX6_table 2 = .ok (.lconst 1, 1) := by decide +kernel
theorem dX6_table_3 : decode cX6_table 3 = .ok (.ldc2_w 88, 3) := by decide +kernel
theorem dX6_table_6 : decode cX6_table 6 = .ok (.invokestatic 90, 3) := by decide +kernel
theorem dX6_table_9 : decode cX6_table 9 = .ok (.ifCond .eq 25, 3) := by decide +kernel
theorem dX6_table_12 : decode cX6_table 12 = .ok (.iload_n 2, 1) := by decide +kernel
theorem dX6_table_13 : decode cX6_table 13 = .ok (.i2l, 1) := by decide +kernel
theorem dX6_table_14 : decode cX6_table 14 = .ok (.lconst 1, 1) := by decide +kernel
theorem dX6_table_15 : decode cX6_table 15 = .ok (.ldc2_w 88, 3) := by decide +kernel
theorem dX6_table_18 : decode cX6_table 18 = .ok (.invokestatic 90, 3) := by decide +kernel
theorem dX6_table_21 : decode cX6_table 21 = .ok (.ifCond .eq 13, 3) := by decide +kernel
theorem dX6_table_24 : decode cX6_table 24 = .ok (.aload_n 0, 1) := by decide +kernel
theorem dX6_table_25 : decode cX6_table 25 = .ok (.iload_n 1, 1) := by decide +kernel
theorem dX6_table_26 : decode cX6_table 26 = .ok (.iload_n 2, 1) := by decide +kernel
theorem dX6_table_27 : decode cX6_table 27 = .ok (.iconst 0, 1) := by decide +kernel
theorem dX6_table_28 : decode cX6_table 28 = .ok (.invokevirtual 94, 3) := by decide +kernel
theorem dX6_table_31 : decode cX6_table 31 = .ok (.goto 9, 3) := by decide +kernel
theorem dX6_table_34 : decode cX6_table 34 = .ok (.aload_n 0, 1) := by decide +kernel
theorem dX6_table_35 : decode cX6_table 35 = .ok (.bipush (-7), 2) := by decide +kernel
theorem dX6_table_37 : decode cX6_table 37 = .ok (.invokevirtual 80, 3) := by decide +kernel
theorem dX6_table_40 : decode cX6_table 40 = .ok (.ireturn, 1) := by decide +kernel
theorem dX6_isPlace_0 : decode cX6_isPlace 0 = .ok (.aload_n 0, 1) := by decide +kernel
theorem dX6_isPlace_1 : decode cX6_isPlace 1 = .ok (.iload_n 1, 1) := by decide +kernel
theorem dX6_isPlace_2 : decode cX6_isPlace 2 = .ok (.invokevirtual 98, 3) := by decide +kernel
theorem dX6_isPlace_5 : decode cX6_isPlace 5 = .ok (.ifCond .eq 43, 3) := by decide +kernel
theorem dX6_isPlace_8 : decode cX6_isPlace 8 = .ok (.iload_n 2, 1) := by decide +kernel
theorem dX6_isPlace_9 : decode cX6_isPlace 9 = .ok (.i2l, 1) := by decide +kernel
theorem dX6_isPlace_10 : decode cX6_isPlace 10 = .ok (.lconst 0, 1) := by decide +kernel
theorem dX6_isPlace_11 : decode cX6_isPlace 11 = .ok (.aload_n 0, 1) := by decide +kernel
theorem dX6_isPlace_12 : decode cX6_isPlace 12 = .ok (.getfield 13, 3) := by decide +kernel
theorem dX6_isPlace_15 : decode cX6_isPlace 15 = .ok (.iload_n 1, 1) := by decide +kernel
theorem dX6_isPlace_16 : decode cX6_isPlace 16 = .ok (.iaload, 1) := by decide +kernel
theorem dX6_isPlace_17 : decode cX6_isPlace 17 = .ok (.iconst 1, 1) := by decide +kernel
theorem dX6_isPlace_18 : decode cX6_isPlace 18 = .ok (.isub, 1) := by decide +kernel
theorem dX6_isPlace_19 : decode cX6_isPlace 19 = .ok (.i2l, 1) := by decide +kernel
theorem dX6_isPlace_20 : decode cX6_isPlace 20 = .ok (.invokestatic 90, 3) := by decide +kernel
theorem dX6_isPlace_23 : decode cX6_isPlace 23 = .ok (.ifCond .eq 25, 3) := by decide +kernel
theorem dX6_isPlace_26 : decode cX6_isPlace 26 = .ok (.iload_n 3, 1) := by decide +kernel
theorem dX6_isPlace_27 : decode cX6_isPlace 27 = .ok (.i2l, 1) := by decide +kernel
theorem dX6_isPlace_28 : decode cX6_isPlace 28 = .ok (.lconst 0, 1) := by decide +kernel
theorem dX6_isPlace_29 : decode cX6_isPlace 29 = .ok (.aload_n 0, 1) := by decide +kernel
theorem dX6_isPlace_30 : decode cX6_isPlace 30 = .ok (.getfield 16, 3) := by decide +kernel
theorem dX6_isPlace_33 : decode cX6_isPlace 33 = .ok (.iload_n 1, 1) := by decide +kernel
theorem dX6_isPlace_34 : decode cX6_isPlace 34 = .ok (.iaload, 1) := by decide +kernel
theorem dX6_isPlace_35 : decode cX6_isPlace 35 = .ok (.iconst 1, 1) := by decide +kernel
theorem dX6_isPlace_36 : decode cX6_isPlace 36 = .ok (.isub, 1) := by decide +kernel
theorem dX6_isPlace_37 : decode cX6_isPlace 37 = .ok (.i2l, 1) := by decide +kernel
theorem dX6_isPlace_38 : decode cX6_isPlace 38 = .ok (.invokestatic 90, 3) := by decide +kernel
theorem dX6_isPlace_41 : decode cX6_isPlace 41 = .ok (.ifCond .eq 7, 3) := by decide +kernel
theorem dX6_isPlace_44 : decode cX6_isPlace 44 = .ok (.iconst 1, 1) := by decide +kernel
theorem dX6_isPlace_45 : decode cX6_isPlace 45 = .ok (.goto 4, 3) := by decide +kernel
theorem dX6_isPlace_48 : decode cX6_isPlace 48 = .ok (.iconst 0, 1) := by decide +kernel
theorem dX6_isPlace_49 : decode cX6_isPlace 49 = .ok (.ireturn, 1) := by decide +kernel
theorem dX6_set_0 : decode cX6_set 0 = .ok (.aload_n 0, 1) := by decide +kernel
theorem dX6_set_1 : decode cX6_set 1 = .ok (.iload_n 1, 1) := by decide +kernel
theorem dX6_set_2 : decode cX6_set 2 = .ok (.iload_n 2, 1) := by decide +kernel
theorem dX6_set_3 : decode cX6_set 3 = .ok (.iload_n 3, 1) := by decide +kernel
theorem dX6_set_4 : decode cX6_set 4 = .ok (.invokevirtual 102, 3) := by decide +kernel
theorem dX6_set_7 : decode cX6_set 7 = .ok (.ifCond .ne 10, 3) := by decide +kernel
theorem dX6_set_10 : decode cX6_set 10 = .ok (.aload_n 0, 1) := by decide +kernel
theorem dX6_set_11 : decode cX6_set 11 = .ok (.bipush (-3), 2) := by decide +kernel
theorem dX6_set_13 : decode cX6_set 13 = .ok (.invokevirtual 106, 3) := by decide +kernel
theorem dX6_set_16 : decode cX6_set 16 = .ok (.ireturn, 1) := by decide +kernel
theorem dX6_set_17 : decode cX6_set 17 = .ok (.aload_n 0, 1) := by decide +kernel
theorem dX6_set_18 : decode cX6_set 18 = .ok (.getfield 19, 3) := by decide +kernel
theorem dX6_set_21 : decode cX6_set 21 = .ok (.iload_n 1, 1) := by decide +kernel
theorem dX6_set_22 : decode cX6_set 22 = .ok (.iaload, 1) := by decide +kernel
theorem dX6_set_23 : decode cX6_set 23 = .ok (.ifCond .eq 10, 3) := by decide +kernel
theorem dX6_set_26 : decode cX6_set 26 = .ok (.aload_n 0, 1) := by decide +kernel
theorem dX6_set_27 : decode cX6_set 27 = .ok (.bipush (-5), 2) := by decide +kernel
theorem dX6_set_29 : decode cX6_set 29 = .ok (.invokevirtual 106, 3) := by decide +kernel
theorem dX6_set_32 : decode cX6_set 32 = .ok (.ireturn, 1) := by decide +kernel
theorem dX6_set_33 : decode cX6_set 33 = .ok (.iload 4, 2) := by decide +kernel
theorem dX6_set_35 : decode cX6_set 35 = .ok (.i2l, 1) := by decide +kernel
theorem dX6_set_36 : decode cX6_set 36 = .ok (.ldc2_w 109, 3) := by decide +kernel
theorem dX6_set_39 : decode cX6_set 39 = .ok (.ldc2_w 111, 3) := by decide +kernel
theorem dX6_set_42 : decode cX6_set 42 = .ok (.invokestatic 90, 3) := by decide +kernel
theorem dX6_set_45 : decode cX6_set 45 = .ok (.ifCond .ne 10, 3) := by decide +kernel
theorem dX6_set_48 : decode cX6_set 48 = .ok (.aload_n 0, 1) := by decide +kernel
theorem dX6_set_49 : decode cX6_set 49 = .ok (.bipush (-7), 2) := by decide +kernel
theorem dX6_set_51 : decode cX6_set 51 = .ok (.invokevirtual 106, 3) := by decide +kernel
theorem dX6_set_54 : decode cX6_set 54 = .ok (.ireturn, 1) := by decide +kernel
theorem dX6_set_55 : decode cX6_set 55 = .ok (.aload_n 0, 1) := by decide +kernel
theorem dX6_set_56 : decode cX6_set 56 = .ok (.getfield 7, 3) := by decide +kernel
theorem dX6_set_59 : decode cX6_set 59 = .ok (.iload_n 1, 1) := by decide +kernel
theorem dX6_set_60 : decode cX6_set 60 = .ok (.iload_n 2, 1) := by decide +kernel
theorem dX6_set_61 : decode cX6_set 61 = .ok (.iload_n 3, 1) := by decide +kernel
theorem dX6_set_62 : decode cX6_set 62 = .ok (.invokestatic 113, 3) := by decide +kernel
theorem dX6_set_65 : decode cX6_set 65 = .ok (.iaload, 1) := by decide +kernel
theorem dX6_set_66 : decode cX6_set 66 = .ok (.istore 5, 2) := by decide +kernel
theorem dX6_set_68 : decode cX6_set 68 = .ok (.aload_n 0, 1) := by decide +kernel
theorem dX6_set_69 : decode cX6_set 69 = .ok (.getfield 7, 3) := by decide +kernel
theorem dX6_set_72 : decode cX6_set 72 = .ok (.iload_n 1, 1) := by decide +kernel
theorem dX6_set_73 : decode cX6_set 73 = .ok (.iload_n 2, 1) := by decide +kernel
theorem dX6_set_74 : decode cX6_set 74 = .ok (.iload_n 3, 1) := by decide +kernel
theorem dX6_set_75 : decode cX6_set 75 = .ok (.invokestatic 113, 3) := by decide +kernel
theorem dX6_set_78 : decode cX6_set 78 = .ok (.iload 4, 2) := by decide +kernel
theorem dX6_set_80 : decode cX6_set 80 = .ok (.iastore, 1) := by decide +kernel
theorem dX6_set_81 : decode cX6_set 81 = .ok (.iload 5, 2) := by decide +kernel
theorem dX6_set_83 : decode cX6_set 83 = .ok (.ireturn, 1) := by decide +kernel
theorem dX6_at_0 : decode cX6_at 0 = .ok (.aload_n 0, 1) := by decide +kernel
theorem dX6_at_1 : decode cX6_at 1 = .ok (.iload_n 1, 1) := by decide +kernel
theorem dX6_at_2 : decode cX6_at 2 = .ok (.iload_n 2, 1) := by decide +kernel
theorem dX6_at_3 : decode cX6_at 3 = .ok (.iload_n 3, 1) := by decide +kernel
theorem dX6_at_4 : decode cX6_at 4 = .ok (.invokevirtual 102, 3) := by decide +kernel
theorem dX6_at_7 : decode cX6_at 7 = .ok (.ifCond .eq 17, 3) := by decide +kernel
theorem dX6_at_10 : decode cX6_at 10 = .ok (.aload_n 0, 1) := by decide +kernel
theorem dX6_at_11 : decode cX6_at 11 = .ok (.getfield 7, 3) := by decide +kernel
theorem dX6_at_14 : decode cX6_at 14 = .ok (.iload_n 1, 1) := by decide +kernel
theorem dX6_at_15 : decode cX6_at 15 = .ok (.iload_n 2, 1) := by decide +kernel
theorem dX6_at_16 : decode cX6_at 16 = .ok (.iload_n 3, 1) := by decide +kernel
theorem dX6_at_17 : decode cX6_at 17 = .ok (.invokestatic 113, 3) := by decide +kernel
theorem dX6_at_20 : decode cX6_at 20 = .ok (.iaload, 1) := by decide +kernel
theorem dX6_at_21 : decode cX6_at 21 = .ok (.goto 9, 3) := by decide +kernel
theorem dX6_at_24 : decode cX6_at 24 = .ok (.aload_n 0, 1) := by decide +kernel
theorem dX6_at_25 : decode cX6_at 25 = .ok (.bipush (-3), 2) := by decide +kernel
theorem dX6_at_27 : decode cX6_at 27 = .ok (.invokevirtual 106, 3) := by decide +kernel
theorem dX6_at_30 : decode cX6_at 30 = .ok (.ireturn, 1) := by decide +kernel
theorem dX6_worthOf_0 : decode cX6_worthOf 0 = .ok (.iconst 0, 1) := by decide +kernel
theorem dX6_worthOf_1 : decode cX6_worthOf 1 = .ok (.istore 4, 2) := by decide +kernel
theorem dX6_worthOf_3 : decode cX6_worthOf 3 = .ok (.iload 4, 2) := by decide +kernel
theorem dX6_worthOf_5 : decode cX6_worthOf 5 = .ok (.bipush 32, 2) := by decide +kernel
theorem dX6_worthOf_7 : decode cX6_worthOf 7 = .ok (.if_icmp .ge 26, 3) := by decide +kernel
theorem dX6_worthOf_10 : decode cX6_worthOf 10 = .ok (.aload_n 0, 1) := by decide +kernel
theorem dX6_worthOf_11 : decode cX6_worthOf 11 = .ok (.getfield 43, 3) := by decide +kernel
theorem dX6_worthOf_14 : decode cX6_worthOf 14 = .ok (.iload 4, 2) := by decide +kernel
theorem dX6_worthOf_16 : decode cX6_worthOf 16 = .ok (.iload 4, 2) := by decide +kernel
theorem dX6_worthOf_18 : decode cX6_worthOf 18 = .ok (.ifCond .ne 7, 3) := by decide +kernel
theorem dX6_worthOf_21 : decode cX6_worthOf 21 = .ok (.lconst 1, 1) := by decide +kernel
theorem dX6_worthOf_22 : decode cX6_worthOf 22 = .ok (.goto 4, 3) := by decide +kernel
theorem dX6_worthOf_25 : decode cX6_worthOf 25 = .ok (.lconst 0, 1) := by decide +kernel
theorem dX6_worthOf_26 : decode cX6_worthOf 26 = .ok (.lastore, 1) := by decide +kernel
theorem dX6_worthOf_27 : decode cX6_worthOf 27 = .ok (.iinc 4 1, 3) := by decide +kernel
theorem dX6_worthOf_30 : decode cX6_worthOf 30 = .ok (.goto (-27), 3) := by decide +kernel
theorem dX6_worthOf_33 : decode cX6_worthOf 33 = .ok (.iconst 0, 1) := by decide +kernel
theorem dX6_worthOf_34 : decode cX6_worthOf 34 = .ok (.istore 4, 2) := by decide +kernel
theorem dX6_worthOf_36 : decode cX6_worthOf 36 = .ok (.iconst 0, 1) := by decide +kernel
theorem dX6_worthOf_37 : decode cX6_worthOf 37 = .ok (.istore 5, 2) := by decide +kernel
theorem dX6_worthOf_39 : decode cX6_worthOf 39 = .ok (.iload 5, 2) := by decide +kernel
theorem dX6_worthOf_41 : decode cX6_worthOf 41 = .ok (.iconst 5, 1) := by decide +kernel
theorem dX6_worthOf_42 : decode cX6_worthOf 42 = .ok (.if_icmp .ge 186, 3) := by decide +kernel
theorem dX6_worthOf_45 : decode cX6_worthOf 45 = .ok (.iload_n 2, 1) := by decide +kernel
theorem dX6_worthOf_46 : decode cX6_worthOf 46 = .ok (.iload 5, 2) := by decide +kernel
theorem dX6_worthOf_48 : decode cX6_worthOf 48 = .ok (.ishr, 1) := by decide +kernel
theorem dX6_worthOf_49 : decode cX6_worthOf 49 = .ok (.iconst 1, 1) := by decide +kernel
theorem dX6_worthOf_50 : decode cX6_worthOf 50 = .ok (.iand, 1) := by decide +kernel
theorem dX6_worthOf_51 : decode cX6_worthOf 51 = .ok (.ifCond .ne 6, 3) := by decide +kernel
theorem dX6_worthOf_54 : decode cX6_worthOf 54 = .ok (.goto 168, 3) := by decide +kernel
theorem dX6_worthOf_57 : decode cX6_worthOf 57 = .ok (.bipush 31, 2) := by decide +kernel
theorem dX6_worthOf_59 : decode cX6_worthOf 59 = .ok (.istore 6, 2) := by decide +kernel
theorem dX6_worthOf_61 : decode cX6_worthOf 61 = .ok (.iload 6, 2) := by decide +kernel
theorem dX6_worthOf_63 : decode cX6_worthOf 63 = .ok (.ifCond .lt 156, 3) := by decide +kernel
theorem dX6_worthOf_66 : decode cX6_worthOf 66 = .ok (.iload 6, 2) := by decide +kernel
theorem dX6_worthOf_68 : decode cX6_worthOf 68 = .ok (.invokestatic 116, 3) := by decide +kernel
theorem dX6_worthOf_71 : decode cX6_worthOf 71 = .ok (.iload 4, 2) := by decide +kernel
theorem dX6_worthOf_73 : decode cX6_worthOf 73 = .ok (.if_icmp .ne 140, 3) := by decide +kernel
theorem dX6_worthOf_76 : decode cX6_worthOf 76 = .ok (.aload_n 0, 1) := by decide +kernel
theorem dX6_worthOf_77 : decode cX6_worthOf 77 = .ok (.getfield 43, 3) := by decide +kernel
theorem dX6_worthOf_80 : decode cX6_worthOf 80 = .ok (.iload 6, 2) := by decide +kernel
theorem dX6_worthOf_82 : decode cX6_worthOf 82 = .ok (.laload, 1) := by decide +kernel
theorem dX6_worthOf_83 : decode cX6_worthOf 83 = .ok (.lconst 0, 1) := by decide +kernel
theorem dX6_worthOf_84 : decode cX6_worthOf 84 = .ok (.lcmp, 1) := by decide +kernel
theorem dX6_worthOf_85 : decode cX6_worthOf 85 = .ok (.ifCond .eq 128, 3) := by decide +kernel
theorem dX6_worthOf_88 : decode cX6_worthOf 88 = .ok (.iload 6, 2) := by decide +kernel
theorem dX6_worthOf_90 : decode cX6_worthOf 90 = .ok (.iload_n 3, 1) := by decide +kernel
theorem dX6_worthOf_91 : decode cX6_worthOf 91 = .ok (.iconst (-1), 1) := by decide +kernel
theorem dX6_worthOf_92 : decode cX6_worthOf 92 = .ok (.ixor, 1) := by decide +kernel
theorem dX6_worthOf_93 : decode cX6_worthOf 93 = .ok (.iand, 1) := by decide +kernel
theorem dX6_worthOf_94 : decode cX6_worthOf 94 = .ok (.ifCond .eq 6, 3) := by decide +kernel
theorem dX6_worthOf_97 : decode cX6_worthOf 97 = .ok (.goto 116, 3) := by decide +kernel
theorem dX6_worthOf_100 : decode cX6_worthOf 100 = .ok (.iconst 0, 1) := by decide +kernel
theorem dX6_worthOf_101 : decode cX6_worthOf 101 = .ok (.istore 7, 2) := by decide +kernel
theorem dX6_worthOf_103 : decode cX6_worthOf 103 = .ok (.iload 7, 2) := by decide +kernel
theorem dX6_worthOf_105 : decode cX6_worthOf 105 = .ok (.iconst 5, 1) := by decide +kernel
theorem dX6_worthOf_106 : decode cX6_worthOf 106 = .ok (.if_icmp .ge 107, 3) := by decide +kernel
theorem dX6_worthOf_109 : decode cX6_worthOf 109 = .ok (.iload_n 3, 1) := by decide +kernel
theorem dX6_worthOf_110 : decode cX6_worthOf 110 = .ok (.iload 7, 2) := by decide +kernel
theorem dX6_worthOf_112 : decode cX6_worthOf 112 = .ok (.ishr, 1) := by decide +kernel
theorem dX6_worthOf_113 : decode cX6_worthOf 113 = .ok (.iconst 1, 1) := by decide +kernel
theorem dX6_worthOf_114 : decode cX6_worthOf 114 = .ok (.iand, 1) := by decide +kernel
theorem dX6_worthOf_115 : decode cX6_worthOf 115 = .ok (.ifCond .eq 92, 3) := by decide +kernel
theorem dX6_worthOf_118 : decode cX6_worthOf 118 = .ok (.iload 6, 2) := by decide +kernel
theorem dX6_worthOf_120 : decode cX6_worthOf 120 = .ok (.iload 7, 2) := by decide +kernel
theorem dX6_worthOf_122 : decode cX6_worthOf 122 = .ok (.ishr, 1) := by decide +kernel
theorem dX6_worthOf_123 : decode cX6_worthOf 123 = .ok (.iconst 1, 1) := by decide +kernel
theorem dX6_worthOf_124 : decode cX6_worthOf 124 = .ok (.iand, 1) := by decide +kernel
theorem dX6_worthOf_125 : decode cX6_worthOf 125 = .ok (.iconst 1, 1) := by decide +kernel
theorem dX6_worthOf_126 : decode cX6_worthOf 126 = .ok (.if_icmp .ne 6, 3) := by decide +kernel
theorem dX6_worthOf_129 : decode cX6_worthOf 129 = .ok (.goto 78, 3) := by decide +kernel
theorem dX6_worthOf_132 : decode cX6_worthOf 132 = .ok (.iload 6, 2) := by decide +kernel
theorem dX6_worthOf_134 : decode cX6_worthOf 134 = .ok (.iload 7, 2) := by decide +kernel
theorem dX6_worthOf_136 : decode cX6_worthOf 136 = .ok (.iconst 1, 1) := by decide +kernel
theorem dX6_worthOf_137 : decode cX6_worthOf 137 = .ok (.iadd, 1) := by decide +kernel
theorem dX6_worthOf_138 : decode cX6_worthOf 138 = .ok (.ishr, 1) := by decide +kernel
theorem dX6_worthOf_139 : decode cX6_worthOf 139 = .ok (.invokestatic 116, 3) := by decide +kernel
theorem dX6_worthOf_142 : decode cX6_worthOf 142 = .ok (.iconst 2, 1) := by decide +kernel
theorem dX6_worthOf_143 : decode cX6_worthOf 143 = .ok (.irem, 1) := by decide +kernel
theorem dX6_worthOf_144 : decode cX6_worthOf 144 = .ok (.iconst 1, 1) := by decide +kernel
theorem dX6_worthOf_145 : decode cX6_worthOf 145 = .ok (.if_icmp .ne 7, 3) := by decide +kernel
theorem dX6_worthOf_148 : decode cX6_worthOf 148 = .ok (.iconst 1, 1) := by decide +kernel
theorem dX6_worthOf_149 : decode cX6_worthOf 149 = .ok (.goto 4, 3) := by decide +kernel
theorem dX6_worthOf_152 : decode cX6_worthOf 152 = .ok (.iconst 0, 1) := by decide +kernel
theorem dX6_worthOf_153 : decode cX6_worthOf 153 = .ok (.istore 8, 2) := by decide +kernel
theorem dX6_worthOf_155 : decode cX6_worthOf 155 = .ok (.aload_n 0, 1) := by decide +kernel
theorem dX6_worthOf_156 : decode cX6_worthOf 156 = .ok (.getfield 43, 3) := by decide +kernel
theorem dX6_worthOf_159 : decode cX6_worthOf 159 = .ok (.iload 6, 2) := by decide +kernel
theorem dX6_worthOf_161 : decode cX6_worthOf 161 = .ok (.laload, 1) := by decide +kernel
theorem dX6_worthOf_162 : decode cX6_worthOf 162 = .ok (.aload_n 0, 1) := by decide +kernel
theorem dX6_worthOf_163 : decode cX6_worthOf 163 = .ok (.getfield 7, 3) := by decide +kernel
theorem dX6_worthOf_166 : decode cX6_worthOf 166 = .ok (.iload_n 1, 1) := by decide +kernel
theorem dX6_worthOf_167 : decode cX6_worthOf 167 = .ok (.iload 5, 2) := by decide +kernel
theorem dX6_worthOf_169 : decode cX6_worthOf 169 = .ok (.iload 7, 2) := by decide +kernel
theorem dX6_worthOf_171 : decode cX6_worthOf 171 = .ok (.invokestatic 113, 3) := by decide +kernel
theorem dX6_worthOf_174 : decode cX6_worthOf 174 = .ok (.iaload, 1) := by decide +kernel
theorem dX6_worthOf_175 : decode cX6_worthOf 175 = .ok (.i2l, 1) := by decide +kernel
theorem dX6_worthOf_176 : decode cX6_worthOf 176 = .ok (.lmul, 1) := by decide +kernel
theorem dX6_worthOf_177 : decode cX6_worthOf 177 = .ok (.lstore 9, 2) := by decide +kernel
theorem dX6_worthOf_179 : decode cX6_worthOf 179 = .ok (.aload_n 0, 1) := by decide +kernel
theorem dX6_worthOf_180 : decode cX6_worthOf 180 = .ok (.getfield 43, 3) := by decide +kernel
theorem dX6_worthOf_183 : decode cX6_worthOf 183 = .ok (.iload 6, 2) := by decide +kernel
theorem dX6_worthOf_185 : decode cX6_worthOf 185 = .ok (.iconst 1, 1) := by decide +kernel
theorem dX6_worthOf_186 : decode cX6_worthOf 186 = .ok (.iload 7, 2) := by decide +kernel
theorem dX6_worthOf_188 : decode cX6_worthOf 188 = .ok (.ishl, 1) := by decide +kernel
theorem dX6_worthOf_189 : decode cX6_worthOf 189 = .ok (.ior, 1) := by decide +kernel
theorem dX6_worthOf_190 : decode cX6_worthOf 190 = .ok (.dup2, 1) := by decide +kernel
theorem dX6_worthOf_191 : decode cX6_worthOf 191 = .ok (.laload, 1) := by decide +kernel
theorem dX6_worthOf_192 : decode cX6_worthOf 192 = .ok (.iload 8, 2) := by decide +kernel
theorem dX6_worthOf_194 : decode cX6_worthOf 194 = .ok (.ifCond .eq 9, 3) := by decide +kernel
theorem dX6_worthOf_197 : decode cX6_worthOf 197 = .ok (.lload 9, 2) := by decide +kernel
theorem dX6_worthOf_199 : decode cX6_worthOf 199 = .ok (.lneg, 1) := by decide +kernel
theorem dX6_worthOf_200 : decode cX6_worthOf 200 = .ok (.goto 5, 3) := by decide +kernel
theorem dX6_worthOf_203 : decode cX6_worthOf 203 = .ok (.lload 9, 2) := by decide +kernel
theorem dX6_worthOf_205 : decode cX6_worthOf 205 = .ok (.ladd, 1) := by decide +kernel
theorem dX6_worthOf_206 : decode cX6_worthOf 206 = .ok (.lastore, 1) := by decide +kernel
theorem dX6_worthOf_207 : decode cX6_worthOf 207 = .ok (.iinc 7 1, 3) := by decide +kernel
theorem dX6_worthOf_210 : decode cX6_worthOf 210 = .ok (.goto (-107), 3) := by decide +kernel
theorem dX6_worthOf_213 : decode cX6_worthOf 213 = .ok (.iinc 6 (-1), 3) := by decide +kernel
theorem dX6_worthOf_216 : decode cX6_worthOf 216 = .ok (.goto (-155), 3) := by decide +kernel
theorem dX6_worthOf_219 : decode cX6_worthOf 219 = .ok (.iinc 4 1, 3) := by decide +kernel
theorem dX6_worthOf_222 : decode cX6_worthOf 222 = .ok (.iinc 5 1, 3) := by decide +kernel
theorem dX6_worthOf_225 : decode cX6_worthOf 225 = .ok (.goto (-186), 3) := by decide +kernel
theorem dX6_worthOf_228 : decode cX6_worthOf 228 = .ok (.aload_n 0, 1) := by decide +kernel
theorem dX6_worthOf_229 : decode cX6_worthOf 229 = .ok (.getfield 43, 3) := by decide +kernel
theorem dX6_worthOf_232 : decode cX6_worthOf 232 = .ok (.iload_n 3, 1) := by decide +kernel
theorem dX6_worthOf_233 : decode cX6_worthOf 233 = .ok (.laload, 1) := by decide +kernel
theorem dX6_worthOf_234 : decode cX6_worthOf 234 = .ok (.lreturn, 1) := by decide +kernel
theorem dX6_isSome_0 : decode cX6_isSome 0 = .ok (.iload_n 0, 1) := by decide +kernel
theorem dX6_isSome_1 : decode cX6_isSome 1 = .ok (.ifCond .le 14, 3) := by decide +kernel
theorem dX6_isSome_4 : decode cX6_isSome 4 = .ok (.iload_n 0, 1) := by decide +kernel
theorem dX6_isSome_5 : decode cX6_isSome 5 = .ok (.iconst 1, 1) := by decide +kernel
theorem dX6_isSome_6 : decode cX6_isSome 6 = .ok (.iload_n 1, 1) := by decide +kernel
theorem dX6_isSome_7 : decode cX6_isSome 7 = .ok (.ishl, 1) := by decide +kernel
theorem dX6_isSome_8 : decode cX6_isSome 8 = .ok (.if_icmp .ge 7, 3) := by decide +kernel
theorem dX6_isSome_11 : decode cX6_isSome 11 = .ok (.iconst 1, 1) := by decide +kernel
theorem dX6_isSome_12 : decode cX6_isSome 12 = .ok (.goto 4, 3) := by decide +kernel
theorem dX6_isSome_15 : decode cX6_isSome 15 = .ok (.iconst 0, 1) := by decide +kernel
theorem dX6_isSome_16 : decode cX6_isSome 16 = .ok (.ireturn, 1) := by decide +kernel
theorem dX6_worth_0 : decode cX6_worth 0 = .ok (.aload_n 0, 1) := by decide +kernel
theorem dX6_worth_1 : decode cX6_worth 1 = .ok (.iload_n 1, 1) := by decide +kernel
theorem dX6_worth_2 : decode cX6_worth 2 = .ok (.invokevirtual 98, 3) := by decide +kernel
theorem dX6_worth_5 : decode cX6_worth 5 = .ok (.ifCond .eq 29, 3) := by decide +kernel
theorem dX6_worth_8 : decode cX6_worth 8 = .ok (.iload_n 2, 1) := by decide +kernel
theorem dX6_worth_9 : decode cX6_worth 9 = .ok (.aload_n 0, 1) := by decide +kernel
theorem dX6_worth_10 : decode cX6_worth 10 = .ok (.getfield 13, 3) := by decide +kernel
theorem dX6_worth_13 : decode cX6_worth 13 = .ok (.iload_n 1, 1) := by decide +kernel
theorem dX6_worth_14 : decode cX6_worth 14 = .ok (.iaload, 1) := by decide +kernel
theorem dX6_worth_15 : decode cX6_worth 15 = .ok (.invokestatic 119, 3) := by decide +kernel
theorem dX6_worth_18 : decode cX6_worth 18 = .ok (.ifCond .eq 16, 3) := by decide +kernel
theorem dX6_worth_21 : decode cX6_worth 21 = .ok (.iload_n 3, 1) := by decide +kernel
theorem dX6_worth_22 : decode cX6_worth 22 = .ok (.aload_n 0, 1) := by decide +kernel
theorem dX6_worth_23 : decode cX6_worth 23 = .ok (.getfield 16, 3) := by decide +kernel
theorem dX6_worth_26 : decode cX6_worth 26 = .ok (.iload_n 1, 1) := by decide +kernel
theorem dX6_worth_27 : decode cX6_worth 27 = .ok (.iaload, 1) := by decide +kernel
theorem dX6_worth_28 : decode cX6_worth 28 = .ok (.invokestatic 119, 3) := by decide +kernel
theorem dX6_worth_31 : decode cX6_worth 31 = .ok (.ifCond .ne 11, 3) := by decide +kernel
theorem dX6_worth_34 : decode cX6_worth 34 = .ok (.aload_n 0, 1) := by decide +kernel
theorem dX6_worth_35 : decode cX6_worth 35 = .ok (.bipush (-3), 2) := by decide +kernel
theorem dX6_worth_37 : decode cX6_worth 37 = .ok (.invokevirtual 106, 3) := by decide +kernel
theorem dX6_worth_40 : decode cX6_worth 40 = .ok (.i2l, 1) := by decide +kernel
theorem dX6_worth_41 : decode cX6_worth 41 = .ok (.lreturn, 1) := by decide +kernel
theorem dX6_worth_42 : decode cX6_worth 42 = .ok (.iload_n 2, 1) := by decide +kernel
theorem dX6_worth_43 : decode cX6_worth 43 = .ok (.invokestatic 116, 3) := by decide +kernel
theorem dX6_worth_46 : decode cX6_worth 46 = .ok (.iload_n 3, 1) := by decide +kernel
theorem dX6_worth_47 : decode cX6_worth 47 = .ok (.invokestatic 116, 3) := by decide +kernel
theorem dX6_worth_50 : decode cX6_worth 50 = .ok (.if_icmp .ne 13, 3) := by decide +kernel
theorem dX6_worth_53 : decode cX6_worth 53 = .ok (.aload_n 0, 1) := by decide +kernel
theorem dX6_worth_54 : decode cX6_worth 54 = .ok (.iload_n 1, 1) := by decide +kernel
theorem dX6_worth_55 : decode cX6_worth 55 = .ok (.iload_n 2, 1) := by decide +kernel
theorem dX6_worth_56 : decode cX6_worth 56 = .ok (.iload_n 3, 1) := by decide +kernel
theorem dX6_worth_57 : decode cX6_worth 57 = .ok (.invokevirtual 123, 3) := by decide +kernel
theorem dX6_worth_60 : decode cX6_worth 60 = .ok (.goto 10, 3) := by decide +kernel
theorem dX6_worth_63 : decode cX6_worth 63 = .ok (.aload_n 0, 1) := by decide +kernel
theorem dX6_worth_64 : decode cX6_worth 64 = .ok (.bipush (-7), 2) := by decide +kernel
theorem dX6_worth_66 : decode cX6_worth 66 = .ok (.invokevirtual 106, 3) := by decide +kernel
theorem dX6_worth_69 : decode cX6_worth 69 = .ok (.i2l, 1) := by decide +kernel
theorem dX6_worth_70 : decode cX6_worth 70 = .ok (.lreturn, 1) := by decide +kernel
theorem dX6_goesThrough_0 : decode cX6_goesThrough 0 = .ok (.aload_n 0, 1) := by decide +kernel
theorem dX6_goesThrough_1 : decode cX6_goesThrough 1 = .ok (.iconst 0, 1) := by decide +kernel
theorem dX6_goesThrough_2 : decode cX6_goesThrough 2 = .ok (.putfield 127, 3) := by decide +kernel
theorem dX6_goesThrough_5 : decode cX6_goesThrough 5 = .ok (.aload_n 0, 1) := by decide +kernel
theorem dX6_goesThrough_6 : decode cX6_goesThrough 6 = .ok (.iconst 0, 1) := by decide +kernel
theorem dX6_goesThrough_7 : decode cX6_goesThrough 7 = .ok (.putfield 130, 3) := by decide +kernel
theorem dX6_goesThrough_10 : decode cX6_goesThrough 10 = .ok (.aload_n 0, 1) := by decide +kernel
theorem dX6_goesThrough_11 : decode cX6_goesThrough 11 = .ok (.iconst 0, 1) := by decide +kernel
theorem dX6_goesThrough_12 : decode cX6_goesThrough 12 = .ok (.putfield 133, 3) := by decide +kernel
theorem dX6_goesThrough_15 : decode cX6_goesThrough 15 = .ok (.aload_n 0, 1) := by decide +kernel
theorem dX6_goesThrough_16 : decode cX6_goesThrough 16 = .ok (.iconst (-1), 1) := by decide +kernel
theorem dX6_goesThrough_17 : decode cX6_goesThrough 17 = .ok (.putfield 136, 3) := by decide +kernel
theorem dX6_goesThrough_20 : decode cX6_goesThrough 20 = .ok (.aload_n 0, 1) := by decide +kernel
theorem dX6_goesThrough_21 : decode cX6_goesThrough 21 = .ok (.iconst (-1), 1) := by decide +kernel
theorem dX6_goesThrough_22 : decode cX6_goesThrough 22 = .ok (.putfield 139, 3) := by decide +kernel
theorem dX6_goesThrough_25 : decode cX6_goesThrough 25 = .ok (.iconst 1, 1) := by decide +kernel
theorem dX6_goesThrough_26 : decode cX6_goesThrough 26 = .ok (.istore_n 2, 1) := by decide +kernel
theorem dX6_goesThrough_27 : decode cX6_goesThrough 27 = .ok (.iload_n 2, 1) := by decide +kernel
theorem dX6_goesThrough_28 : decode cX6_goesThrough 28 = .ok (.iconst 5, 1) := by decide +kernel
theorem dX6_goesThrough_29 : decode cX6_goesThrough 29 = .ok (.if_icmp .gt 83, 3) := by decide +kernel
theorem dX6_goesThrough_32 : decode cX6_goesThrough 32 = .ok (.iconst 1, 1) := by decide +kernel
theorem dX6_goesThrough_33 : decode cX6_goesThrough 33 = .ok (.istore_n 3, 1) := by decide +kernel
theorem dX6_goesThrough_34 : decode cX6_goesThrough 34 = .ok (.iload_n 3, 1) := by decide +kernel
theorem dX6_goesThrough_35 : decode cX6_goesThrough 35 = .ok (.iconst 1, 1) := by decide +kernel
theorem dX6_goesThrough_36 : decode cX6_goesThrough 36 = .ok (.aload_n 0, 1) := by decide +kernel
theorem dX6_goesThrough_37 : decode cX6_goesThrough 37 = .ok (.getfield 13, 3) := by decide +kernel
theorem dX6_goesThrough_40 : decode cX6_goesThrough 40 = .ok (.iload_n 1, 1) := by decide +kernel
theorem dX6_goesThrough_41 : decode cX6_goesThrough 41 = .ok (.iaload, 1) := by decide +kernel
theorem dX6_goesThrough_42 : decode cX6_goesThrough 42 = .ok (.ishl, 1) := by decide +kernel
theorem dX6_goesThrough_43 : decode cX6_goesThrough 43 = .ok (.if_icmp .ge 63, 3) := by decide +kernel
theorem dX6_goesThrough_46 : decode cX6_goesThrough 46 = .ok (.iconst 1, 1) := by decide +kernel
theorem dX6_goesThrough_47 : decode cX6_goesThrough 47 = .ok (.istore 4, 2) := by decide +kernel
theorem dX6_goesThrough_49 : decode cX6_goesThrough 49 = .ok (.iload 4, 2) := by decide +kernel
theorem dX6_goesThrough_51 : decode cX6_goesThrough 51 = .ok (.iconst 1, 1) := by decide +kernel
theorem dX6_goesThrough_52 : decode cX6_goesThrough 52 = .ok (.aload_n 0, 1) := by decide +kernel
theorem dX6_goesThrough_53 : decode cX6_goesThrough 53 = .ok (.getfield 16, 3) := by decide +kernel
theorem dX6_goesThrough_56 : decode cX6_goesThrough 56 = .ok (.iload_n 1, 1) := by decide +kernel
theorem dX6_goesThrough_57 : decode cX6_goesThrough 57 = .ok (.iaload, 1) := by decide +kernel
theorem dX6_goesThrough_58 : decode cX6_goesThrough 58 = .ok (.ishl, 1) := by decide +kernel
theorem dX6_goesThrough_59 : decode cX6_goesThrough 59 = .ok (.if_icmp .ge 41, 3) := by decide +kernel
theorem dX6_goesThrough_62 : decode cX6_goesThrough 62 = .ok (.iload_n 3, 1) := by decide +kernel
theorem dX6_goesThrough_63 : decode cX6_goesThrough 63 = .ok (.invokestatic 116, 3) := by decide +kernel
theorem dX6_goesThrough_66 : decode cX6_goesThrough 66 = .ok (.iload_n 2, 1) := by decide +kernel
theorem dX6_goesThrough_67 : decode cX6_goesThrough 67 = .ok (.if_icmp .ne 27, 3) := by decide +kernel
theorem dX6_goesThrough_70 : decode cX6_goesThrough 70 = .ok (.iload 4, 2) := by decide +kernel
theorem dX6_goesThrough_72 : decode cX6_goesThrough 72 = .ok (.invokestatic 116, 3) := by decide +kernel
theorem dX6_goesThrough_75 : decode cX6_goesThrough 75 = .ok (.iload_n 2, 1) := by decide +kernel
theorem dX6_goesThrough_76 : decode cX6_goesThrough 76 = .ok (.if_icmp .ne 18, 3) := by decide +kernel
theorem dX6_goesThrough_79 : decode cX6_goesThrough 79 = .ok (.aload_n 0, 1) := by decide +kernel
theorem dX6_goesThrough_80 : decode cX6_goesThrough 80 = .ok (.iload_n 3, 1) := by decide +kernel
theorem dX6_goesThrough_81 : decode cX6_goesThrough 81 = .ok (.iload 4, 2) := by decide +kernel
theorem dX6_goesThrough_83 : decode cX6_goesThrough 83 = .ok (.aload_n 0, 1) := by decide +kernel
theorem dX6_goesThrough_84 : decode cX6_goesThrough 84 = .ok (.iload_n 1, 1) := by decide +kernel
theorem dX6_goesThrough_85 : decode cX6_goesThrough 85 = .ok (.iload_n 3, 1) := by decide +kernel
theorem dX6_goesThrough_86 : decode cX6_goesThrough 86 = .ok (.iload 4, 2) := by decide +kernel
theorem dX6_goesThrough_88 : decode cX6_goesThrough 88 = .ok (.invokevirtual 123, 3) := by decide +kernel
theorem dX6_goesThrough_91 : decode cX6_goesThrough 91 = .ok (.invokevirtual 142, 3) := by decide +kernel
theorem dX6_goesThrough_94 : decode cX6_goesThrough 94 = .ok (.iinc 4 1, 3) := by decide +kernel
theorem dX6_goesThrough_97 : decode cX6_goesThrough 97 = .ok (.goto (-48), 3) := by decide +kernel
theorem dX6_goesThrough_100 : decode cX6_goesThrough 100 = .ok (.iinc 3 1, 3) := by decide +kernel
theorem dX6_goesThrough_103 : decode cX6_goesThrough 103 = .ok (.goto (-69), 3) := by decide +kernel
theorem dX6_goesThrough_106 : decode cX6_goesThrough 106 = .ok (.iinc 2 1, 3) := by decide +kernel
theorem dX6_goesThrough_109 : decode cX6_goesThrough 109 = .ok (.goto (-82), 3) := by decide +kernel
theorem dX6_goesThrough_112 : decode cX6_goesThrough 112 = .ok (.return_, 1) := by decide +kernel
theorem dX6_counts_0 : decode cX6_counts 0 = .ok (.lload_n 3, 1) := by decide +kernel
theorem dX6_counts_1 : decode cX6_counts 1 = .ok (.lconst 0, 1) := by decide +kernel
theorem dX6_counts_2 : decode cX6_counts 2 = .ok (.lcmp, 1) := by decide +kernel
theorem dX6_counts_3 : decode cX6_counts 3 = .ok (.ifCond .le 14, 3) := by decide +kernel
theorem dX6_counts_6 : decode cX6_counts 6 = .ok (.aload_n 0, 1) := by decide +kernel
theorem dX6_counts_7 : decode cX6_counts 7 = .ok (.dup, 1) := by decide +kernel
theorem dX6_counts_8 : decode cX6_counts 8 = .ok (.getfield 133, 3) := by decide +kernel
theorem dX6_counts_11 : decode cX6_counts 11 = .ok (.iconst 1, 1) := by decide +kernel
theorem dX6_counts_12 : decode cX6_counts 12 = .ok (.iadd, 1) := by decide +kernel
theorem dX6_counts_13 : decode cX6_counts 13 = .ok (.putfield 133, 3) := by decide +kernel
theorem dX6_counts_16 : decode cX6_counts 16 = .ok (.return_, 1) := by decide +kernel
theorem dX6_counts_17 : decode cX6_counts 17 = .ok (.aload_n 0, 1) := by decide +kernel
theorem dX6_counts_18 : decode cX6_counts 18 = .ok (.getfield 139, 3) := by decide +kernel
theorem dX6_counts_21 : decode cX6_counts 21 = .ok (.ifCond .ge 13, 3) := by decide +kernel
theorem dX6_counts_24 : decode cX6_counts 24 = .ok (.aload_n 0, 1) := by decide +kernel
theorem dX6_counts_25 : decode cX6_counts 25 = .ok (.bipush 32, 2) := by decide +kernel
theorem dX6_counts_27 : decode cX6_counts 27 = .ok (.iload_n 1, 1) := by decide +kernel
theorem dX6_counts_28 : decode cX6_counts 28 = .ok (.imul, 1) := by decide +kernel
theorem dX6_counts_29 : decode cX6_counts 29 = .ok (.iload_n 2, 1) := by decide +kernel
theorem dX6_counts_30 : decode cX6_counts 30 = .ok (.iadd, 1) := by decide +kernel
theorem dX6_counts_31 : decode cX6_counts 31 = .ok (.putfield 139, 3) := by decide +kernel
theorem dX6_counts_34 : decode cX6_counts 34 = .ok (.lload_n 3, 1) := by decide +kernel
theorem dX6_counts_35 : decode cX6_counts 35 = .ok (.lconst 0, 1) := by decide +kernel
theorem dX6_counts_36 : decode cX6_counts 36 = .ok (.lcmp, 1) := by decide +kernel
theorem dX6_counts_37 : decode cX6_counts 37 = .ok (.ifCond .ne 14, 3) := by decide +kernel
theorem dX6_counts_40 : decode cX6_counts 40 = .ok (.aload_n 0, 1) := by decide +kernel
theorem dX6_counts_41 : decode cX6_counts 41 = .ok (.dup, 1) := by decide +kernel
theorem dX6_counts_42 : decode cX6_counts 42 = .ok (.getfield 130, 3) := by decide +kernel
theorem dX6_counts_45 : decode cX6_counts 45 = .ok (.iconst 1, 1) := by decide +kernel
theorem dX6_counts_46 : decode cX6_counts 46 = .ok (.iadd, 1) := by decide +kernel
theorem dX6_counts_47 : decode cX6_counts 47 = .ok (.putfield 130, 3) := by decide +kernel
theorem dX6_counts_50 : decode cX6_counts 50 = .ok (.return_, 1) := by decide +kernel
theorem dX6_counts_51 : decode cX6_counts 51 = .ok (.aload_n 0, 1) := by decide +kernel
theorem dX6_counts_52 : decode cX6_counts 52 = .ok (.getfield 136, 3) := by decide +kernel
theorem dX6_counts_55 : decode cX6_counts 55 = .ok (.ifCond .ge 13, 3) := by decide +kernel
theorem dX6_counts_58 : decode cX6_counts 58 = .ok (.aload_n 0, 1) := by decide +kernel
theorem dX6_counts_59 : decode cX6_counts 59 = .ok (.bipush 32, 2) := by decide +kernel
theorem dX6_counts_61 : decode cX6_counts 61 = .ok (.iload_n 1, 1) := by decide +kernel
theorem dX6_counts_62 : decode cX6_counts 62 = .ok (.imul, 1) := by decide +kernel
theorem dX6_counts_63 : decode cX6_counts 63 = .ok (.iload_n 2, 1) := by decide +kernel
theorem dX6_counts_64 : decode cX6_counts 64 = .ok (.iadd, 1) := by decide +kernel
theorem dX6_counts_65 : decode cX6_counts 65 = .ok (.putfield 136, 3) := by decide +kernel
theorem dX6_counts_68 : decode cX6_counts 68 = .ok (.aload_n 0, 1) := by decide +kernel
theorem dX6_counts_69 : decode cX6_counts 69 = .ok (.dup, 1) := by decide +kernel
theorem dX6_counts_70 : decode cX6_counts 70 = .ok (.getfield 127, 3) := by decide +kernel
theorem dX6_counts_73 : decode cX6_counts 73 = .ok (.iconst 1, 1) := by decide +kernel
theorem dX6_counts_74 : decode cX6_counts 74 = .ok (.iadd, 1) := by decide +kernel
theorem dX6_counts_75 : decode cX6_counts 75 = .ok (.putfield 127, 3) := by decide +kernel
theorem dX6_counts_78 : decode cX6_counts 78 = .ok (.return_, 1) := by decide +kernel
theorem dX6_span_0 : decode cX6_span 0 = .ok (.iconst 1, 1) := by decide +kernel
theorem dX6_span_1 : decode cX6_span 1 = .ok (.iload_n 1, 1) := by decide +kernel
theorem dX6_span_2 : decode cX6_span 2 = .ok (.ishl, 1) := by decide +kernel
theorem dX6_span_3 : decode cX6_span 3 = .ok (.iconst 1, 1) := by decide +kernel
theorem dX6_span_4 : decode cX6_span 4 = .ok (.isub, 1) := by decide +kernel
theorem dX6_span_5 : decode cX6_span 5 = .ok (.iload_n 0, 1) := by decide +kernel
theorem dX6_span_6 : decode cX6_span 6 = .ok (.ishl, 1) := by decide +kernel
theorem dX6_span_7 : decode cX6_span 7 = .ok (.ireturn, 1) := by decide +kernel
theorem dX6_looks_0 : decode cX6_looks 0 = .ok (.iconst 0, 1) := by decide +kernel
theorem dX6_looks_1 : decode cX6_looks 1 = .ok (.istore_n 3, 1) := by decide +kernel
theorem dX6_looks_2 : decode cX6_looks 2 = .ok (.iconst 1, 1) := by decide +kernel
theorem dX6_looks_3 : decode cX6_looks 3 = .ok (.istore 4, 2) := by decide +kernel
theorem dX6_looks_5 : decode cX6_looks 5 = .ok (.iload 4, 2) := by decide +kernel
theorem dX6_looks_7 : decode cX6_looks 7 = .ok (.aload_n 0, 1) := by decide +kernel
theorem dX6_looks_8 : decode cX6_looks 8 = .ok (.getfield 13, 3) := by decide +kernel
theorem dX6_looks_11 : decode cX6_looks 11 = .ok (.iload_n 1, 1) := by decide +kernel
theorem dX6_looks_12 : decode cX6_looks 12 = .ok (.iaload, 1) := by decide +kernel
theorem dX6_looks_13 : decode cX6_looks 13 = .ok (.if_icmp .gt 115, 3) := by decide +kernel
theorem dX6_looks_16 : decode cX6_looks 16 = .ok (.iload 4, 2) := by decide +kernel
theorem dX6_looks_18 : decode cX6_looks 18 = .ok (.aload_n 0, 1) := by decide +kernel
theorem dX6_looks_19 : decode cX6_looks 19 = .ok (.getfield 16, 3) := by decide +kernel
theorem dX6_looks_22 : decode cX6_looks 22 = .ok (.iload_n 1, 1) := by decide +kernel
theorem dX6_looks_23 : decode cX6_looks 23 = .ok (.iaload, 1) := by decide +kernel
theorem dX6_looks_24 : decode cX6_looks 24 = .ok (.if_icmp .gt 104, 3) := by decide +kernel
theorem dX6_looks_27 : decode cX6_looks 27 = .ok (.iconst 0, 1) := by decide +kernel
theorem dX6_looks_28 : decode cX6_looks 28 = .ok (.istore 5, 2) := by decide +kernel
theorem dX6_looks_30 : decode cX6_looks 30 = .ok (.iload 5, 2) := by decide +kernel
theorem dX6_looks_32 : decode cX6_looks 32 = .ok (.iload 4, 2) := by decide +kernel
theorem dX6_looks_34 : decode cX6_looks 34 = .ok (.iadd, 1) := by decide +kernel
theorem dX6_looks_35 : decode cX6_looks 35 = .ok (.aload_n 0, 1) := by decide +kernel
theorem dX6_looks_36 : decode cX6_looks 36 = .ok (.getfield 13, 3) := by decide +kernel
theorem dX6_looks_39 : decode cX6_looks 39 = .ok (.iload_n 1, 1) := by decide +kernel
theorem dX6_looks_40 : decode cX6_looks 40 = .ok (.iaload, 1) := by decide +kernel
theorem dX6_looks_41 : decode cX6_looks 41 = .ok (.if_icmp .gt 81, 3) := by decide +kernel
theorem dX6_looks_44 : decode cX6_looks 44 = .ok (.iconst 0, 1) := by decide +kernel
theorem dX6_looks_45 : decode cX6_looks 45 = .ok (.istore 6, 2) := by decide +kernel
theorem dX6_looks_47 : decode cX6_looks 47 = .ok (.iload 6, 2) := by decide +kernel
theorem dX6_looks_49 : decode cX6_looks 49 = .ok (.iload 4, 2) := by decide +kernel
theorem dX6_looks_51 : decode cX6_looks 51 = .ok (.iadd, 1) := by decide +kernel
theorem dX6_looks_52 : decode cX6_looks 52 = .ok (.aload_n 0, 1) := by decide +kernel
theorem dX6_looks_53 : decode cX6_looks 53 = .ok (.getfield 16, 3) := by decide +kernel
theorem dX6_looks_56 : decode cX6_looks 56 = .ok (.iload_n 1, 1) := by decide +kernel
theorem dX6_looks_57 : decode cX6_looks 57 = .ok (.iaload, 1) := by decide +kernel
theorem dX6_looks_58 : decode cX6_looks 58 = .ok (.if_icmp .gt 58, 3) := by decide +kernel
theorem dX6_looks_61 : decode cX6_looks 61 = .ok (.iload 5, 2) := by decide +kernel
theorem dX6_looks_63 : decode cX6_looks 63 = .ok (.ifCond .le 11, 3) := by decide +kernel
theorem dX6_looks_66 : decode cX6_looks 66 = .ok (.iload 6, 2) := by decide +kernel
theorem dX6_looks_68 : decode cX6_looks 68 = .ok (.ifCond .le 6, 3) := by decide +kernel
theorem dX6_looks_71 : decode cX6_looks 71 = .ok (.goto 39, 3) := by decide +kernel
theorem dX6_looks_74 : decode cX6_looks 74 = .ok (.iload_n 3, 1) := by decide +kernel
theorem dX6_looks_75 : decode cX6_looks 75 = .ok (.iload_n 2, 1) := by decide +kernel
theorem dX6_looks_76 : decode cX6_looks 76 = .ok (.ifCond .eq 27, 3) := by decide +kernel
theorem dX6_looks_79 : decode cX6_looks 79 = .ok (.aload_n 0, 1) := by decide +kernel
theorem dX6_looks_80 : decode cX6_looks 80 = .ok (.iload_n 1, 1) := by decide +kernel
theorem dX6_looks_81 : decode cX6_looks 81 = .ok (.iload 5, 2) := by decide +kernel
theorem dX6_looks_83 : decode cX6_looks 83 = .ok (.iload 4, 2) := by decide +kernel
theorem dX6_looks_85 : decode cX6_looks 85 = .ok (.invokestatic 146, 3) := by decide +kernel
theorem dX6_looks_88 : decode cX6_looks 88 = .ok (.iload 6, 2) := by decide +kernel
theorem dX6_looks_90 : decode cX6_looks 90 = .ok (.iload 4, 2) := by decide +kernel
theorem dX6_looks_92 : decode cX6_looks 92 = .ok (.invokestatic 146, 3) := by decide +kernel
theorem dX6_looks_95 : decode cX6_looks 95 = .ok (.invokevirtual 123, 3) := by decide +kernel
theorem dX6_looks_98 : decode cX6_looks 98 = .ok (.lconst 0, 1) := by decide +kernel
theorem dX6_looks_99 : decode cX6_looks 99 = .ok (.lcmp, 1) := by decide +kernel
theorem dX6_looks_100 : decode cX6_looks 100 = .ok (.ifCond .le 7, 3) := by decide +kernel
theorem dX6_looks_103 : decode cX6_looks 103 = .ok (.iconst 1, 1) := by decide +kernel
theorem dX6_looks_104 : decode cX6_looks 104 = .ok (.goto 4, 3) := by decide +kernel
theorem dX6_looks_107 : decode cX6_looks 107 = .ok (.iconst 0, 1) := by decide +kernel
theorem dX6_looks_108 : decode cX6_looks 108 = .ok (.iadd, 1) := by decide +kernel
theorem dX6_looks_109 : decode cX6_looks 109 = .ok (.istore_n 3, 1) := by decide +kernel
theorem dX6_looks_110 : decode cX6_looks 110 = .ok (.iinc 6 1, 3) := by decide +kernel
theorem dX6_looks_113 : decode cX6_looks 113 = .ok (.goto (-66), 3) := by decide +kernel
theorem dX6_looks_116 : decode cX6_looks 116 = .ok (.iinc 5 1, 3) := by decide +kernel
theorem dX6_looks_119 : decode cX6_looks 119 = .ok (.goto (-89), 3) := by decide +kernel
theorem dX6_looks_122 : decode cX6_looks 122 = .ok (.iinc 4 1, 3) := by decide +kernel
theorem dX6_looks_125 : decode cX6_looks 125 = .ok (.goto (-120), 3) := by decide +kernel
theorem dX6_looks_128 : decode cX6_looks 128 = .ok (.iload_n 3, 1) := by decide +kernel
theorem dX6_looks_129 : decode cX6_looks 129 = .ok (.ireturn, 1) := by decide +kernel
theorem dX6_look_0 : decode cX6_look 0 = .ok (.aload_n 0, 1) := by decide +kernel
theorem dX6_look_1 : decode cX6_look 1 = .ok (.iload_n 1, 1) := by decide +kernel
theorem dX6_look_2 : decode cX6_look 2 = .ok (.invokevirtual 98, 3) := by decide +kernel
theorem dX6_look_5 : decode cX6_look 5 = .ok (.ifCond .ne 10, 3) := by decide +kernel
theorem dX6_look_8 : decode cX6_look 8 = .ok (.aload_n 0, 1) := by decide +kernel
theorem dX6_look_9 : decode cX6_look 9 = .ok (.bipush (-3), 2) := by decide +kernel
theorem dX6_look_11 : decode cX6_look 11 = .ok (.invokevirtual 80, 3) := by decide +kernel
theorem dX6_look_14 : decode cX6_look 14 = .ok (.ireturn, 1) := by decide +kernel
theorem dX6_look_15 : decode cX6_look 15 = .ok (.iload_n 2, 1) := by decide +kernel
theorem dX6_look_16 : decode cX6_look 16 = .ok (.bipush 7, 2) := by decide +kernel
theorem dX6_look_18 : decode cX6_look 18 = .ok (.if_icmp .ne 20, 3) := by decide +kernel
theorem dX6_look_21 : decode cX6_look 21 = .ok (.aload_n 0, 1) := by decide +kernel
theorem dX6_look_22 : decode cX6_look 22 = .ok (.getfield 19, 3) := by decide +kernel
theorem dX6_look_25 : decode cX6_look 25 = .ok (.iload_n 1, 1) := by decide +kernel
theorem dX6_look_26 : decode cX6_look 26 = .ok (.iaload, 1) := by decide +kernel
theorem dX6_look_27 : decode cX6_look 27 = .ok (.iconst 1, 1) := by decide +kernel
theorem dX6_look_28 : decode cX6_look 28 = .ok (.if_icmp .eq 10, 3) := by decide +kernel
theorem dX6_look_31 : decode cX6_look 31 = .ok (.aload_n 0, 1) := by decide +kernel
theorem dX6_look_32 : decode cX6_look 32 = .ok (.bipush (-5), 2) := by decide +kernel
theorem dX6_look_34 : decode cX6_look 34 = .ok (.invokevirtual 80, 3) := by decide +kernel
theorem dX6_look_37 : decode cX6_look 37 = .ok (.ireturn, 1) := by decide +kernel
theorem dX6_look_38 : decode cX6_look 38 = .ok (.iload_n 2, 1) := by decide +kernel
theorem dX6_look_39 : decode cX6_look 39 = .ok (.tableswitch 131 0 7 #[45, 52, 59, 66, 84, 107, 107, 124], 45) := by decide +kernel
theorem dX6_look_84 : decode cX6_look 84 = .ok (.aload_n 0, 1) := by decide +kernel
theorem dX6_look_85 : decode cX6_look 85 = .ok (.getfield 19, 3) := by decide +kernel
theorem dX6_look_88 : decode cX6_look 88 = .ok (.iload_n 1, 1) := by decide +kernel
theorem dX6_look_89 : decode cX6_look 89 = .ok (.iaload, 1) := by decide +kernel
theorem dX6_look_90 : decode cX6_look 90 = .ok (.ireturn, 1) := by decide +kernel
theorem dX6_look_91 : decode cX6_look 91 = .ok (.aload_n 0, 1) := by decide +kernel
theorem dX6_look_92 : decode cX6_look 92 = .ok (.getfield 13, 3) := by decide +kernel
theorem dX6_look_95 : decode cX6_look 95 = .ok (.iload_n 1, 1) := by decide +kernel
theorem dX6_look_96 : decode cX6_look 96 = .ok (.iaload, 1) := by decide +kernel
theorem dX6_look_97 : decode cX6_look 97 = .ok (.ireturn, 1) := by decide +kernel
theorem dX6_look_98 : decode cX6_look 98 = .ok (.aload_n 0, 1) := by decide +kernel
theorem dX6_look_99 : decode cX6_look 99 = .ok (.getfield 16, 3) := by decide +kernel
theorem dX6_look_102 : decode cX6_look 102 = .ok (.iload_n 1, 1) := by decide +kernel
theorem dX6_look_103 : decode cX6_look 103 = .ok (.iaload, 1) := by decide +kernel
theorem dX6_look_104 : decode cX6_look 104 = .ok (.ireturn, 1) := by decide +kernel
theorem dX6_look_105 : decode cX6_look 105 = .ok (.aload_n 0, 1) := by decide +kernel
theorem dX6_look_106 : decode cX6_look 106 = .ok (.iload_n 1, 1) := by decide +kernel
theorem dX6_look_107 : decode cX6_look 107 = .ok (.invokevirtual 150, 3) := by decide +kernel
theorem dX6_look_110 : decode cX6_look 110 = .ok (.aload_n 0, 1) := by decide +kernel
theorem dX6_look_111 : decode cX6_look 111 = .ok (.getfield 127, 3) := by decide +kernel
theorem dX6_look_114 : decode cX6_look 114 = .ok (.ifCond .ne 7, 3) := by decide +kernel
theorem dX6_look_117 : decode cX6_look 117 = .ok (.iconst 1, 1) := by decide +kernel
theorem dX6_look_118 : decode cX6_look 118 = .ok (.goto 4, 3) := by decide +kernel
theorem dX6_look_121 : decode cX6_look 121 = .ok (.iconst 0, 1) := by decide +kernel
theorem dX6_look_122 : decode cX6_look 122 = .ok (.ireturn, 1) := by decide +kernel
theorem dX6_look_123 : decode cX6_look 123 = .ok (.aload_n 0, 1) := by decide +kernel
theorem dX6_look_124 : decode cX6_look 124 = .ok (.iload_n 1, 1) := by decide +kernel
theorem dX6_look_125 : decode cX6_look 125 = .ok (.invokevirtual 150, 3) := by decide +kernel
theorem dX6_look_128 : decode cX6_look 128 = .ok (.aload_n 0, 1) := by decide +kernel
theorem dX6_look_129 : decode cX6_look 129 = .ok (.getfield 127, 3) := by decide +kernel
theorem dX6_look_132 : decode cX6_look 132 = .ok (.aload_n 0, 1) := by decide +kernel
theorem dX6_look_133 : decode cX6_look 133 = .ok (.getfield 130, 3) := by decide +kernel
theorem dX6_look_136 : decode cX6_look 136 = .ok (.iadd, 1) := by decide +kernel
theorem dX6_look_137 : decode cX6_look 137 = .ok (.ifCond .ne 7, 3) := by decide +kernel
theorem dX6_look_140 : decode cX6_look 140 = .ok (.iconst 1, 1) := by decide +kernel
theorem dX6_look_141 : decode cX6_look 141 = .ok (.goto 4, 3) := by decide +kernel
theorem dX6_look_144 : decode cX6_look 144 = .ok (.iconst 0, 1) := by decide +kernel
theorem dX6_look_145 : decode cX6_look 145 = .ok (.ireturn, 1) := by decide +kernel
theorem dX6_look_146 : decode cX6_look 146 = .ok (.aload_n 0, 1) := by decide +kernel
theorem dX6_look_147 : decode cX6_look 147 = .ok (.iload_n 1, 1) := by decide +kernel
theorem dX6_look_148 : decode cX6_look 148 = .ok (.iload_n 2, 1) := by decide +kernel
theorem dX6_look_149 : decode cX6_look 149 = .ok (.bipush 6, 2) := by decide +kernel
theorem dX6_look_151 : decode cX6_look 151 = .ok (.if_icmp .ne 7, 3) := by decide +kernel
theorem dX6_look_154 : decode cX6_look 154 = .ok (.iconst 1, 1) := by decide +kernel
theorem dX6_look_155 : decode cX6_look 155 = .ok (.goto 4, 3) := by decide +kernel
theorem dX6_look_158 : decode cX6_look 158 = .ok (.iconst 0, 1) := by decide +kernel
theorem dX6_look_159 : decode cX6_look 159 = .ok (.invokevirtual 154, 3) := by decide +kernel
theorem dX6_look_162 : decode cX6_look 162 = .ok (.ireturn, 1) := by decide +kernel
theorem dX6_look_163 : decode cX6_look 163 = .ok (.aload_n 0, 1) := by decide +kernel
theorem dX6_look_164 : decode cX6_look 164 = .ok (.getfield 22, 3) := by decide +kernel
theorem dX6_look_167 : decode cX6_look 167 = .ok (.iload_n 1, 1) := by decide +kernel
theorem dX6_look_168 : decode cX6_look 168 = .ok (.iaload, 1) := by decide +kernel
theorem dX6_look_169 : decode cX6_look 169 = .ok (.ireturn, 1) := by decide +kernel
theorem dX6_look_170 : decode cX6_look 170 = .ok (.aload_n 0, 1) := by decide +kernel
theorem dX6_look_171 : decode cX6_look 171 = .ok (.bipush (-7), 2) := by decide +kernel
theorem dX6_look_173 : decode cX6_look 173 = .ok (.invokevirtual 80, 3) := by decide +kernel
theorem dX6_look_176 : decode cX6_look 176 = .ok (.ireturn, 1) := by decide +kernel
theorem dX6_drop_0 : decode cX6_drop 0 = .ok (.aload_n 0, 1) := by decide +kernel
theorem dX6_drop_1 : decode cX6_drop 1 = .ok (.getfield 84, 3) := by decide +kernel
theorem dX6_drop_4 : decode cX6_drop 4 = .ok (.ifCond .ne 10, 3) := by decide +kernel
theorem dX6_drop_7 : decode cX6_drop 7 = .ok (.aload_n 0, 1) := by decide +kernel
theorem dX6_drop_8 : decode cX6_drop 8 = .ok (.bipush (-2), 2) := by decide +kernel
theorem dX6_drop_10 : decode cX6_drop 10 = .ok (.invokevirtual 80, 3) := by decide +kernel
theorem dX6_drop_13 : decode cX6_drop 13 = .ok (.ireturn, 1) := by decide +kernel
theorem dX6_drop_14 : decode cX6_drop 14 = .ok (.aload_n 0, 1) := by decide +kernel
theorem dX6_drop_15 : decode cX6_drop 15 = .ok (.dup, 1) := by decide +kernel
theorem dX6_drop_16 : decode cX6_drop 16 = .ok (.getfield 84, 3) := by decide +kernel
theorem dX6_drop_19 : decode cX6_drop 19 = .ok (.iconst 1, 1) := by decide +kernel
theorem dX6_drop_20 : decode cX6_drop 20 = .ok (.isub, 1) := by decide +kernel
theorem dX6_drop_21 : decode cX6_drop 21 = .ok (.putfield 84, 3) := by decide +kernel
theorem dX6_drop_24 : decode cX6_drop 24 = .ok (.aload_n 0, 1) := by decide +kernel
theorem dX6_drop_25 : decode cX6_drop 25 = .ok (.getfield 84, 3) := by decide +kernel
theorem dX6_drop_28 : decode cX6_drop 28 = .ok (.ireturn, 1) := by decide +kernel
theorem dX6_low_0 : decode cX6_low 0 = .ok (.aload_n 0, 1) := by decide +kernel
theorem dX6_low_1 : decode cX6_low 1 = .ok (.iload_n 1, 1) := by decide +kernel
theorem dX6_low_2 : decode cX6_low 2 = .ok (.invokevirtual 98, 3) := by decide +kernel
theorem dX6_low_5 : decode cX6_low 5 = .ok (.ifCond .ne 10, 3) := by decide +kernel
theorem dX6_low_8 : decode cX6_low 8 = .ok (.aload_n 0, 1) := by decide +kernel
theorem dX6_low_9 : decode cX6_low 9 = .ok (.bipush (-3), 2) := by decide +kernel
theorem dX6_low_11 : decode cX6_low 11 = .ok (.invokevirtual 80, 3) := by decide +kernel
theorem dX6_low_14 : decode cX6_low 14 = .ok (.ireturn, 1) := by decide +kernel
theorem dX6_low_15 : decode cX6_low 15 = .ok (.aload_n 0, 1) := by decide +kernel
theorem dX6_low_16 : decode cX6_low 16 = .ok (.iload_n 1, 1) := by decide +kernel
theorem dX6_low_17 : decode cX6_low 17 = .ok (.invokevirtual 150, 3) := by decide +kernel
theorem dX6_low_20 : decode cX6_low 20 = .ok (.iload_n 2, 1) := by decide +kernel
theorem dX6_low_21 : decode cX6_low 21 = .ok (.ifCond .eq 10, 3) := by decide +kernel
theorem dX6_low_24 : decode cX6_low 24 = .ok (.aload_n 0, 1) := by decide +kernel
theorem dX6_low_25 : decode cX6_low 25 = .ok (.getfield 139, 3) := by decide +kernel
theorem dX6_low_28 : decode cX6_low 28 = .ok (.goto 7, 3) := by decide +kernel
theorem dX6_low_31 : decode cX6_low 31 = .ok (.aload_n 0, 1) := by decide +kernel
theorem dX6_low_32 : decode cX6_low 32 = .ok (.getfield 136, 3) := by decide +kernel
theorem dX6_low_35 : decode cX6_low 35 = .ok (.ireturn, 1) := by decide +kernel
theorem dX6_count_0 : decode cX6_count 0 = .ok (.aload_n 0, 1) := by decide +kernel
theorem dX6_count_1 : decode cX6_count 1 = .ok (.iload_n 1, 1) := by decide +kernel
theorem dX6_count_2 : decode cX6_count 2 = .ok (.invokevirtual 98, 3) := by decide +kernel
theorem dX6_count_5 : decode cX6_count 5 = .ok (.ifCond .ne 10, 3) := by decide +kernel
theorem dX6_count_8 : decode cX6_count 8 = .ok (.aload_n 0, 1) := by decide +kernel
theorem dX6_count_9 : decode cX6_count 9 = .ok (.bipush (-3), 2) := by decide +kernel
theorem dX6_count_11 : decode cX6_count 11 = .ok (.invokevirtual 80, 3) := by decide +kernel
theorem dX6_count_14 : decode cX6_count 14 = .ok (.ireturn, 1) := by decide +kernel
theorem dX6_count_15 : decode cX6_count 15 = .ok (.iload_n 2, 1) := by decide +kernel
theorem dX6_count_16 : decode cX6_count 16 = .ok (.i2l, 1) := by decide +kernel
theorem dX6_count_17 : decode cX6_count 17 = .ok (.ldc2_w 158, 3) := by decide +kernel
theorem dX6_count_20 : decode cX6_count 20 = .ok (.lconst 1, 1) := by decide +kernel
theorem dX6_count_21 : decode cX6_count 21 = .ok (.invokestatic 90, 3) := by decide +kernel
theorem dX6_count_24 : decode cX6_count 24 = .ok (.ifCond .ne 10, 3) := by decide +kernel
theorem dX6_count_27 : decode cX6_count 27 = .ok (.aload_n 0, 1) := by decide +kernel
theorem dX6_count_28 : decode cX6_count 28 = .ok (.bipush (-7), 2) := by decide +kernel
theorem dX6_count_30 : decode cX6_count 30 = .ok (.invokevirtual 80, 3) := by decide +kernel
theorem dX6_count_33 : decode cX6_count 33 = .ok (.ireturn, 1) := by decide +kernel
theorem dX6_count_34 : decode cX6_count 34 = .ok (.aload_n 0, 1) := by decide +kernel
theorem dX6_count_35 : decode cX6_count 35 = .ok (.iload_n 1, 1) := by decide +kernel
theorem dX6_count_36 : decode cX6_count 36 = .ok (.invokevirtual 150, 3) := by decide +kernel
theorem dX6_count_39 : decode cX6_count 39 = .ok (.iload_n 2, 1) := by decide +kernel
theorem dX6_count_40 : decode cX6_count 40 = .ok (.ifCond .ge 10, 3) := by decide +kernel
theorem dX6_count_43 : decode cX6_count 43 = .ok (.aload_n 0, 1) := by decide +kernel
theorem dX6_count_44 : decode cX6_count 44 = .ok (.getfield 127, 3) := by decide +kernel
theorem dX6_count_47 : decode cX6_count 47 = .ok (.goto 18, 3) := by decide +kernel
theorem dX6_count_50 : decode cX6_count 50 = .ok (.iload_n 2, 1) := by decide +kernel
theorem dX6_count_51 : decode cX6_count 51 = .ok (.ifCond .ne 10, 3) := by decide +kernel
theorem dX6_count_54 : decode cX6_count 54 = .ok (.aload_n 0, 1) := by decide +kernel
theorem dX6_count_55 : decode cX6_count 55 = .ok (.getfield 130, 3) := by decide +kernel
theorem dX6_count_58 : decode cX6_count 58 = .ok (.goto 7, 3) := by decide +kernel
theorem dX6_count_61 : decode cX6_count 61 = .ok (.aload_n 0, 1) := by decide +kernel
theorem dX6_count_62 : decode cX6_count 62 = .ok (.getfield 133, 3) := by decide +kernel
theorem dX6_count_65 : decode cX6_count 65 = .ok (.ireturn, 1) := by decide +kernel
theorem dX6_comes_0 : decode cX6_comes 0 = .ok (.iconst 0, 1) := by decide +kernel
theorem dX6_comes_1 : decode cX6_comes 1 = .ok (.istore 4, 2) := by decide +kernel
theorem dX6_comes_3 : decode cX6_comes 3 = .ok (.iload 4, 2) := by decide +kernel
theorem dX6_comes_5 : decode cX6_comes 5 = .ok (.iload_n 1, 1) := by decide +kernel
theorem dX6_comes_6 : decode cX6_comes 6 = .ok (.if_icmp .ge 55, 3) := by decide +kernel
theorem dX6_comes_9 : decode cX6_comes 9 = .ok (.iconst 0, 1) := by decide +kernel
theorem dX6_comes_10 : decode cX6_comes 10 = .ok (.istore 5, 2) := by decide +kernel
theorem dX6_comes_12 : decode cX6_comes 12 = .ok (.iload 5, 2) := by decide +kernel
theorem dX6_comes_14 : decode cX6_comes 14 = .ok (.iload_n 2, 1) := by decide +kernel
theorem dX6_comes_15 : decode cX6_comes 15 = .ok (.if_icmp .ge 40, 3) := by decide +kernel
theorem dX6_comes_18 : decode cX6_comes 18 = .ok (.aload_n 0, 1) := by decide +kernel
theorem dX6_comes_19 : decode cX6_comes 19 = .ok (.getfield 47, 3) := by decide +kernel
theorem dX6_comes_22 : decode cX6_comes 22 = .ok (.iconst 5, 1) := by decide +kernel
theorem dX6_comes_23 : decode cX6_comes 23 = .ok (.iload 4, 2) := by decide +kernel
theorem dX6_comes_25 : decode cX6_comes 25 = .ok (.imul, 1) := by decide +kernel
theorem dX6_comes_26 : decode cX6_comes 26 = .ok (.iload 5, 2) := by decide +kernel
theorem dX6_comes_28 : decode cX6_comes 28 = .ok (.iadd, 1) := by decide +kernel
theorem dX6_comes_29 : decode cX6_comes 29 = .ok (.laload, 1) := by decide +kernel
theorem dX6_comes_30 : decode cX6_comes 30 = .ok (.ldc2_w 109, 3) := by decide +kernel
theorem dX6_comes_33 : decode cX6_comes 33 = .ok (.ldc2_w 111, 3) := by decide +kernel
theorem dX6_comes_36 : decode cX6_comes 36 = .ok (.invokestatic 90, 3) := by decide +kernel
theorem dX6_comes_39 : decode cX6_comes 39 = .ok (.ifCond .ne 10, 3) := by decide +kernel
theorem dX6_comes_42 : decode cX6_comes 42 = .ok (.aload_n 0, 1) := by decide +kernel
theorem dX6_comes_43 : decode cX6_comes 43 = .ok (.bipush (-8), 2) := by decide +kernel
theorem dX6_comes_45 : decode cX6_comes 45 = .ok (.invokevirtual 80, 3) := by decide +kernel
theorem dX6_comes_48 : decode cX6_comes 48 = .ok (.ireturn, 1) := by decide +kernel
theorem dX6_comes_49 : decode cX6_comes 49 = .ok (.iinc 5 1, 3) := by decide +kernel
theorem dX6_comes_52 : decode cX6_comes 52 = .ok (.goto (-40), 3) := by decide +kernel
theorem dX6_comes_55 : decode cX6_comes 55 = .ok (.iinc 4 1, 3) := by decide +kernel
theorem dX6_comes_58 : decode cX6_comes 58 = .ok (.goto (-55), 3) := by decide +kernel
theorem dX6_comes_61 : decode cX6_comes 61 = .ok (.aload_n 0, 1) := by decide +kernel
theorem dX6_comes_62 : decode cX6_comes 62 = .ok (.iload_n 1, 1) := by decide +kernel
theorem dX6_comes_63 : decode cX6_comes 63 = .ok (.iload_n 2, 1) := by decide +kernel
theorem dX6_comes_64 : decode cX6_comes 64 = .ok (.iload_n 3, 1) := by decide +kernel
theorem dX6_comes_65 : decode cX6_comes 65 = .ok (.invokevirtual 94, 3) := by decide +kernel
theorem dX6_comes_68 : decode cX6_comes 68 = .ok (.istore 4, 2) := by decide +kernel
theorem dX6_comes_70 : decode cX6_comes 70 = .ok (.iconst 0, 1) := by decide +kernel
theorem dX6_comes_71 : decode cX6_comes 71 = .ok (.istore 5, 2) := by decide +kernel
theorem dX6_comes_73 : decode cX6_comes 73 = .ok (.iload 5, 2) := by decide +kernel
theorem dX6_comes_75 : decode cX6_comes 75 = .ok (.iload_n 1, 1) := by decide +kernel
theorem dX6_comes_76 : decode cX6_comes 76 = .ok (.if_icmp .ge 56, 3) := by decide +kernel
theorem dX6_comes_79 : decode cX6_comes 79 = .ok (.iload 4, 2) := by decide +kernel
theorem dX6_comes_81 : decode cX6_comes 81 = .ok (.ifCond .lt 51, 3) := by decide +kernel
theorem dX6_comes_84 : decode cX6_comes 84 = .ok (.iconst 0, 1) := by decide +kernel
theorem dX6_comes_85 : decode cX6_comes 85 = .ok (.istore 6, 2) := by decide +kernel
theorem dX6_comes_87 : decode cX6_comes 87 = .ok (.iload 6, 2) := by decide +kernel
theorem dX6_comes_89 : decode cX6_comes 89 = .ok (.iload_n 2, 1) := by decide +kernel
theorem dX6_comes_90 : decode cX6_comes 90 = .ok (.if_icmp .ge 36, 3) := by decide +kernel
theorem dX6_comes_93 : decode cX6_comes 93 = .ok (.aload_n 0, 1) := by decide +kernel
theorem dX6_comes_94 : decode cX6_comes 94 = .ok (.getfield 7, 3) := by decide +kernel
theorem dX6_comes_97 : decode cX6_comes 97 = .ok (.iload 4, 2) := by decide +kernel
theorem dX6_comes_99 : decode cX6_comes 99 = .ok (.iload 5, 2) := by decide +kernel
theorem dX6_comes_101 : decode cX6_comes 101 = .ok (.iload 6, 2) := by decide +kernel
theorem dX6_comes_103 : decode cX6_comes 103 = .ok (.invokestatic 113, 3) := by decide +kernel
theorem dX6_comes_106 : decode cX6_comes 106 = .ok (.aload_n 0, 1) := by decide +kernel
theorem dX6_comes_107 : decode cX6_comes 107 = .ok (.getfield 47, 3) := by decide +kernel
theorem dX6_comes_110 : decode cX6_comes 110 = .ok (.iconst 5, 1) := by decide +kernel
theorem dX6_comes_111 : decode cX6_comes 111 = .ok (.iload 5, 2) := by decide +kernel
theorem dX6_comes_113 : decode cX6_comes 113 = .ok (.imul, 1) := by decide +kernel
theorem dX6_comes_114 : decode cX6_comes 114 = .ok (.iload 6, 2) := by decide +kernel
theorem dX6_comes_116 : decode cX6_comes 116 = .ok (.iadd, 1) := by decide +kernel
theorem dX6_comes_117 : decode cX6_comes 117 = .ok (.laload, 1) := by decide +kernel
theorem dX6_comes_118 : decode cX6_comes 118 = .ok (.l2i, 1) := by decide +kernel
theorem dX6_comes_119 : decode cX6_comes 119 = .ok (.iastore, 1) := by decide +kernel
theorem dX6_comes_120 : decode cX6_comes 120 = .ok (.iinc 6 1, 3) := by decide +kernel
theorem dX6_comes_123 : decode cX6_comes 123 = .ok (.goto (-36), 3) := by decide +kernel
theorem dX6_comes_126 : decode cX6_comes 126 = .ok (.iinc 5 1, 3) := by decide +kernel
theorem dX6_comes_129 : decode cX6_comes 129 = .ok (.goto (-56), 3) := by decide +kernel
theorem dX6_comes_132 : decode cX6_comes 132 = .ok (.iload 4, 2) := by decide +kernel
theorem dX6_comes_134 : decode cX6_comes 134 = .ok (.ireturn, 1) := by decide +kernel
theorem dX6_product_0 : decode cX6_product 0 = .ok (.aload_n 0, 1) := by decide +kernel
theorem dX6_product_1 : decode cX6_product 1 = .ok (.iload_n 1, 1) := by decide +kernel
theorem dX6_product_2 : decode cX6_product 2 = .ok (.invokevirtual 98, 3) := by decide +kernel
theorem dX6_product_5 : decode cX6_product 5 = .ok (.ifCond .eq 11, 3) := by decide +kernel
theorem dX6_product_8 : decode cX6_product 8 = .ok (.aload_n 0, 1) := by decide +kernel
theorem dX6_product_9 : decode cX6_product 9 = .ok (.iload_n 2, 1) := by decide +kernel
theorem dX6_product_10 : decode cX6_product 10 = .ok (.invokevirtual 98, 3) := by decide +kernel
theorem dX6_product_13 : decode cX6_product 13 = .ok (.ifCond .ne 10, 3) := by decide +kernel
theorem dX6_product_16 : decode cX6_product 16 = .ok (.aload_n 0, 1) := by decide +kernel
theorem dX6_product_17 : decode cX6_product 17 = .ok (.bipush (-3), 2) := by decide +kernel
theorem dX6_product_19 : decode cX6_product 19 = .ok (.invokevirtual 80, 3) := by decide +kernel
theorem dX6_product_22 : decode cX6_product 22 = .ok (.ireturn, 1) := by decide +kernel
theorem dX6_product_23 : decode cX6_product 23 = .ok (.aload_n 0, 1) := by decide +kernel
theorem dX6_product_24 : decode cX6_product 24 = .ok (.getfield 16, 3) := by decide +kernel
theorem dX6_product_27 : decode cX6_product 27 = .ok (.iload_n 1, 1) := by decide +kernel
theorem dX6_product_28 : decode cX6_product 28 = .ok (.iaload, 1) := by decide +kernel
theorem dX6_product_29 : decode cX6_product 29 = .ok (.aload_n 0, 1) := by decide +kernel
theorem dX6_product_30 : decode cX6_product 30 = .ok (.getfield 13, 3) := by decide +kernel
theorem dX6_product_33 : decode cX6_product 33 = .ok (.iload_n 2, 1) := by decide +kernel
theorem dX6_product_34 : decode cX6_product 34 = .ok (.iaload, 1) := by decide +kernel
theorem dX6_product_35 : decode cX6_product 35 = .ok (.if_icmp .eq 10, 3) := by decide +kernel
theorem dX6_product_38 : decode cX6_product 38 = .ok (.aload_n 0, 1) := by decide +kernel
theorem dX6_product_39 : decode cX6_product 39 = .ok (.bipush (-7), 2) := by decide +kernel
theorem dX6_product_41 : decode cX6_product 41 = .ok (.invokevirtual 80, 3) := by decide +kernel
theorem dX6_product_44 : decode cX6_product 44 = .ok (.ireturn, 1) := by decide +kernel
theorem dX6_product_45 : decode cX6_product 45 = .ok (.iconst 0, 1) := by decide +kernel
theorem dX6_product_46 : decode cX6_product 46 = .ok (.istore_n 3, 1) := by decide +kernel
theorem dX6_product_47 : decode cX6_product 47 = .ok (.iload_n 3, 1) := by decide +kernel
theorem dX6_product_48 : decode cX6_product 48 = .ok (.aload_n 0, 1) := by decide +kernel
theorem dX6_product_49 : decode cX6_product 49 = .ok (.getfield 13, 3) := by decide +kernel
theorem dX6_product_52 : decode cX6_product 52 = .ok (.iload_n 1, 1) := by decide +kernel
theorem dX6_product_53 : decode cX6_product 53 = .ok (.iaload, 1) := by decide +kernel
theorem dX6_product_54 : decode cX6_product 54 = .ok (.if_icmp .ge 98, 3) := by decide +kernel
theorem dX6_product_57 : decode cX6_product 57 = .ok (.iconst 0, 1) := by decide +kernel
theorem dX6_product_58 : decode cX6_product 58 = .ok (.istore 4, 2) := by decide +kernel
theorem dX6_product_60 : decode cX6_product 60 = .ok (.iload 4, 2) := by decide +kernel
theorem dX6_product_62 : decode cX6_product 62 = .ok (.aload_n 0, 1) := by decide +kernel
theorem dX6_product_63 : decode cX6_product 63 = .ok (.getfield 16, 3) := by decide +kernel
theorem dX6_product_66 : decode cX6_product 66 = .ok (.iload_n 2, 1) := by decide +kernel
theorem dX6_product_67 : decode cX6_product 67 = .ok (.iaload, 1) := by decide +kernel
theorem dX6_product_68 : decode cX6_product 68 = .ok (.if_icmp .ge 78, 3) := by decide +kernel
theorem dX6_product_71 : decode cX6_product 71 = .ok (.lconst 0, 1) := by decide +kernel
theorem dX6_product_72 : decode cX6_product 72 = .ok (.lstore 5, 2) := by decide +kernel
theorem dX6_product_74 : decode cX6_product 74 = .ok (.iconst 0, 1) := by decide +kernel
theorem dX6_product_75 : decode cX6_product 75 = .ok (.istore 7, 2) := by decide +kernel
theorem dX6_product_77 : decode cX6_product 77 = .ok (.iload 7, 2) := by decide +kernel
theorem dX6_product_79 : decode cX6_product 79 = .ok (.aload_n 0, 1) := by decide +kernel
theorem dX6_product_80 : decode cX6_product 80 = .ok (.getfield 13, 3) := by decide +kernel
theorem dX6_product_83 : decode cX6_product 83 = .ok (.iload_n 2, 1) := by decide +kernel
theorem dX6_product_84 : decode cX6_product 84 = .ok (.iaload, 1) := by decide +kernel
theorem dX6_product_85 : decode cX6_product 85 = .ok (.if_icmp .ge 42, 3) := by decide +kernel
theorem dX6_product_88 : decode cX6_product 88 = .ok (.lload 5, 2) := by decide +kernel
theorem dX6_product_90 : decode cX6_product 90 = .ok (.aload_n 0, 1) := by decide +kernel
theorem dX6_product_91 : decode cX6_product 91 = .ok (.getfield 7, 3) := by decide +kernel
theorem dX6_product_94 : decode cX6_product 94 = .ok (.iload_n 1, 1) := by decide +kernel
theorem dX6_product_95 : decode cX6_product 95 = .ok (.iload_n 3, 1) := by decide +kernel
theorem dX6_product_96 : decode cX6_product 96 = .ok (.iload 7, 2) := by decide +kernel
theorem dX6_product_98 : decode cX6_product 98 = .ok (.invokestatic 113, 3) := by decide +kernel
theorem dX6_product_101 : decode cX6_product 101 = .ok (.iaload, 1) := by decide +kernel
theorem dX6_product_102 : decode cX6_product 102 = .ok (.i2l, 1) := by decide +kernel
theorem dX6_product_103 : decode cX6_product 103 = .ok (.aload_n 0, 1) := by decide +kernel
theorem dX6_product_104 : decode cX6_product 104 = .ok (.getfield 7, 3) := by decide +kernel
theorem dX6_product_107 : decode cX6_product 107 = .ok (.iload_n 2, 1) := by decide +kernel
theorem dX6_product_108 : decode cX6_product 108 = .ok (.iload 7, 2) := by decide +kernel
theorem dX6_product_110 : decode cX6_product 110 = .ok (.iload 4, 2) := by decide +kernel
theorem dX6_product_112 : decode cX6_product 112 = .ok (.invokestatic 113, 3) := by decide +kernel
theorem dX6_product_115 : decode cX6_product 115 = .ok (.iaload, 1) := by decide +kernel
theorem dX6_product_116 : decode cX6_product 116 = .ok (.i2l, 1) := by decide +kernel
theorem dX6_product_117 : decode cX6_product 117 = .ok (.lmul, 1) := by decide +kernel
theorem dX6_product_118 : decode cX6_product 118 = .ok (.ladd, 1) := by decide +kernel
theorem dX6_product_119 : decode cX6_product 119 = .ok (.lstore 5, 2) := by decide +kernel
theorem dX6_product_121 : decode cX6_product 121 = .ok (.iinc 7 1, 3) := by decide +kernel
theorem dX6_product_124 : decode cX6_product 124 = .ok (.goto (-47), 3) := by decide +kernel
theorem dX6_product_127 : decode cX6_product 127 = .ok (.aload_n 0, 1) := by decide +kernel
theorem dX6_product_128 : decode cX6_product 128 = .ok (.getfield 47, 3) := by decide +kernel
theorem dX6_product_131 : decode cX6_product 131 = .ok (.iconst 5, 1) := by decide +kernel
theorem dX6_product_132 : decode cX6_product 132 = .ok (.iload_n 3, 1) := by decide +kernel
theorem dX6_product_133 : decode cX6_product 133 = .ok (.imul, 1) := by decide +kernel
theorem dX6_product_134 : decode cX6_product 134 = .ok (.iload 4, 2) := by decide +kernel
theorem dX6_product_136 : decode cX6_product 136 = .ok (.iadd, 1) := by decide +kernel
theorem dX6_product_137 : decode cX6_product 137 = .ok (.lload 5, 2) := by decide +kernel
theorem dX6_product_139 : decode cX6_product 139 = .ok (.lastore, 1) := by decide +kernel
theorem dX6_product_140 : decode cX6_product 140 = .ok (.iinc 4 1, 3) := by decide +kernel
theorem dX6_product_143 : decode cX6_product 143 = .ok (.goto (-83), 3) := by decide +kernel
theorem dX6_product_146 : decode cX6_product 146 = .ok (.iinc 3 1, 3) := by decide +kernel
theorem dX6_product_149 : decode cX6_product 149 = .ok (.goto (-102), 3) := by decide +kernel
theorem dX6_product_152 : decode cX6_product 152 = .ok (.aload_n 0, 1) := by decide +kernel
theorem dX6_product_153 : decode cX6_product 153 = .ok (.aload_n 0, 1) := by decide +kernel
theorem dX6_product_154 : decode cX6_product 154 = .ok (.getfield 13, 3) := by decide +kernel
theorem dX6_product_157 : decode cX6_product 157 = .ok (.iload_n 1, 1) := by decide +kernel
theorem dX6_product_158 : decode cX6_product 158 = .ok (.iaload, 1) := by decide +kernel
theorem dX6_product_159 : decode cX6_product 159 = .ok (.aload_n 0, 1) := by decide +kernel
theorem dX6_product_160 : decode cX6_product 160 = .ok (.getfield 16, 3) := by decide +kernel
theorem dX6_product_163 : decode cX6_product 163 = .ok (.iload_n 2, 1) := by decide +kernel
theorem dX6_product_164 : decode cX6_product 164 = .ok (.iaload, 1) := by decide +kernel
theorem dX6_product_165 : decode cX6_product 165 = .ok (.iconst 3, 1) := by decide +kernel
theorem dX6_product_166 : decode cX6_product 166 = .ok (.invokevirtual 160, 3) := by decide +kernel
theorem dX6_product_169 : decode cX6_product 169 = .ok (.ireturn, 1) := by decide +kernel
theorem dX6_areAlike_0 : decode cX6_areAlike 0 = .ok (.aload_n 0, 1) := by decide +kernel
theorem dX6_areAlike_1 : decode cX6_areAlike 1 = .ok (.getfield 13, 3) := by decide +kernel
theorem dX6_areAlike_4 : decode cX6_areAlike 4 = .ok (.iload_n 1, 1) := by decide +kernel
theorem dX6_areAlike_5 : decode cX6_areAlike 5 = .ok (.iaload, 1) := by decide +kernel
theorem dX6_areAlike_6 : decode cX6_areAlike 6 = .ok (.aload_n 0, 1) := by decide +kernel
theorem dX6_areAlike_7 : decode cX6_areAlike 7 = .ok (.getfield 13, 3) := by decide +kernel
theorem dX6_areAlike_10 : decode cX6_areAlike 10 = .ok (.iload_n 2, 1) := by decide +kernel
theorem dX6_areAlike_11 : decode cX6_areAlike 11 = .ok (.iaload, 1) := by decide +kernel
theorem dX6_areAlike_12 : decode cX6_areAlike 12 = .ok (.if_icmp .ne 22, 3) := by decide +kernel
theorem dX6_areAlike_15 : decode cX6_areAlike 15 = .ok (.aload_n 0, 1) := by decide +kernel
theorem dX6_areAlike_16 : decode cX6_areAlike 16 = .ok (.getfield 16, 3) := by decide +kernel
theorem dX6_areAlike_19 : decode cX6_areAlike 19 = .ok (.iload_n 1, 1) := by decide +kernel
theorem dX6_areAlike_20 : decode cX6_areAlike 20 = .ok (.iaload, 1) := by decide +kernel
theorem dX6_areAlike_21 : decode cX6_areAlike 21 = .ok (.aload_n 0, 1) := by decide +kernel
theorem dX6_areAlike_22 : decode cX6_areAlike 22 = .ok (.getfield 16, 3) := by decide +kernel
theorem dX6_areAlike_25 : decode cX6_areAlike 25 = .ok (.iload_n 2, 1) := by decide +kernel
theorem dX6_areAlike_26 : decode cX6_areAlike 26 = .ok (.iaload, 1) := by decide +kernel
theorem dX6_areAlike_27 : decode cX6_areAlike 27 = .ok (.if_icmp .ne 7, 3) := by decide +kernel
theorem dX6_areAlike_30 : decode cX6_areAlike 30 = .ok (.iconst 1, 1) := by decide +kernel
theorem dX6_areAlike_31 : decode cX6_areAlike 31 = .ok (.goto 4, 3) := by decide +kernel
theorem dX6_areAlike_34 : decode cX6_areAlike 34 = .ok (.iconst 0, 1) := by decide +kernel
theorem dX6_areAlike_35 : decode cX6_areAlike 35 = .ok (.ireturn, 1) := by decide +kernel
theorem dX6_sum_0 : decode cX6_sum 0 = .ok (.aload_n 0, 1) := by decide +kernel
theorem dX6_sum_1 : decode cX6_sum 1 = .ok (.iload_n 1, 1) := by decide +kernel
theorem dX6_sum_2 : decode cX6_sum 2 = .ok (.invokevirtual 98, 3) := by decide +kernel
theorem dX6_sum_5 : decode cX6_sum 5 = .ok (.ifCond .eq 11, 3) := by decide +kernel
theorem dX6_sum_8 : decode cX6_sum 8 = .ok (.aload_n 0, 1) := by decide +kernel
theorem dX6_sum_9 : decode cX6_sum 9 = .ok (.iload_n 2, 1) := by decide +kernel
theorem dX6_sum_10 : decode cX6_sum 10 = .ok (.invokevirtual 98, 3) := by decide +kernel
theorem dX6_sum_13 : decode cX6_sum 13 = .ok (.ifCond .ne 10, 3) := by decide +kernel
theorem dX6_sum_16 : decode cX6_sum 16 = .ok (.aload_n 0, 1) := by decide +kernel
theorem dX6_sum_17 : decode cX6_sum 17 = .ok (.bipush (-3), 2) := by decide +kernel
theorem dX6_sum_19 : decode cX6_sum 19 = .ok (.invokevirtual 80, 3) := by decide +kernel
theorem dX6_sum_22 : decode cX6_sum 22 = .ok (.ireturn, 1) := by decide +kernel
theorem dX6_sum_23 : decode cX6_sum 23 = .ok (.aload_n 0, 1) := by decide +kernel
theorem dX6_sum_24 : decode cX6_sum 24 = .ok (.iload_n 1, 1) := by decide +kernel
theorem dX6_sum_25 : decode cX6_sum 25 = .ok (.iload_n 2, 1) := by decide +kernel
theorem dX6_sum_26 : decode cX6_sum 26 = .ok (.invokevirtual 163, 3) := by decide +kernel
theorem dX6_sum_29 : decode cX6_sum 29 = .ok (.ifCond .ne 10, 3) := by decide +kernel
theorem dX6_sum_32 : decode cX6_sum 32 = .ok (.aload_n 0, 1) := by decide +kernel
theorem dX6_sum_33 : decode cX6_sum 33 = .ok (.bipush (-7), 2) := by decide +kernel
theorem dX6_sum_35 : decode cX6_sum 35 = .ok (.invokevirtual 80, 3) := by decide +kernel
theorem dX6_sum_38 : decode cX6_sum 38 = .ok (.ireturn, 1) := by decide +kernel
theorem dX6_sum_39 : decode cX6_sum 39 = .ok (.iconst 0, 1) := by decide +kernel
theorem dX6_sum_40 : decode cX6_sum 40 = .ok (.istore_n 3, 1) := by decide +kernel
theorem dX6_sum_41 : decode cX6_sum 41 = .ok (.iload_n 3, 1) := by decide +kernel
theorem dX6_sum_42 : decode cX6_sum 42 = .ok (.bipush 25, 2) := by decide +kernel
theorem dX6_sum_44 : decode cX6_sum 44 = .ok (.if_icmp .ge 39, 3) := by decide +kernel
theorem dX6_sum_47 : decode cX6_sum 47 = .ok (.aload_n 0, 1) := by decide +kernel
theorem dX6_sum_48 : decode cX6_sum 48 = .ok (.getfield 47, 3) := by decide +kernel
theorem dX6_sum_51 : decode cX6_sum 51 = .ok (.iload_n 3, 1) := by decide +kernel
theorem dX6_sum_52 : decode cX6_sum 52 = .ok (.aload_n 0, 1) := by decide +kernel
theorem dX6_sum_53 : decode cX6_sum 53 = .ok (.getfield 7, 3) := by decide +kernel
theorem dX6_sum_56 : decode cX6_sum 56 = .ok (.bipush 25, 2) := by decide +kernel
theorem dX6_sum_58 : decode cX6_sum 58 = .ok (.iload_n 1, 1) := by decide +kernel
theorem dX6_sum_59 : decode cX6_sum 59 = .ok (.imul, 1) := by decide +kernel
theorem dX6_sum_60 : decode cX6_sum 60 = .ok (.iload_n 3, 1) := by decide +kernel
theorem dX6_sum_61 : decode cX6_sum 61 = .ok (.iadd, 1) := by decide +kernel
theorem dX6_sum_62 : decode cX6_sum 62 = .ok (.iaload, 1) := by decide +kernel
theorem dX6_sum_63 : decode cX6_sum 63 = .ok (.aload_n 0, 1) := by decide +kernel
theorem dX6_sum_64 : decode cX6_sum 64 = .ok (.getfield 7, 3) := by decide +kernel
theorem dX6_sum_67 : decode cX6_sum 67 = .ok (.bipush 25, 2) := by decide +kernel
theorem dX6_sum_69 : decode cX6_sum 69 = .ok (.iload_n 2, 1) := by decide +kernel
theorem dX6_sum_70 : decode cX6_sum 70 = .ok (.imul, 1) := by decide +kernel
theorem dX6_sum_71 : decode cX6_sum 71 = .ok (.iload_n 3, 1) := by decide +kernel
theorem dX6_sum_72 : decode cX6_sum 72 = .ok (.iadd, 1) := by decide +kernel
theorem dX6_sum_73 : decode cX6_sum 73 = .ok (.iaload, 1) := by decide +kernel
theorem dX6_sum_74 : decode cX6_sum 74 = .ok (.iadd, 1) := by decide +kernel
theorem dX6_sum_75 : decode cX6_sum 75 = .ok (.i2l, 1) := by decide +kernel
theorem dX6_sum_76 : decode cX6_sum 76 = .ok (.lastore, 1) := by decide +kernel
theorem dX6_sum_77 : decode cX6_sum 77 = .ok (.iinc 3 1, 3) := by decide +kernel
theorem dX6_sum_80 : decode cX6_sum 80 = .ok (.goto (-39), 3) := by decide +kernel
theorem dX6_sum_83 : decode cX6_sum 83 = .ok (.aload_n 0, 1) := by decide +kernel
theorem dX6_sum_84 : decode cX6_sum 84 = .ok (.aload_n 0, 1) := by decide +kernel
theorem dX6_sum_85 : decode cX6_sum 85 = .ok (.getfield 13, 3) := by decide +kernel
theorem dX6_sum_88 : decode cX6_sum 88 = .ok (.iload_n 1, 1) := by decide +kernel
theorem dX6_sum_89 : decode cX6_sum 89 = .ok (.iaload, 1) := by decide +kernel
theorem dX6_sum_90 : decode cX6_sum 90 = .ok (.aload_n 0, 1) := by decide +kernel
theorem dX6_sum_91 : decode cX6_sum 91 = .ok (.getfield 16, 3) := by decide +kernel
theorem dX6_sum_94 : decode cX6_sum 94 = .ok (.iload_n 1, 1) := by decide +kernel
theorem dX6_sum_95 : decode cX6_sum 95 = .ok (.iaload, 1) := by decide +kernel
theorem dX6_sum_96 : decode cX6_sum 96 = .ok (.iconst 3, 1) := by decide +kernel
theorem dX6_sum_97 : decode cX6_sum 97 = .ok (.invokevirtual 160, 3) := by decide +kernel
theorem dX6_sum_100 : decode cX6_sum 100 = .ok (.ireturn, 1) := by decide +kernel
theorem dX6_part_0 : decode cX6_part 0 = .ok (.aload_n 0, 1) := by decide +kernel
theorem dX6_part_1 : decode cX6_part 1 = .ok (.iload_n 1, 1) := by decide +kernel
theorem dX6_part_2 : decode cX6_part 2 = .ok (.invokevirtual 98, 3) := by decide +kernel
theorem dX6_part_5 : decode cX6_part 5 = .ok (.ifCond .eq 29, 3) := by decide +kernel
theorem dX6_part_8 : decode cX6_part 8 = .ok (.iload_n 2, 1) := by decide +kernel
theorem dX6_part_9 : decode cX6_part 9 = .ok (.aload_n 0, 1) := by decide +kernel
theorem dX6_part_10 : decode cX6_part 10 = .ok (.getfield 13, 3) := by decide +kernel
theorem dX6_part_13 : decode cX6_part 13 = .ok (.iload_n 1, 1) := by decide +kernel
theorem dX6_part_14 : decode cX6_part 14 = .ok (.iaload, 1) := by decide +kernel
theorem dX6_part_15 : decode cX6_part 15 = .ok (.invokestatic 119, 3) := by decide +kernel
theorem dX6_part_18 : decode cX6_part 18 = .ok (.ifCond .eq 16, 3) := by decide +kernel
theorem dX6_part_21 : decode cX6_part 21 = .ok (.iload_n 3, 1) := by decide +kernel
theorem dX6_part_22 : decode cX6_part 22 = .ok (.aload_n 0, 1) := by decide +kernel
theorem dX6_part_23 : decode cX6_part 23 = .ok (.getfield 16, 3) := by decide +kernel
theorem dX6_part_26 : decode cX6_part 26 = .ok (.iload_n 1, 1) := by decide +kernel
theorem dX6_part_27 : decode cX6_part 27 = .ok (.iaload, 1) := by decide +kernel
theorem dX6_part_28 : decode cX6_part 28 = .ok (.invokestatic 119, 3) := by decide +kernel
theorem dX6_part_31 : decode cX6_part 31 = .ok (.ifCond .ne 10, 3) := by decide +kernel
theorem dX6_part_34 : decode cX6_part 34 = .ok (.aload_n 0, 1) := by decide +kernel
theorem dX6_part_35 : decode cX6_part 35 = .ok (.bipush (-3), 2) := by decide +kernel
theorem dX6_part_37 : decode cX6_part 37 = .ok (.invokevirtual 80, 3) := by decide +kernel
theorem dX6_part_40 : decode cX6_part 40 = .ok (.ireturn, 1) := by decide +kernel
theorem dX6_part_41 : decode cX6_part 41 = .ok (.iconst 0, 1) := by decide +kernel
theorem dX6_part_42 : decode cX6_part 42 = .ok (.istore 4, 2) := by decide +kernel
theorem dX6_part_44 : decode cX6_part 44 = .ok (.iconst 0, 1) := by decide +kernel
theorem dX6_part_45 : decode cX6_part 45 = .ok (.istore 5, 2) := by decide +kernel
theorem dX6_part_47 : decode cX6_part 47 = .ok (.iload 5, 2) := by decide +kernel
theorem dX6_part_49 : decode cX6_part 49 = .ok (.iconst 5, 1) := by decide +kernel
theorem dX6_part_50 : decode cX6_part 50 = .ok (.if_icmp .ge 83, 3) := by decide +kernel
theorem dX6_part_53 : decode cX6_part 53 = .ok (.iload_n 2, 1) := by decide +kernel
theorem dX6_part_54 : decode cX6_part 54 = .ok (.iload 5, 2) := by decide +kernel
theorem dX6_part_56 : decode cX6_part 56 = .ok (.ishr, 1) := by decide +kernel
theorem dX6_part_57 : decode cX6_part 57 = .ok (.iconst 1, 1) := by decide +kernel
theorem dX6_part_58 : decode cX6_part 58 = .ok (.iand, 1) := by decide +kernel
theorem dX6_part_59 : decode cX6_part 59 = .ok (.ifCond .ne 6, 3) := by decide +kernel
theorem dX6_part_62 : decode cX6_part 62 = .ok (.goto 65, 3) := by decide +kernel
theorem dX6_part_65 : decode cX6_part 65 = .ok (.iconst 0, 1) := by decide +kernel
theorem dX6_part_66 : decode cX6_part 66 = .ok (.istore 6, 2) := by decide +kernel
theorem dX6_part_68 : decode cX6_part 68 = .ok (.iconst 0, 1) := by decide +kernel
theorem dX6_part_69 : decode cX6_part 69 = .ok (.istore 7, 2) := by decide +kernel
theorem dX6_part_71 : decode cX6_part 71 = .ok (.iload 7, 2) := by decide +kernel
theorem dX6_part_73 : decode cX6_part 73 = .ok (.iconst 5, 1) := by decide +kernel
theorem dX6_part_74 : decode cX6_part 74 = .ok (.if_icmp .ge 50, 3) := by decide +kernel
theorem dX6_part_77 : decode cX6_part 77 = .ok (.iload_n 3, 1) := by decide +kernel
theorem dX6_part_78 : decode cX6_part 78 = .ok (.iload 7, 2) := by decide +kernel
theorem dX6_part_80 : decode cX6_part 80 = .ok (.ishr, 1) := by decide +kernel
theorem dX6_part_81 : decode cX6_part 81 = .ok (.iconst 1, 1) := by decide +kernel
theorem dX6_part_82 : decode cX6_part 82 = .ok (.iand, 1) := by decide +kernel
theorem dX6_part_83 : decode cX6_part 83 = .ok (.ifCond .ne 6, 3) := by decide +kernel
theorem dX6_part_86 : decode cX6_part 86 = .ok (.goto 32, 3) := by decide +kernel
theorem dX6_part_89 : decode cX6_part 89 = .ok (.aload_n 0, 1) := by decide +kernel
theorem dX6_part_90 : decode cX6_part 90 = .ok (.getfield 47, 3) := by decide +kernel
theorem dX6_part_93 : decode cX6_part 93 = .ok (.iconst 5, 1) := by decide +kernel
theorem dX6_part_94 : decode cX6_part 94 = .ok (.iload 4, 2) := by decide +kernel
theorem dX6_part_96 : decode cX6_part 96 = .ok (.imul, 1) := by decide +kernel
theorem dX6_part_97 : decode cX6_part 97 = .ok (.iload 6, 2) := by decide +kernel
theorem dX6_part_99 : decode cX6_part 99 = .ok (.iadd, 1) := by decide +kernel
theorem dX6_part_100 : decode cX6_part 100 = .ok (.aload_n 0, 1) := by decide +kernel
theorem dX6_part_101 : decode cX6_part 101 = .ok (.getfield 7, 3) := by decide +kernel
theorem dX6_part_104 : decode cX6_part 104 = .ok (.iload_n 1, 1) := by decide +kernel
theorem dX6_part_105 : decode cX6_part 105 = .ok (.iload 5, 2) := by decide +kernel
theorem dX6_part_107 : decode cX6_part 107 = .ok (.iload 7, 2) := by decide +kernel
theorem dX6_part_109 : decode cX6_part 109 = .ok (.invokestatic 113, 3) := by decide +kernel
theorem dX6_part_112 : decode cX6_part 112 = .ok (.iaload, 1) := by decide +kernel
theorem dX6_part_113 : decode cX6_part 113 = .ok (.i2l, 1) := by decide +kernel
theorem dX6_part_114 : decode cX6_part 114 = .ok (.lastore, 1) := by decide +kernel
theorem dX6_part_115 : decode cX6_part 115 = .ok (.iinc 6 1, 3) := by decide +kernel
theorem dX6_part_118 : decode cX6_part 118 = .ok (.iinc 7 1, 3) := by decide +kernel
theorem dX6_part_121 : decode cX6_part 121 = .ok (.goto (-50), 3) := by decide +kernel
theorem dX6_part_124 : decode cX6_part 124 = .ok (.iinc 4 1, 3) := by decide +kernel
theorem dX6_part_127 : decode cX6_part 127 = .ok (.iinc 5 1, 3) := by decide +kernel
theorem dX6_part_130 : decode cX6_part 130 = .ok (.goto (-83), 3) := by decide +kernel
theorem dX6_part_133 : decode cX6_part 133 = .ok (.aload_n 0, 1) := by decide +kernel
theorem dX6_part_134 : decode cX6_part 134 = .ok (.iload 4, 2) := by decide +kernel
theorem dX6_part_136 : decode cX6_part 136 = .ok (.iload_n 3, 1) := by decide +kernel
theorem dX6_part_137 : decode cX6_part 137 = .ok (.invokestatic 116, 3) := by decide +kernel
theorem dX6_part_140 : decode cX6_part 140 = .ok (.iconst 3, 1) := by decide +kernel
theorem dX6_part_141 : decode cX6_part 141 = .ok (.invokevirtual 160, 3) := by decide +kernel
theorem dX6_part_144 : decode cX6_part 144 = .ok (.ireturn, 1) := by decide +kernel
theorem dX6_turn_0 : decode cX6_turn 0 = .ok (.aload_n 0, 1) := by decide +kernel
theorem dX6_turn_1 : decode cX6_turn 1 = .ok (.iload_n 1, 1) := by decide +kernel
theorem dX6_turn_2 : decode cX6_turn 2 = .ok (.invokevirtual 98, 3) := by decide +kernel
theorem dX6_turn_5 : decode cX6_turn 5 = .ok (.ifCond .ne 10, 3) := by decide +kernel
theorem dX6_turn_8 : decode cX6_turn 8 = .ok (.aload_n 0, 1) := by decide +kernel
theorem dX6_turn_9 : decode cX6_turn 9 = .ok (.bipush (-3), 2) := by decide +kernel
theorem dX6_turn_11 : decode cX6_turn 11 = .ok (.invokevirtual 80, 3) := by decide +kernel
theorem dX6_turn_14 : decode cX6_turn 14 = .ok (.ireturn, 1) := by decide +kernel
theorem dX6_turn_15 : decode cX6_turn 15 = .ok (.iload_n 2, 1) := by decide +kernel
theorem dX6_turn_16 : decode cX6_turn 16 = .ok (.i2l, 1) := by decide +kernel
theorem dX6_turn_17 : decode cX6_turn 17 = .ok (.lconst 0, 1) := by decide +kernel
theorem dX6_turn_18 : decode cX6_turn 18 = .ok (.ldc2_w 166, 3) := by decide +kernel
theorem dX6_turn_21 : decode cX6_turn 21 = .ok (.invokestatic 90, 3) := by decide +kernel
theorem dX6_turn_24 : decode cX6_turn 24 = .ok (.ifCond .ne 10, 3) := by decide +kernel
theorem dX6_turn_27 : decode cX6_turn 27 = .ok (.aload_n 0, 1) := by decide +kernel
theorem dX6_turn_28 : decode cX6_turn 28 = .ok (.bipush (-7), 2) := by decide +kernel
theorem dX6_turn_30 : decode cX6_turn 30 = .ok (.invokevirtual 80, 3) := by decide +kernel
theorem dX6_turn_33 : decode cX6_turn 33 = .ok (.ireturn, 1) := by decide +kernel
theorem dX6_turn_34 : decode cX6_turn 34 = .ok (.iload_n 2, 1) := by decide +kernel
theorem dX6_turn_35 : decode cX6_turn 35 = .ok (.ifCond .ne 12, 3) := by decide +kernel
theorem dX6_turn_38 : decode cX6_turn 38 = .ok (.aload_n 0, 1) := by decide +kernel
theorem dX6_turn_39 : decode cX6_turn 39 = .ok (.getfield 16, 3) := by decide +kernel
theorem dX6_turn_42 : decode cX6_turn 42 = .ok (.iload_n 1, 1) := by decide +kernel
theorem dX6_turn_43 : decode cX6_turn 43 = .ok (.iaload, 1) := by decide +kernel
theorem dX6_turn_44 : decode cX6_turn 44 = .ok (.goto 9, 3) := by decide +kernel
theorem dX6_turn_47 : decode cX6_turn 47 = .ok (.aload_n 0, 1) := by decide +kernel
theorem dX6_turn_48 : decode cX6_turn 48 = .ok (.getfield 13, 3) := by decide +kernel
theorem dX6_turn_51 : decode cX6_turn 51 = .ok (.iload_n 1, 1) := by decide +kernel
theorem dX6_turn_52 : decode cX6_turn 52 = .ok (.iaload, 1) := by decide +kernel
theorem dX6_turn_53 : decode cX6_turn 53 = .ok (.istore_n 3, 1) := by decide +kernel
theorem dX6_turn_54 : decode cX6_turn 54 = .ok (.iload_n 2, 1) := by decide +kernel
theorem dX6_turn_55 : decode cX6_turn 55 = .ok (.ifCond .ne 12, 3) := by decide +kernel
theorem dX6_turn_58 : decode cX6_turn 58 = .ok (.aload_n 0, 1) := by decide +kernel
theorem dX6_turn_59 : decode cX6_turn 59 = .ok (.getfield 13, 3) := by decide +kernel
theorem dX6_turn_62 : decode cX6_turn 62 = .ok (.iload_n 1, 1) := by decide +kernel
theorem dX6_turn_63 : decode cX6_turn 63 = .ok (.iaload, 1) := by decide +kernel
theorem dX6_turn_64 : decode cX6_turn 64 = .ok (.goto 9, 3) := by decide +kernel
theorem dX6_turn_67 : decode cX6_turn 67 = .ok (.aload_n 0, 1) := by decide +kernel
theorem dX6_turn_68 : decode cX6_turn 68 = .ok (.getfield 16, 3) := by decide +kernel
theorem dX6_turn_71 : decode cX6_turn 71 = .ok (.iload_n 1, 1) := by decide +kernel
theorem dX6_turn_72 : decode cX6_turn 72 = .ok (.iaload, 1) := by decide +kernel
theorem dX6_turn_73 : decode cX6_turn 73 = .ok (.istore 4, 2) := by decide +kernel
theorem dX6_turn_75 : decode cX6_turn 75 = .ok (.iconst 0, 1) := by decide +kernel
theorem dX6_turn_76 : decode cX6_turn 76 = .ok (.istore 5, 2) := by decide +kernel
theorem dX6_turn_78 : decode cX6_turn 78 = .ok (.iload 5, 2) := by decide +kernel
theorem dX6_turn_80 : decode cX6_turn 80 = .ok (.iload_n 3, 1) := by decide +kernel
theorem dX6_turn_81 : decode cX6_turn 81 = .ok (.if_icmp .ge 96, 3) := by decide +kernel
theorem dX6_turn_84 : decode cX6_turn 84 = .ok (.iconst 0, 1) := by decide +kernel
theorem dX6_turn_85 : decode cX6_turn 85 = .ok (.istore 6, 2) := by decide +kernel
theorem dX6_turn_87 : decode cX6_turn 87 = .ok (.iload 6, 2) := by decide +kernel
theorem dX6_turn_89 : decode cX6_turn 89 = .ok (.iload 4, 2) := by decide +kernel
theorem dX6_turn_91 : decode cX6_turn 91 = .ok (.if_icmp .ge 80, 3) := by decide +kernel
theorem dX6_turn_94 : decode cX6_turn 94 = .ok (.iload_n 2, 1) := by decide +kernel
theorem dX6_turn_95 : decode cX6_turn 95 = .ok (.ifCond .ne 8, 3) := by decide +kernel
theorem dX6_turn_98 : decode cX6_turn 98 = .ok (.iload 6, 2) := by decide +kernel
theorem dX6_turn_100 : decode cX6_turn 100 = .ok (.goto 9, 3) := by decide +kernel
theorem dX6_turn_103 : decode cX6_turn 103 = .ok (.iload_n 3, 1) := by decide +kernel
theorem dX6_turn_104 : decode cX6_turn 104 = .ok (.iconst 1, 1) := by decide +kernel
theorem dX6_turn_105 : decode cX6_turn 105 = .ok (.isub, 1) := by decide +kernel
theorem dX6_turn_106 : decode cX6_turn 106 = .ok (.iload 5, 2) := by decide +kernel
theorem dX6_turn_108 : decode cX6_turn 108 = .ok (.isub, 1) := by decide +kernel
theorem dX6_turn_109 : decode cX6_turn 109 = .ok (.istore 7, 2) := by decide +kernel
theorem dX6_turn_111 : decode cX6_turn 111 = .ok (.iload_n 2, 1) := by decide +kernel
theorem dX6_turn_112 : decode cX6_turn 112 = .ok (.ifCond .ne 8, 3) := by decide +kernel
theorem dX6_turn_115 : decode cX6_turn 115 = .ok (.iload 5, 2) := by decide +kernel
theorem dX6_turn_117 : decode cX6_turn 117 = .ok (.goto 20, 3) := by decide +kernel
theorem dX6_turn_120 : decode cX6_turn 120 = .ok (.iload_n 2, 1) := by decide +kernel
theorem dX6_turn_121 : decode cX6_turn 121 = .ok (.iconst 1, 1) := by decide +kernel
theorem dX6_turn_122 : decode cX6_turn 122 = .ok (.if_icmp .ne 13, 3) := by decide +kernel
theorem dX6_turn_125 : decode cX6_turn 125 = .ok (.iload 4, 2) := by decide +kernel
theorem dX6_turn_127 : decode cX6_turn 127 = .ok (.iconst 1, 1) := by decide +kernel
theorem dX6_turn_128 : decode cX6_turn 128 = .ok (.isub, 1) := by decide +kernel
theorem dX6_turn_129 : decode cX6_turn 129 = .ok (.iload 6, 2) := by decide +kernel
theorem dX6_turn_131 : decode cX6_turn 131 = .ok (.isub, 1) := by decide +kernel
theorem dX6_turn_132 : decode cX6_turn 132 = .ok (.goto 5, 3) := by decide +kernel
theorem dX6_turn_135 : decode cX6_turn 135 = .ok (.iload 6, 2) := by decide +kernel
theorem dX6_turn_137 : decode cX6_turn 137 = .ok (.istore 8, 2) := by decide +kernel
theorem dX6_turn_139 : decode cX6_turn 139 = .ok (.aload_n 0, 1) := by decide +kernel
theorem dX6_turn_140 : decode cX6_turn 140 = .ok (.getfield 47, 3) := by decide +kernel
theorem dX6_turn_143 : decode cX6_turn 143 = .ok (.iconst 5, 1) := by decide +kernel
theorem dX6_turn_144 : decode cX6_turn 144 = .ok (.iload 5, 2) := by decide +kernel
theorem dX6_turn_146 : decode cX6_turn 146 = .ok (.imul, 1) := by decide +kernel
theorem dX6_turn_147 : decode cX6_turn 147 = .ok (.iload 6, 2) := by decide +kernel
theorem dX6_turn_149 : decode cX6_turn 149 = .ok (.iadd, 1) := by decide +kernel
theorem dX6_turn_150 : decode cX6_turn 150 = .ok (.aload_n 0, 1) := by decide +kernel
theorem dX6_turn_151 : decode cX6_turn 151 = .ok (.getfield 7, 3) := by decide +kernel
theorem dX6_turn_154 : decode cX6_turn 154 = .ok (.iload_n 1, 1) := by decide +kernel
theorem dX6_turn_155 : decode cX6_turn 155 = .ok (.iload 7, 2) := by decide +kernel
theorem dX6_turn_157 : decode cX6_turn 157 = .ok (.iload 8, 2) := by decide +kernel
theorem dX6_turn_159 : decode cX6_turn 159 = .ok (.invokestatic 113, 3) := by decide +kernel
theorem dX6_turn_162 : decode cX6_turn 162 = .ok (.iaload, 1) := by decide +kernel
theorem dX6_turn_163 : decode cX6_turn 163 = .ok (.i2l, 1) := by decide +kernel
theorem dX6_turn_164 : decode cX6_turn 164 = .ok (.lastore, 1) := by decide +kernel
theorem dX6_turn_165 : decode cX6_turn 165 = .ok (.iinc 6 1, 3) := by decide +kernel
theorem dX6_turn_168 : decode cX6_turn 168 = .ok (.goto (-81), 3) := by decide +kernel
theorem dX6_turn_171 : decode cX6_turn 171 = .ok (.iinc 5 1, 3) := by decide +kernel
theorem dX6_turn_174 : decode cX6_turn 174 = .ok (.goto (-96), 3) := by decide +kernel
theorem dX6_turn_177 : decode cX6_turn 177 = .ok (.aload_n 0, 1) := by decide +kernel
theorem dX6_turn_178 : decode cX6_turn 178 = .ok (.iload_n 3, 1) := by decide +kernel
theorem dX6_turn_179 : decode cX6_turn 179 = .ok (.iload 4, 2) := by decide +kernel
theorem dX6_turn_181 : decode cX6_turn 181 = .ok (.iconst 3, 1) := by decide +kernel
theorem dX6_turn_182 : decode cX6_turn 182 = .ok (.invokevirtual 160, 3) := by decide +kernel
theorem dX6_turn_185 : decode cX6_turn 185 = .ok (.ireturn, 1) := by decide +kernel
theorem dX6_same_0 : decode cX6_same 0 = .ok (.aload_n 0, 1) := by decide +kernel
theorem dX6_same_1 : decode cX6_same 1 = .ok (.iload_n 1, 1) := by decide +kernel
theorem dX6_same_2 : decode cX6_same 2 = .ok (.invokevirtual 98, 3) := by decide +kernel
theorem dX6_same_5 : decode cX6_same 5 = .ok (.ifCond .eq 11, 3) := by decide +kernel
theorem dX6_same_8 : decode cX6_same 8 = .ok (.aload_n 0, 1) := by decide +kernel
theorem dX6_same_9 : decode cX6_same 9 = .ok (.iload_n 2, 1) := by decide +kernel
theorem dX6_same_10 : decode cX6_same 10 = .ok (.invokevirtual 98, 3) := by decide +kernel
theorem dX6_same_13 : decode cX6_same 13 = .ok (.ifCond .ne 10, 3) := by decide +kernel
theorem dX6_same_16 : decode cX6_same 16 = .ok (.aload_n 0, 1) := by decide +kernel
theorem dX6_same_17 : decode cX6_same 17 = .ok (.bipush (-3), 2) := by decide +kernel
theorem dX6_same_19 : decode cX6_same 19 = .ok (.invokevirtual 80, 3) := by decide +kernel
theorem dX6_same_22 : decode cX6_same 22 = .ok (.ireturn, 1) := by decide +kernel
theorem dX6_same_23 : decode cX6_same 23 = .ok (.aload_n 0, 1) := by decide +kernel
theorem dX6_same_24 : decode cX6_same 24 = .ok (.iload_n 1, 1) := by decide +kernel
theorem dX6_same_25 : decode cX6_same 25 = .ok (.iload_n 2, 1) := by decide +kernel
theorem dX6_same_26 : decode cX6_same 26 = .ok (.invokevirtual 163, 3) := by decide +kernel
theorem dX6_same_29 : decode cX6_same 29 = .ok (.istore_n 3, 1) := by decide +kernel
theorem dX6_same_30 : decode cX6_same 30 = .ok (.iconst 0, 1) := by decide +kernel
theorem dX6_same_31 : decode cX6_same 31 = .ok (.istore 4, 2) := by decide +kernel
theorem dX6_same_33 : decode cX6_same 33 = .ok (.iload 4, 2) := by decide +kernel
theorem dX6_same_35 : decode cX6_same 35 = .ok (.bipush 25, 2) := by decide +kernel
theorem dX6_same_37 : decode cX6_same 37 = .ok (.if_icmp .ge 46, 3) := by decide +kernel
theorem dX6_same_40 : decode cX6_same 40 = .ok (.iload_n 3, 1) := by decide +kernel
theorem dX6_same_41 : decode cX6_same 41 = .ok (.ifCond .eq 34, 3) := by decide +kernel
theorem dX6_same_44 : decode cX6_same 44 = .ok (.aload_n 0, 1) := by decide +kernel
theorem dX6_same_45 : decode cX6_same 45 = .ok (.getfield 7, 3) := by decide +kernel
theorem dX6_same_48 : decode cX6_same 48 = .ok (.bipush 25, 2) := by decide +kernel
theorem dX6_same_50 : decode cX6_same 50 = .ok (.iload_n 1, 1) := by decide +kernel
theorem dX6_same_51 : decode cX6_same 51 = .ok (.imul, 1) := by decide +kernel
theorem dX6_same_52 : decode cX6_same 52 = .ok (.iload 4, 2) := by decide +kernel
theorem dX6_same_54 : decode cX6_same 54 = .ok (.iadd, 1) := by decide +kernel
theorem dX6_same_55 : decode cX6_same 55 = .ok (.iaload, 1) := by decide +kernel
theorem dX6_same_56 : decode cX6_same 56 = .ok (.aload_n 0, 1) := by decide +kernel
theorem dX6_same_57 : decode cX6_same 57 = .ok (.getfield 7, 3) := by decide +kernel
theorem dX6_same_60 : decode cX6_same 60 = .ok (.bipush 25, 2) := by decide +kernel
theorem dX6_same_62 : decode cX6_same 62 = .ok (.iload_n 2, 1) := by decide +kernel
theorem dX6_same_63 : decode cX6_same 63 = .ok (.imul, 1) := by decide +kernel
theorem dX6_same_64 : decode cX6_same 64 = .ok (.iload 4, 2) := by decide +kernel
theorem dX6_same_66 : decode cX6_same 66 = .ok (.iadd, 1) := by decide +kernel
theorem dX6_same_67 : decode cX6_same 67 = .ok (.iaload, 1) := by decide +kernel
theorem dX6_same_68 : decode cX6_same 68 = .ok (.if_icmp .ne 7, 3) := by decide +kernel
theorem dX6_same_71 : decode cX6_same 71 = .ok (.iconst 1, 1) := by decide +kernel
theorem dX6_same_72 : decode cX6_same 72 = .ok (.goto 4, 3) := by decide +kernel
theorem dX6_same_75 : decode cX6_same 75 = .ok (.iconst 0, 1) := by decide +kernel
theorem dX6_same_76 : decode cX6_same 76 = .ok (.istore_n 3, 1) := by decide +kernel
theorem dX6_same_77 : decode cX6_same 77 = .ok (.iinc 4 1, 3) := by decide +kernel
theorem dX6_same_80 : decode cX6_same 80 = .ok (.goto (-47), 3) := by decide +kernel
theorem dX6_same_83 : decode cX6_same 83 = .ok (.iload_n 3, 1) := by decide +kernel
theorem dX6_same_84 : decode cX6_same 84 = .ok (.ifCond .eq 7, 3) := by decide +kernel
theorem dX6_same_87 : decode cX6_same 87 = .ok (.iconst 1, 1) := by decide +kernel
theorem dX6_same_88 : decode cX6_same 88 = .ok (.goto 4, 3) := by decide +kernel
theorem dX6_same_91 : decode cX6_same 91 = .ok (.iconst 0, 1) := by decide +kernel
theorem dX6_same_92 : decode cX6_same 92 = .ok (.ireturn, 1) := by decide +kernel
theorem dX6_isNet_0 : decode cX6_isNet 0 = .ok (.iload_n 1, 1) := by decide +kernel
theorem dX6_isNet_1 : decode cX6_isNet 1 = .ok (.ifCond .lt 15, 3) := by decide +kernel
theorem dX6_isNet_4 : decode cX6_isNet 4 = .ok (.iload_n 1, 1) := by decide +kernel
theorem dX6_isNet_5 : decode cX6_isNet 5 = .ok (.aload_n 0, 1) := by decide +kernel
theorem dX6_isNet_6 : decode cX6_isNet 6 = .ok (.getfield 168, 3) := by decide +kernel
theorem dX6_isNet_9 : decode cX6_isNet 9 = .ok (.if_icmp .ge 7, 3) := by decide +kernel
theorem dX6_isNet_12 : decode cX6_isNet 12 = .ok (.iconst 1, 1) := by decide +kernel
theorem dX6_isNet_13 : decode cX6_isNet 13 = .ok (.goto 4, 3) := by decide +kernel
theorem dX6_isNet_16 : decode cX6_isNet 16 = .ok (.iconst 0, 1) := by decide +kernel
theorem dX6_isNet_17 : decode cX6_isNet 17 = .ok (.ireturn, 1) := by decide +kernel
theorem dX6_net_0 : decode cX6_net 0 = .ok (.iload_n 1, 1) := by decide +kernel
theorem dX6_net_1 : decode cX6_net 1 = .ok (.i2l, 1) := by decide +kernel
theorem dX6_net_2 : decode cX6_net 2 = .ok (.lconst 1, 1) := by decide +kernel
theorem dX6_net_3 : decode cX6_net 3 = .ok (.ldc2_w 88, 3) := by decide +kernel
theorem dX6_net_6 : decode cX6_net 6 = .ok (.invokestatic 90, 3) := by decide +kernel
theorem dX6_net_9 : decode cX6_net 9 = .ok (.ifCond .ne 10, 3) := by decide +kernel
theorem dX6_net_12 : decode cX6_net 12 = .ok (.aload_n 0, 1) := by decide +kernel
theorem dX6_net_13 : decode cX6_net 13 = .ok (.bipush (-7), 2) := by decide +kernel
theorem dX6_net_15 : decode cX6_net 15 = .ok (.invokevirtual 80, 3) := by decide +kernel
theorem dX6_net_18 : decode cX6_net 18 = .ok (.ireturn, 1) := by decide +kernel
theorem dX6_net_19 : decode cX6_net 19 = .ok (.aload_n 0, 1) := by decide +kernel
theorem dX6_net_20 : decode cX6_net 20 = .ok (.getfield 168, 3) := by decide +kernel
theorem dX6_net_23 : decode cX6_net 23 = .ok (.iconst 4, 1) := by decide +kernel
theorem dX6_net_24 : decode cX6_net 24 = .ok (.if_icmp .ne 10, 3) := by decide +kernel
theorem dX6_net_27 : decode cX6_net 27 = .ok (.aload_n 0, 1) := by decide +kernel
theorem dX6_net_28 : decode cX6_net 28 = .ok (.bipush (-8), 2) := by decide +kernel
theorem dX6_net_30 : decode cX6_net 30 = .ok (.invokevirtual 80, 3) := by decide +kernel
theorem dX6_net_33 : decode cX6_net 33 = .ok (.ireturn, 1) := by decide +kernel
theorem dX6_net_34 : decode cX6_net 34 = .ok (.aload_n 0, 1) := by decide +kernel
theorem dX6_net_35 : decode cX6_net 35 = .ok (.getfield 25, 3) := by decide +kernel
theorem dX6_net_38 : decode cX6_net 38 = .ok (.aload_n 0, 1) := by decide +kernel
theorem dX6_net_39 : decode cX6_net 39 = .ok (.getfield 168, 3) := by decide +kernel
theorem dX6_net_42 : decode cX6_net 42 = .ok (.iload_n 1, 1) := by decide +kernel
theorem dX6_net_43 : decode cX6_net 43 = .ok (.iastore, 1) := by decide +kernel
theorem dX6_net_44 : decode cX6_net 44 = .ok (.aload_n 0, 1) := by decide +kernel
theorem dX6_net_45 : decode cX6_net 45 = .ok (.getfield 28, 3) := by decide +kernel
theorem dX6_net_48 : decode cX6_net 48 = .ok (.aload_n 0, 1) := by decide +kernel
theorem dX6_net_49 : decode cX6_net 49 = .ok (.getfield 168, 3) := by decide +kernel
theorem dX6_net_52 : decode cX6_net 52 = .ok (.iconst 0, 1) := by decide +kernel
theorem dX6_net_53 : decode cX6_net 53 = .ok (.iastore, 1) := by decide +kernel
theorem dX6_net_54 : decode cX6_net 54 = .ok (.aload_n 0, 1) := by decide +kernel
theorem dX6_net_55 : decode cX6_net 55 = .ok (.dup, 1) := by decide +kernel
theorem dX6_net_56 : decode cX6_net 56 = .ok (.getfield 168, 3) := by decide +kernel
theorem dX6_net_59 : decode cX6_net 59 = .ok (.iconst 1, 1) := by decide +kernel
theorem dX6_net_60 : decode cX6_net 60 = .ok (.iadd, 1) := by decide +kernel
theorem dX6_net_61 : decode cX6_net 61 = .ok (.putfield 168, 3) := by decide +kernel
theorem dX6_net_64 : decode cX6_net 64 = .ok (.aload_n 0, 1) := by decide +kernel
theorem dX6_net_65 : decode cX6_net 65 = .ok (.getfield 168, 3) := by decide +kernel
theorem dX6_net_68 : decode cX6_net 68 = .ok (.iconst 1, 1) := by decide +kernel
theorem dX6_net_69 : decode cX6_net 69 = .ok (.isub, 1) := by decide +kernel
theorem dX6_net_70 : decode cX6_net 70 = .ok (.ireturn, 1) := by decide +kernel
theorem dX6_step_0 : decode cX6_step 0 = .ok (.aload_n 0, 1) := by decide +kernel
theorem dX6_step_1 : decode cX6_step 1 = .ok (.iload_n 1, 1) := by decide +kernel
theorem dX6_step_2 : decode cX6_step 2 = .ok (.invokevirtual 171, 3) := by decide +kernel
theorem dX6_step_5 : decode cX6_step 5 = .ok (.ifCond .ne 10, 3) := by decide +kernel
theorem dX6_step_8 : decode cX6_step 8 = .ok (.aload_n 0, 1) := by decide +kernel
theorem dX6_step_9 : decode cX6_step 9 = .ok (.bipush (-3), 2) := by decide +kernel
theorem dX6_step_11 : decode cX6_step 11 = .ok (.invokevirtual 80, 3) := by decide +kernel
theorem dX6_step_14 : decode cX6_step 14 = .ok (.ireturn, 1) := by decide +kernel
theorem dX6_step_15 : decode cX6_step 15 = .ok (.iload_n 2, 1) := by decide +kernel
theorem dX6_step_16 : decode cX6_step 16 = .ok (.i2l, 1) := by decide +kernel
theorem dX6_step_17 : decode cX6_step 17 = .ok (.lconst 0, 1) := by decide +kernel
theorem dX6_step_18 : decode cX6_step 18 = .ok (.ldc2_w 166, 3) := by decide +kernel
theorem dX6_step_21 : decode cX6_step 21 = .ok (.invokestatic 90, 3) := by decide +kernel
theorem dX6_step_24 : decode cX6_step 24 = .ok (.ifCond .eq 43, 3) := by decide +kernel
theorem dX6_step_27 : decode cX6_step 27 = .ok (.iload_n 3, 1) := by decide +kernel
theorem dX6_step_28 : decode cX6_step 28 = .ok (.i2l, 1) := by decide +kernel
theorem dX6_step_29 : decode cX6_step 29 = .ok (.lconst 0, 1) := by decide +kernel
theorem dX6_step_30 : decode cX6_step 30 = .ok (.aload_n 0, 1) := by decide +kernel
theorem dX6_step_31 : decode cX6_step 31 = .ok (.getfield 25, 3) := by decide +kernel
theorem dX6_step_34 : decode cX6_step 34 = .ok (.iload_n 1, 1) := by decide +kernel
theorem dX6_step_35 : decode cX6_step 35 = .ok (.iaload, 1) := by decide +kernel
theorem dX6_step_36 : decode cX6_step 36 = .ok (.iload_n 2, 1) := by decide +kernel
theorem dX6_step_37 : decode cX6_step 37 = .ok (.iconst 2, 1) := by decide +kernel
theorem dX6_step_38 : decode cX6_step 38 = .ok (.if_icmp .ne 7, 3) := by decide +kernel
theorem dX6_step_41 : decode cX6_step 41 = .ok (.iconst 1, 1) := by decide +kernel
theorem dX6_step_42 : decode cX6_step 42 = .ok (.goto 4, 3) := by decide +kernel
theorem dX6_step_45 : decode cX6_step 45 = .ok (.iconst 2, 1) := by decide +kernel
theorem dX6_step_46 : decode cX6_step 46 = .ok (.isub, 1) := by decide +kernel
theorem dX6_step_47 : decode cX6_step 47 = .ok (.i2l, 1) := by decide +kernel
theorem dX6_step_48 : decode cX6_step 48 = .ok (.invokestatic 90, 3) := by decide +kernel
theorem dX6_step_51 : decode cX6_step 51 = .ok (.ifCond .eq 16, 3) := by decide +kernel
theorem dX6_step_54 : decode cX6_step 54 = .ok (.iload 4, 2) := by decide +kernel
theorem dX6_step_56 : decode cX6_step 56 = .ok (.i2l, 1) := by decide +kernel
theorem dX6_step_57 : decode cX6_step 57 = .ok (.lconst 1, 1) := by decide +kernel
theorem dX6_step_58 : decode cX6_step 58 = .ok (.ldc2_w 174, 3) := by decide +kernel
theorem dX6_step_61 : decode cX6_step 61 = .ok (.invokestatic 90, 3) := by decide +kernel
theorem dX6_step_64 : decode cX6_step 64 = .ok (.ifCond .ne 10, 3) := by decide +kernel
theorem dX6_step_67 : decode cX6_step 67 = .ok (.aload_n 0, 1) := by decide +kernel
theorem dX6_step_68 : decode cX6_step 68 = .ok (.bipush (-7), 2) := by decide +kernel
theorem dX6_step_70 : decode cX6_step 70 = .ok (.invokevirtual 80, 3) := by decide +kernel
theorem dX6_step_73 : decode cX6_step 73 = .ok (.ireturn, 1) := by decide +kernel
theorem dX6_step_74 : decode cX6_step 74 = .ok (.aload_n 0, 1) := by decide +kernel
theorem dX6_step_75 : decode cX6_step 75 = .ok (.getfield 28, 3) := by decide +kernel
theorem dX6_step_78 : decode cX6_step 78 = .ok (.iload_n 1, 1) := by decide +kernel
theorem dX6_step_79 : decode cX6_step 79 = .ok (.iaload, 1) := by decide +kernel
theorem dX6_step_80 : decode cX6_step 80 = .ok (.bipush 16, 2) := by decide +kernel
theorem dX6_step_82 : decode cX6_step 82 = .ok (.if_icmp .ne 10, 3) := by decide +kernel
theorem dX6_step_85 : decode cX6_step 85 = .ok (.aload_n 0, 1) := by decide +kernel
theorem dX6_step_86 : decode cX6_step 86 = .ok (.bipush (-8), 2) := by decide +kernel
theorem dX6_step_88 : decode cX6_step 88 = .ok (.invokevirtual 80, 3) := by decide +kernel
theorem dX6_step_91 : decode cX6_step 91 = .ok (.ireturn, 1) := by decide +kernel
theorem dX6_step_92 : decode cX6_step 92 = .ok (.bipush 16, 2) := by decide +kernel
theorem dX6_step_94 : decode cX6_step 94 = .ok (.iload_n 1, 1) := by decide +kernel
theorem dX6_step_95 : decode cX6_step 95 = .ok (.imul, 1) := by decide +kernel
theorem dX6_step_96 : decode cX6_step 96 = .ok (.aload_n 0, 1) := by decide +kernel
theorem dX6_step_97 : decode cX6_step 97 = .ok (.getfield 28, 3) := by decide +kernel
theorem dX6_step_100 : decode cX6_step 100 = .ok (.iload_n 1, 1) := by decide +kernel
theorem dX6_step_101 : decode cX6_step 101 = .ok (.iaload, 1) := by decide +kernel
theorem dX6_step_102 : decode cX6_step 102 = .ok (.iadd, 1) := by decide +kernel
theorem dX6_step_103 : decode cX6_step 103 = .ok (.istore 5, 2) := by decide +kernel
theorem dX6_step_105 : decode cX6_step 105 = .ok (.aload_n 0, 1) := by decide +kernel
theorem dX6_step_106 : decode cX6_step 106 = .ok (.getfield 31, 3) := by decide +kernel
theorem dX6_step_109 : decode cX6_step 109 = .ok (.iload 5, 2) := by decide +kernel
theorem dX6_step_111 : decode cX6_step 111 = .ok (.iload_n 2, 1) := by decide +kernel
theorem dX6_step_112 : decode cX6_step 112 = .ok (.iastore, 1) := by decide +kernel
theorem dX6_step_113 : decode cX6_step 113 = .ok (.aload_n 0, 1) := by decide +kernel
theorem dX6_step_114 : decode cX6_step 114 = .ok (.getfield 34, 3) := by decide +kernel
theorem dX6_step_117 : decode cX6_step 117 = .ok (.iload 5, 2) := by decide +kernel
theorem dX6_step_119 : decode cX6_step 119 = .ok (.iload_n 3, 1) := by decide +kernel
theorem dX6_step_120 : decode cX6_step 120 = .ok (.iastore, 1) := by decide +kernel
theorem dX6_step_121 : decode cX6_step 121 = .ok (.aload_n 0, 1) := by decide +kernel
theorem dX6_step_122 : decode cX6_step 122 = .ok (.getfield 37, 3) := by decide +kernel
theorem dX6_step_125 : decode cX6_step 125 = .ok (.iload 5, 2) := by decide +kernel
theorem dX6_step_127 : decode cX6_step 127 = .ok (.iload 4, 2) := by decide +kernel
theorem dX6_step_129 : decode cX6_step 129 = .ok (.iastore, 1) := by decide +kernel
theorem dX6_step_130 : decode cX6_step 130 = .ok (.aload_n 0, 1) := by decide +kernel
theorem dX6_step_131 : decode cX6_step 131 = .ok (.getfield 28, 3) := by decide +kernel
theorem dX6_step_134 : decode cX6_step 134 = .ok (.iload_n 1, 1) := by decide +kernel
theorem dX6_step_135 : decode cX6_step 135 = .ok (.dup2, 1) := by decide +kernel
theorem dX6_step_136 : decode cX6_step 136 = .ok (.iaload, 1) := by decide +kernel
theorem dX6_step_137 : decode cX6_step 137 = .ok (.iconst 1, 1) := by decide +kernel
theorem dX6_step_138 : decode cX6_step 138 = .ok (.iadd, 1) := by decide +kernel
theorem dX6_step_139 : decode cX6_step 139 = .ok (.iastore, 1) := by decide +kernel
theorem dX6_step_140 : decode cX6_step 140 = .ok (.aload_n 0, 1) := by decide +kernel
theorem dX6_step_141 : decode cX6_step 141 = .ok (.getfield 28, 3) := by decide +kernel
theorem dX6_step_144 : decode cX6_step 144 = .ok (.iload_n 1, 1) := by decide +kernel
theorem dX6_step_145 : decode cX6_step 145 = .ok (.iaload, 1) := by decide +kernel
theorem dX6_step_146 : decode cX6_step 146 = .ok (.ireturn, 1) := by decide +kernel
theorem dX6_back_0 : decode cX6_back 0 = .ok (.aload_n 0, 1) := by decide +kernel
theorem dX6_back_1 : decode cX6_back 1 = .ok (.iload_n 1, 1) := by decide +kernel
theorem dX6_back_2 : decode cX6_back 2 = .ok (.invokevirtual 171, 3) := by decide +kernel
theorem dX6_back_5 : decode cX6_back 5 = .ok (.ifCond .ne 10, 3) := by decide +kernel
theorem dX6_back_8 : decode cX6_back 8 = .ok (.aload_n 0, 1) := by decide +kernel
theorem dX6_back_9 : decode cX6_back 9 = .ok (.bipush (-3), 2) := by decide +kernel
theorem dX6_back_11 : decode cX6_back 11 = .ok (.invokevirtual 80, 3) := by decide +kernel
theorem dX6_back_14 : decode cX6_back 14 = .ok (.ireturn, 1) := by decide +kernel
theorem dX6_back_15 : decode cX6_back 15 = .ok (.aload_n 0, 1) := by decide +kernel
theorem dX6_back_16 : decode cX6_back 16 = .ok (.getfield 28, 3) := by decide +kernel
theorem dX6_back_19 : decode cX6_back 19 = .ok (.iload_n 1, 1) := by decide +kernel
theorem dX6_back_20 : decode cX6_back 20 = .ok (.iaload, 1) := by decide +kernel
theorem dX6_back_21 : decode cX6_back 21 = .ok (.ifCond .ne 10, 3) := by decide +kernel
theorem dX6_back_24 : decode cX6_back 24 = .ok (.aload_n 0, 1) := by decide +kernel
theorem dX6_back_25 : decode cX6_back 25 = .ok (.bipush (-2), 2) := by decide +kernel
theorem dX6_back_27 : decode cX6_back 27 = .ok (.invokevirtual 80, 3) := by decide +kernel
theorem dX6_back_30 : decode cX6_back 30 = .ok (.ireturn, 1) := by decide +kernel
theorem dX6_back_31 : decode cX6_back 31 = .ok (.aload_n 0, 1) := by decide +kernel
theorem dX6_back_32 : decode cX6_back 32 = .ok (.getfield 28, 3) := by decide +kernel
theorem dX6_back_35 : decode cX6_back 35 = .ok (.iload_n 1, 1) := by decide +kernel
theorem dX6_back_36 : decode cX6_back 36 = .ok (.dup2, 1) := by decide +kernel
theorem dX6_back_37 : decode cX6_back 37 = .ok (.iaload, 1) := by decide +kernel
theorem dX6_back_38 : decode cX6_back 38 = .ok (.iconst 1, 1) := by decide +kernel
theorem dX6_back_39 : decode cX6_back 39 = .ok (.isub, 1) := by decide +kernel
theorem dX6_back_40 : decode cX6_back 40 = .ok (.iastore, 1) := by decide +kernel
theorem dX6_back_41 : decode cX6_back 41 = .ok (.aload_n 0, 1) := by decide +kernel
theorem dX6_back_42 : decode cX6_back 42 = .ok (.getfield 28, 3) := by decide +kernel
theorem dX6_back_45 : decode cX6_back 45 = .ok (.iload_n 1, 1) := by decide +kernel
theorem dX6_back_46 : decode cX6_back 46 = .ok (.iaload, 1) := by decide +kernel
theorem dX6_back_47 : decode cX6_back 47 = .ok (.ireturn, 1) := by decide +kernel
theorem dX6_made_0 : decode cX6_made 0 = .ok (.aload_n 0, 1) := by decide +kernel
theorem dX6_made_1 : decode cX6_made 1 = .ok (.iload_n 1, 1) := by decide +kernel
theorem dX6_made_2 : decode cX6_made 2 = .ok (.invokevirtual 171, 3) := by decide +kernel
theorem dX6_made_5 : decode cX6_made 5 = .ok (.ifCond .ne 10, 3) := by decide +kernel
theorem dX6_made_8 : decode cX6_made 8 = .ok (.aload_n 0, 1) := by decide +kernel
theorem dX6_made_9 : decode cX6_made 9 = .ok (.bipush (-3), 2) := by decide +kernel
theorem dX6_made_11 : decode cX6_made 11 = .ok (.invokevirtual 80, 3) := by decide +kernel
theorem dX6_made_14 : decode cX6_made 14 = .ok (.ireturn, 1) := by decide +kernel
theorem dX6_made_15 : decode cX6_made 15 = .ok (.aload_n 0, 1) := by decide +kernel
theorem dX6_made_16 : decode cX6_made 16 = .ok (.getfield 25, 3) := by decide +kernel
theorem dX6_made_19 : decode cX6_made 19 = .ok (.iload_n 1, 1) := by decide +kernel
theorem dX6_made_20 : decode cX6_made 20 = .ok (.iaload, 1) := by decide +kernel
theorem dX6_made_21 : decode cX6_made 21 = .ok (.istore_n 2, 1) := by decide +kernel
theorem dX6_made_22 : decode cX6_made 22 = .ok (.iconst 0, 1) := by decide +kernel
theorem dX6_made_23 : decode cX6_made 23 = .ok (.istore_n 3, 1) := by decide +kernel
theorem dX6_made_24 : decode cX6_made 24 = .ok (.iload_n 3, 1) := by decide +kernel
theorem dX6_made_25 : decode cX6_made 25 = .ok (.bipush 25, 2) := by decide +kernel
theorem dX6_made_27 : decode cX6_made 27 = .ok (.if_icmp .ge 27, 3) := by decide +kernel
theorem dX6_made_30 : decode cX6_made 30 = .ok (.aload_n 0, 1) := by decide +kernel
theorem dX6_made_31 : decode cX6_made 31 = .ok (.getfield 47, 3) := by decide +kernel
theorem dX6_made_34 : decode cX6_made 34 = .ok (.iload_n 3, 1) := by decide +kernel
theorem dX6_made_35 : decode cX6_made 35 = .ok (.iload_n 3, 1) := by decide +kernel
theorem dX6_made_36 : decode cX6_made 36 = .ok (.bipush 6, 2) := by decide +kernel
theorem dX6_made_38 : decode cX6_made 38 = .ok (.irem, 1) := by decide +kernel
theorem dX6_made_39 : decode cX6_made 39 = .ok (.ifCond .ne 7, 3) := by decide +kernel
theorem dX6_made_42 : decode cX6_made 42 = .ok (.lconst 1, 1) := by decide +kernel
theorem dX6_made_43 : decode cX6_made 43 = .ok (.goto 4, 3) := by decide +kernel
theorem dX6_made_46 : decode cX6_made 46 = .ok (.lconst 0, 1) := by decide +kernel
theorem dX6_made_47 : decode cX6_made 47 = .ok (.lastore, 1) := by decide +kernel
theorem dX6_made_48 : decode cX6_made 48 = .ok (.iinc 3 1, 3) := by decide +kernel
theorem dX6_made_51 : decode cX6_made 51 = .ok (.goto (-27), 3) := by decide +kernel
theorem dX6_made_54 : decode cX6_made 54 = .ok (.bipush 16, 2) := by decide +kernel
theorem dX6_made_56 : decode cX6_made 56 = .ok (.iload_n 1, 1) := by decide +kernel
theorem dX6_made_57 : decode cX6_made 57 = .ok (.imul, 1) := by decide +kernel
theorem dX6_made_58 : decode cX6_made 58 = .ok (.istore_n 3, 1) := by decide +kernel
theorem dX6_made_59 : decode cX6_made 59 = .ok (.iload_n 3, 1) := by decide +kernel
theorem dX6_made_60 : decode cX6_made 60 = .ok (.bipush 16, 2) := by decide +kernel
theorem dX6_made_62 : decode cX6_made 62 = .ok (.iload_n 1, 1) := by decide +kernel
theorem dX6_made_63 : decode cX6_made 63 = .ok (.imul, 1) := by decide +kernel
theorem dX6_made_64 : decode cX6_made 64 = .ok (.aload_n 0, 1) := by decide +kernel
theorem dX6_made_65 : decode cX6_made 65 = .ok (.getfield 28, 3) := by decide +kernel
theorem dX6_made_68 : decode cX6_made 68 = .ok (.iload_n 1, 1) := by decide +kernel
theorem dX6_made_69 : decode cX6_made 69 = .ok (.iaload, 1) := by decide +kernel
theorem dX6_made_70 : decode cX6_made 70 = .ok (.iadd, 1) := by decide +kernel
theorem dX6_made_71 : decode cX6_made 71 = .ok (.if_icmp .ge 151, 3) := by decide +kernel
theorem dX6_made_74 : decode cX6_made 74 = .ok (.aload_n 0, 1) := by decide +kernel
theorem dX6_made_75 : decode cX6_made 75 = .ok (.getfield 31, 3) := by decide +kernel
theorem dX6_made_78 : decode cX6_made 78 = .ok (.iload_n 3, 1) := by decide +kernel
theorem dX6_made_79 : decode cX6_made 79 = .ok (.iaload, 1) := by decide +kernel
theorem dX6_made_80 : decode cX6_made 80 = .ok (.iconst 1, 1) := by decide +kernel
theorem dX6_made_81 : decode cX6_made 81 = .ok (.if_icmp .ne 14, 3) := by decide +kernel
theorem dX6_made_84 : decode cX6_made 84 = .ok (.aload_n 0, 1) := by decide +kernel
theorem dX6_made_85 : decode cX6_made 85 = .ok (.getfield 34, 3) := by decide +kernel
theorem dX6_made_88 : decode cX6_made 88 = .ok (.iload_n 3, 1) := by decide +kernel
theorem dX6_made_89 : decode cX6_made 89 = .ok (.iaload, 1) := by decide +kernel
theorem dX6_made_90 : decode cX6_made 90 = .ok (.iconst 1, 1) := by decide +kernel
theorem dX6_made_91 : decode cX6_made 91 = .ok (.iadd, 1) := by decide +kernel
theorem dX6_made_92 : decode cX6_made 92 = .ok (.goto 9, 3) := by decide +kernel
theorem dX6_made_95 : decode cX6_made 95 = .ok (.aload_n 0, 1) := by decide +kernel
theorem dX6_made_96 : decode cX6_made 96 = .ok (.getfield 34, 3) := by decide +kernel
theorem dX6_made_99 : decode cX6_made 99 = .ok (.iload_n 3, 1) := by decide +kernel
theorem dX6_made_100 : decode cX6_made 100 = .ok (.iaload, 1) := by decide +kernel
theorem dX6_made_101 : decode cX6_made 101 = .ok (.istore 4, 2) := by decide +kernel
theorem dX6_made_103 : decode cX6_made 103 = .ok (.aload_n 0, 1) := by decide +kernel
theorem dX6_made_104 : decode cX6_made 104 = .ok (.getfield 31, 3) := by decide +kernel
theorem dX6_made_107 : decode cX6_made 107 = .ok (.iload_n 3, 1) := by decide +kernel
theorem dX6_made_108 : decode cX6_made 108 = .ok (.iaload, 1) := by decide +kernel
theorem dX6_made_109 : decode cX6_made 109 = .ok (.ifCond .ne 14, 3) := by decide +kernel
theorem dX6_made_112 : decode cX6_made 112 = .ok (.aload_n 0, 1) := by decide +kernel
theorem dX6_made_113 : decode cX6_made 113 = .ok (.getfield 34, 3) := by decide +kernel
theorem dX6_made_116 : decode cX6_made 116 = .ok (.iload_n 3, 1) := by decide +kernel
theorem dX6_made_117 : decode cX6_made 117 = .ok (.iaload, 1) := by decide +kernel
theorem dX6_made_118 : decode cX6_made 118 = .ok (.iconst 1, 1) := by decide +kernel
theorem dX6_made_119 : decode cX6_made 119 = .ok (.iadd, 1) := by decide +kernel
theorem dX6_made_120 : decode cX6_made 120 = .ok (.goto 9, 3) := by decide +kernel
theorem dX6_made_123 : decode cX6_made 123 = .ok (.aload_n 0, 1) := by decide +kernel
theorem dX6_made_124 : decode cX6_made 124 = .ok (.getfield 34, 3) := by decide +kernel
theorem dX6_made_127 : decode cX6_made 127 = .ok (.iload_n 3, 1) := by decide +kernel
theorem dX6_made_128 : decode cX6_made 128 = .ok (.iaload, 1) := by decide +kernel
theorem dX6_made_129 : decode cX6_made 129 = .ok (.istore 5, 2) := by decide +kernel
theorem dX6_made_131 : decode cX6_made 131 = .ok (.iconst 0, 1) := by decide +kernel
theorem dX6_made_132 : decode cX6_made 132 = .ok (.istore 6, 2) := by decide +kernel
theorem dX6_made_134 : decode cX6_made 134 = .ok (.iload 6, 2) := by decide +kernel
theorem dX6_made_136 : decode cX6_made 136 = .ok (.iload_n 2, 1) := by decide +kernel
theorem dX6_made_137 : decode cX6_made 137 = .ok (.if_icmp .ge 79, 3) := by decide +kernel
theorem dX6_made_140 : decode cX6_made 140 = .ok (.aload_n 0, 1) := by decide +kernel
theorem dX6_made_141 : decode cX6_made 141 = .ok (.getfield 31, 3) := by decide +kernel
theorem dX6_made_144 : decode cX6_made 144 = .ok (.iload_n 3, 1) := by decide +kernel
theorem dX6_made_145 : decode cX6_made 145 = .ok (.iaload, 1) := by decide +kernel
theorem dX6_made_146 : decode cX6_made 146 = .ok (.iconst 2, 1) := by decide +kernel
theorem dX6_made_147 : decode cX6_made 147 = .ok (.if_icmp .ne 28, 3) := by decide +kernel
theorem dX6_made_150 : decode cX6_made 150 = .ok (.aload_n 0, 1) := by decide +kernel
theorem dX6_made_151 : decode cX6_made 151 = .ok (.getfield 47, 3) := by decide +kernel
theorem dX6_made_154 : decode cX6_made 154 = .ok (.iconst 5, 1) := by decide +kernel
theorem dX6_made_155 : decode cX6_made 155 = .ok (.iload 6, 2) := by decide +kernel
theorem dX6_made_157 : decode cX6_made 157 = .ok (.imul, 1) := by decide +kernel
theorem dX6_made_158 : decode cX6_made 158 = .ok (.iload 5, 2) := by decide +kernel
theorem dX6_made_160 : decode cX6_made 160 = .ok (.iadd, 1) := by decide +kernel
theorem dX6_made_161 : decode cX6_made 161 = .ok (.dup2, 1) := by decide +kernel
theorem dX6_made_162 : decode cX6_made 162 = .ok (.laload, 1) := by decide +kernel
theorem dX6_made_163 : decode cX6_made 163 = .ok (.aload_n 0, 1) := by decide +kernel
theorem dX6_made_164 : decode cX6_made 164 = .ok (.getfield 37, 3) := by decide +kernel
theorem dX6_made_167 : decode cX6_made 167 = .ok (.iload_n 3, 1) := by decide +kernel
theorem dX6_made_168 : decode cX6_made 168 = .ok (.iaload, 1) := by decide +kernel
theorem dX6_made_169 : decode cX6_made 169 = .ok (.i2l, 1) := by decide +kernel
theorem dX6_made_170 : decode cX6_made 170 = .ok (.lmul, 1) := by decide +kernel
theorem dX6_made_171 : decode cX6_made 171 = .ok (.lastore, 1) := by decide +kernel
theorem dX6_made_172 : decode cX6_made 172 = .ok (.goto 38, 3) := by decide +kernel
theorem dX6_made_175 : decode cX6_made 175 = .ok (.aload_n 0, 1) := by decide +kernel
theorem dX6_made_176 : decode cX6_made 176 = .ok (.getfield 47, 3) := by decide +kernel
theorem dX6_made_179 : decode cX6_made 179 = .ok (.iconst 5, 1) := by decide +kernel
theorem dX6_made_180 : decode cX6_made 180 = .ok (.iload 6, 2) := by decide +kernel
theorem dX6_made_182 : decode cX6_made 182 = .ok (.imul, 1) := by decide +kernel
theorem dX6_made_183 : decode cX6_made 183 = .ok (.iload 5, 2) := by decide +kernel
theorem dX6_made_185 : decode cX6_made 185 = .ok (.iadd, 1) := by decide +kernel
theorem dX6_made_186 : decode cX6_made 186 = .ok (.dup2, 1) := by decide +kernel
theorem dX6_made_187 : decode cX6_made 187 = .ok (.laload, 1) := by decide +kernel
theorem dX6_made_188 : decode cX6_made 188 = .ok (.aload_n 0, 1) := by decide +kernel
theorem dX6_made_189 : decode cX6_made 189 = .ok (.getfield 37, 3) := by decide +kernel
theorem dX6_made_192 : decode cX6_made 192 = .ok (.iload_n 3, 1) := by decide +kernel
theorem dX6_made_193 : decode cX6_made 193 = .ok (.iaload, 1) := by decide +kernel
theorem dX6_made_194 : decode cX6_made 194 = .ok (.i2l, 1) := by decide +kernel
theorem dX6_made_195 : decode cX6_made 195 = .ok (.aload_n 0, 1) := by decide +kernel
theorem dX6_made_196 : decode cX6_made 196 = .ok (.getfield 47, 3) := by decide +kernel
theorem dX6_made_199 : decode cX6_made 199 = .ok (.iconst 5, 1) := by decide +kernel
theorem dX6_made_200 : decode cX6_made 200 = .ok (.iload 6, 2) := by decide +kernel
theorem dX6_made_202 : decode cX6_made 202 = .ok (.imul, 1) := by decide +kernel
theorem dX6_made_203 : decode cX6_made 203 = .ok (.iload 4, 2) := by decide +kernel
theorem dX6_made_205 : decode cX6_made 205 = .ok (.iadd, 1) := by decide +kernel
theorem dX6_made_206 : decode cX6_made 206 = .ok (.laload, 1) := by decide +kernel
theorem dX6_made_207 : decode cX6_made 207 = .ok (.lmul, 1) := by decide +kernel
theorem dX6_made_208 : decode cX6_made 208 = .ok (.ladd, 1) := by decide +kernel
theorem dX6_made_209 : decode cX6_made 209 = .ok (.lastore, 1) := by decide +kernel
theorem dX6_made_210 : decode cX6_made 210 = .ok (.iinc 6 1, 3) := by decide +kernel
theorem dX6_made_213 : decode cX6_made 213 = .ok (.goto (-79), 3) := by decide +kernel
theorem dX6_made_216 : decode cX6_made 216 = .ok (.iinc 3 1, 3) := by decide +kernel
theorem dX6_made_219 : decode cX6_made 219 = .ok (.goto (-160), 3) := by decide +kernel
theorem dX6_made_222 : decode cX6_made 222 = .ok (.aload_n 0, 1) := by decide +kernel
theorem dX6_made_223 : decode cX6_made 223 = .ok (.iload_n 2, 1) := by decide +kernel
theorem dX6_made_224 : decode cX6_made 224 = .ok (.iload_n 2, 1) := by decide +kernel
theorem dX6_made_225 : decode cX6_made 225 = .ok (.iconst 1, 1) := by decide +kernel
theorem dX6_made_226 : decode cX6_made 226 = .ok (.invokevirtual 160, 3) := by decide +kernel
theorem dX6_made_229 : decode cX6_made 229 = .ok (.istore_n 3, 1) := by decide +kernel
theorem dX6_made_230 : decode cX6_made 230 = .ok (.iload_n 3, 1) := by decide +kernel
theorem dX6_made_231 : decode cX6_made 231 = .ok (.ifCond .lt 10, 3) := by decide +kernel
theorem dX6_made_234 : decode cX6_made 234 = .ok (.aload_n 0, 1) := by decide +kernel
theorem dX6_made_235 : decode cX6_made 235 = .ok (.getfield 22, 3) := by decide +kernel
theorem dX6_made_238 : decode cX6_made 238 = .ok (.iload_n 3, 1) := by decide +kernel
theorem dX6_made_239 : decode cX6_made 239 = .ok (.iload_n 1, 1) := by decide +kernel
theorem dX6_made_240 : decode cX6_made 240 = .ok (.iastore, 1) := by decide +kernel
theorem dX6_made_241 : decode cX6_made 241 = .ok (.iload_n 3, 1) := by decide +kernel
theorem dX6_made_242 : decode cX6_made 242 = .ok (.ireturn, 1) := by decide +kernel
theorem dX6_over_0 : decode cX6_over 0 = .ok (.aload_n 0, 1) := by decide +kernel
theorem dX6_over_1 : decode cX6_over 1 = .ok (.getfield 31, 3) := by decide +kernel
theorem dX6_over_4 : decode cX6_over 4 = .ok (.iload_n 1, 1) := by decide +kernel
theorem dX6_over_5 : decode cX6_over 5 = .ok (.iaload, 1) := by decide +kernel
theorem dX6_over_6 : decode cX6_over 6 = .ok (.iconst 2, 1) := by decide +kernel
theorem dX6_over_7 : decode cX6_over 7 = .ok (.if_icmp .ne 5, 3) := by decide +kernel
theorem dX6_over_10 : decode cX6_over 10 = .ok (.iconst (-1), 1) := by decide +kernel
theorem dX6_over_11 : decode cX6_over 11 = .ok (.ireturn, 1) := by decide +kernel
theorem dX6_over_12 : decode cX6_over 12 = .ok (.aload_n 0, 1) := by decide +kernel
theorem dX6_over_13 : decode cX6_over 13 = .ok (.getfield 31, 3) := by decide +kernel
theorem dX6_over_16 : decode cX6_over 16 = .ok (.iload_n 1, 1) := by decide +kernel
theorem dX6_over_17 : decode cX6_over 17 = .ok (.iaload, 1) := by decide +kernel
theorem dX6_over_18 : decode cX6_over 18 = .ok (.iconst 1, 1) := by decide +kernel
theorem dX6_over_19 : decode cX6_over 19 = .ok (.if_icmp .ne 14, 3) := by decide +kernel
theorem dX6_over_22 : decode cX6_over 22 = .ok (.aload_n 0, 1) := by decide +kernel
theorem dX6_over_23 : decode cX6_over 23 = .ok (.getfield 34, 3) := by decide +kernel
theorem dX6_over_26 : decode cX6_over 26 = .ok (.iload_n 1, 1) := by decide +kernel
theorem dX6_over_27 : decode cX6_over 27 = .ok (.iaload, 1) := by decide +kernel
theorem dX6_over_28 : decode cX6_over 28 = .ok (.iconst 1, 1) := by decide +kernel
theorem dX6_over_29 : decode cX6_over 29 = .ok (.iadd, 1) := by decide +kernel
theorem dX6_over_30 : decode cX6_over 30 = .ok (.goto 9, 3) := by decide +kernel
theorem dX6_over_33 : decode cX6_over 33 = .ok (.aload_n 0, 1) := by decide +kernel
theorem dX6_over_34 : decode cX6_over 34 = .ok (.getfield 34, 3) := by decide +kernel
theorem dX6_over_37 : decode cX6_over 37 = .ok (.iload_n 1, 1) := by decide +kernel
theorem dX6_over_38 : decode cX6_over 38 = .ok (.iaload, 1) := by decide +kernel
theorem dX6_over_39 : decode cX6_over 39 = .ok (.istore_n 3, 1) := by decide +kernel
theorem dX6_over_40 : decode cX6_over 40 = .ok (.aload_n 0, 1) := by decide +kernel
theorem dX6_over_41 : decode cX6_over 41 = .ok (.getfield 31, 3) := by decide +kernel
theorem dX6_over_44 : decode cX6_over 44 = .ok (.iload_n 1, 1) := by decide +kernel
theorem dX6_over_45 : decode cX6_over 45 = .ok (.iaload, 1) := by decide +kernel
theorem dX6_over_46 : decode cX6_over 46 = .ok (.ifCond .ne 14, 3) := by decide +kernel
theorem dX6_over_49 : decode cX6_over 49 = .ok (.aload_n 0, 1) := by decide +kernel
theorem dX6_over_50 : decode cX6_over 50 = .ok (.getfield 34, 3) := by decide +kernel
theorem dX6_over_53 : decode cX6_over 53 = .ok (.iload_n 1, 1) := by decide +kernel
theorem dX6_over_54 : decode cX6_over 54 = .ok (.iaload, 1) := by decide +kernel
theorem dX6_over_55 : decode cX6_over 55 = .ok (.iconst 1, 1) := by decide +kernel
theorem dX6_over_56 : decode cX6_over 56 = .ok (.iadd, 1) := by decide +kernel
theorem dX6_over_57 : decode cX6_over 57 = .ok (.goto 9, 3) := by decide +kernel
theorem dX6_over_60 : decode cX6_over 60 = .ok (.aload_n 0, 1) := by decide +kernel
theorem dX6_over_61 : decode cX6_over 61 = .ok (.getfield 34, 3) := by decide +kernel
theorem dX6_over_64 : decode cX6_over 64 = .ok (.iload_n 1, 1) := by decide +kernel
theorem dX6_over_65 : decode cX6_over 65 = .ok (.iaload, 1) := by decide +kernel
theorem dX6_over_66 : decode cX6_over 66 = .ok (.istore 4, 2) := by decide +kernel
theorem dX6_over_68 : decode cX6_over 68 = .ok (.iload_n 2, 1) := by decide +kernel
theorem dX6_over_69 : decode cX6_over 69 = .ok (.iload_n 3, 1) := by decide +kernel
theorem dX6_over_70 : decode cX6_over 70 = .ok (.ishr, 1) := by decide +kernel
theorem dX6_over_71 : decode cX6_over 71 = .ok (.iconst 1, 1) := by decide +kernel
theorem dX6_over_72 : decode cX6_over 72 = .ok (.iand, 1) := by decide +kernel
theorem dX6_over_73 : decode cX6_over 73 = .ok (.iconst 1, 1) := by decide +kernel
theorem dX6_over_74 : decode cX6_over 74 = .ok (.if_icmp .ne 27, 3) := by decide +kernel
theorem dX6_over_77 : decode cX6_over 77 = .ok (.iload_n 2, 1) := by decide +kernel
theorem dX6_over_78 : decode cX6_over 78 = .ok (.iload 4, 2) := by decide +kernel
theorem dX6_over_80 : decode cX6_over 80 = .ok (.ishr, 1) := by decide +kernel
theorem dX6_over_81 : decode cX6_over 81 = .ok (.iconst 1, 1) := by decide +kernel
theorem dX6_over_82 : decode cX6_over 82 = .ok (.iand, 1) := by decide +kernel
theorem dX6_over_83 : decode cX6_over 83 = .ok (.ifCond .ne 18, 3) := by decide +kernel
theorem dX6_over_86 : decode cX6_over 86 = .ok (.iload_n 2, 1) := by decide +kernel
theorem dX6_over_87 : decode cX6_over 87 = .ok (.iconst 1, 1) := by decide +kernel
theorem dX6_over_88 : decode cX6_over 88 = .ok (.iload_n 3, 1) := by decide +kernel
theorem dX6_over_89 : decode cX6_over 89 = .ok (.ishl, 1) := by decide +kernel
theorem dX6_over_90 : decode cX6_over 90 = .ok (.iconst (-1), 1) := by decide +kernel
theorem dX6_over_91 : decode cX6_over 91 = .ok (.ixor, 1) := by decide +kernel
theorem dX6_over_92 : decode cX6_over 92 = .ok (.iand, 1) := by decide +kernel
theorem dX6_over_93 : decode cX6_over 93 = .ok (.iconst 1, 1) := by decide +kernel
theorem dX6_over_94 : decode cX6_over 94 = .ok (.iload 4, 2) := by decide +kernel
theorem dX6_over_96 : decode cX6_over 96 = .ok (.ishl, 1) := by decide +kernel
theorem dX6_over_97 : decode cX6_over 97 = .ok (.ior, 1) := by decide +kernel
theorem dX6_over_98 : decode cX6_over 98 = .ok (.goto 4, 3) := by decide +kernel
theorem dX6_over_101 : decode cX6_over 101 = .ok (.iconst (-1), 1) := by decide +kernel
theorem dX6_over_102 : decode cX6_over 102 = .ok (.ireturn, 1) := by decide +kernel
theorem dX6_finds_0 : decode cX6_finds 0 = .ok (.aload_n 0, 1) := by decide +kernel
theorem dX6_finds_1 : decode cX6_finds 1 = .ok (.getfield 28, 3) := by decide +kernel
theorem dX6_finds_4 : decode cX6_finds 4 = .ok (.iload_n 1, 1) := by decide +kernel
theorem dX6_finds_5 : decode cX6_finds 5 = .ok (.iaload, 1) := by decide +kernel
theorem dX6_finds_6 : decode cX6_finds 6 = .ok (.istore_n 3, 1) := by decide +kernel
theorem dX6_finds_7 : decode cX6_finds 7 = .ok (.iconst 0, 1) := by decide +kernel
theorem dX6_finds_8 : decode cX6_finds 8 = .ok (.istore 4, 2) := by decide +kernel
theorem dX6_finds_10 : decode cX6_finds 10 = .ok (.iload 4, 2) := by decide +kernel
theorem dX6_finds_12 : decode cX6_finds 12 = .ok (.bipush 32, 2) := by decide +kernel
theorem dX6_finds_14 : decode cX6_finds 14 = .ok (.if_icmp .ge 55, 3) := by decide +kernel
theorem dX6_finds_17 : decode cX6_finds 17 = .ok (.aload_n 0, 1) := by decide +kernel
theorem dX6_finds_18 : decode cX6_finds 18 = .ok (.getfield 50, 3) := by decide +kernel
theorem dX6_finds_21 : decode cX6_finds 21 = .ok (.bipush 32, 2) := by decide +kernel
theorem dX6_finds_23 : decode cX6_finds 23 = .ok (.iload_n 3, 1) := by decide +kernel
theorem dX6_finds_24 : decode cX6_finds 24 = .ok (.imul, 1) := by decide +kernel
theorem dX6_finds_25 : decode cX6_finds 25 = .ok (.iload 4, 2) := by decide +kernel
theorem dX6_finds_27 : decode cX6_finds 27 = .ok (.iadd, 1) := by decide +kernel
theorem dX6_finds_28 : decode cX6_finds 28 = .ok (.iload 4, 2) := by decide +kernel
theorem dX6_finds_30 : decode cX6_finds 30 = .ok (.iload_n 2, 1) := by decide +kernel
theorem dX6_finds_31 : decode cX6_finds 31 = .ok (.if_icmp .ne 7, 3) := by decide +kernel
theorem dX6_finds_34 : decode cX6_finds 34 = .ok (.iconst 1, 1) := by decide +kernel
theorem dX6_finds_35 : decode cX6_finds 35 = .ok (.goto 4, 3) := by decide +kernel
theorem dX6_finds_38 : decode cX6_finds 38 = .ok (.iconst 0, 1) := by decide +kernel
theorem dX6_finds_39 : decode cX6_finds 39 = .ok (.iastore, 1) := by decide +kernel
theorem dX6_finds_40 : decode cX6_finds 40 = .ok (.aload_n 0, 1) := by decide +kernel
theorem dX6_finds_41 : decode cX6_finds 41 = .ok (.getfield 53, 3) := by decide +kernel
theorem dX6_finds_44 : decode cX6_finds 44 = .ok (.bipush 32, 2) := by decide +kernel
theorem dX6_finds_46 : decode cX6_finds 46 = .ok (.iload_n 3, 1) := by decide +kernel
theorem dX6_finds_47 : decode cX6_finds 47 = .ok (.imul, 1) := by decide +kernel
theorem dX6_finds_48 : decode cX6_finds 48 = .ok (.iload 4, 2) := by decide +kernel
theorem dX6_finds_50 : decode cX6_finds 50 = .ok (.iadd, 1) := by decide +kernel
theorem dX6_finds_51 : decode cX6_finds 51 = .ok (.iload 4, 2) := by decide +kernel
theorem dX6_finds_53 : decode cX6_finds 53 = .ok (.iload_n 2, 1) := by decide +kernel
theorem dX6_finds_54 : decode cX6_finds 54 = .ok (.if_icmp .ne 7, 3) := by decide +kernel
theorem dX6_finds_57 : decode cX6_finds 57 = .ok (.lconst 1, 1) := by decide +kernel
theorem dX6_finds_58 : decode cX6_finds 58 = .ok (.goto 4, 3) := by decide +kernel
theorem dX6_finds_61 : decode cX6_finds 61 = .ok (.lconst 0, 1) := by decide +kernel
theorem dX6_finds_62 : decode cX6_finds 62 = .ok (.lastore, 1) := by decide +kernel
theorem dX6_finds_63 : decode cX6_finds 63 = .ok (.iinc 4 1, 3) := by decide +kernel
theorem dX6_finds_66 : decode cX6_finds 66 = .ok (.goto (-56), 3) := by decide +kernel
theorem dX6_finds_69 : decode cX6_finds 69 = .ok (.iload_n 3, 1) := by decide +kernel
theorem dX6_finds_70 : decode cX6_finds 70 = .ok (.iconst 1, 1) := by decide +kernel
theorem dX6_finds_71 : decode cX6_finds 71 = .ok (.isub, 1) := by decide +kernel
theorem dX6_finds_72 : decode cX6_finds 72 = .ok (.istore 4, 2) := by decide +kernel
theorem dX6_finds_74 : decode cX6_finds 74 = .ok (.iload 4, 2) := by decide +kernel
theorem dX6_finds_76 : decode cX6_finds 76 = .ok (.ifCond .lt 201, 3) := by decide +kernel
theorem dX6_finds_79 : decode cX6_finds 79 = .ok (.bipush 16, 2) := by decide +kernel
theorem dX6_finds_81 : decode cX6_finds 81 = .ok (.iload_n 1, 1) := by decide +kernel
theorem dX6_finds_82 : decode cX6_finds 82 = .ok (.imul, 1) := by decide +kernel
theorem dX6_finds_83 : decode cX6_finds 83 = .ok (.iload 4, 2) := by decide +kernel
theorem dX6_finds_85 : decode cX6_finds 85 = .ok (.iadd, 1) := by decide +kernel
theorem dX6_finds_86 : decode cX6_finds 86 = .ok (.istore 5, 2) := by decide +kernel
theorem dX6_finds_88 : decode cX6_finds 88 = .ok (.iconst 0, 1) := by decide +kernel
theorem dX6_finds_89 : decode cX6_finds 89 = .ok (.istore 6, 2) := by decide +kernel
theorem dX6_finds_91 : decode cX6_finds 91 = .ok (.iload 6, 2) := by decide +kernel
theorem dX6_finds_93 : decode cX6_finds 93 = .ok (.bipush 32, 2) := by decide +kernel
theorem dX6_finds_95 : decode cX6_finds 95 = .ok (.if_icmp .ge 176, 3) := by decide +kernel
theorem dX6_finds_98 : decode cX6_finds 98 = .ok (.aload_n 0, 1) := by decide +kernel
theorem dX6_finds_99 : decode cX6_finds 99 = .ok (.iload 5, 2) := by decide +kernel
theorem dX6_finds_101 : decode cX6_finds 101 = .ok (.iload 6, 2) := by decide +kernel
theorem dX6_finds_103 : decode cX6_finds 103 = .ok (.invokevirtual 176, 3) := by decide +kernel
theorem dX6_finds_106 : decode cX6_finds 106 = .ok (.istore 7, 2) := by decide +kernel
theorem dX6_finds_108 : decode cX6_finds 108 = .ok (.aload_n 0, 1) := by decide +kernel
theorem dX6_finds_109 : decode cX6_finds 109 = .ok (.getfield 31, 3) := by decide +kernel
theorem dX6_finds_112 : decode cX6_finds 112 = .ok (.iload 5, 2) := by decide +kernel
theorem dX6_finds_114 : decode cX6_finds 114 = .ok (.iaload, 1) := by decide +kernel
theorem dX6_finds_115 : decode cX6_finds 115 = .ok (.iconst 2, 1) := by decide +kernel
theorem dX6_finds_116 : decode cX6_finds 116 = .ok (.if_icmp .ne 23, 3) := by decide +kernel
theorem dX6_finds_119 : decode cX6_finds 119 = .ok (.iload 6, 2) := by decide +kernel
theorem dX6_finds_121 : decode cX6_finds 121 = .ok (.aload_n 0, 1) := by decide +kernel
theorem dX6_finds_122 : decode cX6_finds 122 = .ok (.getfield 34, 3) := by decide +kernel
theorem dX6_finds_125 : decode cX6_finds 125 = .ok (.iload 5, 2) := by decide +kernel
theorem dX6_finds_127 : decode cX6_finds 127 = .ok (.iaload, 1) := by decide +kernel
theorem dX6_finds_128 : decode cX6_finds 128 = .ok (.ishr, 1) := by decide +kernel
theorem dX6_finds_129 : decode cX6_finds 129 = .ok (.iconst 1, 1) := by decide +kernel
theorem dX6_finds_130 : decode cX6_finds 130 = .ok (.iand, 1) := by decide +kernel
theorem dX6_finds_131 : decode cX6_finds 131 = .ok (.iconst 1, 1) := by decide +kernel
theorem dX6_finds_132 : decode cX6_finds 132 = .ok (.if_icmp .ne 7, 3) := by decide +kernel
theorem dX6_finds_135 : decode cX6_finds 135 = .ok (.iconst 1, 1) := by decide +kernel
theorem dX6_finds_136 : decode cX6_finds 136 = .ok (.goto 4, 3) := by decide +kernel
theorem dX6_finds_139 : decode cX6_finds 139 = .ok (.iconst 0, 1) := by decide +kernel
theorem dX6_finds_140 : decode cX6_finds 140 = .ok (.istore 8, 2) := by decide +kernel
theorem dX6_finds_142 : decode cX6_finds 142 = .ok (.bipush 32, 2) := by decide +kernel
theorem dX6_finds_144 : decode cX6_finds 144 = .ok (.iload 4, 2) := by decide +kernel
theorem dX6_finds_146 : decode cX6_finds 146 = .ok (.imul, 1) := by decide +kernel
theorem dX6_finds_147 : decode cX6_finds 147 = .ok (.iload 6, 2) := by decide +kernel
theorem dX6_finds_149 : decode cX6_finds 149 = .ok (.iadd, 1) := by decide +kernel
theorem dX6_finds_150 : decode cX6_finds 150 = .ok (.istore 9, 2) := by decide +kernel
theorem dX6_finds_152 : decode cX6_finds 152 = .ok (.aload_n 0, 1) := by decide +kernel
theorem dX6_finds_153 : decode cX6_finds 153 = .ok (.getfield 50, 3) := by decide +kernel
theorem dX6_finds_156 : decode cX6_finds 156 = .ok (.iload 9, 2) := by decide +kernel
theorem dX6_finds_158 : decode cX6_finds 158 = .ok (.aload_n 0, 1) := by decide +kernel
theorem dX6_finds_159 : decode cX6_finds 159 = .ok (.getfield 50, 3) := by decide +kernel
theorem dX6_finds_162 : decode cX6_finds 162 = .ok (.iload 9, 2) := by decide +kernel
theorem dX6_finds_164 : decode cX6_finds 164 = .ok (.bipush 32, 2) := by decide +kernel
theorem dX6_finds_166 : decode cX6_finds 166 = .ok (.iadd, 1) := by decide +kernel
theorem dX6_finds_167 : decode cX6_finds 167 = .ok (.iaload, 1) := by decide +kernel
theorem dX6_finds_168 : decode cX6_finds 168 = .ok (.iload 7, 2) := by decide +kernel
theorem dX6_finds_170 : decode cX6_finds 170 = .ok (.ifCond .ge 7, 3) := by decide +kernel
theorem dX6_finds_173 : decode cX6_finds 173 = .ok (.iconst 0, 1) := by decide +kernel
theorem dX6_finds_174 : decode cX6_finds 174 = .ok (.goto 19, 3) := by decide +kernel
theorem dX6_finds_177 : decode cX6_finds 177 = .ok (.aload_n 0, 1) := by decide +kernel
theorem dX6_finds_178 : decode cX6_finds 178 = .ok (.getfield 50, 3) := by decide +kernel
theorem dX6_finds_181 : decode cX6_finds 181 = .ok (.bipush 32, 2) := by decide +kernel
theorem dX6_finds_183 : decode cX6_finds 183 = .ok (.iload 4, 2) := by decide +kernel
theorem dX6_finds_185 : decode cX6_finds 185 = .ok (.imul, 1) := by decide +kernel
theorem dX6_finds_186 : decode cX6_finds 186 = .ok (.bipush 32, 2) := by decide +kernel
theorem dX6_finds_188 : decode cX6_finds 188 = .ok (.iadd, 1) := by decide +kernel
theorem dX6_finds_189 : decode cX6_finds 189 = .ok (.iload 7, 2) := by decide +kernel
theorem dX6_finds_191 : decode cX6_finds 191 = .ok (.iadd, 1) := by decide +kernel
theorem dX6_finds_192 : decode cX6_finds 192 = .ok (.iaload, 1) := by decide +kernel
theorem dX6_finds_193 : decode cX6_finds 193 = .ok (.iadd, 1) := by decide +kernel
theorem dX6_finds_194 : decode cX6_finds 194 = .ok (.iastore, 1) := by decide +kernel
theorem dX6_finds_195 : decode cX6_finds 195 = .ok (.aload_n 0, 1) := by decide +kernel
theorem dX6_finds_196 : decode cX6_finds 196 = .ok (.getfield 53, 3) := by decide +kernel
theorem dX6_finds_199 : decode cX6_finds 199 = .ok (.iload 9, 2) := by decide +kernel
theorem dX6_finds_201 : decode cX6_finds 201 = .ok (.aload_n 0, 1) := by decide +kernel
theorem dX6_finds_202 : decode cX6_finds 202 = .ok (.getfield 53, 3) := by decide +kernel
theorem dX6_finds_205 : decode cX6_finds 205 = .ok (.iload 9, 2) := by decide +kernel
theorem dX6_finds_207 : decode cX6_finds 207 = .ok (.bipush 32, 2) := by decide +kernel
theorem dX6_finds_209 : decode cX6_finds 209 = .ok (.iadd, 1) := by decide +kernel
theorem dX6_finds_210 : decode cX6_finds 210 = .ok (.laload, 1) := by decide +kernel
theorem dX6_finds_211 : decode cX6_finds 211 = .ok (.iload 8, 2) := by decide +kernel
theorem dX6_finds_213 : decode cX6_finds 213 = .ok (.ifCond .eq 13, 3) := by decide +kernel
theorem dX6_finds_216 : decode cX6_finds 216 = .ok (.aload_n 0, 1) := by decide +kernel
theorem dX6_finds_217 : decode cX6_finds 217 = .ok (.getfield 37, 3) := by decide +kernel
theorem dX6_finds_220 : decode cX6_finds 220 = .ok (.iload 5, 2) := by decide +kernel
theorem dX6_finds_222 : decode cX6_finds 222 = .ok (.iaload, 1) := by decide +kernel
theorem dX6_finds_223 : decode cX6_finds 223 = .ok (.goto 4, 3) := by decide +kernel
theorem dX6_finds_226 : decode cX6_finds 226 = .ok (.iconst 1, 1) := by decide +kernel
theorem dX6_finds_227 : decode cX6_finds 227 = .ok (.i2l, 1) := by decide +kernel
theorem dX6_finds_228 : decode cX6_finds 228 = .ok (.lmul, 1) := by decide +kernel
theorem dX6_finds_229 : decode cX6_finds 229 = .ok (.iload 7, 2) := by decide +kernel
theorem dX6_finds_231 : decode cX6_finds 231 = .ok (.ifCond .ge 7, 3) := by decide +kernel
theorem dX6_finds_234 : decode cX6_finds 234 = .ok (.lconst 0, 1) := by decide +kernel
theorem dX6_finds_235 : decode cX6_finds 235 = .ok (.goto 28, 3) := by decide +kernel
theorem dX6_finds_238 : decode cX6_finds 238 = .ok (.aload_n 0, 1) := by decide +kernel
theorem dX6_finds_239 : decode cX6_finds 239 = .ok (.getfield 37, 3) := by decide +kernel
theorem dX6_finds_242 : decode cX6_finds 242 = .ok (.iload 5, 2) := by decide +kernel
theorem dX6_finds_244 : decode cX6_finds 244 = .ok (.iaload, 1) := by decide +kernel
theorem dX6_finds_245 : decode cX6_finds 245 = .ok (.i2l, 1) := by decide +kernel
theorem dX6_finds_246 : decode cX6_finds 246 = .ok (.aload_n 0, 1) := by decide +kernel
theorem dX6_finds_247 : decode cX6_finds 247 = .ok (.getfield 53, 3) := by decide +kernel
theorem dX6_finds_250 : decode cX6_finds 250 = .ok (.bipush 32, 2) := by decide +kernel
theorem dX6_finds_252 : decode cX6_finds 252 = .ok (.iload 4, 2) := by decide +kernel
theorem dX6_finds_254 : decode cX6_finds 254 = .ok (.imul, 1) := by decide +kernel
theorem dX6_finds_255 : decode cX6_finds 255 = .ok (.bipush 32, 2) := by decide +kernel
theorem dX6_finds_257 : decode cX6_finds 257 = .ok (.iadd, 1) := by decide +kernel
theorem dX6_finds_258 : decode cX6_finds 258 = .ok (.iload 7, 2) := by decide +kernel
theorem dX6_finds_260 : decode cX6_finds 260 = .ok (.iadd, 1) := by decide +kernel
theorem dX6_finds_261 : decode cX6_finds 261 = .ok (.laload, 1) := by decide +kernel
theorem dX6_finds_262 : decode cX6_finds 262 = .ok (.lmul, 1) := by decide +kernel
theorem dX6_finds_263 : decode cX6_finds 263 = .ok (.ladd, 1) := by decide +kernel
theorem dX6_finds_264 : decode cX6_finds 264 = .ok (.lastore, 1) := by decide +kernel
theorem dX6_finds_265 : decode cX6_finds 265 = .ok (.iinc 6 1, 3) := by decide +kernel
theorem dX6_finds_268 : decode cX6_finds 268 = .ok (.goto (-177), 3) := by decide +kernel
theorem dX6_finds_271 : decode cX6_finds 271 = .ok (.iinc 4 (-1), 3) := by decide +kernel
theorem dX6_finds_274 : decode cX6_finds 274 = .ok (.goto (-200), 3) := by decide +kernel
theorem dX6_finds_277 : decode cX6_finds 277 = .ok (.return_, 1) := by decide +kernel
theorem dX6_whyNot_0 : decode cX6_whyNot 0 = .ok (.aload_n 0, 1) := by decide +kernel
theorem dX6_whyNot_1 : decode cX6_whyNot 1 = .ok (.iload_n 1, 1) := by decide +kernel
theorem dX6_whyNot_2 : decode cX6_whyNot 2 = .ok (.invokevirtual 171, 3) := by decide +kernel
theorem dX6_whyNot_5 : decode cX6_whyNot 5 = .ok (.ifCond .eq 29, 3) := by decide +kernel
theorem dX6_whyNot_8 : decode cX6_whyNot 8 = .ok (.iload_n 2, 1) := by decide +kernel
theorem dX6_whyNot_9 : decode cX6_whyNot 9 = .ok (.aload_n 0, 1) := by decide +kernel
theorem dX6_whyNot_10 : decode cX6_whyNot 10 = .ok (.getfield 25, 3) := by decide +kernel
theorem dX6_whyNot_13 : decode cX6_whyNot 13 = .ok (.iload_n 1, 1) := by decide +kernel
theorem dX6_whyNot_14 : decode cX6_whyNot 14 = .ok (.iaload, 1) := by decide +kernel
theorem dX6_whyNot_15 : decode cX6_whyNot 15 = .ok (.invokestatic 119, 3) := by decide +kernel
theorem dX6_whyNot_18 : decode cX6_whyNot 18 = .ok (.ifCond .eq 16, 3) := by decide +kernel
theorem dX6_whyNot_21 : decode cX6_whyNot 21 = .ok (.iload_n 3, 1) := by decide +kernel
theorem dX6_whyNot_22 : decode cX6_whyNot 22 = .ok (.aload_n 0, 1) := by decide +kernel
theorem dX6_whyNot_23 : decode cX6_whyNot 23 = .ok (.getfield 25, 3) := by decide +kernel
theorem dX6_whyNot_26 : decode cX6_whyNot 26 = .ok (.iload_n 1, 1) := by decide +kernel
theorem dX6_whyNot_27 : decode cX6_whyNot 27 = .ok (.iaload, 1) := by decide +kernel
theorem dX6_whyNot_28 : decode cX6_whyNot 28 = .ok (.invokestatic 119, 3) := by decide +kernel
theorem dX6_whyNot_31 : decode cX6_whyNot 31 = .ok (.ifCond .ne 6, 3) := by decide +kernel
theorem dX6_whyNot_34 : decode cX6_whyNot 34 = .ok (.bipush (-3), 2) := by decide +kernel
theorem dX6_whyNot_36 : decode cX6_whyNot 36 = .ok (.ireturn, 1) := by decide +kernel
theorem dX6_whyNot_37 : decode cX6_whyNot 37 = .ok (.iload_n 2, 1) := by decide +kernel
theorem dX6_whyNot_38 : decode cX6_whyNot 38 = .ok (.invokestatic 116, 3) := by decide +kernel
theorem dX6_whyNot_41 : decode cX6_whyNot 41 = .ok (.iload_n 3, 1) := by decide +kernel
theorem dX6_whyNot_42 : decode cX6_whyNot 42 = .ok (.invokestatic 116, 3) := by decide +kernel
theorem dX6_whyNot_45 : decode cX6_whyNot 45 = .ok (.if_icmp .ne 7, 3) := by decide +kernel
theorem dX6_whyNot_48 : decode cX6_whyNot 48 = .ok (.iconst 0, 1) := by decide +kernel
theorem dX6_whyNot_49 : decode cX6_whyNot 49 = .ok (.goto 5, 3) := by decide +kernel
theorem dX6_whyNot_52 : decode cX6_whyNot 52 = .ok (.bipush (-7), 2) := by decide +kernel
theorem dX6_whyNot_54 : decode cX6_whyNot 54 = .ok (.ireturn, 1) := by decide +kernel
theorem dX6_families_0 : decode cX6_families 0 = .ok (.aload_n 0, 1) := by decide +kernel
theorem dX6_families_1 : decode cX6_families 1 = .ok (.iload_n 1, 1) := by decide +kernel
theorem dX6_families_2 : decode cX6_families 2 = .ok (.iload_n 2, 1) := by decide +kernel
theorem dX6_families_3 : decode cX6_families 3 = .ok (.iload_n 3, 1) := by decide +kernel
theorem dX6_families_4 : decode cX6_families 4 = .ok (.invokevirtual 179, 3) := by decide +kernel
theorem dX6_families_7 : decode cX6_families 7 = .ok (.istore 4, 2) := by decide +kernel
theorem dX6_families_9 : decode cX6_families 9 = .ok (.iload 4, 2) := by decide +kernel
theorem dX6_families_11 : decode cX6_families 11 = .ok (.ifCond .eq 10, 3) := by decide +kernel
theorem dX6_families_14 : decode cX6_families 14 = .ok (.aload_n 0, 1) := by decide +kernel
theorem dX6_families_15 : decode cX6_families 15 = .ok (.iload 4, 2) := by decide +kernel
theorem dX6_families_17 : decode cX6_families 17 = .ok (.invokevirtual 80, 3) := by decide +kernel
theorem dX6_families_20 : decode cX6_families 20 = .ok (.ireturn, 1) := by decide +kernel
theorem dX6_families_21 : decode cX6_families 21 = .ok (.aload_n 0, 1) := by decide +kernel
theorem dX6_families_22 : decode cX6_families 22 = .ok (.iload_n 1, 1) := by decide +kernel
theorem dX6_families_23 : decode cX6_families 23 = .ok (.iload_n 3, 1) := by decide +kernel
theorem dX6_families_24 : decode cX6_families 24 = .ok (.invokevirtual 182, 3) := by decide +kernel
theorem dX6_families_27 : decode cX6_families 27 = .ok (.aload_n 0, 1) := by decide +kernel
theorem dX6_families_28 : decode cX6_families 28 = .ok (.getfield 50, 3) := by decide +kernel
theorem dX6_families_31 : decode cX6_families 31 = .ok (.iload_n 2, 1) := by decide +kernel
theorem dX6_families_32 : decode cX6_families 32 = .ok (.iaload, 1) := by decide +kernel
theorem dX6_families_33 : decode cX6_families 33 = .ok (.ireturn, 1) := by decide +kernel
theorem dX6_weight_0 : decode cX6_weight 0 = .ok (.aload_n 0, 1) := by decide +kernel
theorem dX6_weight_1 : decode cX6_weight 1 = .ok (.iload_n 1, 1) := by decide +kernel
theorem dX6_weight_2 : decode cX6_weight 2 = .ok (.iload_n 2, 1) := by decide +kernel
theorem dX6_weight_3 : decode cX6_weight 3 = .ok (.iload_n 3, 1) := by decide +kernel
theorem dX6_weight_4 : decode cX6_weight 4 = .ok (.invokevirtual 179, 3) := by decide +kernel
theorem dX6_weight_7 : decode cX6_weight 7 = .ok (.istore 4, 2) := by decide +kernel
theorem dX6_weight_9 : decode cX6_weight 9 = .ok (.iload 4, 2) := by decide +kernel
theorem dX6_weight_11 : decode cX6_weight 11 = .ok (.ifCond .eq 11, 3) := by decide +kernel
theorem dX6_weight_14 : decode cX6_weight 14 = .ok (.aload_n 0, 1) := by decide +kernel
theorem dX6_weight_15 : decode cX6_weight 15 = .ok (.iload 4, 2) := by decide +kernel
theorem dX6_weight_17 : decode cX6_weight 17 = .ok (.invokevirtual 106, 3) := by decide +kernel
theorem dX6_weight_20 : decode cX6_weight 20 = .ok (.i2l, 1) := by decide +kernel
theorem dX6_weight_21 : decode cX6_weight 21 = .ok (.lreturn, 1) := by decide +kernel
theorem dX6_weight_22 : decode cX6_weight 22 = .ok (.aload_n 0, 1) := by decide +kernel
theorem dX6_weight_23 : decode cX6_weight 23 = .ok (.iload_n 1, 1) := by decide +kernel
theorem dX6_weight_24 : decode cX6_weight 24 = .ok (.iload_n 3, 1) := by decide +kernel
theorem dX6_weight_25 : decode cX6_weight 25 = .ok (.invokevirtual 182, 3) := by decide +kernel
theorem dX6_weight_28 : decode cX6_weight 28 = .ok (.aload_n 0, 1) := by decide +kernel
theorem dX6_weight_29 : decode cX6_weight 29 = .ok (.getfield 53, 3) := by decide +kernel
theorem dX6_weight_32 : decode cX6_weight 32 = .ok (.iload_n 2, 1) := by decide +kernel
theorem dX6_weight_33 : decode cX6_weight 33 = .ok (.laload, 1) := by decide +kernel
theorem dX6_weight_34 : decode cX6_weight 34 = .ok (.lreturn, 1) := by decide +kernel
theorem dX6_family_0 : decode cX6_family 0 = .ok (.aload_n 0, 1) := by decide +kernel
theorem dX6_family_1 : decode cX6_family 1 = .ok (.iload_n 1, 1) := by decide +kernel
theorem dX6_family_2 : decode cX6_family 2 = .ok (.iload_n 2, 1) := by decide +kernel
theorem dX6_family_3 : decode cX6_family 3 = .ok (.iload_n 3, 1) := by decide +kernel
theorem dX6_family_4 : decode cX6_family 4 = .ok (.invokevirtual 179, 3) := by decide +kernel
theorem dX6_family_7 : decode cX6_family 7 = .ok (.istore 5, 2) := by decide +kernel
theorem dX6_family_9 : decode cX6_family 9 = .ok (.iload 5, 2) := by decide +kernel
theorem dX6_family_11 : decode cX6_family 11 = .ok (.ifCond .eq 10, 3) := by decide +kernel
theorem dX6_family_14 : decode cX6_family 14 = .ok (.aload_n 0, 1) := by decide +kernel
theorem dX6_family_15 : decode cX6_family 15 = .ok (.iload 5, 2) := by decide +kernel
theorem dX6_family_17 : decode cX6_family 17 = .ok (.invokevirtual 80, 3) := by decide +kernel
theorem dX6_family_20 : decode cX6_family 20 = .ok (.ireturn, 1) := by decide +kernel
theorem dX6_family_21 : decode cX6_family 21 = .ok (.aload_n 0, 1) := by decide +kernel
theorem dX6_family_22 : decode cX6_family 22 = .ok (.iload_n 1, 1) := by decide +kernel
theorem dX6_family_23 : decode cX6_family 23 = .ok (.iload_n 3, 1) := by decide +kernel
theorem dX6_family_24 : decode cX6_family 24 = .ok (.invokevirtual 182, 3) := by decide +kernel
theorem dX6_family_27 : decode cX6_family 27 = .ok (.iload 4, 2) := by decide +kernel
theorem dX6_family_29 : decode cX6_family 29 = .ok (.ldc 186, 2) := by decide +kernel
theorem dX6_family_31 : decode cX6_family 31 = .ok (.iand, 1) := by decide +kernel
theorem dX6_family_32 : decode cX6_family 32 = .ok (.istore 6, 2) := by decide +kernel
theorem dX6_family_34 : decode cX6_family 34 = .ok (.iload 4, 2) := by decide +kernel
theorem dX6_family_36 : decode cX6_family 36 = .ok (.bipush 20, 2) := by decide +kernel
theorem dX6_family_38 : decode cX6_family 38 = .ok (.ishr, 1) := by decide +kernel
theorem dX6_family_39 : decode cX6_family 39 = .ok (.istore 7, 2) := by decide +kernel
theorem dX6_family_41 : decode cX6_family 41 = .ok (.iload 4, 2) := by decide +kernel
theorem dX6_family_43 : decode cX6_family 43 = .ok (.ifCond .lt 25, 3) := by decide +kernel
theorem dX6_family_46 : decode cX6_family 46 = .ok (.iload 7, 2) := by decide +kernel
theorem dX6_family_48 : decode cX6_family 48 = .ok (.aload_n 0, 1) := by decide +kernel
theorem dX6_family_49 : decode cX6_family 49 = .ok (.getfield 28, 3) := by decide +kernel
theorem dX6_family_52 : decode cX6_family 52 = .ok (.iload_n 1, 1) := by decide +kernel
theorem dX6_family_53 : decode cX6_family 53 = .ok (.iaload, 1) := by decide +kernel
theorem dX6_family_54 : decode cX6_family 54 = .ok (.if_icmp .gt 14, 3) := by decide +kernel
theorem dX6_family_57 : decode cX6_family 57 = .ok (.iload 6, 2) := by decide +kernel
theorem dX6_family_59 : decode cX6_family 59 = .ok (.aload_n 0, 1) := by decide +kernel
theorem dX6_family_60 : decode cX6_family 60 = .ok (.getfield 50, 3) := by decide +kernel
theorem dX6_family_63 : decode cX6_family 63 = .ok (.iload_n 2, 1) := by decide +kernel
theorem dX6_family_64 : decode cX6_family 64 = .ok (.iaload, 1) := by decide +kernel
theorem dX6_family_65 : decode cX6_family 65 = .ok (.if_icmp .lt 10, 3) := by decide +kernel
theorem dX6_family_68 : decode cX6_family 68 = .ok (.aload_n 0, 1) := by decide +kernel
theorem dX6_family_69 : decode cX6_family 69 = .ok (.bipush (-3), 2) := by decide +kernel
theorem dX6_family_71 : decode cX6_family 71 = .ok (.invokevirtual 80, 3) := by decide +kernel
theorem dX6_family_74 : decode cX6_family 74 = .ok (.ireturn, 1) := by decide +kernel
theorem dX6_family_75 : decode cX6_family 75 = .ok (.iload_n 2, 1) := by decide +kernel
theorem dX6_family_76 : decode cX6_family 76 = .ok (.istore 8, 2) := by decide +kernel
theorem dX6_family_78 : decode cX6_family 78 = .ok (.iconst 0, 1) := by decide +kernel
theorem dX6_family_79 : decode cX6_family 79 = .ok (.istore 9, 2) := by decide +kernel
theorem dX6_family_81 : decode cX6_family 81 = .ok (.iload 9, 2) := by decide +kernel
theorem dX6_family_83 : decode cX6_family 83 = .ok (.iload 7, 2) := by decide +kernel
theorem dX6_family_85 : decode cX6_family 85 = .ok (.if_icmp .ge 59, 3) := by decide +kernel
theorem dX6_family_88 : decode cX6_family 88 = .ok (.aload_n 0, 1) := by decide +kernel
theorem dX6_family_89 : decode cX6_family 89 = .ok (.getfield 50, 3) := by decide +kernel
theorem dX6_family_92 : decode cX6_family 92 = .ok (.bipush 32, 2) := by decide +kernel
theorem dX6_family_94 : decode cX6_family 94 = .ok (.iload 9, 2) := by decide +kernel
theorem dX6_family_96 : decode cX6_family 96 = .ok (.imul, 1) := by decide +kernel
theorem dX6_family_97 : decode cX6_family 97 = .ok (.bipush 32, 2) := by decide +kernel
theorem dX6_family_99 : decode cX6_family 99 = .ok (.iadd, 1) := by decide +kernel
theorem dX6_family_100 : decode cX6_family 100 = .ok (.iload 8, 2) := by decide +kernel
theorem dX6_family_102 : decode cX6_family 102 = .ok (.iadd, 1) := by decide +kernel
theorem dX6_family_103 : decode cX6_family 103 = .ok (.iaload, 1) := by decide +kernel
theorem dX6_family_104 : decode cX6_family 104 = .ok (.istore 10, 2) := by decide +kernel
theorem dX6_family_106 : decode cX6_family 106 = .ok (.iload 6, 2) := by decide +kernel
theorem dX6_family_108 : decode cX6_family 108 = .ok (.iload 10, 2) := by decide +kernel
theorem dX6_family_110 : decode cX6_family 110 = .ok (.if_icmp .ge 6, 3) := by decide +kernel
theorem dX6_family_113 : decode cX6_family 113 = .ok (.goto 25, 3) := by decide +kernel
theorem dX6_family_116 : decode cX6_family 116 = .ok (.iload 6, 2) := by decide +kernel
theorem dX6_family_118 : decode cX6_family 118 = .ok (.iload 10, 2) := by decide +kernel
theorem dX6_family_120 : decode cX6_family 120 = .ok (.isub, 1) := by decide +kernel
theorem dX6_family_121 : decode cX6_family 121 = .ok (.istore 6, 2) := by decide +kernel
theorem dX6_family_123 : decode cX6_family 123 = .ok (.aload_n 0, 1) := by decide +kernel
theorem dX6_family_124 : decode cX6_family 124 = .ok (.bipush 16, 2) := by decide +kernel
theorem dX6_family_126 : decode cX6_family 126 = .ok (.iload_n 1, 1) := by decide +kernel
theorem dX6_family_127 : decode cX6_family 127 = .ok (.imul, 1) := by decide +kernel
theorem dX6_family_128 : decode cX6_family 128 = .ok (.iload 9, 2) := by decide +kernel
theorem dX6_family_130 : decode cX6_family 130 = .ok (.iadd, 1) := by decide +kernel
theorem dX6_family_131 : decode cX6_family 131 = .ok (.iload 8, 2) := by decide +kernel
theorem dX6_family_133 : decode cX6_family 133 = .ok (.invokevirtual 176, 3) := by decide +kernel
theorem dX6_family_136 : decode cX6_family 136 = .ok (.istore 8, 2) := by decide +kernel
theorem dX6_family_138 : decode cX6_family 138 = .ok (.iinc 9 1, 3) := by decide +kernel
theorem dX6_family_141 : decode cX6_family 141 = .ok (.goto (-60), 3) := by decide +kernel
theorem dX6_family_144 : decode cX6_family 144 = .ok (.iload 8, 2) := by decide +kernel
theorem dX6_family_146 : decode cX6_family 146 = .ok (.ireturn, 1) := by decide +kernel
theorem dX6_unnet_0 : decode cX6_unnet 0 = .ok (.aload_n 0, 1) := by decide +kernel
theorem dX6_unnet_1 : decode cX6_unnet 1 = .ok (.getfield 168, 3) := by decide +kernel
theorem dX6_unnet_4 : decode cX6_unnet 4 = .ok (.ifCond .ne 10, 3) := by decide +kernel
theorem dX6_unnet_7 : decode cX6_unnet 7 = .ok (.aload_n 0, 1) := by decide +kernel
theorem dX6_unnet_8 : decode cX6_unnet 8 = .ok (.bipush (-2), 2) := by decide +kernel
theorem dX6_unnet_10 : decode cX6_unnet 10 = .ok (.invokevirtual 80, 3) := by decide +kernel
theorem dX6_unnet_13 : decode cX6_unnet 13 = .ok (.ireturn, 1) := by decide +kernel
theorem dX6_unnet_14 : decode cX6_unnet 14 = .ok (.aload_n 0, 1) := by decide +kernel
theorem dX6_unnet_15 : decode cX6_unnet 15 = .ok (.dup, 1) := by decide +kernel
theorem dX6_unnet_16 : decode cX6_unnet 16 = .ok (.getfield 168, 3) := by decide +kernel
theorem dX6_unnet_19 : decode cX6_unnet 19 = .ok (.iconst 1, 1) := by decide +kernel
theorem dX6_unnet_20 : decode cX6_unnet 20 = .ok (.isub, 1) := by decide +kernel
theorem dX6_unnet_21 : decode cX6_unnet 21 = .ok (.putfield 168, 3) := by decide +kernel
theorem dX6_unnet_24 : decode cX6_unnet 24 = .ok (.aload_n 0, 1) := by decide +kernel
theorem dX6_unnet_25 : decode cX6_unnet 25 = .ok (.getfield 168, 3) := by decide +kernel
theorem dX6_unnet_28 : decode cX6_unnet 28 = .ok (.ireturn, 1) := by decide +kernel
theorem dX6_isTold_0 : decode cX6_isTold 0 = .ok (.iconst 0, 1) := by decide +kernel
theorem dX6_isTold_1 : decode cX6_isTold 1 = .ok (.istore_n 1, 1) := by decide +kernel
theorem dX6_isTold_2 : decode cX6_isTold 2 = .ok (.iload_n 1, 1) := by decide +kernel
theorem dX6_isTold_3 : decode cX6_isTold 3 = .ok (.bipush 16, 2) := by decide +kernel
theorem dX6_isTold_5 : decode cX6_isTold 5 = .ok (.if_icmp .ge 23, 3) := by decide +kernel
theorem dX6_isTold_8 : decode cX6_isTold 8 = .ok (.aload_n 0, 1) := by decide +kernel
theorem dX6_isTold_9 : decode cX6_isTold 9 = .ok (.getfield 187, 3) := by decide +kernel
theorem dX6_isTold_12 : decode cX6_isTold 12 = .ok (.ifCond .ne 16, 3) := by decide +kernel
theorem dX6_isTold_15 : decode cX6_isTold 15 = .ok (.aload_n 0, 1) := by decide +kernel
theorem dX6_isTold_16 : decode cX6_isTold 16 = .ok (.getfield 56, 3) := by decide +kernel
theorem dX6_isTold_19 : decode cX6_isTold 19 = .ok (.iload_n 1, 1) := by decide +kernel
theorem dX6_isTold_20 : decode cX6_isTold 20 = .ok (.iconst 0, 1) := by decide +kernel
theorem dX6_isTold_21 : decode cX6_isTold 21 = .ok (.iastore, 1) := by decide +kernel
theorem dX6_isTold_22 : decode cX6_isTold 22 = .ok (.iinc 1 1, 3) := by decide +kernel
theorem dX6_isTold_25 : decode cX6_isTold 25 = .ok (.goto (-23), 3) := by decide +kernel
theorem dX6_isTold_28 : decode cX6_isTold 28 = .ok (.aload_n 0, 1) := by decide +kernel
theorem dX6_isTold_29 : decode cX6_isTold 29 = .ok (.iconst 1, 1) := by decide +kernel
theorem dX6_isTold_30 : decode cX6_isTold 30 = .ok (.putfield 187, 3) := by decide +kernel
theorem dX6_isTold_33 : decode cX6_isTold 33 = .ok (.return_, 1) := by decide +kernel
theorem dX6_tell_0 : decode cX6_tell 0 = .ok (.iload_n 1, 1) := by decide +kernel
theorem dX6_tell_1 : decode cX6_tell 1 = .ok (.i2l, 1) := by decide +kernel
theorem dX6_tell_2 : decode cX6_tell 2 = .ok (.lconst 0, 1) := by decide +kernel
theorem dX6_tell_3 : decode cX6_tell 3 = .ok (.ldc2_w 191, 3) := by decide +kernel
theorem dX6_tell_6 : decode cX6_tell 6 = .ok (.invokestatic 90, 3) := by decide +kernel
theorem dX6_tell_9 : decode cX6_tell 9 = .ok (.ifCond .ne 10, 3) := by decide +kernel
theorem dX6_tell_12 : decode cX6_tell 12 = .ok (.aload_n 0, 1) := by decide +kernel
theorem dX6_tell_13 : decode cX6_tell 13 = .ok (.bipush (-3), 2) := by decide +kernel
theorem dX6_tell_15 : decode cX6_tell 15 = .ok (.invokevirtual 80, 3) := by decide +kernel
theorem dX6_tell_18 : decode cX6_tell 18 = .ok (.ireturn, 1) := by decide +kernel
theorem dX6_tell_19 : decode cX6_tell 19 = .ok (.iload_n 2, 1) := by decide +kernel
theorem dX6_tell_20 : decode cX6_tell 20 = .ok (.i2l, 1) := by decide +kernel
theorem dX6_tell_21 : decode cX6_tell 21 = .ok (.ldc2_w 109, 3) := by decide +kernel
theorem dX6_tell_24 : decode cX6_tell 24 = .ok (.ldc2_w 111, 3) := by decide +kernel
theorem dX6_tell_27 : decode cX6_tell 27 = .ok (.invokestatic 90, 3) := by decide +kernel
theorem dX6_tell_30 : decode cX6_tell 30 = .ok (.ifCond .ne 10, 3) := by decide +kernel
theorem dX6_tell_33 : decode cX6_tell 33 = .ok (.aload_n 0, 1) := by decide +kernel
theorem dX6_tell_34 : decode cX6_tell 34 = .ok (.bipush (-7), 2) := by decide +kernel
theorem dX6_tell_36 : decode cX6_tell 36 = .ok (.invokevirtual 80, 3) := by decide +kernel
theorem dX6_tell_39 : decode cX6_tell 39 = .ok (.ireturn, 1) := by decide +kernel
theorem dX6_tell_40 : decode cX6_tell 40 = .ok (.aload_n 0, 1) := by decide +kernel
theorem dX6_tell_41 : decode cX6_tell 41 = .ok (.invokevirtual 193, 3) := by decide +kernel
theorem dX6_tell_44 : decode cX6_tell 44 = .ok (.aload_n 0, 1) := by decide +kernel
theorem dX6_tell_45 : decode cX6_tell 45 = .ok (.getfield 56, 3) := by decide +kernel
theorem dX6_tell_48 : decode cX6_tell 48 = .ok (.iload_n 1, 1) := by decide +kernel
theorem dX6_tell_49 : decode cX6_tell 49 = .ok (.iload_n 2, 1) := by decide +kernel
theorem dX6_tell_50 : decode cX6_tell 50 = .ok (.iastore, 1) := by decide +kernel
theorem dX6_tell_51 : decode cX6_tell 51 = .ok (.iconst 1, 1) := by decide +kernel
theorem dX6_tell_52 : decode cX6_tell 52 = .ok (.ireturn, 1) := by decide +kernel
theorem dX6_meets_0 : decode cX6_meets 0 = .ok (.lload_n 1, 1) := by decide +kernel
theorem dX6_meets_1 : decode cX6_meets 1 = .ok (.lconst 0, 1) := by decide +kernel
theorem dX6_meets_2 : decode cX6_meets 2 = .ok (.lcmp, 1) := by decide +kernel
theorem dX6_meets_3 : decode cX6_meets 3 = .ok (.ifCond .le 7, 3) := by decide +kernel
theorem dX6_meets_6 : decode cX6_meets 6 = .ok (.iconst 1, 1) := by decide +kernel
theorem dX6_meets_7 : decode cX6_meets 7 = .ok (.goto 14, 3) := by decide +kernel
theorem dX6_meets_10 : decode cX6_meets 10 = .ok (.lload_n 1, 1) := by decide +kernel
theorem dX6_meets_11 : decode cX6_meets 11 = .ok (.lconst 0, 1) := by decide +kernel
theorem dX6_meets_12 : decode cX6_meets 12 = .ok (.lcmp, 1) := by decide +kernel
theorem dX6_meets_13 : decode cX6_meets 13 = .ok (.ifCond .ge 7, 3) := by decide +kernel
theorem dX6_meets_16 : decode cX6_meets 16 = .ok (.iconst (-1), 1) := by decide +kernel
theorem dX6_meets_17 : decode cX6_meets 17 = .ok (.goto 4, 3) := by decide +kernel
theorem dX6_meets_20 : decode cX6_meets 20 = .ok (.iconst 0, 1) := by decide +kernel
theorem dX6_meets_21 : decode cX6_meets 21 = .ok (.istore_n 3, 1) := by decide +kernel
theorem dX6_meets_22 : decode cX6_meets 22 = .ok (.iload_n 3, 1) := by decide +kernel
theorem dX6_meets_23 : decode cX6_meets 23 = .ok (.ifCond .ne 4, 3) := by decide +kernel
theorem dX6_meets_26 : decode cX6_meets 26 = .ok (.return_, 1) := by decide +kernel
theorem dX6_meets_27 : decode cX6_meets 27 = .ok (.aload_n 0, 1) := by decide +kernel
theorem dX6_meets_28 : decode cX6_meets 28 = .ok (.getfield 196, 3) := by decide +kernel
theorem dX6_meets_31 : decode cX6_meets 31 = .ok (.iload_n 3, 1) := by decide +kernel
theorem dX6_meets_32 : decode cX6_meets 32 = .ok (.ineg, 1) := by decide +kernel
theorem dX6_meets_33 : decode cX6_meets 33 = .ok (.if_icmp .ne 13, 3) := by decide +kernel
theorem dX6_meets_36 : decode cX6_meets 36 = .ok (.aload_n 0, 1) := by decide +kernel
theorem dX6_meets_37 : decode cX6_meets 37 = .ok (.dup, 1) := by decide +kernel
theorem dX6_meets_38 : decode cX6_meets 38 = .ok (.getfield 199, 3) := by decide +kernel
theorem dX6_meets_41 : decode cX6_meets 41 = .ok (.iconst 1, 1) := by decide +kernel
theorem dX6_meets_42 : decode cX6_meets 42 = .ok (.iadd, 1) := by decide +kernel
theorem dX6_meets_43 : decode cX6_meets 43 = .ok (.putfield 199, 3) := by decide +kernel
theorem dX6_meets_46 : decode cX6_meets 46 = .ok (.aload_n 0, 1) := by decide +kernel
theorem dX6_meets_47 : decode cX6_meets 47 = .ok (.iload_n 3, 1) := by decide +kernel
theorem dX6_meets_48 : decode cX6_meets 48 = .ok (.putfield 196, 3) := by decide +kernel
theorem dX6_meets_51 : decode cX6_meets 51 = .ok (.return_, 1) := by decide +kernel
theorem dX6_changes_0 : decode cX6_changes 0 = .ok (.aload_n 0, 1) := by decide +kernel
theorem dX6_changes_1 : decode cX6_changes 1 = .ok (.iload_n 1, 1) := by decide +kernel
theorem dX6_changes_2 : decode cX6_changes 2 = .ok (.invokevirtual 98, 3) := by decide +kernel
theorem dX6_changes_5 : decode cX6_changes 5 = .ok (.ifCond .ne 10, 3) := by decide +kernel
theorem dX6_changes_8 : decode cX6_changes 8 = .ok (.aload_n 0, 1) := by decide +kernel
theorem dX6_changes_9 : decode cX6_changes 9 = .ok (.bipush (-3), 2) := by decide +kernel
theorem dX6_changes_11 : decode cX6_changes 11 = .ok (.invokevirtual 80, 3) := by decide +kernel
theorem dX6_changes_14 : decode cX6_changes 14 = .ok (.ireturn, 1) := by decide +kernel
theorem dX6_changes_15 : decode cX6_changes 15 = .ok (.aload_n 0, 1) := by decide +kernel
theorem dX6_changes_16 : decode cX6_changes 16 = .ok (.getfield 187, 3) := by decide +kernel
theorem dX6_changes_19 : decode cX6_changes 19 = .ok (.ifCond .ne 10, 3) := by decide +kernel
theorem dX6_changes_22 : decode cX6_changes 22 = .ok (.aload_n 0, 1) := by decide +kernel
theorem dX6_changes_23 : decode cX6_changes 23 = .ok (.bipush (-2), 2) := by decide +kernel
theorem dX6_changes_25 : decode cX6_changes 25 = .ok (.invokevirtual 80, 3) := by decide +kernel
theorem dX6_changes_28 : decode cX6_changes 28 = .ok (.ireturn, 1) := by decide +kernel
theorem dX6_changes_29 : decode cX6_changes 29 = .ok (.aload_n 0, 1) := by decide +kernel
theorem dX6_changes_30 : decode cX6_changes 30 = .ok (.iconst 0, 1) := by decide +kernel
theorem dX6_changes_31 : decode cX6_changes 31 = .ok (.putfield 199, 3) := by decide +kernel
theorem dX6_changes_34 : decode cX6_changes 34 = .ok (.aload_n 0, 1) := by decide +kernel
theorem dX6_changes_35 : decode cX6_changes 35 = .ok (.iconst 0, 1) := by decide +kernel
theorem dX6_changes_36 : decode cX6_changes 36 = .ok (.putfield 196, 3) := by decide +kernel
theorem dX6_changes_39 : decode cX6_changes 39 = .ok (.iconst 0, 1) := by decide +kernel
theorem dX6_changes_40 : decode cX6_changes 40 = .ok (.istore_n 2, 1) := by decide +kernel
theorem dX6_changes_41 : decode cX6_changes 41 = .ok (.iload_n 2, 1) := by decide +kernel
theorem dX6_changes_42 : decode cX6_changes 42 = .ok (.aload_n 0, 1) := by decide +kernel
theorem dX6_changes_43 : decode cX6_changes 43 = .ok (.getfield 16, 3) := by decide +kernel
theorem dX6_changes_46 : decode cX6_changes 46 = .ok (.iload_n 1, 1) := by decide +kernel
theorem dX6_changes_47 : decode cX6_changes 47 = .ok (.iaload, 1) := by decide +kernel
theorem dX6_changes_48 : decode cX6_changes 48 = .ok (.if_icmp .ge 20, 3) := by decide +kernel
theorem dX6_changes_51 : decode cX6_changes 51 = .ok (.aload_n 0, 1) := by decide +kernel
theorem dX6_changes_52 : decode cX6_changes 52 = .ok (.aload_n 0, 1) := by decide +kernel
theorem dX6_changes_53 : decode cX6_changes 53 = .ok (.getfield 56, 3) := by decide +kernel
theorem dX6_changes_56 : decode cX6_changes 56 = .ok (.iload_n 2, 1) := by decide +kernel
theorem dX6_changes_57 : decode cX6_changes 57 = .ok (.iaload, 1) := by decide +kernel
theorem dX6_changes_58 : decode cX6_changes 58 = .ok (.i2l, 1) := by decide +kernel
theorem dX6_changes_59 : decode cX6_changes 59 = .ok (.invokevirtual 202, 3) := by decide +kernel
theorem dX6_changes_62 : decode cX6_changes 62 = .ok (.iinc 2 1, 3) := by decide +kernel
theorem dX6_changes_65 : decode cX6_changes 65 = .ok (.goto (-24), 3) := by decide +kernel
theorem dX6_changes_68 : decode cX6_changes 68 = .ok (.aload_n 0, 1) := by decide +kernel
theorem dX6_changes_69 : decode cX6_changes 69 = .ok (.getfield 199, 3) := by decide +kernel
theorem dX6_changes_72 : decode cX6_changes 72 = .ok (.istore_n 2, 1) := by decide +kernel
theorem dX6_changes_73 : decode cX6_changes 73 = .ok (.aload_n 0, 1) := by decide +kernel
theorem dX6_changes_74 : decode cX6_changes 74 = .ok (.iconst 0, 1) := by decide +kernel
theorem dX6_changes_75 : decode cX6_changes 75 = .ok (.putfield 199, 3) := by decide +kernel
theorem dX6_changes_78 : decode cX6_changes 78 = .ok (.aload_n 0, 1) := by decide +kernel
theorem dX6_changes_79 : decode cX6_changes 79 = .ok (.iconst 0, 1) := by decide +kernel
theorem dX6_changes_80 : decode cX6_changes 80 = .ok (.putfield 196, 3) := by decide +kernel
theorem dX6_changes_83 : decode cX6_changes 83 = .ok (.iconst 0, 1) := by decide +kernel
theorem dX6_changes_84 : decode cX6_changes 84 = .ok (.istore_n 3, 1) := by decide +kernel
theorem dX6_changes_85 : decode cX6_changes 85 = .ok (.iload_n 3, 1) := by decide +kernel
theorem dX6_changes_86 : decode cX6_changes 86 = .ok (.aload_n 0, 1) := by decide +kernel
theorem dX6_changes_87 : decode cX6_changes 87 = .ok (.getfield 13, 3) := by decide +kernel
theorem dX6_changes_90 : decode cX6_changes 90 = .ok (.iload_n 1, 1) := by decide +kernel
theorem dX6_changes_91 : decode cX6_changes 91 = .ok (.iaload, 1) := by decide +kernel
theorem dX6_changes_92 : decode cX6_changes 92 = .ok (.if_icmp .ge 65, 3) := by decide +kernel
theorem dX6_changes_95 : decode cX6_changes 95 = .ok (.lconst 0, 1) := by decide +kernel
theorem dX6_changes_96 : decode cX6_changes 96 = .ok (.lstore 4, 2) := by decide +kernel
theorem dX6_changes_98 : decode cX6_changes 98 = .ok (.iconst 0, 1) := by decide +kernel
theorem dX6_changes_99 : decode cX6_changes 99 = .ok (.istore 6, 2) := by decide +kernel
theorem dX6_changes_101 : decode cX6_changes 101 = .ok (.iload 6, 2) := by decide +kernel
theorem dX6_changes_103 : decode cX6_changes 103 = .ok (.aload_n 0, 1) := by decide +kernel
theorem dX6_changes_104 : decode cX6_changes 104 = .ok (.getfield 16, 3) := by decide +kernel
theorem dX6_changes_107 : decode cX6_changes 107 = .ok (.iload_n 1, 1) := by decide +kernel
theorem dX6_changes_108 : decode cX6_changes 108 = .ok (.iaload, 1) := by decide +kernel
theorem dX6_changes_109 : decode cX6_changes 109 = .ok (.if_icmp .ge 36, 3) := by decide +kernel
theorem dX6_changes_112 : decode cX6_changes 112 = .ok (.lload 4, 2) := by decide +kernel
theorem dX6_changes_114 : decode cX6_changes 114 = .ok (.aload_n 0, 1) := by decide +kernel
theorem dX6_changes_115 : decode cX6_changes 115 = .ok (.getfield 7, 3) := by decide +kernel
theorem dX6_changes_118 : decode cX6_changes 118 = .ok (.iload_n 1, 1) := by decide +kernel
theorem dX6_changes_119 : decode cX6_changes 119 = .ok (.iload_n 3, 1) := by decide +kernel
theorem dX6_changes_120 : decode cX6_changes 120 = .ok (.iload 6, 2) := by decide +kernel
theorem dX6_changes_122 : decode cX6_changes 122 = .ok (.invokestatic 113, 3) := by decide +kernel
theorem dX6_changes_125 : decode cX6_changes 125 = .ok (.iaload, 1) := by decide +kernel
theorem dX6_changes_126 : decode cX6_changes 126 = .ok (.i2l, 1) := by decide +kernel
theorem dX6_changes_127 : decode cX6_changes 127 = .ok (.aload_n 0, 1) := by decide +kernel
theorem dX6_changes_128 : decode cX6_changes 128 = .ok (.getfield 56, 3) := by decide +kernel
theorem dX6_changes_131 : decode cX6_changes 131 = .ok (.iload 6, 2) := by decide +kernel
theorem dX6_changes_133 : decode cX6_changes 133 = .ok (.iaload, 1) := by decide +kernel
theorem dX6_changes_134 : decode cX6_changes 134 = .ok (.i2l, 1) := by decide +kernel
theorem dX6_changes_135 : decode cX6_changes 135 = .ok (.lmul, 1) := by decide +kernel
theorem dX6_changes_136 : decode cX6_changes 136 = .ok (.ladd, 1) := by decide +kernel
theorem dX6_changes_137 : decode cX6_changes 137 = .ok (.lstore 4, 2) := by decide +kernel
theorem dX6_changes_139 : decode cX6_changes 139 = .ok (.iinc 6 1, 3) := by decide +kernel
theorem dX6_changes_142 : decode cX6_changes 142 = .ok (.goto (-41), 3) := by decide +kernel
theorem dX6_changes_145 : decode cX6_changes 145 = .ok (.aload_n 0, 1) := by decide +kernel
theorem dX6_changes_146 : decode cX6_changes 146 = .ok (.lload 4, 2) := by decide +kernel
theorem dX6_changes_148 : decode cX6_changes 148 = .ok (.invokevirtual 202, 3) := by decide +kernel
theorem dX6_changes_151 : decode cX6_changes 151 = .ok (.iinc 3 1, 3) := by decide +kernel
theorem dX6_changes_154 : decode cX6_changes 154 = .ok (.goto (-69), 3) := by decide +kernel
theorem dX6_changes_157 : decode cX6_changes 157 = .ok (.bipush 10, 2) := by decide +kernel
theorem dX6_changes_159 : decode cX6_changes 159 = .ok (.iload_n 2, 1) := by decide +kernel
theorem dX6_changes_160 : decode cX6_changes 160 = .ok (.imul, 1) := by decide +kernel
theorem dX6_changes_161 : decode cX6_changes 161 = .ok (.aload_n 0, 1) := by decide +kernel
theorem dX6_changes_162 : decode cX6_changes 162 = .ok (.getfield 199, 3) := by decide +kernel
theorem dX6_changes_165 : decode cX6_changes 165 = .ok (.iadd, 1) := by decide +kernel
theorem dX6_changes_166 : decode cX6_changes 166 = .ok (.ireturn, 1) := by decide +kernel
theorem dX6_band_0 : decode cX6_band 0 = .ok (.aload_n 0, 1) := by decide +kernel
theorem dX6_band_1 : decode cX6_band 1 = .ok (.getfield 187, 3) := by decide +kernel
theorem dX6_band_4 : decode cX6_band 4 = .ok (.ifCond .ne 10, 3) := by decide +kernel
theorem dX6_band_7 : decode cX6_band 7 = .ok (.aload_n 0, 1) := by decide +kernel
theorem dX6_band_8 : decode cX6_band 8 = .ok (.bipush (-2), 2) := by decide +kernel
theorem dX6_band_10 : decode cX6_band 10 = .ok (.invokevirtual 80, 3) := by decide +kernel
theorem dX6_band_13 : decode cX6_band 13 = .ok (.ireturn, 1) := by decide +kernel
theorem dX6_band_14 : decode cX6_band 14 = .ok (.iload_n 1, 1) := by decide +kernel
theorem dX6_band_15 : decode cX6_band 15 = .ok (.i2l, 1) := by decide +kernel
theorem dX6_band_16 : decode cX6_band 16 = .ok (.lconst 1, 1) := by decide +kernel
theorem dX6_band_17 : decode cX6_band 17 = .ok (.ldc2_w 88, 3) := by decide +kernel
theorem dX6_band_20 : decode cX6_band 20 = .ok (.invokestatic 90, 3) := by decide +kernel
theorem dX6_band_23 : decode cX6_band 23 = .ok (.ifCond .eq 15, 3) := by decide +kernel
theorem dX6_band_26 : decode cX6_band 26 = .ok (.iload_n 2, 1) := by decide +kernel
theorem dX6_band_27 : decode cX6_band 27 = .ok (.i2l, 1) := by decide +kernel
theorem dX6_band_28 : decode cX6_band 28 = .ok (.lconst 1, 1) := by decide +kernel
theorem dX6_band_29 : decode cX6_band 29 = .ok (.ldc2_w 88, 3) := by decide +kernel
theorem dX6_band_32 : decode cX6_band 32 = .ok (.invokestatic 90, 3) := by decide +kernel
theorem dX6_band_35 : decode cX6_band 35 = .ok (.ifCond .ne 10, 3) := by decide +kernel
theorem dX6_band_38 : decode cX6_band 38 = .ok (.aload_n 0, 1) := by decide +kernel
theorem dX6_band_39 : decode cX6_band 39 = .ok (.bipush (-7), 2) := by decide +kernel
theorem dX6_band_41 : decode cX6_band 41 = .ok (.invokevirtual 80, 3) := by decide +kernel
theorem dX6_band_44 : decode cX6_band 44 = .ok (.ireturn, 1) := by decide +kernel
theorem dX6_band_45 : decode cX6_band 45 = .ok (.iconst 0, 1) := by decide +kernel
theorem dX6_band_46 : decode cX6_band 46 = .ok (.istore_n 3, 1) := by decide +kernel
theorem dX6_band_47 : decode cX6_band 47 = .ok (.iload_n 3, 1) := by decide +kernel
theorem dX6_band_48 : decode cX6_band 48 = .ok (.iload_n 1, 1) := by decide +kernel
theorem dX6_band_49 : decode cX6_band 49 = .ok (.if_icmp .ge 63, 3) := by decide +kernel
theorem dX6_band_52 : decode cX6_band 52 = .ok (.iconst 0, 1) := by decide +kernel
theorem dX6_band_53 : decode cX6_band 53 = .ok (.istore 4, 2) := by decide +kernel
theorem dX6_band_55 : decode cX6_band 55 = .ok (.iload 4, 2) := by decide +kernel
theorem dX6_band_57 : decode cX6_band 57 = .ok (.iload_n 1, 1) := by decide +kernel
theorem dX6_band_58 : decode cX6_band 58 = .ok (.if_icmp .ge 48, 3) := by decide +kernel
theorem dX6_band_61 : decode cX6_band 61 = .ok (.aload_n 0, 1) := by decide +kernel
theorem dX6_band_62 : decode cX6_band 62 = .ok (.getfield 47, 3) := by decide +kernel
theorem dX6_band_65 : decode cX6_band 65 = .ok (.iconst 5, 1) := by decide +kernel
theorem dX6_band_66 : decode cX6_band 66 = .ok (.iload_n 3, 1) := by decide +kernel
theorem dX6_band_67 : decode cX6_band 67 = .ok (.imul, 1) := by decide +kernel
theorem dX6_band_68 : decode cX6_band 68 = .ok (.iload 4, 2) := by decide +kernel
theorem dX6_band_70 : decode cX6_band 70 = .ok (.iadd, 1) := by decide +kernel
theorem dX6_band_71 : decode cX6_band 71 = .ok (.iload 4, 2) := by decide +kernel
theorem dX6_band_73 : decode cX6_band 73 = .ok (.iload_n 3, 1) := by decide +kernel
theorem dX6_band_74 : decode cX6_band 74 = .ok (.if_icmp .lt 24, 3) := by decide +kernel
theorem dX6_band_77 : decode cX6_band 77 = .ok (.iload 4, 2) := by decide +kernel
theorem dX6_band_79 : decode cX6_band 79 = .ok (.iload_n 3, 1) := by decide +kernel
theorem dX6_band_80 : decode cX6_band 80 = .ok (.isub, 1) := by decide +kernel
theorem dX6_band_81 : decode cX6_band 81 = .ok (.iload_n 2, 1) := by decide +kernel
theorem dX6_band_82 : decode cX6_band 82 = .ok (.if_icmp .ge 16, 3) := by decide +kernel
theorem dX6_band_85 : decode cX6_band 85 = .ok (.aload_n 0, 1) := by decide +kernel
theorem dX6_band_86 : decode cX6_band 86 = .ok (.getfield 56, 3) := by decide +kernel
theorem dX6_band_89 : decode cX6_band 89 = .ok (.iload 4, 2) := by decide +kernel
theorem dX6_band_91 : decode cX6_band 91 = .ok (.iload_n 3, 1) := by decide +kernel
theorem dX6_band_92 : decode cX6_band 92 = .ok (.isub, 1) := by decide +kernel
theorem dX6_band_93 : decode cX6_band 93 = .ok (.iaload, 1) := by decide +kernel
theorem dX6_band_94 : decode cX6_band 94 = .ok (.i2l, 1) := by decide +kernel
theorem dX6_band_95 : decode cX6_band 95 = .ok (.goto 4, 3) := by decide +kernel
theorem dX6_band_98 : decode cX6_band 98 = .ok (.lconst 0, 1) := by decide +kernel
theorem dX6_band_99 : decode cX6_band 99 = .ok (.lastore, 1) := by decide +kernel
theorem dX6_band_100 : decode cX6_band 100 = .ok (.iinc 4 1, 3) := by decide +kernel
theorem dX6_band_103 : decode cX6_band 103 = .ok (.goto (-48), 3) := by decide +kernel
theorem dX6_band_106 : decode cX6_band 106 = .ok (.iinc 3 1, 3) := by decide +kernel
theorem dX6_band_109 : decode cX6_band 109 = .ok (.goto (-62), 3) := by decide +kernel
theorem dX6_band_112 : decode cX6_band 112 = .ok (.aload_n 0, 1) := by decide +kernel
theorem dX6_band_113 : decode cX6_band 113 = .ok (.iload_n 1, 1) := by decide +kernel
theorem dX6_band_114 : decode cX6_band 114 = .ok (.iload_n 1, 1) := by decide +kernel
theorem dX6_band_115 : decode cX6_band 115 = .ok (.iconst 2, 1) := by decide +kernel
theorem dX6_band_116 : decode cX6_band 116 = .ok (.invokevirtual 160, 3) := by decide +kernel
theorem dX6_band_119 : decode cX6_band 119 = .ok (.ireturn, 1) := by decide +kernel
theorem dX6_divisor_0 : decode cX6_divisor 0 = .ok (.lload_n 0, 1) := by decide +kernel
theorem dX6_divisor_1 : decode cX6_divisor 1 = .ok (.lconst 0, 1) := by decide +kernel
theorem dX6_divisor_2 : decode cX6_divisor 2 = .ok (.lcmp, 1) := by decide +kernel
theorem dX6_divisor_3 : decode cX6_divisor 3 = .ok (.ifCond .ge 8, 3) := by decide +kernel
theorem dX6_divisor_6 : decode cX6_divisor 6 = .ok (.lload_n 0, 1) := by decide +kernel
theorem dX6_divisor_7 : decode cX6_divisor 7 = .ok (.lneg, 1) := by decide +kernel
theorem dX6_divisor_8 : decode cX6_divisor 8 = .ok (.goto 4, 3) := by decide +kernel
theorem dX6_divisor_11 : decode cX6_divisor 11 = .ok (.lload_n 0, 1) := by decide +kernel
theorem dX6_divisor_12 : decode cX6_divisor 12 = .ok (.lstore 4, 2) := by decide +kernel
theorem dX6_divisor_14 : decode cX6_divisor 14 = .ok (.lload_n 2, 1) := by decide +kernel
theorem dX6_divisor_15 : decode cX6_divisor 15 = .ok (.lconst 0, 1) := by decide +kernel
theorem dX6_divisor_16 : decode cX6_divisor 16 = .ok (.lcmp, 1) := by decide +kernel
theorem dX6_divisor_17 : decode cX6_divisor 17 = .ok (.ifCond .ge 8, 3) := by decide +kernel
theorem dX6_divisor_20 : decode cX6_divisor 20 = .ok (.lload_n 2, 1) := by decide +kernel
theorem dX6_divisor_21 : decode cX6_divisor 21 = .ok (.lneg, 1) := by decide +kernel
theorem dX6_divisor_22 : decode cX6_divisor 22 = .ok (.goto 4, 3) := by decide +kernel
theorem dX6_divisor_25 : decode cX6_divisor 25 = .ok (.lload_n 2, 1) := by decide +kernel
theorem dX6_divisor_26 : decode cX6_divisor 26 = .ok (.lstore 6, 2) := by decide +kernel
theorem dX6_divisor_28 : decode cX6_divisor 28 = .ok (.lload 6, 2) := by decide +kernel
theorem dX6_divisor_30 : decode cX6_divisor 30 = .ok (.lconst 0, 1) := by decide +kernel
theorem dX6_divisor_31 : decode cX6_divisor 31 = .ok (.lcmp, 1) := by decide +kernel
theorem dX6_divisor_32 : decode cX6_divisor 32 = .ok (.ifCond .eq 21, 3) := by decide +kernel
theorem dX6_divisor_35 : decode cX6_divisor 35 = .ok (.lload 4, 2) := by decide +kernel
theorem dX6_divisor_37 : decode cX6_divisor 37 = .ok (.lload 6, 2) := by decide +kernel
theorem dX6_divisor_39 : decode cX6_divisor 39 = .ok (.lrem, 1) := by decide +kernel
theorem dX6_divisor_40 : decode cX6_divisor 40 = .ok (.lstore 8, 2) := by decide +kernel
theorem dX6_divisor_42 : decode cX6_divisor 42 = .ok (.lload 6, 2) := by decide +kernel
theorem dX6_divisor_44 : decode cX6_divisor 44 = .ok (.lstore 4, 2) := by decide +kernel
theorem dX6_divisor_46 : decode cX6_divisor 46 = .ok (.lload 8, 2) := by decide +kernel
theorem dX6_divisor_48 : decode cX6_divisor 48 = .ok (.lstore 6, 2) := by decide +kernel
theorem dX6_divisor_50 : decode cX6_divisor 50 = .ok (.goto (-22), 3) := by decide +kernel
theorem dX6_divisor_53 : decode cX6_divisor 53 = .ok (.lload 4, 2) := by decide +kernel
theorem dX6_divisor_55 : decode cX6_divisor 55 = .ok (.lreturn, 1) := by decide +kernel
theorem dX6_fraction_0 : decode cX6_fraction 0 = .ok (.lload_n 1, 1) := by decide +kernel
theorem dX6_fraction_1 : decode cX6_fraction 1 = .ok (.lload_n 3, 1) := by decide +kernel
theorem dX6_fraction_2 : decode cX6_fraction 2 = .ok (.invokestatic 206, 3) := by decide +kernel
theorem dX6_fraction_5 : decode cX6_fraction 5 = .ok (.lstore 5, 2) := by decide +kernel
theorem dX6_fraction_7 : decode cX6_fraction 7 = .ok (.lload_n 3, 1) := by decide +kernel
theorem dX6_fraction_8 : decode cX6_fraction 8 = .ok (.lconst 0, 1) := by decide +kernel
theorem dX6_fraction_9 : decode cX6_fraction 9 = .ok (.lcmp, 1) := by decide +kernel
theorem dX6_fraction_10 : decode cX6_fraction 10 = .ok (.ifCond .ge 8, 3) := by decide +kernel
theorem dX6_fraction_13 : decode cX6_fraction 13 = .ok (.lload 5, 2) := by decide +kernel
theorem dX6_fraction_15 : decode cX6_fraction 15 = .ok (.lneg, 1) := by decide +kernel
theorem dX6_fraction_16 : decode cX6_fraction 16 = .ok (.lstore 5, 2) := by decide +kernel
theorem dX6_fraction_18 : decode cX6_fraction 18 = .ok (.aload_n 0, 1) := by decide +kernel
theorem dX6_fraction_19 : decode cX6_fraction 19 = .ok (.lload_n 1, 1) := by decide +kernel
theorem dX6_fraction_20 : decode cX6_fraction 20 = .ok (.lload 5, 2) := by decide +kernel
theorem dX6_fraction_22 : decode cX6_fraction 22 = .ok (.ldiv, 1) := by decide +kernel
theorem dX6_fraction_23 : decode cX6_fraction 23 = .ok (.putfield 210, 3) := by decide +kernel
theorem dX6_fraction_26 : decode cX6_fraction 26 = .ok (.aload_n 0, 1) := by decide +kernel
theorem dX6_fraction_27 : decode cX6_fraction 27 = .ok (.lload_n 3, 1) := by decide +kernel
theorem dX6_fraction_28 : decode cX6_fraction 28 = .ok (.lload 5, 2) := by decide +kernel
theorem dX6_fraction_30 : decode cX6_fraction 30 = .ok (.ldiv, 1) := by decide +kernel
theorem dX6_fraction_31 : decode cX6_fraction 31 = .ok (.putfield 214, 3) := by decide +kernel
theorem dX6_fraction_34 : decode cX6_fraction 34 = .ok (.return_, 1) := by decide +kernel
theorem dX6_times_0 : decode cX6_times 0 = .ok (.aload_n 0, 1) := by decide +kernel
theorem dX6_times_1 : decode cX6_times 1 = .ok (.lload_n 1, 1) := by decide +kernel
theorem dX6_times_2 : decode cX6_times 2 = .ok (.lload 7, 2) := by decide +kernel
theorem dX6_times_4 : decode cX6_times 4 = .ok (.invokevirtual 217, 3) := by decide +kernel
theorem dX6_times_7 : decode cX6_times 7 = .ok (.aload_n 0, 1) := by decide +kernel
theorem dX6_times_8 : decode cX6_times 8 = .ok (.getfield 210, 3) := by decide +kernel
theorem dX6_times_11 : decode cX6_times 11 = .ok (.lstore 9, 2) := by decide +kernel
theorem dX6_times_13 : decode cX6_times 13 = .ok (.aload_n 0, 1) := by decide +kernel
theorem dX6_times_14 : decode cX6_times 14 = .ok (.getfield 214, 3) := by decide +kernel
theorem dX6_times_17 : decode cX6_times 17 = .ok (.lstore 11, 2) := by decide +kernel
theorem dX6_times_19 : decode cX6_times 19 = .ok (.aload_n 0, 1) := by decide +kernel
theorem dX6_times_20 : decode cX6_times 20 = .ok (.lload 5, 2) := by decide +kernel
theorem dX6_times_22 : decode cX6_times 22 = .ok (.lload_n 3, 1) := by decide +kernel
theorem dX6_times_23 : decode cX6_times 23 = .ok (.invokevirtual 217, 3) := by decide +kernel
theorem dX6_times_26 : decode cX6_times 26 = .ok (.aload_n 0, 1) := by decide +kernel
theorem dX6_times_27 : decode cX6_times 27 = .ok (.lload 9, 2) := by decide +kernel
theorem dX6_times_29 : decode cX6_times 29 = .ok (.aload_n 0, 1) := by decide +kernel
theorem dX6_times_30 : decode cX6_times 30 = .ok (.getfield 210, 3) := by decide +kernel
theorem dX6_times_33 : decode cX6_times 33 = .ok (.lmul, 1) := by decide +kernel
theorem dX6_times_34 : decode cX6_times 34 = .ok (.lload 11, 2) := by decide +kernel
theorem dX6_times_36 : decode cX6_times 36 = .ok (.aload_n 0, 1) := by decide +kernel
theorem dX6_times_37 : decode cX6_times 37 = .ok (.getfield 214, 3) := by decide +kernel
theorem dX6_times_40 : decode cX6_times 40 = .ok (.lmul, 1) := by decide +kernel
theorem dX6_times_41 : decode cX6_times 41 = .ok (.invokevirtual 217, 3) := by decide +kernel
theorem dX6_times_44 : decode cX6_times 44 = .ok (.return_, 1) := by decide +kernel
theorem dX6_shares_0 : decode cX6_shares 0 = .ok (.aload_n 0, 1) := by decide +kernel
theorem dX6_shares_1 : decode cX6_shares 1 = .ok (.getfield 74, 3) := by decide +kernel
theorem dX6_shares_4 : decode cX6_shares 4 = .ok (.aload_n 0, 1) := by decide +kernel
theorem dX6_shares_5 : decode cX6_shares 5 = .ok (.getfield 221, 3) := by decide +kernel
theorem dX6_shares_8 : decode cX6_shares 8 = .ok (.iload_n 1, 1) := by decide +kernel
theorem dX6_shares_9 : decode cX6_shares 9 = .ok (.iastore, 1) := by decide +kernel
theorem dX6_shares_10 : decode cX6_shares 10 = .ok (.aload_n 0, 1) := by decide +kernel
theorem dX6_shares_11 : decode cX6_shares 11 = .ok (.getfield 77, 3) := by decide +kernel
theorem dX6_shares_14 : decode cX6_shares 14 = .ok (.aload_n 0, 1) := by decide +kernel
theorem dX6_shares_15 : decode cX6_shares 15 = .ok (.getfield 221, 3) := by decide +kernel
theorem dX6_shares_18 : decode cX6_shares 18 = .ok (.iload_n 2, 1) := by decide +kernel
theorem dX6_shares_19 : decode cX6_shares 19 = .ok (.iastore, 1) := by decide +kernel
theorem dX6_shares_20 : decode cX6_shares 20 = .ok (.aload_n 0, 1) := by decide +kernel
theorem dX6_shares_21 : decode cX6_shares 21 = .ok (.getfield 68, 3) := by decide +kernel
theorem dX6_shares_24 : decode cX6_shares 24 = .ok (.aload_n 0, 1) := by decide +kernel
theorem dX6_shares_25 : decode cX6_shares 25 = .ok (.getfield 221, 3) := by decide +kernel
theorem dX6_shares_28 : decode cX6_shares 28 = .ok (.lload_n 3, 1) := by decide +kernel
theorem dX6_shares_29 : decode cX6_shares 29 = .ok (.lastore, 1) := by decide +kernel
theorem dX6_shares_30 : decode cX6_shares 30 = .ok (.aload_n 0, 1) := by decide +kernel
theorem dX6_shares_31 : decode cX6_shares 31 = .ok (.getfield 71, 3) := by decide +kernel
theorem dX6_shares_34 : decode cX6_shares 34 = .ok (.aload_n 0, 1) := by decide +kernel
theorem dX6_shares_35 : decode cX6_shares 35 = .ok (.getfield 221, 3) := by decide +kernel
theorem dX6_shares_38 : decode cX6_shares 38 = .ok (.lload 5, 2) := by decide +kernel
theorem dX6_shares_40 : decode cX6_shares 40 = .ok (.lastore, 1) := by decide +kernel
theorem dX6_shares_41 : decode cX6_shares 41 = .ok (.aload_n 0, 1) := by decide +kernel
theorem dX6_shares_42 : decode cX6_shares 42 = .ok (.dup, 1) := by decide +kernel
theorem dX6_shares_43 : decode cX6_shares 43 = .ok (.getfield 221, 3) := by decide +kernel
theorem dX6_shares_46 : decode cX6_shares 46 = .ok (.iconst 1, 1) := by decide +kernel
theorem dX6_shares_47 : decode cX6_shares 47 = .ok (.iadd, 1) := by decide +kernel
theorem dX6_shares_48 : decode cX6_shares 48 = .ok (.putfield 221, 3) := by decide +kernel
theorem dX6_shares_51 : decode cX6_shares 51 = .ok (.aload_n 0, 1) := by decide +kernel
theorem dX6_shares_52 : decode cX6_shares 52 = .ok (.aload_n 0, 1) := by decide +kernel
theorem dX6_shares_53 : decode cX6_shares 53 = .ok (.getfield 224, 3) := by decide +kernel
theorem dX6_shares_56 : decode cX6_shares 56 = .ok (.ifCond .eq 13, 3) := by decide +kernel
theorem dX6_shares_59 : decode cX6_shares 59 = .ok (.lload_n 3, 1) := by decide +kernel
theorem dX6_shares_60 : decode cX6_shares 60 = .ok (.lconst 0, 1) := by decide +kernel
theorem dX6_shares_61 : decode cX6_shares 61 = .ok (.lcmp, 1) := by decide +kernel
theorem dX6_shares_62 : decode cX6_shares 62 = .ok (.ifCond .le 7, 3) := by decide +kernel
theorem dX6_shares_65 : decode cX6_shares 65 = .ok (.iconst 1, 1) := by decide +kernel
theorem dX6_shares_66 : decode cX6_shares 66 = .ok (.goto 4, 3) := by decide +kernel
theorem dX6_shares_69 : decode cX6_shares 69 = .ok (.iconst 0, 1) := by decide +kernel
theorem dX6_shares_70 : decode cX6_shares 70 = .ok (.putfield 224, 3) := by decide +kernel
theorem dX6_shares_73 : decode cX6_shares 73 = .ok (.return_, 1) := by decide +kernel
theorem dX6_cell_0 : decode cX6_cell 0 = .ok (.iload_n 2, 1) := by decide +kernel
theorem dX6_cell_1 : decode cX6_cell 1 = .ok (.ifCond .eq 11, 3) := by decide +kernel
theorem dX6_cell_4 : decode cX6_cell 4 = .ok (.iconst 3, 1) := by decide +kernel
theorem dX6_cell_5 : decode cX6_cell 5 = .ok (.iload_n 1, 1) := by decide +kernel
theorem dX6_cell_6 : decode cX6_cell 6 = .ok (.imul, 1) := by decide +kernel
theorem dX6_cell_7 : decode cX6_cell 7 = .ok (.iload_n 0, 1) := by decide +kernel
theorem dX6_cell_8 : decode cX6_cell 8 = .ok (.iadd, 1) := by decide +kernel
theorem dX6_cell_9 : decode cX6_cell 9 = .ok (.goto 8, 3) := by decide +kernel
theorem dX6_cell_12 : decode cX6_cell 12 = .ok (.iconst 3, 1) := by decide +kernel
theorem dX6_cell_13 : decode cX6_cell 13 = .ok (.iload_n 0, 1) := by decide +kernel
theorem dX6_cell_14 : decode cX6_cell 14 = .ok (.imul, 1) := by decide +kernel
theorem dX6_cell_15 : decode cX6_cell 15 = .ok (.iload_n 1, 1) := by decide +kernel
theorem dX6_cell_16 : decode cX6_cell 16 = .ok (.iadd, 1) := by decide +kernel
theorem dX6_cell_17 : decode cX6_cell 17 = .ok (.ireturn, 1) := by decide +kernel
theorem dX6_clears_0 : decode cX6_clears 0 = .ok (.iload_n 2, 1) := by decide +kernel
theorem dX6_clears_1 : decode cX6_clears 1 = .ok (.iload_n 3, 1) := by decide +kernel
theorem dX6_clears_2 : decode cX6_clears 2 = .ok (.iload 4, 2) := by decide +kernel
theorem dX6_clears_4 : decode cX6_clears 4 = .ok (.invokestatic 227, 3) := by decide +kernel
theorem dX6_clears_7 : decode cX6_clears 7 = .ok (.istore 5, 2) := by decide +kernel
theorem dX6_clears_9 : decode cX6_clears 9 = .ok (.iload_n 2, 1) := by decide +kernel
theorem dX6_clears_10 : decode cX6_clears 10 = .ok (.iconst 1, 1) := by decide +kernel
theorem dX6_clears_11 : decode cX6_clears 11 = .ok (.isub, 1) := by decide +kernel
theorem dX6_clears_12 : decode cX6_clears 12 = .ok (.iload_n 3, 1) := by decide +kernel
theorem dX6_clears_13 : decode cX6_clears 13 = .ok (.iload 4, 2) := by decide +kernel
theorem dX6_clears_15 : decode cX6_clears 15 = .ok (.invokestatic 227, 3) := by decide +kernel
theorem dX6_clears_18 : decode cX6_clears 18 = .ok (.istore 6, 2) := by decide +kernel
theorem dX6_clears_20 : decode cX6_clears 20 = .ok (.aload_n 0, 1) := by decide +kernel
theorem dX6_clears_21 : decode cX6_clears 21 = .ok (.getfield 62, 3) := by decide +kernel
theorem dX6_clears_24 : decode cX6_clears 24 = .ok (.iload 5, 2) := by decide +kernel
theorem dX6_clears_26 : decode cX6_clears 26 = .ok (.laload, 1) := by decide +kernel
theorem dX6_clears_27 : decode cX6_clears 27 = .ok (.lconst 0, 1) := by decide +kernel
theorem dX6_clears_28 : decode cX6_clears 28 = .ok (.lcmp, 1) := by decide +kernel
theorem dX6_clears_29 : decode cX6_clears 29 = .ok (.ifCond .ne 4, 3) := by decide +kernel
theorem dX6_clears_32 : decode cX6_clears 32 = .ok (.return_, 1) := by decide +kernel
theorem dX6_clears_33 : decode cX6_clears 33 = .ok (.aload_n 0, 1) := by decide +kernel
theorem dX6_clears_34 : decode cX6_clears 34 = .ok (.getfield 62, 3) := by decide +kernel
theorem dX6_clears_37 : decode cX6_clears 37 = .ok (.iload 6, 2) := by decide +kernel
theorem dX6_clears_39 : decode cX6_clears 39 = .ok (.laload, 1) := by decide +kernel
theorem dX6_clears_40 : decode cX6_clears 40 = .ok (.lconst 0, 1) := by decide +kernel
theorem dX6_clears_41 : decode cX6_clears 41 = .ok (.lcmp, 1) := by decide +kernel
theorem dX6_clears_42 : decode cX6_clears 42 = .ok (.ifCond .ne 9, 3) := by decide +kernel
theorem dX6_clears_45 : decode cX6_clears 45 = .ok (.aload_n 0, 1) := by decide +kernel
theorem dX6_clears_46 : decode cX6_clears 46 = .ok (.iconst 0, 1) := by decide +kernel
theorem dX6_clears_47 : decode cX6_clears 47 = .ok (.putfield 224, 3) := by decide +kernel
theorem dX6_clears_50 : decode cX6_clears 50 = .ok (.return_, 1) := by decide +kernel
theorem dX6_clears_51 : decode cX6_clears 51 = .ok (.aload_n 0, 1) := by decide +kernel
theorem dX6_clears_52 : decode cX6_clears 52 = .ok (.aload_n 0, 1) := by decide +kernel
theorem dX6_clears_53 : decode cX6_clears 53 = .ok (.getfield 62, 3) := by decide +kernel
theorem dX6_clears_56 : decode cX6_clears 56 = .ok (.iload 5, 2) := by decide +kernel
theorem dX6_clears_58 : decode cX6_clears 58 = .ok (.laload, 1) := by decide +kernel
theorem dX6_clears_59 : decode cX6_clears 59 = .ok (.aload_n 0, 1) := by decide +kernel
theorem dX6_clears_60 : decode cX6_clears 60 = .ok (.getfield 65, 3) := by decide +kernel
theorem dX6_clears_63 : decode cX6_clears 63 = .ok (.iload 5, 2) := by decide +kernel
theorem dX6_clears_65 : decode cX6_clears 65 = .ok (.laload, 1) := by decide +kernel
theorem dX6_clears_66 : decode cX6_clears 66 = .ok (.aload_n 0, 1) := by decide +kernel
theorem dX6_clears_67 : decode cX6_clears 67 = .ok (.getfield 65, 3) := by decide +kernel
theorem dX6_clears_70 : decode cX6_clears 70 = .ok (.iload 6, 2) := by decide +kernel
theorem dX6_clears_72 : decode cX6_clears 72 = .ok (.laload, 1) := by decide +kernel
theorem dX6_clears_73 : decode cX6_clears 73 = .ok (.aload_n 0, 1) := by decide +kernel
theorem dX6_clears_74 : decode cX6_clears 74 = .ok (.getfield 62, 3) := by decide +kernel
theorem dX6_clears_77 : decode cX6_clears 77 = .ok (.iload 6, 2) := by decide +kernel
theorem dX6_clears_79 : decode cX6_clears 79 = .ok (.laload, 1) := by decide +kernel
theorem dX6_clears_80 : decode cX6_clears 80 = .ok (.invokevirtual 231, 3) := by decide +kernel
theorem dX6_clears_83 : decode cX6_clears 83 = .ok (.aload_n 0, 1) := by decide +kernel
theorem dX6_clears_84 : decode cX6_clears 84 = .ok (.getfield 210, 3) := by decide +kernel
theorem dX6_clears_87 : decode cX6_clears 87 = .ok (.lstore 7, 2) := by decide +kernel
theorem dX6_clears_89 : decode cX6_clears 89 = .ok (.aload_n 0, 1) := by decide +kernel
theorem dX6_clears_90 : decode cX6_clears 90 = .ok (.getfield 214, 3) := by decide +kernel
theorem dX6_clears_93 : decode cX6_clears 93 = .ok (.lstore 9, 2) := by decide +kernel
theorem dX6_clears_95 : decode cX6_clears 95 = .ok (.aload_n 0, 1) := by decide +kernel
theorem dX6_clears_96 : decode cX6_clears 96 = .ok (.iload 4, 2) := by decide +kernel
theorem dX6_clears_98 : decode cX6_clears 98 = .ok (.ifCond .eq 7, 3) := by decide +kernel
theorem dX6_clears_101 : decode cX6_clears 101 = .ok (.iconst 0, 1) := by decide +kernel
theorem dX6_clears_102 : decode cX6_clears 102 = .ok (.goto 4, 3) := by decide +kernel
theorem dX6_clears_105 : decode cX6_clears 105 = .ok (.iconst 1, 1) := by decide +kernel
theorem dX6_clears_106 : decode cX6_clears 106 = .ok (.iload_n 2, 1) := by decide +kernel
theorem dX6_clears_107 : decode cX6_clears 107 = .ok (.iconst 1, 1) := by decide +kernel
theorem dX6_clears_108 : decode cX6_clears 108 = .ok (.isub, 1) := by decide +kernel
theorem dX6_clears_109 : decode cX6_clears 109 = .ok (.lload 7, 2) := by decide +kernel
theorem dX6_clears_111 : decode cX6_clears 111 = .ok (.lload 9, 2) := by decide +kernel
theorem dX6_clears_113 : decode cX6_clears 113 = .ok (.invokevirtual 235, 3) := by decide +kernel
theorem dX6_clears_116 : decode cX6_clears 116 = .ok (.iconst 0, 1) := by decide +kernel
theorem dX6_clears_117 : decode cX6_clears 117 = .ok (.istore 11, 2) := by decide +kernel
theorem dX6_clears_119 : decode cX6_clears 119 = .ok (.iload 11, 2) := by decide +kernel
theorem dX6_clears_121 : decode cX6_clears 121 = .ok (.iload_n 1, 1) := by decide +kernel
theorem dX6_clears_122 : decode cX6_clears 122 = .ok (.if_icmp .ge 145, 3) := by decide +kernel
theorem dX6_clears_125 : decode cX6_clears 125 = .ok (.iload_n 2, 1) := by decide +kernel
theorem dX6_clears_126 : decode cX6_clears 126 = .ok (.iload 11, 2) := by decide +kernel
theorem dX6_clears_128 : decode cX6_clears 128 = .ok (.iload 4, 2) := by decide +kernel
theorem dX6_clears_130 : decode cX6_clears 130 = .ok (.invokestatic 227, 3) := by decide +kernel
theorem dX6_clears_133 : decode cX6_clears 133 = .ok (.istore 12, 2) := by decide +kernel
theorem dX6_clears_135 : decode cX6_clears 135 = .ok (.iload_n 2, 1) := by decide +kernel
theorem dX6_clears_136 : decode cX6_clears 136 = .ok (.iconst 1, 1) := by decide +kernel
theorem dX6_clears_137 : decode cX6_clears 137 = .ok (.isub, 1) := by decide +kernel
theorem dX6_clears_138 : decode cX6_clears 138 = .ok (.iload 11, 2) := by decide +kernel
theorem dX6_clears_140 : decode cX6_clears 140 = .ok (.iload 4, 2) := by decide +kernel
theorem dX6_clears_142 : decode cX6_clears 142 = .ok (.invokestatic 227, 3) := by decide +kernel
theorem dX6_clears_145 : decode cX6_clears 145 = .ok (.istore 13, 2) := by decide +kernel
theorem dX6_clears_147 : decode cX6_clears 147 = .ok (.aload_n 0, 1) := by decide +kernel
theorem dX6_clears_148 : decode cX6_clears 148 = .ok (.lload 7, 2) := by decide +kernel
theorem dX6_clears_150 : decode cX6_clears 150 = .ok (.lload 9, 2) := by decide +kernel
theorem dX6_clears_152 : decode cX6_clears 152 = .ok (.aload_n 0, 1) := by decide +kernel
theorem dX6_clears_153 : decode cX6_clears 153 = .ok (.getfield 62, 3) := by decide +kernel
theorem dX6_clears_156 : decode cX6_clears 156 = .ok (.iload 13, 2) := by decide +kernel
theorem dX6_clears_158 : decode cX6_clears 158 = .ok (.laload, 1) := by decide +kernel
theorem dX6_clears_159 : decode cX6_clears 159 = .ok (.aload_n 0, 1) := by decide +kernel
theorem dX6_clears_160 : decode cX6_clears 160 = .ok (.getfield 65, 3) := by decide +kernel
theorem dX6_clears_163 : decode cX6_clears 163 = .ok (.iload 13, 2) := by decide +kernel
theorem dX6_clears_165 : decode cX6_clears 165 = .ok (.laload, 1) := by decide +kernel
theorem dX6_clears_166 : decode cX6_clears 166 = .ok (.invokevirtual 231, 3) := by decide +kernel
theorem dX6_clears_169 : decode cX6_clears 169 = .ok (.aload_n 0, 1) := by decide +kernel
theorem dX6_clears_170 : decode cX6_clears 170 = .ok (.getfield 65, 3) := by decide +kernel
theorem dX6_clears_173 : decode cX6_clears 173 = .ok (.iload 12, 2) := by decide +kernel
theorem dX6_clears_175 : decode cX6_clears 175 = .ok (.laload, 1) := by decide +kernel
theorem dX6_clears_176 : decode cX6_clears 176 = .ok (.aload_n 0, 1) := by decide +kernel
theorem dX6_clears_177 : decode cX6_clears 177 = .ok (.getfield 214, 3) := by decide +kernel
theorem dX6_clears_180 : decode cX6_clears 180 = .ok (.invokestatic 206, 3) := by decide +kernel
theorem dX6_clears_183 : decode cX6_clears 183 = .ok (.lstore 14, 2) := by decide +kernel
theorem dX6_clears_185 : decode cX6_clears 185 = .ok (.aload_n 0, 1) := by decide +kernel
theorem dX6_clears_186 : decode cX6_clears 186 = .ok (.getfield 62, 3) := by decide +kernel
theorem dX6_clears_189 : decode cX6_clears 189 = .ok (.iload 12, 2) := by decide +kernel
theorem dX6_clears_191 : decode cX6_clears 191 = .ok (.laload, 1) := by decide +kernel
theorem dX6_clears_192 : decode cX6_clears 192 = .ok (.aload_n 0, 1) := by decide +kernel
theorem dX6_clears_193 : decode cX6_clears 193 = .ok (.getfield 214, 3) := by decide +kernel
theorem dX6_clears_196 : decode cX6_clears 196 = .ok (.lload 14, 2) := by decide +kernel
theorem dX6_clears_198 : decode cX6_clears 198 = .ok (.ldiv, 1) := by decide +kernel
theorem dX6_clears_199 : decode cX6_clears 199 = .ok (.lmul, 1) := by decide +kernel
theorem dX6_clears_200 : decode cX6_clears 200 = .ok (.aload_n 0, 1) := by decide +kernel
theorem dX6_clears_201 : decode cX6_clears 201 = .ok (.getfield 210, 3) := by decide +kernel
theorem dX6_clears_204 : decode cX6_clears 204 = .ok (.aload_n 0, 1) := by decide +kernel
theorem dX6_clears_205 : decode cX6_clears 205 = .ok (.getfield 65, 3) := by decide +kernel
theorem dX6_clears_208 : decode cX6_clears 208 = .ok (.iload 12, 2) := by decide +kernel
theorem dX6_clears_210 : decode cX6_clears 210 = .ok (.laload, 1) := by decide +kernel
theorem dX6_clears_211 : decode cX6_clears 211 = .ok (.lload 14, 2) := by decide +kernel
theorem dX6_clears_213 : decode cX6_clears 213 = .ok (.ldiv, 1) := by decide +kernel
theorem dX6_clears_214 : decode cX6_clears 214 = .ok (.lmul, 1) := by decide +kernel
theorem dX6_clears_215 : decode cX6_clears 215 = .ok (.lsub, 1) := by decide +kernel
theorem dX6_clears_216 : decode cX6_clears 216 = .ok (.lstore 16, 2) := by decide +kernel
theorem dX6_clears_218 : decode cX6_clears 218 = .ok (.aload_n 0, 1) := by decide +kernel
theorem dX6_clears_219 : decode cX6_clears 219 = .ok (.lload 16, 2) := by decide +kernel
theorem dX6_clears_221 : decode cX6_clears 221 = .ok (.aload_n 0, 1) := by decide +kernel
theorem dX6_clears_222 : decode cX6_clears 222 = .ok (.getfield 65, 3) := by decide +kernel
theorem dX6_clears_225 : decode cX6_clears 225 = .ok (.iload 12, 2) := by decide +kernel
theorem dX6_clears_227 : decode cX6_clears 227 = .ok (.laload, 1) := by decide +kernel
theorem dX6_clears_228 : decode cX6_clears 228 = .ok (.lload 14, 2) := by decide +kernel
theorem dX6_clears_230 : decode cX6_clears 230 = .ok (.ldiv, 1) := by decide +kernel
theorem dX6_clears_231 : decode cX6_clears 231 = .ok (.aload_n 0, 1) := by decide +kernel
theorem dX6_clears_232 : decode cX6_clears 232 = .ok (.getfield 214, 3) := by decide +kernel
theorem dX6_clears_235 : decode cX6_clears 235 = .ok (.lmul, 1) := by decide +kernel
theorem dX6_clears_236 : decode cX6_clears 236 = .ok (.invokevirtual 217, 3) := by decide +kernel
theorem dX6_clears_239 : decode cX6_clears 239 = .ok (.aload_n 0, 1) := by decide +kernel
theorem dX6_clears_240 : decode cX6_clears 240 = .ok (.getfield 62, 3) := by decide +kernel
theorem dX6_clears_243 : decode cX6_clears 243 = .ok (.iload 12, 2) := by decide +kernel
theorem dX6_clears_245 : decode cX6_clears 245 = .ok (.aload_n 0, 1) := by decide +kernel
theorem dX6_clears_246 : decode cX6_clears 246 = .ok (.getfield 210, 3) := by decide +kernel
theorem dX6_clears_249 : decode cX6_clears 249 = .ok (.lastore, 1) := by decide +kernel
theorem dX6_clears_250 : decode cX6_clears 250 = .ok (.aload_n 0, 1) := by decide +kernel
theorem dX6_clears_251 : decode cX6_clears 251 = .ok (.getfield 65, 3) := by decide +kernel
theorem dX6_clears_254 : decode cX6_clears 254 = .ok (.iload 12, 2) := by decide +kernel
theorem dX6_clears_256 : decode cX6_clears 256 = .ok (.aload_n 0, 1) := by decide +kernel
theorem dX6_clears_257 : decode cX6_clears 257 = .ok (.getfield 214, 3) := by decide +kernel
theorem dX6_clears_260 : decode cX6_clears 260 = .ok (.lastore, 1) := by decide +kernel
theorem dX6_clears_261 : decode cX6_clears 261 = .ok (.iinc 11 1, 3) := by decide +kernel
theorem dX6_clears_264 : decode cX6_clears 264 = .ok (.goto (-145), 3) := by decide +kernel
theorem dX6_clears_267 : decode cX6_clears 267 = .ok (.return_, 1) := by decide +kernel
theorem dX6_make_0 : decode cX6_make 0 = .ok (.aload_n 0, 1) := by decide +kernel
theorem dX6_make_1 : decode cX6_make 1 = .ok (.iload_n 1, 1) := by decide +kernel
theorem dX6_make_2 : decode cX6_make 2 = .ok (.invokevirtual 98, 3) := by decide +kernel
theorem dX6_make_5 : decode cX6_make 5 = .ok (.ifCond .ne 10, 3) := by decide +kernel
theorem dX6_make_8 : decode cX6_make 8 = .ok (.aload_n 0, 1) := by decide +kernel
theorem dX6_make_9 : decode cX6_make 9 = .ok (.bipush (-3), 2) := by decide +kernel
theorem dX6_make_11 : decode cX6_make 11 = .ok (.invokevirtual 80, 3) := by decide +kernel
theorem dX6_make_14 : decode cX6_make 14 = .ok (.ireturn, 1) := by decide +kernel
theorem dX6_make_15 : decode cX6_make 15 = .ok (.aload_n 0, 1) := by decide +kernel
theorem dX6_make_16 : decode cX6_make 16 = .ok (.getfield 13, 3) := by decide +kernel
theorem dX6_make_19 : decode cX6_make 19 = .ok (.iload_n 1, 1) := by decide +kernel
theorem dX6_make_20 : decode cX6_make 20 = .ok (.iaload, 1) := by decide +kernel
theorem dX6_make_21 : decode cX6_make 21 = .ok (.istore_n 2, 1) := by decide +kernel
theorem dX6_make_22 : decode cX6_make 22 = .ok (.iload_n 2, 1) := by decide +kernel
theorem dX6_make_23 : decode cX6_make 23 = .ok (.aload_n 0, 1) := by decide +kernel
theorem dX6_make_24 : decode cX6_make 24 = .ok (.getfield 16, 3) := by decide +kernel
theorem dX6_make_27 : decode cX6_make 27 = .ok (.iload_n 1, 1) := by decide +kernel
theorem dX6_make_28 : decode cX6_make 28 = .ok (.iaload, 1) := by decide +kernel
theorem dX6_make_29 : decode cX6_make 29 = .ok (.if_icmp .ne 8, 3) := by decide +kernel
theorem dX6_make_32 : decode cX6_make 32 = .ok (.iload_n 2, 1) := by decide +kernel
theorem dX6_make_33 : decode cX6_make 33 = .ok (.iconst 3, 1) := by decide +kernel
theorem dX6_make_34 : decode cX6_make 34 = .ok (.if_icmp .le 10, 3) := by decide +kernel
theorem dX6_make_37 : decode cX6_make 37 = .ok (.aload_n 0, 1) := by decide +kernel
theorem dX6_make_38 : decode cX6_make 38 = .ok (.bipush (-7), 2) := by decide +kernel
theorem dX6_make_40 : decode cX6_make 40 = .ok (.invokevirtual 80, 3) := by decide +kernel
theorem dX6_make_43 : decode cX6_make 43 = .ok (.ireturn, 1) := by decide +kernel
theorem dX6_make_44 : decode cX6_make 44 = .ok (.aload_n 0, 1) := by decide +kernel
theorem dX6_make_45 : decode cX6_make 45 = .ok (.iconst 0, 1) := by decide +kernel
theorem dX6_make_46 : decode cX6_make 46 = .ok (.putfield 221, 3) := by decide +kernel
theorem dX6_make_49 : decode cX6_make 49 = .ok (.aload_n 0, 1) := by decide +kernel
theorem dX6_make_50 : decode cX6_make 50 = .ok (.iconst 1, 1) := by decide +kernel
theorem dX6_make_51 : decode cX6_make 51 = .ok (.putfield 224, 3) := by decide +kernel
theorem dX6_make_54 : decode cX6_make 54 = .ok (.iconst 0, 1) := by decide +kernel
theorem dX6_make_55 : decode cX6_make 55 = .ok (.istore_n 3, 1) := by decide +kernel
theorem dX6_make_56 : decode cX6_make 56 = .ok (.iload_n 3, 1) := by decide +kernel
theorem dX6_make_57 : decode cX6_make 57 = .ok (.iload_n 2, 1) := by decide +kernel
theorem dX6_make_58 : decode cX6_make 58 = .ok (.if_icmp .ge 60, 3) := by decide +kernel
theorem dX6_make_61 : decode cX6_make 61 = .ok (.iconst 0, 1) := by decide +kernel
theorem dX6_make_62 : decode cX6_make 62 = .ok (.istore 4, 2) := by decide +kernel
theorem dX6_make_64 : decode cX6_make 64 = .ok (.iload 4, 2) := by decide +kernel
theorem dX6_make_66 : decode cX6_make 66 = .ok (.iload_n 2, 1) := by decide +kernel
theorem dX6_make_67 : decode cX6_make 67 = .ok (.if_icmp .ge 45, 3) := by decide +kernel
theorem dX6_make_70 : decode cX6_make 70 = .ok (.aload_n 0, 1) := by decide +kernel
theorem dX6_make_71 : decode cX6_make 71 = .ok (.getfield 62, 3) := by decide +kernel
theorem dX6_make_74 : decode cX6_make 74 = .ok (.iconst 3, 1) := by decide +kernel
theorem dX6_make_75 : decode cX6_make 75 = .ok (.iload_n 3, 1) := by decide +kernel
theorem dX6_make_76 : decode cX6_make 76 = .ok (.imul, 1) := by decide +kernel
theorem dX6_make_77 : decode cX6_make 77 = .ok (.iload 4, 2) := by decide +kernel
theorem dX6_make_79 : decode cX6_make 79 = .ok (.iadd, 1) := by decide +kernel
theorem dX6_make_80 : decode cX6_make 80 = .ok (.aload_n 0, 1) := by decide +kernel
theorem dX6_make_81 : decode cX6_make 81 = .ok (.getfield 7, 3) := by decide +kernel
theorem dX6_make_84 : decode cX6_make 84 = .ok (.iload_n 1, 1) := by decide +kernel
theorem dX6_make_85 : decode cX6_make 85 = .ok (.iload_n 3, 1) := by decide +kernel
theorem dX6_make_86 : decode cX6_make 86 = .ok (.iload 4, 2) := by decide +kernel
theorem dX6_make_88 : decode cX6_make 88 = .ok (.invokestatic 113, 3) := by decide +kernel
theorem dX6_make_91 : decode cX6_make 91 = .ok (.iaload, 1) := by decide +kernel
theorem dX6_make_92 : decode cX6_make 92 = .ok (.i2l, 1) := by decide +kernel
theorem dX6_make_93 : decode cX6_make 93 = .ok (.lastore, 1) := by decide +kernel
theorem dX6_make_94 : decode cX6_make 94 = .ok (.aload_n 0, 1) := by decide +kernel
theorem dX6_make_95 : decode cX6_make 95 = .ok (.getfield 65, 3) := by decide +kernel
theorem dX6_make_98 : decode cX6_make 98 = .ok (.iconst 3, 1) := by decide +kernel
theorem dX6_make_99 : decode cX6_make 99 = .ok (.iload_n 3, 1) := by decide +kernel
theorem dX6_make_100 : decode cX6_make 100 = .ok (.imul, 1) := by decide +kernel
theorem dX6_make_101 : decode cX6_make 101 = .ok (.iload 4, 2) := by decide +kernel
theorem dX6_make_103 : decode cX6_make 103 = .ok (.iadd, 1) := by decide +kernel
theorem dX6_make_104 : decode cX6_make 104 = .ok (.lconst 1, 1) := by decide +kernel
theorem dX6_make_105 : decode cX6_make 105 = .ok (.lastore, 1) := by decide +kernel
theorem dX6_make_106 : decode cX6_make 106 = .ok (.iinc 4 1, 3) := by decide +kernel
theorem dX6_make_109 : decode cX6_make 109 = .ok (.goto (-45), 3) := by decide +kernel
theorem dX6_make_112 : decode cX6_make 112 = .ok (.iinc 3 1, 3) := by decide +kernel
theorem dX6_make_115 : decode cX6_make 115 = .ok (.goto (-59), 3) := by decide +kernel
theorem dX6_make_118 : decode cX6_make 118 = .ok (.iconst 0, 1) := by decide +kernel
theorem dX6_make_119 : decode cX6_make 119 = .ok (.istore_n 3, 1) := by decide +kernel
theorem dX6_make_120 : decode cX6_make 120 = .ok (.iload_n 3, 1) := by decide +kernel
theorem dX6_make_121 : decode cX6_make 121 = .ok (.iconst 2, 1) := by decide +kernel
theorem dX6_make_122 : decode cX6_make 122 = .ok (.if_icmp .ge 68, 3) := by decide +kernel
theorem dX6_make_125 : decode cX6_make 125 = .ok (.iconst 0, 1) := by decide +kernel
theorem dX6_make_126 : decode cX6_make 126 = .ok (.istore 4, 2) := by decide +kernel
theorem dX6_make_128 : decode cX6_make 128 = .ok (.iload 4, 2) := by decide +kernel
theorem dX6_make_130 : decode cX6_make 130 = .ok (.iload_n 2, 1) := by decide +kernel
theorem dX6_make_131 : decode cX6_make 131 = .ok (.if_icmp .ge 53, 3) := by decide +kernel
theorem dX6_make_134 : decode cX6_make 134 = .ok (.iload_n 2, 1) := by decide +kernel
theorem dX6_make_135 : decode cX6_make 135 = .ok (.iconst 1, 1) := by decide +kernel
theorem dX6_make_136 : decode cX6_make 136 = .ok (.isub, 1) := by decide +kernel
theorem dX6_make_137 : decode cX6_make 137 = .ok (.istore 5, 2) := by decide +kernel
theorem dX6_make_139 : decode cX6_make 139 = .ok (.iload 5, 2) := by decide +kernel
theorem dX6_make_141 : decode cX6_make 141 = .ok (.iload 4, 2) := by decide +kernel
theorem dX6_make_143 : decode cX6_make 143 = .ok (.if_icmp .le 35, 3) := by decide +kernel
theorem dX6_make_146 : decode cX6_make 146 = .ok (.aload_n 0, 1) := by decide +kernel
theorem dX6_make_147 : decode cX6_make 147 = .ok (.getfield 224, 3) := by decide +kernel
theorem dX6_make_150 : decode cX6_make 150 = .ok (.ifCond .eq 28, 3) := by decide +kernel
theorem dX6_make_153 : decode cX6_make 153 = .ok (.aload_n 0, 1) := by decide +kernel
theorem dX6_make_154 : decode cX6_make 154 = .ok (.iload_n 2, 1) := by decide +kernel
theorem dX6_make_155 : decode cX6_make 155 = .ok (.iload 5, 2) := by decide +kernel
theorem dX6_make_157 : decode cX6_make 157 = .ok (.iload 4, 2) := by decide +kernel
theorem dX6_make_159 : decode cX6_make 159 = .ok (.iload_n 3, 1) := by decide +kernel
theorem dX6_make_160 : decode cX6_make 160 = .ok (.iconst 1, 1) := by decide +kernel
theorem dX6_make_161 : decode cX6_make 161 = .ok (.if_icmp .ne 7, 3) := by decide +kernel
theorem dX6_make_164 : decode cX6_make 164 = .ok (.iconst 1, 1) := by decide +kernel
theorem dX6_make_165 : decode cX6_make 165 = .ok (.goto 4, 3) := by decide +kernel
theorem dX6_make_168 : decode cX6_make 168 = .ok (.iconst 0, 1) := by decide +kernel
theorem dX6_make_169 : decode cX6_make 169 = .ok (.invokevirtual 238, 3) := by decide +kernel
theorem dX6_make_172 : decode cX6_make 172 = .ok (.iinc 5 (-1), 3) := by decide +kernel
theorem dX6_make_175 : decode cX6_make 175 = .ok (.goto (-36), 3) := by decide +kernel
theorem dX6_make_178 : decode cX6_make 178 = .ok (.iinc 4 1, 3) := by decide +kernel
theorem dX6_make_181 : decode cX6_make 181 = .ok (.goto (-53), 3) := by decide +kernel
theorem dX6_make_184 : decode cX6_make 184 = .ok (.iinc 3 1, 3) := by decide +kernel
theorem dX6_make_187 : decode cX6_make 187 = .ok (.goto (-67), 3) := by decide +kernel
theorem dX6_make_190 : decode cX6_make 190 = .ok (.iconst 0, 1) := by decide +kernel
theorem dX6_make_191 : decode cX6_make 191 = .ok (.istore_n 3, 1) := by decide +kernel
theorem dX6_make_192 : decode cX6_make 192 = .ok (.iload_n 3, 1) := by decide +kernel
theorem dX6_make_193 : decode cX6_make 193 = .ok (.iload_n 2, 1) := by decide +kernel
theorem dX6_make_194 : decode cX6_make 194 = .ok (.if_icmp .ge 38, 3) := by decide +kernel
theorem dX6_make_197 : decode cX6_make 197 = .ok (.aload_n 0, 1) := by decide +kernel
theorem dX6_make_198 : decode cX6_make 198 = .ok (.getfield 224, 3) := by decide +kernel
theorem dX6_make_201 : decode cX6_make 201 = .ok (.ifCond .eq 31, 3) := by decide +kernel
theorem dX6_make_204 : decode cX6_make 204 = .ok (.aload_n 0, 1) := by decide +kernel
theorem dX6_make_205 : decode cX6_make 205 = .ok (.iconst 2, 1) := by decide +kernel
theorem dX6_make_206 : decode cX6_make 206 = .ok (.iload_n 3, 1) := by decide +kernel
theorem dX6_make_207 : decode cX6_make 207 = .ok (.aload_n 0, 1) := by decide +kernel
theorem dX6_make_208 : decode cX6_make 208 = .ok (.getfield 62, 3) := by decide +kernel
theorem dX6_make_211 : decode cX6_make 211 = .ok (.iconst 4, 1) := by decide +kernel
theorem dX6_make_212 : decode cX6_make 212 = .ok (.iload_n 3, 1) := by decide +kernel
theorem dX6_make_213 : decode cX6_make 213 = .ok (.imul, 1) := by decide +kernel
theorem dX6_make_214 : decode cX6_make 214 = .ok (.laload, 1) := by decide +kernel
theorem dX6_make_215 : decode cX6_make 215 = .ok (.aload_n 0, 1) := by decide +kernel
theorem dX6_make_216 : decode cX6_make 216 = .ok (.getfield 65, 3) := by decide +kernel
theorem dX6_make_219 : decode cX6_make 219 = .ok (.iconst 4, 1) := by decide +kernel
theorem dX6_make_220 : decode cX6_make 220 = .ok (.iload_n 3, 1) := by decide +kernel
theorem dX6_make_221 : decode cX6_make 221 = .ok (.imul, 1) := by decide +kernel
theorem dX6_make_222 : decode cX6_make 222 = .ok (.laload, 1) := by decide +kernel
theorem dX6_make_223 : decode cX6_make 223 = .ok (.invokevirtual 235, 3) := by decide +kernel
theorem dX6_make_226 : decode cX6_make 226 = .ok (.iinc 3 1, 3) := by decide +kernel
theorem dX6_make_229 : decode cX6_make 229 = .ok (.goto (-37), 3) := by decide +kernel
theorem dX6_make_232 : decode cX6_make 232 = .ok (.aload_n 0, 1) := by decide +kernel
theorem dX6_make_233 : decode cX6_make 233 = .ok (.getfield 224, 3) := by decide +kernel
theorem dX6_make_236 : decode cX6_make 236 = .ok (.ifCond .ne 8, 3) := by decide +kernel
theorem dX6_make_239 : decode cX6_make 239 = .ok (.aload_n 0, 1) := by decide +kernel
theorem dX6_make_240 : decode cX6_make 240 = .ok (.iconst 0, 1) := by decide +kernel
theorem dX6_make_241 : decode cX6_make 241 = .ok (.putfield 221, 3) := by decide +kernel
theorem dX6_make_244 : decode cX6_make 244 = .ok (.aload_n 0, 1) := by decide +kernel
theorem dX6_make_245 : decode cX6_make 245 = .ok (.getfield 221, 3) := by decide +kernel
theorem dX6_make_248 : decode cX6_make 248 = .ok (.ireturn, 1) := by decide +kernel
theorem dX6_making_0 : decode cX6_making 0 = .ok (.iload_n 1, 1) := by decide +kernel
theorem dX6_making_1 : decode cX6_making 1 = .ok (.i2l, 1) := by decide +kernel
theorem dX6_making_2 : decode cX6_making 2 = .ok (.lconst 0, 1) := by decide +kernel
theorem dX6_making_3 : decode cX6_making 3 = .ok (.aload_n 0, 1) := by decide +kernel
theorem dX6_making_4 : decode cX6_making 4 = .ok (.getfield 221, 3) := by decide +kernel
theorem dX6_making_7 : decode cX6_making 7 = .ok (.iconst 1, 1) := by decide +kernel
theorem dX6_making_8 : decode cX6_making 8 = .ok (.isub, 1) := by decide +kernel
theorem dX6_making_9 : decode cX6_making 9 = .ok (.i2l, 1) := by decide +kernel
theorem dX6_making_10 : decode cX6_making 10 = .ok (.invokestatic 90, 3) := by decide +kernel
theorem dX6_making_13 : decode cX6_making 13 = .ok (.ifCond .ne 11, 3) := by decide +kernel
theorem dX6_making_16 : decode cX6_making 16 = .ok (.aload_n 0, 1) := by decide +kernel
theorem dX6_making_17 : decode cX6_making 17 = .ok (.bipush (-3), 2) := by decide +kernel
theorem dX6_making_19 : decode cX6_making 19 = .ok (.invokevirtual 106, 3) := by decide +kernel
theorem dX6_making_22 : decode cX6_making 22 = .ok (.i2l, 1) := by decide +kernel
theorem dX6_making_23 : decode cX6_making 23 = .ok (.lreturn, 1) := by decide +kernel
theorem dX6_making_24 : decode cX6_making 24 = .ok (.iload_n 2, 1) := by decide +kernel
theorem dX6_making_25 : decode cX6_making 25 = .ok (.tableswitch 61 0 3 #[31, 39, 47, 54], 31) := by decide +kernel
theorem dX6_making_56 : decode cX6_making 56 = .ok (.aload_n 0, 1) := by decide +kernel
theorem dX6_making_57 : decode cX6_making 57 = .ok (.getfield 74, 3) := by decide +kernel
theorem dX6_making_60 : decode cX6_making 60 = .ok (.iload_n 1, 1) := by decide +kernel
theorem dX6_making_61 : decode cX6_making 61 = .ok (.iaload, 1) := by decide +kernel
theorem dX6_making_62 : decode cX6_making 62 = .ok (.i2l, 1) := by decide +kernel
theorem dX6_making_63 : decode cX6_making 63 = .ok (.lreturn, 1) := by decide +kernel
theorem dX6_making_64 : decode cX6_making 64 = .ok (.aload_n 0, 1) := by decide +kernel
theorem dX6_making_65 : decode cX6_making 65 = .ok (.getfield 77, 3) := by decide +kernel
theorem dX6_making_68 : decode cX6_making 68 = .ok (.iload_n 1, 1) := by decide +kernel
theorem dX6_making_69 : decode cX6_making 69 = .ok (.iaload, 1) := by decide +kernel
theorem dX6_making_70 : decode cX6_making 70 = .ok (.i2l, 1) := by decide +kernel
theorem dX6_making_71 : decode cX6_making 71 = .ok (.lreturn, 1) := by decide +kernel
theorem dX6_making_72 : decode cX6_making 72 = .ok (.aload_n 0, 1) := by decide +kernel
theorem dX6_making_73 : decode cX6_making 73 = .ok (.getfield 68, 3) := by decide +kernel
theorem dX6_making_76 : decode cX6_making 76 = .ok (.iload_n 1, 1) := by decide +kernel
theorem dX6_making_77 : decode cX6_making 77 = .ok (.laload, 1) := by decide +kernel
theorem dX6_making_78 : decode cX6_making 78 = .ok (.lreturn, 1) := by decide +kernel
theorem dX6_making_79 : decode cX6_making 79 = .ok (.aload_n 0, 1) := by decide +kernel
theorem dX6_making_80 : decode cX6_making 80 = .ok (.getfield 71, 3) := by decide +kernel
theorem dX6_making_83 : decode cX6_making 83 = .ok (.iload_n 1, 1) := by decide +kernel
theorem dX6_making_84 : decode cX6_making 84 = .ok (.laload, 1) := by decide +kernel
theorem dX6_making_85 : decode cX6_making 85 = .ok (.lreturn, 1) := by decide +kernel
theorem dX6_making_86 : decode cX6_making 86 = .ok (.aload_n 0, 1) := by decide +kernel
theorem dX6_making_87 : decode cX6_making 87 = .ok (.bipush (-7), 2) := by decide +kernel
theorem dX6_making_89 : decode cX6_making 89 = .ok (.invokevirtual 106, 3) := by decide +kernel
theorem dX6_making_92 : decode cX6_making 92 = .ok (.i2l, 1) := by decide +kernel
theorem dX6_making_93 : decode cX6_making 93 = .ok (.lreturn, 1) := by decide +kernel
theorem dX6_lay_0 : decode cX6_lay 0 = .ok (.aload_n 0, 1) := by decide +kernel
theorem dX6_lay_1 : decode cX6_lay 1 = .ok (.iload_n 1, 1) := by decide +kernel
theorem dX6_lay_2 : decode cX6_lay 2 = .ok (.invokevirtual 98, 3) := by decide +kernel
theorem dX6_lay_5 : decode cX6_lay 5 = .ok (.ifCond .eq 21, 3) := by decide +kernel
theorem dX6_lay_8 : decode cX6_lay 8 = .ok (.iload_n 2, 1) := by decide +kernel
theorem dX6_lay_9 : decode cX6_lay 9 = .ok (.i2l, 1) := by decide +kernel
theorem dX6_lay_10 : decode cX6_lay 10 = .ok (.lconst 0, 1) := by decide +kernel
theorem dX6_lay_11 : decode cX6_lay 11 = .ok (.aload_n 0, 1) := by decide +kernel
theorem dX6_lay_12 : decode cX6_lay 12 = .ok (.getfield 13, 3) := by decide +kernel
theorem dX6_lay_15 : decode cX6_lay 15 = .ok (.iload_n 1, 1) := by decide +kernel
theorem dX6_lay_16 : decode cX6_lay 16 = .ok (.iaload, 1) := by decide +kernel
theorem dX6_lay_17 : decode cX6_lay 17 = .ok (.iconst 1, 1) := by decide +kernel
theorem dX6_lay_18 : decode cX6_lay 18 = .ok (.isub, 1) := by decide +kernel
theorem dX6_lay_19 : decode cX6_lay 19 = .ok (.i2l, 1) := by decide +kernel
theorem dX6_lay_20 : decode cX6_lay 20 = .ok (.invokestatic 90, 3) := by decide +kernel
theorem dX6_lay_23 : decode cX6_lay 23 = .ok (.ifCond .ne 10, 3) := by decide +kernel
theorem dX6_lay_26 : decode cX6_lay 26 = .ok (.aload_n 0, 1) := by decide +kernel
theorem dX6_lay_27 : decode cX6_lay 27 = .ok (.bipush (-3), 2) := by decide +kernel
theorem dX6_lay_29 : decode cX6_lay 29 = .ok (.invokevirtual 80, 3) := by decide +kernel
theorem dX6_lay_32 : decode cX6_lay 32 = .ok (.ireturn, 1) := by decide +kernel
theorem dX6_lay_33 : decode cX6_lay 33 = .ok (.aload_n 0, 1) := by decide +kernel
theorem dX6_lay_34 : decode cX6_lay 34 = .ok (.iconst 1, 1) := by decide +kernel
theorem dX6_lay_35 : decode cX6_lay 35 = .ok (.putfield 187, 3) := by decide +kernel
theorem dX6_lay_38 : decode cX6_lay 38 = .ok (.iconst 0, 1) := by decide +kernel
theorem dX6_lay_39 : decode cX6_lay 39 = .ok (.istore_n 3, 1) := by decide +kernel
theorem dX6_lay_40 : decode cX6_lay 40 = .ok (.iload_n 3, 1) := by decide +kernel
theorem dX6_lay_41 : decode cX6_lay 41 = .ok (.bipush 16, 2) := by decide +kernel
theorem dX6_lay_43 : decode cX6_lay 43 = .ok (.if_icmp .ge 40, 3) := by decide +kernel
theorem dX6_lay_46 : decode cX6_lay 46 = .ok (.aload_n 0, 1) := by decide +kernel
theorem dX6_lay_47 : decode cX6_lay 47 = .ok (.getfield 56, 3) := by decide +kernel
theorem dX6_lay_50 : decode cX6_lay 50 = .ok (.iload_n 3, 1) := by decide +kernel
theorem dX6_lay_51 : decode cX6_lay 51 = .ok (.iload_n 3, 1) := by decide +kernel
theorem dX6_lay_52 : decode cX6_lay 52 = .ok (.aload_n 0, 1) := by decide +kernel
theorem dX6_lay_53 : decode cX6_lay 53 = .ok (.getfield 16, 3) := by decide +kernel
theorem dX6_lay_56 : decode cX6_lay 56 = .ok (.iload_n 1, 1) := by decide +kernel
theorem dX6_lay_57 : decode cX6_lay 57 = .ok (.iaload, 1) := by decide +kernel
theorem dX6_lay_58 : decode cX6_lay 58 = .ok (.if_icmp .ge 17, 3) := by decide +kernel
theorem dX6_lay_61 : decode cX6_lay 61 = .ok (.aload_n 0, 1) := by decide +kernel
theorem dX6_lay_62 : decode cX6_lay 62 = .ok (.getfield 7, 3) := by decide +kernel
theorem dX6_lay_65 : decode cX6_lay 65 = .ok (.iload_n 1, 1) := by decide +kernel
theorem dX6_lay_66 : decode cX6_lay 66 = .ok (.iload_n 2, 1) := by decide +kernel
theorem dX6_lay_67 : decode cX6_lay 67 = .ok (.iload_n 3, 1) := by decide +kernel
theorem dX6_lay_68 : decode cX6_lay 68 = .ok (.invokestatic 113, 3) := by decide +kernel
theorem dX6_lay_71 : decode cX6_lay 71 = .ok (.iaload, 1) := by decide +kernel
theorem dX6_lay_72 : decode cX6_lay 72 = .ok (.goto 4, 3) := by decide +kernel
theorem dX6_lay_75 : decode cX6_lay 75 = .ok (.iconst 0, 1) := by decide +kernel
theorem dX6_lay_76 : decode cX6_lay 76 = .ok (.iastore, 1) := by decide +kernel
theorem dX6_lay_77 : decode cX6_lay 77 = .ok (.iinc 3 1, 3) := by decide +kernel
theorem dX6_lay_80 : decode cX6_lay 80 = .ok (.goto (-40), 3) := by decide +kernel
theorem dX6_lay_83 : decode cX6_lay 83 = .ok (.aload_n 0, 1) := by decide +kernel
theorem dX6_lay_84 : decode cX6_lay 84 = .ok (.getfield 16, 3) := by decide +kernel
theorem dX6_lay_87 : decode cX6_lay 87 = .ok (.iload_n 1, 1) := by decide +kernel
theorem dX6_lay_88 : decode cX6_lay 88 = .ok (.iaload, 1) := by decide +kernel
theorem dX6_lay_89 : decode cX6_lay 89 = .ok (.ireturn, 1) := by decide +kernel
theorem dX6_tear_0 : decode cX6_tear 0 = .ok (.aload_n 0, 1) := by decide +kernel
theorem dX6_tear_1 : decode cX6_tear 1 = .ok (.getfield 187, 3) := by decide +kernel
theorem dX6_tear_4 : decode cX6_tear 4 = .ok (.ifCond .eq 7, 3) := by decide +kernel
theorem dX6_tear_7 : decode cX6_tear 7 = .ok (.iconst 1, 1) := by decide +kernel
theorem dX6_tear_8 : decode cX6_tear 8 = .ok (.goto 4, 3) := by decide +kernel
theorem dX6_tear_11 : decode cX6_tear 11 = .ok (.iconst 0, 1) := by decide +kernel
theorem dX6_tear_12 : decode cX6_tear 12 = .ok (.istore_n 1, 1) := by decide +kernel
theorem dX6_tear_13 : decode cX6_tear 13 = .ok (.aload_n 0, 1) := by decide +kernel
theorem dX6_tear_14 : decode cX6_tear 14 = .ok (.iconst 0, 1) := by decide +kernel
theorem dX6_tear_15 : decode cX6_tear 15 = .ok (.putfield 187, 3) := by decide +kernel
theorem dX6_tear_18 : decode cX6_tear 18 = .ok (.iload_n 1, 1) := by decide +kernel
theorem dX6_tear_19 : decode cX6_tear 19 = .ok (.ireturn, 1) := by decide +kernel
theorem dX6_row_0 : decode cX6_row 0 = .ok (.aload_n 0, 1) := by decide +kernel
theorem dX6_row_1 : decode cX6_row 1 = .ok (.getfield 187, 3) := by decide +kernel
theorem dX6_row_4 : decode cX6_row 4 = .ok (.ifCond .ne 10, 3) := by decide +kernel
theorem dX6_row_7 : decode cX6_row 7 = .ok (.aload_n 0, 1) := by decide +kernel
theorem dX6_row_8 : decode cX6_row 8 = .ok (.bipush (-2), 2) := by decide +kernel
theorem dX6_row_10 : decode cX6_row 10 = .ok (.invokevirtual 106, 3) := by decide +kernel
theorem dX6_row_13 : decode cX6_row 13 = .ok (.ireturn, 1) := by decide +kernel
theorem dX6_row_14 : decode cX6_row 14 = .ok (.iload_n 1, 1) := by decide +kernel
theorem dX6_row_15 : decode cX6_row 15 = .ok (.i2l, 1) := by decide +kernel
theorem dX6_row_16 : decode cX6_row 16 = .ok (.lconst 0, 1) := by decide +kernel
theorem dX6_row_17 : decode cX6_row 17 = .ok (.ldc2_w 191, 3) := by decide +kernel
theorem dX6_row_20 : decode cX6_row 20 = .ok (.invokestatic 90, 3) := by decide +kernel
theorem dX6_row_23 : decode cX6_row 23 = .ok (.ifCond .eq 12, 3) := by decide +kernel
theorem dX6_row_26 : decode cX6_row 26 = .ok (.aload_n 0, 1) := by decide +kernel
theorem dX6_row_27 : decode cX6_row 27 = .ok (.getfield 56, 3) := by decide +kernel
theorem dX6_row_30 : decode cX6_row 30 = .ok (.iload_n 1, 1) := by decide +kernel
theorem dX6_row_31 : decode cX6_row 31 = .ok (.iaload, 1) := by decide +kernel
theorem dX6_row_32 : decode cX6_row 32 = .ok (.goto 9, 3) := by decide +kernel
theorem dX6_row_35 : decode cX6_row 35 = .ok (.aload_n 0, 1) := by decide +kernel
theorem dX6_row_36 : decode cX6_row 36 = .ok (.bipush (-3), 2) := by decide +kernel
theorem dX6_row_38 : decode cX6_row 38 = .ok (.invokevirtual 106, 3) := by decide +kernel
theorem dX6_row_41 : decode cX6_row 41 = .ok (.ireturn, 1) := by decide +kernel
theorem dX6_copy_0 : decode cX6_copy 0 = .ok (.aload_n 0, 1) := by decide +kernel
theorem dX6_copy_1 : decode cX6_copy 1 = .ok (.getfield 187, 3) := by decide +kernel
theorem dX6_copy_4 : decode cX6_copy 4 = .ok (.ifCond .ne 10, 3) := by decide +kernel
theorem dX6_copy_7 : decode cX6_copy 7 = .ok (.aload_n 0, 1) := by decide +kernel
theorem dX6_copy_8 : decode cX6_copy 8 = .ok (.bipush (-2), 2) := by decide +kernel
theorem dX6_copy_10 : decode cX6_copy 10 = .ok (.invokevirtual 80, 3) := by decide +kernel
theorem dX6_copy_13 : decode cX6_copy 13 = .ok (.ireturn, 1) := by decide +kernel
theorem dX6_copy_14 : decode cX6_copy 14 = .ok (.iload_n 3, 1) := by decide +kernel
theorem dX6_copy_15 : decode cX6_copy 15 = .ok (.ifCond .ge 10, 3) := by decide +kernel
theorem dX6_copy_18 : decode cX6_copy 18 = .ok (.aload_n 0, 1) := by decide +kernel
theorem dX6_copy_19 : decode cX6_copy 19 = .ok (.bipush (-4), 2) := by decide +kernel
theorem dX6_copy_21 : decode cX6_copy 21 = .ok (.invokevirtual 80, 3) := by decide +kernel
theorem dX6_copy_24 : decode cX6_copy 24 = .ok (.ireturn, 1) := by decide +kernel
theorem dX6_copy_25 : decode cX6_copy 25 = .ok (.iload_n 1, 1) := by decide +kernel
theorem dX6_copy_26 : decode cX6_copy 26 = .ok (.ifCond .lt 31, 3) := by decide +kernel
theorem dX6_copy_29 : decode cX6_copy 29 = .ok (.iload_n 2, 1) := by decide +kernel
theorem dX6_copy_30 : decode cX6_copy 30 = .ok (.ifCond .lt 27, 3) := by decide +kernel
theorem dX6_copy_33 : decode cX6_copy 33 = .ok (.iload_n 1, 1) := by decide +kernel
theorem dX6_copy_34 : decode cX6_copy 34 = .ok (.i2l, 1) := by decide +kernel
theorem dX6_copy_35 : decode cX6_copy 35 = .ok (.iload_n 3, 1) := by decide +kernel
theorem dX6_copy_36 : decode cX6_copy 36 = .ok (.i2l, 1) := by decide +kernel
theorem dX6_copy_37 : decode cX6_copy 37 = .ok (.ladd, 1) := by decide +kernel
theorem dX6_copy_38 : decode cX6_copy 38 = .ok (.ldc2_w 242, 3) := by decide +kernel
theorem dX6_copy_41 : decode cX6_copy 41 = .ok (.lcmp, 1) := by decide +kernel
theorem dX6_copy_42 : decode cX6_copy 42 = .ok (.ifCond .gt 15, 3) := by decide +kernel
theorem dX6_copy_45 : decode cX6_copy 45 = .ok (.iload_n 2, 1) := by decide +kernel
theorem dX6_copy_46 : decode cX6_copy 46 = .ok (.i2l, 1) := by decide +kernel
theorem dX6_copy_47 : decode cX6_copy 47 = .ok (.iload_n 3, 1) := by decide +kernel
theorem dX6_copy_48 : decode cX6_copy 48 = .ok (.i2l, 1) := by decide +kernel
theorem dX6_copy_49 : decode cX6_copy 49 = .ok (.ladd, 1) := by decide +kernel
theorem dX6_copy_50 : decode cX6_copy 50 = .ok (.ldc2_w 242, 3) := by decide +kernel
theorem dX6_copy_53 : decode cX6_copy 53 = .ok (.lcmp, 1) := by decide +kernel
theorem dX6_copy_54 : decode cX6_copy 54 = .ok (.ifCond .le 10, 3) := by decide +kernel
theorem dX6_copy_57 : decode cX6_copy 57 = .ok (.aload_n 0, 1) := by decide +kernel
theorem dX6_copy_58 : decode cX6_copy 58 = .ok (.bipush (-6), 2) := by decide +kernel
theorem dX6_copy_60 : decode cX6_copy 60 = .ok (.invokevirtual 80, 3) := by decide +kernel
theorem dX6_copy_63 : decode cX6_copy 63 = .ok (.ireturn, 1) := by decide +kernel
theorem dX6_copy_64 : decode cX6_copy 64 = .ok (.iconst 0, 1) := by decide +kernel
theorem dX6_copy_65 : decode cX6_copy 65 = .ok (.istore 4, 2) := by decide +kernel
theorem dX6_copy_67 : decode cX6_copy 67 = .ok (.iload 4, 2) := by decide +kernel
theorem dX6_copy_69 : decode cX6_copy 69 = .ok (.iload_n 3, 1) := by decide +kernel
theorem dX6_copy_70 : decode cX6_copy 70 = .ok (.if_icmp .ge 25, 3) := by decide +kernel
theorem dX6_copy_73 : decode cX6_copy 73 = .ok (.aload_n 0, 1) := by decide +kernel
theorem dX6_copy_74 : decode cX6_copy 74 = .ok (.getfield 59, 3) := by decide +kernel
theorem dX6_copy_77 : decode cX6_copy 77 = .ok (.iload 4, 2) := by decide +kernel
theorem dX6_copy_79 : decode cX6_copy 79 = .ok (.aload_n 0, 1) := by decide +kernel
theorem dX6_copy_80 : decode cX6_copy 80 = .ok (.getfield 56, 3) := by decide +kernel
theorem dX6_copy_83 : decode cX6_copy 83 = .ok (.iload_n 1, 1) := by decide +kernel
theorem dX6_copy_84 : decode cX6_copy 84 = .ok (.iload 4, 2) := by decide +kernel
theorem dX6_copy_86 : decode cX6_copy 86 = .ok (.iadd, 1) := by decide +kernel
theorem dX6_copy_87 : decode cX6_copy 87 = .ok (.iaload, 1) := by decide +kernel
theorem dX6_copy_88 : decode cX6_copy 88 = .ok (.iastore, 1) := by decide +kernel
theorem dX6_copy_89 : decode cX6_copy 89 = .ok (.iinc 4 1, 3) := by decide +kernel
theorem dX6_copy_92 : decode cX6_copy 92 = .ok (.goto (-25), 3) := by decide +kernel
theorem dX6_copy_95 : decode cX6_copy 95 = .ok (.iconst 0, 1) := by decide +kernel
theorem dX6_copy_96 : decode cX6_copy 96 = .ok (.istore 4, 2) := by decide +kernel
theorem dX6_copy_98 : decode cX6_copy 98 = .ok (.iload 4, 2) := by decide +kernel
theorem dX6_copy_100 : decode cX6_copy 100 = .ok (.iload_n 3, 1) := by decide +kernel
theorem dX6_copy_101 : decode cX6_copy 101 = .ok (.if_icmp .ge 25, 3) := by decide +kernel
theorem dX6_copy_104 : decode cX6_copy 104 = .ok (.aload_n 0, 1) := by decide +kernel
theorem dX6_copy_105 : decode cX6_copy 105 = .ok (.getfield 56, 3) := by decide +kernel
theorem dX6_copy_108 : decode cX6_copy 108 = .ok (.iload_n 2, 1) := by decide +kernel
theorem dX6_copy_109 : decode cX6_copy 109 = .ok (.iload 4, 2) := by decide +kernel
theorem dX6_copy_111 : decode cX6_copy 111 = .ok (.iadd, 1) := by decide +kernel
theorem dX6_copy_112 : decode cX6_copy 112 = .ok (.aload_n 0, 1) := by decide +kernel
theorem dX6_copy_113 : decode cX6_copy 113 = .ok (.getfield 59, 3) := by decide +kernel
theorem dX6_copy_116 : decode cX6_copy 116 = .ok (.iload 4, 2) := by decide +kernel
theorem dX6_copy_118 : decode cX6_copy 118 = .ok (.iaload, 1) := by decide +kernel
theorem dX6_copy_119 : decode cX6_copy 119 = .ok (.iastore, 1) := by decide +kernel
theorem dX6_copy_120 : decode cX6_copy 120 = .ok (.iinc 4 1, 3) := by decide +kernel
theorem dX6_copy_123 : decode cX6_copy 123 = .ok (.goto (-25), 3) := by decide +kernel
theorem dX6_copy_126 : decode cX6_copy 126 = .ok (.iload_n 3, 1) := by decide +kernel
theorem dX6_copy_127 : decode cX6_copy 127 = .ok (.ireturn, 1) := by decide +kernel
theorem dX6_status_0 : decode cX6_status 0 = .ok (.iload_n 1, 1) := by decide +kernel
theorem dX6_status_1 : decode cX6_status 1 = .ok (.i2l, 1) := by decide +kernel
theorem dX6_status_2 : decode cX6_status 2 = .ok (.ldc2_w 244, 3) := by decide +kernel
theorem dX6_status_5 : decode cX6_status 5 = .ok (.ldc2_w 246, 3) := by decide +kernel
theorem dX6_status_8 : decode cX6_status 8 = .ok (.invokestatic 90, 3) := by decide +kernel
theorem dX6_status_11 : decode cX6_status 11 = .ok (.ifCond .eq 13, 3) := by decide +kernel
theorem dX6_status_14 : decode cX6_status 14 = .ok (.aload_n 0, 1) := by decide +kernel
theorem dX6_status_15 : decode cX6_status 15 = .ok (.getfield 40, 3) := by decide +kernel
theorem dX6_status_18 : decode cX6_status 18 = .ok (.iload_n 1, 1) := by decide +kernel
theorem dX6_status_19 : decode cX6_status 19 = .ok (.ineg, 1) := by decide +kernel
theorem dX6_status_20 : decode cX6_status 20 = .ok (.iaload, 1) := by decide +kernel
theorem dX6_status_21 : decode cX6_status 21 = .ok (.goto 9, 3) := by decide +kernel
theorem dX6_status_24 : decode cX6_status 24 = .ok (.aload_n 0, 1) := by decide +kernel
theorem dX6_status_25 : decode cX6_status 25 = .ok (.bipush (-7), 2) := by decide +kernel
theorem dX6_status_27 : decode cX6_status 27 = .ok (.invokevirtual 80, 3) := by decide +kernel
theorem dX6_status_30 : decode cX6_status 30 = .ok (.ireturn, 1) := by decide +kernel
end
section
theorem dJ6_bitCount_0f7a4_0 : decode cJ6_bitCount_0f7a4 0 = .ok (.iload_n 0, 1) := by decide +kernel
theorem dJ6_bitCount_0f7a4_1 : decode cJ6_bitCount_0f7a4 1 = .ok (.iload_n 0, 1) := by decide +kernel
theorem dJ6_bitCount_0f7a4_2 : decode cJ6_bitCount_0f7a4 2 = .ok (.iconst 1, 1) := by decide +kernel
theorem dJ6_bitCount_0f7a4_3 : decode cJ6_bitCount_0f7a4 3 = .ok (.iushr, 1) := by decide +kernel
theorem dJ6_bitCount_0f7a4_4 : decode cJ6_bitCount_0f7a4 4 = .ok (.ldc_w 265, 3) := by decide +kernel
theorem dJ6_bitCount_0f7a4_7 : decode cJ6_bitCount_0f7a4 7 = .ok (.iand, 1) := by decide +kernel
theorem dJ6_bitCount_0f7a4_8 : decode cJ6_bitCount_0f7a4 8 = .ok (.isub, 1) := by decide +kernel
theorem dJ6_bitCount_0f7a4_9 : decode cJ6_bitCount_0f7a4 9 = .ok (.istore_n 0, 1) := by decide +kernel
theorem dJ6_bitCount_0f7a4_10 : decode cJ6_bitCount_0f7a4 10 = .ok (.iload_n 0, 1) := by decide +kernel
theorem dJ6_bitCount_0f7a4_11 : decode cJ6_bitCount_0f7a4 11 = .ok (.ldc_w 266, 3) := by decide +kernel
theorem dJ6_bitCount_0f7a4_14 : decode cJ6_bitCount_0f7a4 14 = .ok (.iand, 1) := by decide +kernel
theorem dJ6_bitCount_0f7a4_15 : decode cJ6_bitCount_0f7a4 15 = .ok (.iload_n 0, 1) := by decide +kernel
theorem dJ6_bitCount_0f7a4_16 : decode cJ6_bitCount_0f7a4 16 = .ok (.iconst 2, 1) := by decide +kernel
theorem dJ6_bitCount_0f7a4_17 : decode cJ6_bitCount_0f7a4 17 = .ok (.iushr, 1) := by decide +kernel
theorem dJ6_bitCount_0f7a4_18 : decode cJ6_bitCount_0f7a4 18 = .ok (.ldc_w 266, 3) := by decide +kernel
theorem dJ6_bitCount_0f7a4_21 : decode cJ6_bitCount_0f7a4 21 = .ok (.iand, 1) := by decide +kernel
theorem dJ6_bitCount_0f7a4_22 : decode cJ6_bitCount_0f7a4 22 = .ok (.iadd, 1) := by decide +kernel
theorem dJ6_bitCount_0f7a4_23 : decode cJ6_bitCount_0f7a4 23 = .ok (.istore_n 0, 1) := by decide +kernel
theorem dJ6_bitCount_0f7a4_24 : decode cJ6_bitCount_0f7a4 24 = .ok (.iload_n 0, 1) := by decide +kernel
theorem dJ6_bitCount_0f7a4_25 : decode cJ6_bitCount_0f7a4 25 = .ok (.iload_n 0, 1) := by decide +kernel
theorem dJ6_bitCount_0f7a4_26 : decode cJ6_bitCount_0f7a4 26 = .ok (.iconst 4, 1) := by decide +kernel
theorem dJ6_bitCount_0f7a4_27 : decode cJ6_bitCount_0f7a4 27 = .ok (.iushr, 1) := by decide +kernel
theorem dJ6_bitCount_0f7a4_28 : decode cJ6_bitCount_0f7a4 28 = .ok (.iadd, 1) := by decide +kernel
theorem dJ6_bitCount_0f7a4_29 : decode cJ6_bitCount_0f7a4 29 = .ok (.ldc_w 267, 3) := by decide +kernel
theorem dJ6_bitCount_0f7a4_32 : decode cJ6_bitCount_0f7a4 32 = .ok (.iand, 1) := by decide +kernel
theorem dJ6_bitCount_0f7a4_33 : decode cJ6_bitCount_0f7a4 33 = .ok (.istore_n 0, 1) := by decide +kernel
theorem dJ6_bitCount_0f7a4_34 : decode cJ6_bitCount_0f7a4 34 = .ok (.iload_n 0, 1) := by decide +kernel
theorem dJ6_bitCount_0f7a4_35 : decode cJ6_bitCount_0f7a4 35 = .ok (.iload_n 0, 1) := by decide +kernel
theorem dJ6_bitCount_0f7a4_36 : decode cJ6_bitCount_0f7a4 36 = .ok (.bipush 8, 2) := by decide +kernel
theorem dJ6_bitCount_0f7a4_38 : decode cJ6_bitCount_0f7a4 38 = .ok (.iushr, 1) := by decide +kernel
theorem dJ6_bitCount_0f7a4_39 : decode cJ6_bitCount_0f7a4 39 = .ok (.iadd, 1) := by decide +kernel
theorem dJ6_bitCount_0f7a4_40 : decode cJ6_bitCount_0f7a4 40 = .ok (.istore_n 0, 1) := by decide +kernel
theorem dJ6_bitCount_0f7a4_41 : decode cJ6_bitCount_0f7a4 41 = .ok (.iload_n 0, 1) := by decide +kernel
theorem dJ6_bitCount_0f7a4_42 : decode cJ6_bitCount_0f7a4 42 = .ok (.iload_n 0, 1) := by decide +kernel
theorem dJ6_bitCount_0f7a4_43 : decode cJ6_bitCount_0f7a4 43 = .ok (.bipush 16, 2) := by decide +kernel
theorem dJ6_bitCount_0f7a4_45 : decode cJ6_bitCount_0f7a4 45 = .ok (.iushr, 1) := by decide +kernel
theorem dJ6_bitCount_0f7a4_46 : decode cJ6_bitCount_0f7a4 46 = .ok (.iadd, 1) := by decide +kernel
theorem dJ6_bitCount_0f7a4_47 : decode cJ6_bitCount_0f7a4 47 = .ok (.istore_n 0, 1) := by decide +kernel
theorem dJ6_bitCount_0f7a4_48 : decode cJ6_bitCount_0f7a4 48 = .ok (.iload_n 0, 1) := by decide +kernel
theorem dJ6_bitCount_0f7a4_49 : decode cJ6_bitCount_0f7a4 49 = .ok (.bipush 63, 2) := by decide +kernel
theorem dJ6_bitCount_0f7a4_51 : decode cJ6_bitCount_0f7a4 51 = .ok (.iand, 1) := by decide +kernel
theorem dJ6_bitCount_0f7a4_52 : decode cJ6_bitCount_0f7a4 52 = .ok (.ireturn, 1) := by decide +kernel
theorem dJ9_abs_067f4_0 : decode cJ9_abs_067f4 0 = .ok (.lload_n 0, 1) := by decide +kernel
theorem dJ9_abs_067f4_1 : decode cJ9_abs_067f4 1 = .ok (.lconst 0, 1) := by decide +kernel
theorem dJ9_abs_067f4_2 : decode cJ9_abs_067f4 2 = .ok (.lcmp, 1) := by decide +kernel
theorem dJ9_abs_067f4_3 : decode cJ9_abs_067f4 3 = .ok (.ifCond .ge 8, 3) := by decide +kernel
theorem dJ9_abs_067f4_6 : decode cJ9_abs_067f4 6 = .ok (.lload_n 0, 1) := by decide +kernel
theorem dJ9_abs_067f4_7 : decode cJ9_abs_067f4 7 = .ok (.lneg, 1) := by decide +kernel
theorem dJ9_abs_067f4_8 : decode cJ9_abs_067f4 8 = .ok (.goto 4, 3) := by decide +kernel
theorem dJ9_abs_067f4_11 : decode cJ9_abs_067f4 11 = .ok (.lload_n 0, 1) := by decide +kernel
theorem dJ9_abs_067f4_12 : decode cJ9_abs_067f4 12 = .ok (.lreturn, 1) := by decide +kernel
theorem dJ9_max_f86c9_0 : decode cJ9_max_f86c9 0 = .ok (.lload_n 0, 1) := by decide +kernel
theorem dJ9_max_f86c9_1 : decode cJ9_max_f86c9 1 = .ok (.lload_n 2, 1) := by decide +kernel
theorem dJ9_max_f86c9_2 : decode cJ9_max_f86c9 2 = .ok (.lcmp, 1) := by decide +kernel
theorem dJ9_max_f86c9_3 : decode cJ9_max_f86c9 3 = .ok (.ifCond .lt 7, 3) := by decide +kernel
theorem dJ9_max_f86c9_6 : decode cJ9_max_f86c9 6 = .ok (.lload_n 0, 1) := by decide +kernel
theorem dJ9_max_f86c9_7 : decode cJ9_max_f86c9 7 = .ok (.goto 4, 3) := by decide +kernel
theorem dJ9_max_f86c9_10 : decode cJ9_max_f86c9 10 = .ok (.lload_n 2, 1) := by decide +kernel
theorem dJ9_max_f86c9_11 : decode cJ9_max_f86c9 11 = .ok (.lreturn, 1) := by decide +kernel
theorem dJ9_min_7cf53_0 : decode cJ9_min_7cf53 0 = .ok (.iload_n 0, 1) := by decide +kernel
theorem dJ9_min_7cf53_1 : decode cJ9_min_7cf53 1 = .ok (.iload_n 1, 1) := by decide +kernel
theorem dJ9_min_7cf53_2 : decode cJ9_min_7cf53 2 = .ok (.if_icmp .gt 7, 3) := by decide +kernel
theorem dJ9_min_7cf53_5 : decode cJ9_min_7cf53 5 = .ok (.iload_n 0, 1) := by decide +kernel
theorem dJ9_min_7cf53_6 : decode cJ9_min_7cf53 6 = .ok (.goto 4, 3) := by decide +kernel
theorem dJ9_min_7cf53_9 : decode cJ9_min_7cf53 9 = .ok (.iload_n 1, 1) := by decide +kernel
theorem dJ9_min_7cf53_10 : decode cJ9_min_7cf53 10 = .ok (.ireturn, 1) := by decide +kernel
theorem dJ7_fill_53178_0 : decode cJ7_fill_53178 0 = .ok (.iconst 0, 1) := by decide +kernel
theorem dJ7_fill_53178_1 : decode cJ7_fill_53178 1 = .ok (.istore_n 2, 1) := by decide +kernel
theorem dJ7_fill_53178_2 : decode cJ7_fill_53178 2 = .ok (.aload_n 0, 1) := by decide +kernel
theorem dJ7_fill_53178_3 : decode cJ7_fill_53178 3 = .ok (.arraylength, 1) := by decide +kernel
theorem dJ7_fill_53178_4 : decode cJ7_fill_53178 4 = .ok (.istore_n 3, 1) := by decide +kernel
theorem dJ7_fill_53178_5 : decode cJ7_fill_53178 5 = .ok (.iload_n 2, 1) := by decide +kernel
theorem dJ7_fill_53178_6 : decode cJ7_fill_53178 6 = .ok (.iload_n 3, 1) := by decide +kernel
theorem dJ7_fill_53178_7 : decode cJ7_fill_53178 7 = .ok (.if_icmp .ge 13, 3) := by decide +kernel
theorem dJ7_fill_53178_10 : decode cJ7_fill_53178 10 = .ok (.aload_n 0, 1) := by decide +kernel
theorem dJ7_fill_53178_11 : decode cJ7_fill_53178 11 = .ok (.iload_n 2, 1) := by decide +kernel
theorem dJ7_fill_53178_12 : decode cJ7_fill_53178 12 = .ok (.iload_n 1, 1) := by decide +kernel
theorem dJ7_fill_53178_13 : decode cJ7_fill_53178 13 = .ok (.iastore, 1) := by decide +kernel
theorem dJ7_fill_53178_14 : decode cJ7_fill_53178 14 = .ok (.iinc 2 1, 3) := by decide +kernel
theorem dJ7_fill_53178_17 : decode cJ7_fill_53178 17 = .ok (.goto (-12), 3) := by decide +kernel
theorem dJ7_fill_53178_20 : decode cJ7_fill_53178 20 = .ok (.return_, 1) := by decide +kernel
theorem dL_law_0 : decode cL_law 0 = .ok (.new 7, 3) := by decide +kernel
theorem dL_law_3 : decode cL_law 3 = .ok (.dup, 1) := by decide +kernel
theorem dL_law_4 : decode cL_law 4 = .ok (.invokespecial 9, 3) := by decide +kernel
theorem dL_law_7 : decode cL_law 7 = .ok (.astore_n 1, 1) := by decide +kernel
theorem dL_law_8 : decode cL_law 8 = .ok (.new 10, 3) := by decide +kernel
theorem dL_law_11 : decode cL_law 11 = .ok (.dup, 1) := by decide +kernel
theorem dL_law_12 : decode cL_law 12 = .ok (.invokespecial 12, 3) := by decide +kernel
theorem dL_law_15 : decode cL_law 15 = .ok (.astore_n 2, 1) := by decide +kernel
theorem dL_law_16 : decode cL_law 16 = .ok (.iconst 0, 1) := by decide +kernel
theorem dL_law_17 : decode cL_law 17 = .ok (.istore_n 3, 1) := by decide +kernel
theorem dL_law_18 : decode cL_law 18 = .ok (.iload_n 3, 1) := by decide +kernel
theorem dL_law_19 : decode cL_law 19 = .ok (.aload_n 0, 1) := by decide +kernel
theorem dL_law_20 : decode cL_law 20 = .ok (.arraylength, 1) := by decide +kernel
theorem dL_law_21 : decode cL_law 21 = .ok (.iconst 5, 1) := by decide +kernel
theorem dL_law_22 : decode cL_law 22 = .ok (.isub, 1) := by decide +kernel
theorem dL_law_23 : decode cL_law 23 = .ok (.if_icmp .gt 1187, 3) := by decide +kernel
theorem dL_law_26 : decode cL_law 26 = .ok (.aload_n 0, 1) := by decide +kernel
theorem dL_law_27 : decode cL_law 27 = .ok (.iload_n 3, 1) := by decide +kernel
theorem dL_law_28 : decode cL_law 28 = .ok (.iaload, 1) := by decide +kernel
theorem dL_law_29 : decode cL_law 29 = .ok (.bipush 31, 2) := by decide +kernel
theorem dL_law_31 : decode cL_law 31 = .ok (.iand, 1) := by decide +kernel
theorem dL_law_32 : decode cL_law 32 = .ok (.tableswitch 1172 0 30 #[140, 173, 226, 269, 302, 315, 359, 408, 441, 474, 507, 550, 583, 616, 639, 692, 715, 738, 781, 825, 878, 891, 924, 947, 980, 1003, 1037, 1070, 1083, 1106, 1149], 140) := by decide +kernel
theorem dL_law_172 : decode cL_law 172 = .ok (.aload_n 1, 1) := by decide +kernel
theorem dL_law_173 : decode cL_law 173 = .ok (.aload_n 0, 1) := by decide +kernel
theorem dL_law_174 : decode cL_law 174 = .ok (.iload_n 3, 1) := by decide +kernel
theorem dL_law_175 : decode cL_law 175 = .ok (.iconst 1, 1) := by decide +kernel
theorem dL_law_176 : decode cL_law 176 = .ok (.iadd, 1) := by decide +kernel
theorem dL_law_177 : decode cL_law 177 = .ok (.iaload, 1) := by decide +kernel
theorem dL_law_178 : decode cL_law 178 = .ok (.aload_n 0, 1) := by decide +kernel
theorem dL_law_179 : decode cL_law 179 = .ok (.iload_n 3, 1) := by decide +kernel
theorem dL_law_180 : decode cL_law 180 = .ok (.iconst 2, 1) := by decide +kernel
theorem dL_law_181 : decode cL_law 181 = .ok (.iadd, 1) := by decide +kernel
theorem dL_law_182 : decode cL_law 182 = .ok (.iaload, 1) := by decide +kernel
theorem dL_law_183 : decode cL_law 183 = .ok (.invokevirtual 13, 3) := by decide +kernel
theorem dL_law_186 : decode cL_law 186 = .ok (.aload_n 2, 1) := by decide +kernel
theorem dL_law_187 : decode cL_law 187 = .ok (.aload_n 0, 1) := by decide +kernel
theorem dL_law_188 : decode cL_law 188 = .ok (.iload_n 3, 1) := by decide +kernel
theorem dL_law_189 : decode cL_law 189 = .ok (.iconst 1, 1) := by decide +kernel
theorem dL_law_190 : decode cL_law 190 = .ok (.iadd, 1) := by decide +kernel
theorem dL_law_191 : decode cL_law 191 = .ok (.iaload, 1) := by decide +kernel
theorem dL_law_192 : decode cL_law 192 = .ok (.aload_n 0, 1) := by decide +kernel
theorem dL_law_193 : decode cL_law 193 = .ok (.iload_n 3, 1) := by decide +kernel
theorem dL_law_194 : decode cL_law 194 = .ok (.iconst 2, 1) := by decide +kernel
theorem dL_law_195 : decode cL_law 195 = .ok (.iadd, 1) := by decide +kernel
theorem dL_law_196 : decode cL_law 196 = .ok (.iaload, 1) := by decide +kernel
theorem dL_law_197 : decode cL_law 197 = .ok (.invokevirtual 17, 3) := by decide +kernel
theorem dL_law_200 : decode cL_law 200 = .ok (.if_icmp .eq 1004, 3) := by decide +kernel
theorem dL_law_203 : decode cL_law 203 = .ok (.iconst 0, 1) := by decide +kernel
theorem dL_law_204 : decode cL_law 204 = .ok (.ireturn, 1) := by decide +kernel
theorem dL_law_205 : decode cL_law 205 = .ok (.aload_n 1, 1) := by decide +kernel
theorem dL_law_206 : decode cL_law 206 = .ok (.aload_n 0, 1) := by decide +kernel
theorem dL_law_207 : decode cL_law 207 = .ok (.iload_n 3, 1) := by decide +kernel
theorem dL_law_208 : decode cL_law 208 = .ok (.iconst 1, 1) := by decide +kernel
theorem dL_law_209 : decode cL_law 209 = .ok (.iadd, 1) := by decide +kernel
theorem dL_law_210 : decode cL_law 210 = .ok (.iaload, 1) := by decide +kernel
theorem dL_law_211 : decode cL_law 211 = .ok (.aload_n 0, 1) := by decide +kernel
theorem dL_law_212 : decode cL_law 212 = .ok (.iload_n 3, 1) := by decide +kernel
theorem dL_law_213 : decode cL_law 213 = .ok (.iconst 2, 1) := by decide +kernel
theorem dL_law_214 : decode cL_law 214 = .ok (.iadd, 1) := by decide +kernel
theorem dL_law_215 : decode cL_law 215 = .ok (.iaload, 1) := by decide +kernel
theorem dL_law_216 : decode cL_law 216 = .ok (.aload_n 0, 1) := by decide +kernel
theorem dL_law_217 : decode cL_law 217 = .ok (.iload_n 3, 1) := by decide +kernel
theorem dL_law_218 : decode cL_law 218 = .ok (.iconst 3, 1) := by decide +kernel
theorem dL_law_219 : decode cL_law 219 = .ok (.iadd, 1) := by decide +kernel
theorem dL_law_220 : decode cL_law 220 = .ok (.iaload, 1) := by decide +kernel
theorem dL_law_221 : decode cL_law 221 = .ok (.aload_n 0, 1) := by decide +kernel
theorem dL_law_222 : decode cL_law 222 = .ok (.iload_n 3, 1) := by decide +kernel
theorem dL_law_223 : decode cL_law 223 = .ok (.iconst 4, 1) := by decide +kernel
theorem dL_law_224 : decode cL_law 224 = .ok (.iadd, 1) := by decide +kernel
theorem dL_law_225 : decode cL_law 225 = .ok (.iaload, 1) := by decide +kernel
theorem dL_law_226 : decode cL_law 226 = .ok (.invokevirtual 18, 3) := by decide +kernel
theorem dL_law_229 : decode cL_law 229 = .ok (.aload_n 2, 1) := by decide +kernel
theorem dL_law_230 : decode cL_law 230 = .ok (.aload_n 0, 1) := by decide +kernel
theorem dL_law_231 : decode cL_law 231 = .ok (.iload_n 3, 1) := by decide +kernel
theorem dL_law_232 : decode cL_law 232 = .ok (.iconst 1, 1) := by decide +kernel
theorem dL_law_233 : decode cL_law 233 = .ok (.iadd, 1) := by decide +kernel
theorem dL_law_234 : decode cL_law 234 = .ok (.iaload, 1) := by decide +kernel
theorem dL_law_235 : decode cL_law 235 = .ok (.aload_n 0, 1) := by decide +kernel
theorem dL_law_236 : decode cL_law 236 = .ok (.iload_n 3, 1) := by decide +kernel
theorem dL_law_237 : decode cL_law 237 = .ok (.iconst 2, 1) := by decide +kernel
theorem dL_law_238 : decode cL_law 238 = .ok (.iadd, 1) := by decide +kernel
theorem dL_law_239 : decode cL_law 239 = .ok (.iaload, 1) := by decide +kernel
theorem dL_law_240 : decode cL_law 240 = .ok (.aload_n 0, 1) := by decide +kernel
theorem dL_law_241 : decode cL_law 241 = .ok (.iload_n 3, 1) := by decide +kernel
theorem dL_law_242 : decode cL_law 242 = .ok (.iconst 3, 1) := by decide +kernel
theorem dL_law_243 : decode cL_law 243 = .ok (.iadd, 1) := by decide +kernel
theorem dL_law_244 : decode cL_law 244 = .ok (.iaload, 1) := by decide +kernel
theorem dL_law_245 : decode cL_law 245 = .ok (.aload_n 0, 1) := by decide +kernel
theorem dL_law_246 : decode cL_law 246 = .ok (.iload_n 3, 1) := by decide +kernel
theorem dL_law_247 : decode cL_law 247 = .ok (.iconst 4, 1) := by decide +kernel
theorem dL_law_248 : decode cL_law 248 = .ok (.iadd, 1) := by decide +kernel
theorem dL_law_249 : decode cL_law 249 = .ok (.iaload, 1) := by decide +kernel
theorem dL_law_250 : decode cL_law 250 = .ok (.invokevirtual 22, 3) := by decide +kernel
theorem dL_law_253 : decode cL_law 253 = .ok (.if_icmp .eq 951, 3) := by decide +kernel
theorem dL_law_256 : decode cL_law 256 = .ok (.iconst 0, 1) := by decide +kernel
theorem dL_law_257 : decode cL_law 257 = .ok (.ireturn, 1) := by decide +kernel
theorem dL_law_258 : decode cL_law 258 = .ok (.aload_n 1, 1) := by decide +kernel
theorem dL_law_259 : decode cL_law 259 = .ok (.aload_n 0, 1) := by decide +kernel
theorem dL_law_260 : decode cL_law 260 = .ok (.iload_n 3, 1) := by decide +kernel
theorem dL_law_261 : decode cL_law 261 = .ok (.iconst 1, 1) := by decide +kernel
theorem dL_law_262 : decode cL_law 262 = .ok (.iadd, 1) := by decide +kernel
theorem dL_law_263 : decode cL_law 263 = .ok (.iaload, 1) := by decide +kernel
theorem dL_law_264 : decode cL_law 264 = .ok (.aload_n 0, 1) := by decide +kernel
theorem dL_law_265 : decode cL_law 265 = .ok (.iload_n 3, 1) := by decide +kernel
theorem dL_law_266 : decode cL_law 266 = .ok (.iconst 2, 1) := by decide +kernel
theorem dL_law_267 : decode cL_law 267 = .ok (.iadd, 1) := by decide +kernel
theorem dL_law_268 : decode cL_law 268 = .ok (.iaload, 1) := by decide +kernel
theorem dL_law_269 : decode cL_law 269 = .ok (.aload_n 0, 1) := by decide +kernel
theorem dL_law_270 : decode cL_law 270 = .ok (.iload_n 3, 1) := by decide +kernel
theorem dL_law_271 : decode cL_law 271 = .ok (.iconst 3, 1) := by decide +kernel
theorem dL_law_272 : decode cL_law 272 = .ok (.iadd, 1) := by decide +kernel
theorem dL_law_273 : decode cL_law 273 = .ok (.iaload, 1) := by decide +kernel
theorem dL_law_274 : decode cL_law 274 = .ok (.invokevirtual 23, 3) := by decide +kernel
theorem dL_law_277 : decode cL_law 277 = .ok (.aload_n 2, 1) := by decide +kernel
theorem dL_law_278 : decode cL_law 278 = .ok (.aload_n 0, 1) := by decide +kernel
theorem dL_law_279 : decode cL_law 279 = .ok (.iload_n 3, 1) := by decide +kernel
theorem dL_law_280 : decode cL_law 280 = .ok (.iconst 1, 1) := by decide +kernel
theorem dL_law_281 : decode cL_law 281 = .ok (.iadd, 1) := by decide +kernel
theorem dL_law_282 : decode cL_law 282 = .ok (.iaload, 1) := by decide +kernel
theorem dL_law_283 : decode cL_law 283 = .ok (.aload_n 0, 1) := by decide +kernel
theorem dL_law_284 : decode cL_law 284 = .ok (.iload_n 3, 1) := by decide +kernel
theorem dL_law_285 : decode cL_law 285 = .ok (.iconst 2, 1) := by decide +kernel
theorem dL_law_286 : decode cL_law 286 = .ok (.iadd, 1) := by decide +kernel
theorem dL_law_287 : decode cL_law 287 = .ok (.iaload, 1) := by decide +kernel
theorem dL_law_288 : decode cL_law 288 = .ok (.aload_n 0, 1) := by decide +kernel
theorem dL_law_289 : decode cL_law 289 = .ok (.iload_n 3, 1) := by decide +kernel
theorem dL_law_290 : decode cL_law 290 = .ok (.iconst 3, 1) := by decide +kernel
theorem dL_law_291 : decode cL_law 291 = .ok (.iadd, 1) := by decide +kernel
theorem dL_law_292 : decode cL_law 292 = .ok (.iaload, 1) := by decide +kernel
theorem dL_law_293 : decode cL_law 293 = .ok (.invokevirtual 27, 3) := by decide +kernel
theorem dL_law_296 : decode cL_law 296 = .ok (.if_icmp .eq 908, 3) := by decide +kernel
theorem dL_law_299 : decode cL_law 299 = .ok (.iconst 0, 1) := by decide +kernel
theorem dL_law_300 : decode cL_law 300 = .ok (.ireturn, 1) := by decide +kernel
theorem dL_law_301 : decode cL_law 301 = .ok (.aload_n 1, 1) := by decide +kernel
theorem dL_law_302 : decode cL_law 302 = .ok (.aload_n 0, 1) := by decide +kernel
theorem dL_law_303 : decode cL_law 303 = .ok (.iload_n 3, 1) := by decide +kernel
theorem dL_law_304 : decode cL_law 304 = .ok (.iconst 1, 1) := by decide +kernel
theorem dL_law_305 : decode cL_law 305 = .ok (.iadd, 1) := by decide +kernel
theorem dL_law_306 : decode cL_law 306 = .ok (.iaload, 1) := by decide +kernel
theorem dL_law_307 : decode cL_law 307 = .ok (.aload_n 0, 1) := by decide +kernel
theorem dL_law_308 : decode cL_law 308 = .ok (.iload_n 3, 1) := by decide +kernel
theorem dL_law_309 : decode cL_law 309 = .ok (.iconst 2, 1) := by decide +kernel
theorem dL_law_310 : decode cL_law 310 = .ok (.iadd, 1) := by decide +kernel
theorem dL_law_311 : decode cL_law 311 = .ok (.iaload, 1) := by decide +kernel
theorem dL_law_312 : decode cL_law 312 = .ok (.invokevirtual 28, 3) := by decide +kernel
theorem dL_law_315 : decode cL_law 315 = .ok (.aload_n 2, 1) := by decide +kernel
theorem dL_law_316 : decode cL_law 316 = .ok (.aload_n 0, 1) := by decide +kernel
theorem dL_law_317 : decode cL_law 317 = .ok (.iload_n 3, 1) := by decide +kernel
theorem dL_law_318 : decode cL_law 318 = .ok (.iconst 1, 1) := by decide +kernel
theorem dL_law_319 : decode cL_law 319 = .ok (.iadd, 1) := by decide +kernel
theorem dL_law_320 : decode cL_law 320 = .ok (.iaload, 1) := by decide +kernel
theorem dL_law_321 : decode cL_law 321 = .ok (.aload_n 0, 1) := by decide +kernel
theorem dL_law_322 : decode cL_law 322 = .ok (.iload_n 3, 1) := by decide +kernel
theorem dL_law_323 : decode cL_law 323 = .ok (.iconst 2, 1) := by decide +kernel
theorem dL_law_324 : decode cL_law 324 = .ok (.iadd, 1) := by decide +kernel
theorem dL_law_325 : decode cL_law 325 = .ok (.iaload, 1) := by decide +kernel
theorem dL_law_326 : decode cL_law 326 = .ok (.invokevirtual 31, 3) := by decide +kernel
theorem dL_law_329 : decode cL_law 329 = .ok (.if_icmp .eq 875, 3) := by decide +kernel
theorem dL_law_332 : decode cL_law 332 = .ok (.iconst 0, 1) := by decide +kernel
theorem dL_law_333 : decode cL_law 333 = .ok (.ireturn, 1) := by decide +kernel
theorem dL_law_334 : decode cL_law 334 = .ok (.aload_n 1, 1) := by decide +kernel
theorem dL_law_335 : decode cL_law 335 = .ok (.invokevirtual 32, 3) := by decide +kernel
theorem dL_law_338 : decode cL_law 338 = .ok (.aload_n 2, 1) := by decide +kernel
theorem dL_law_339 : decode cL_law 339 = .ok (.invokevirtual 36, 3) := by decide +kernel
theorem dL_law_342 : decode cL_law 342 = .ok (.if_icmp .eq 862, 3) := by decide +kernel
theorem dL_law_345 : decode cL_law 345 = .ok (.iconst 0, 1) := by decide +kernel
theorem dL_law_346 : decode cL_law 346 = .ok (.ireturn, 1) := by decide +kernel
theorem dL_law_347 : decode cL_law 347 = .ok (.aload_n 1, 1) := by decide +kernel
theorem dL_law_348 : decode cL_law 348 = .ok (.aload_n 0, 1) := by decide +kernel
theorem dL_law_349 : decode cL_law 349 = .ok (.iload_n 3, 1) := by decide +kernel
theorem dL_law_350 : decode cL_law 350 = .ok (.iconst 1, 1) := by decide +kernel
theorem dL_law_351 : decode cL_law 351 = .ok (.iadd, 1) := by decide +kernel
theorem dL_law_352 : decode cL_law 352 = .ok (.iaload, 1) := by decide +kernel
theorem dL_law_353 : decode cL_law 353 = .ok (.aload_n 0, 1) := by decide +kernel
theorem dL_law_354 : decode cL_law 354 = .ok (.iload_n 3, 1) := by decide +kernel
theorem dL_law_355 : decode cL_law 355 = .ok (.iconst 2, 1) := by decide +kernel
theorem dL_law_356 : decode cL_law 356 = .ok (.iadd, 1) := by decide +kernel
theorem dL_law_357 : decode cL_law 357 = .ok (.iaload, 1) := by decide +kernel
theorem dL_law_358 : decode cL_law 358 = .ok (.aload_n 0, 1) := by decide +kernel
theorem dL_law_359 : decode cL_law 359 = .ok (.iload_n 3, 1) := by decide +kernel
theorem dL_law_360 : decode cL_law 360 = .ok (.iconst 3, 1) := by decide +kernel
theorem dL_law_361 : decode cL_law 361 = .ok (.iadd, 1) := by decide +kernel
theorem dL_law_362 : decode cL_law 362 = .ok (.iaload, 1) := by decide +kernel
theorem dL_law_363 : decode cL_law 363 = .ok (.invokevirtual 37, 3) := by decide +kernel
theorem dL_law_366 : decode cL_law 366 = .ok (.aload_n 2, 1) := by decide +kernel
theorem dL_law_367 : decode cL_law 367 = .ok (.aload_n 0, 1) := by decide +kernel
theorem dL_law_368 : decode cL_law 368 = .ok (.iload_n 3, 1) := by decide +kernel
theorem dL_law_369 : decode cL_law 369 = .ok (.iconst 1, 1) := by decide +kernel
theorem dL_law_370 : decode cL_law 370 = .ok (.iadd, 1) := by decide +kernel
theorem dL_law_371 : decode cL_law 371 = .ok (.iaload, 1) := by decide +kernel
theorem dL_law_372 : decode cL_law 372 = .ok (.aload_n 0, 1) := by decide +kernel
theorem dL_law_373 : decode cL_law 373 = .ok (.iload_n 3, 1) := by decide +kernel
theorem dL_law_374 : decode cL_law 374 = .ok (.iconst 2, 1) := by decide +kernel
theorem dL_law_375 : decode cL_law 375 = .ok (.iadd, 1) := by decide +kernel
theorem dL_law_376 : decode cL_law 376 = .ok (.iaload, 1) := by decide +kernel
theorem dL_law_377 : decode cL_law 377 = .ok (.aload_n 0, 1) := by decide +kernel
theorem dL_law_378 : decode cL_law 378 = .ok (.iload_n 3, 1) := by decide +kernel
theorem dL_law_379 : decode cL_law 379 = .ok (.iconst 3, 1) := by decide +kernel
theorem dL_law_380 : decode cL_law 380 = .ok (.iadd, 1) := by decide +kernel
theorem dL_law_381 : decode cL_law 381 = .ok (.iaload, 1) := by decide +kernel
theorem dL_law_382 : decode cL_law 382 = .ok (.invokevirtual 41, 3) := by decide +kernel
theorem dL_law_385 : decode cL_law 385 = .ok (.lcmp, 1) := by decide +kernel
theorem dL_law_386 : decode cL_law 386 = .ok (.ifCond .eq 818, 3) := by decide +kernel
theorem dL_law_389 : decode cL_law 389 = .ok (.iconst 0, 1) := by decide +kernel
theorem dL_law_390 : decode cL_law 390 = .ok (.ireturn, 1) := by decide +kernel
theorem dL_law_391 : decode cL_law 391 = .ok (.aload_n 1, 1) := by decide +kernel
theorem dL_law_392 : decode cL_law 392 = .ok (.aload_n 0, 1) := by decide +kernel
theorem dL_law_393 : decode cL_law 393 = .ok (.iload_n 3, 1) := by decide +kernel
theorem dL_law_394 : decode cL_law 394 = .ok (.iconst 1, 1) := by decide +kernel
theorem dL_law_395 : decode cL_law 395 = .ok (.iadd, 1) := by decide +kernel
theorem dL_law_396 : decode cL_law 396 = .ok (.iaload, 1) := by decide +kernel
theorem dL_law_397 : decode cL_law 397 = .ok (.aload_n 0, 1) := by decide +kernel
theorem dL_law_398 : decode cL_law 398 = .ok (.iload_n 3, 1) := by decide +kernel
theorem dL_law_399 : decode cL_law 399 = .ok (.iconst 2, 1) := by decide +kernel
theorem dL_law_400 : decode cL_law 400 = .ok (.iadd, 1) := by decide +kernel
theorem dL_law_401 : decode cL_law 401 = .ok (.iaload, 1) := by decide +kernel
theorem dL_law_402 : decode cL_law 402 = .ok (.ifCond .eq 7, 3) := by decide +kernel
theorem dL_law_405 : decode cL_law 405 = .ok (.iconst 1, 1) := by decide +kernel
theorem dL_law_406 : decode cL_law 406 = .ok (.goto 4, 3) := by decide +kernel
theorem dL_law_409 : decode cL_law 409 = .ok (.iconst 0, 1) := by decide +kernel
theorem dL_law_410 : decode cL_law 410 = .ok (.invokevirtual 42, 3) := by decide +kernel
theorem dL_law_413 : decode cL_law 413 = .ok (.aload_n 2, 1) := by decide +kernel
theorem dL_law_414 : decode cL_law 414 = .ok (.aload_n 0, 1) := by decide +kernel
theorem dL_law_415 : decode cL_law 415 = .ok (.iload_n 3, 1) := by decide +kernel
theorem dL_law_416 : decode cL_law 416 = .ok (.iconst 1, 1) := by decide +kernel
theorem dL_law_417 : decode cL_law 417 = .ok (.iadd, 1) := by decide +kernel
theorem dL_law_418 : decode cL_law 418 = .ok (.iaload, 1) := by decide +kernel
theorem dL_law_419 : decode cL_law 419 = .ok (.aload_n 0, 1) := by decide +kernel
theorem dL_law_420 : decode cL_law 420 = .ok (.iload_n 3, 1) := by decide +kernel
theorem dL_law_421 : decode cL_law 421 = .ok (.iconst 2, 1) := by decide +kernel
theorem dL_law_422 : decode cL_law 422 = .ok (.iadd, 1) := by decide +kernel
theorem dL_law_423 : decode cL_law 423 = .ok (.iaload, 1) := by decide +kernel
theorem dL_law_424 : decode cL_law 424 = .ok (.ifCond .eq 7, 3) := by decide +kernel
theorem dL_law_427 : decode cL_law 427 = .ok (.iconst 1, 1) := by decide +kernel
theorem dL_law_428 : decode cL_law 428 = .ok (.goto 4, 3) := by decide +kernel
theorem dL_law_431 : decode cL_law 431 = .ok (.iconst 0, 1) := by decide +kernel
theorem dL_law_432 : decode cL_law 432 = .ok (.invokevirtual 46, 3) := by decide +kernel
theorem dL_law_435 : decode cL_law 435 = .ok (.if_icmp .eq 769, 3) := by decide +kernel
theorem dL_law_438 : decode cL_law 438 = .ok (.iconst 0, 1) := by decide +kernel
theorem dL_law_439 : decode cL_law 439 = .ok (.ireturn, 1) := by decide +kernel
theorem dL_law_440 : decode cL_law 440 = .ok (.aload_n 1, 1) := by decide +kernel
theorem dL_law_441 : decode cL_law 441 = .ok (.aload_n 0, 1) := by decide +kernel
theorem dL_law_442 : decode cL_law 442 = .ok (.iload_n 3, 1) := by decide +kernel
theorem dL_law_443 : decode cL_law 443 = .ok (.iconst 1, 1) := by decide +kernel
theorem dL_law_444 : decode cL_law 444 = .ok (.iadd, 1) := by decide +kernel
theorem dL_law_445 : decode cL_law 445 = .ok (.iaload, 1) := by decide +kernel
theorem dL_law_446 : decode cL_law 446 = .ok (.aload_n 0, 1) := by decide +kernel
theorem dL_law_447 : decode cL_law 447 = .ok (.iload_n 3, 1) := by decide +kernel
theorem dL_law_448 : decode cL_law 448 = .ok (.iconst 2, 1) := by decide +kernel
theorem dL_law_449 : decode cL_law 449 = .ok (.iadd, 1) := by decide +kernel
theorem dL_law_450 : decode cL_law 450 = .ok (.iaload, 1) := by decide +kernel
theorem dL_law_451 : decode cL_law 451 = .ok (.invokevirtual 47, 3) := by decide +kernel
theorem dL_law_454 : decode cL_law 454 = .ok (.aload_n 2, 1) := by decide +kernel
theorem dL_law_455 : decode cL_law 455 = .ok (.aload_n 0, 1) := by decide +kernel
theorem dL_law_456 : decode cL_law 456 = .ok (.iload_n 3, 1) := by decide +kernel
theorem dL_law_457 : decode cL_law 457 = .ok (.iconst 1, 1) := by decide +kernel
theorem dL_law_458 : decode cL_law 458 = .ok (.iadd, 1) := by decide +kernel
theorem dL_law_459 : decode cL_law 459 = .ok (.iaload, 1) := by decide +kernel
theorem dL_law_460 : decode cL_law 460 = .ok (.aload_n 0, 1) := by decide +kernel
theorem dL_law_461 : decode cL_law 461 = .ok (.iload_n 3, 1) := by decide +kernel
theorem dL_law_462 : decode cL_law 462 = .ok (.iconst 2, 1) := by decide +kernel
theorem dL_law_463 : decode cL_law 463 = .ok (.iadd, 1) := by decide +kernel
theorem dL_law_464 : decode cL_law 464 = .ok (.iaload, 1) := by decide +kernel
theorem dL_law_465 : decode cL_law 465 = .ok (.invokevirtual 50, 3) := by decide +kernel
theorem dL_law_468 : decode cL_law 468 = .ok (.if_icmp .eq 736, 3) := by decide +kernel
theorem dL_law_471 : decode cL_law 471 = .ok (.iconst 0, 1) := by decide +kernel
theorem dL_law_472 : decode cL_law 472 = .ok (.ireturn, 1) := by decide +kernel
theorem dL_law_473 : decode cL_law 473 = .ok (.aload_n 1, 1) := by decide +kernel
theorem dL_law_474 : decode cL_law 474 = .ok (.aload_n 0, 1) := by decide +kernel
theorem dL_law_475 : decode cL_law 475 = .ok (.iload_n 3, 1) := by decide +kernel
theorem dL_law_476 : decode cL_law 476 = .ok (.iconst 1, 1) := by decide +kernel
theorem dL_law_477 : decode cL_law 477 = .ok (.iadd, 1) := by decide +kernel
theorem dL_law_478 : decode cL_law 478 = .ok (.iaload, 1) := by decide +kernel
theorem dL_law_479 : decode cL_law 479 = .ok (.aload_n 0, 1) := by decide +kernel
theorem dL_law_480 : decode cL_law 480 = .ok (.iload_n 3, 1) := by decide +kernel
theorem dL_law_481 : decode cL_law 481 = .ok (.iconst 2, 1) := by decide +kernel
theorem dL_law_482 : decode cL_law 482 = .ok (.iadd, 1) := by decide +kernel
theorem dL_law_483 : decode cL_law 483 = .ok (.iaload, 1) := by decide +kernel
theorem dL_law_484 : decode cL_law 484 = .ok (.invokevirtual 51, 3) := by decide +kernel
theorem dL_law_487 : decode cL_law 487 = .ok (.aload_n 2, 1) := by decide +kernel
theorem dL_law_488 : decode cL_law 488 = .ok (.aload_n 0, 1) := by decide +kernel
theorem dL_law_489 : decode cL_law 489 = .ok (.iload_n 3, 1) := by decide +kernel
theorem dL_law_490 : decode cL_law 490 = .ok (.iconst 1, 1) := by decide +kernel
theorem dL_law_491 : decode cL_law 491 = .ok (.iadd, 1) := by decide +kernel
theorem dL_law_492 : decode cL_law 492 = .ok (.iaload, 1) := by decide +kernel
theorem dL_law_493 : decode cL_law 493 = .ok (.aload_n 0, 1) := by decide +kernel
theorem dL_law_494 : decode cL_law 494 = .ok (.iload_n 3, 1) := by decide +kernel
theorem dL_law_495 : decode cL_law 495 = .ok (.iconst 2, 1) := by decide +kernel
theorem dL_law_496 : decode cL_law 496 = .ok (.iadd, 1) := by decide +kernel
theorem dL_law_497 : decode cL_law 497 = .ok (.iaload, 1) := by decide +kernel
theorem dL_law_498 : decode cL_law 498 = .ok (.invokevirtual 54, 3) := by decide +kernel
theorem dL_law_501 : decode cL_law 501 = .ok (.if_icmp .eq 703, 3) := by decide +kernel
theorem dL_law_504 : decode cL_law 504 = .ok (.iconst 0, 1) := by decide +kernel
theorem dL_law_505 : decode cL_law 505 = .ok (.ireturn, 1) := by decide +kernel
theorem dL_law_506 : decode cL_law 506 = .ok (.aload_n 1, 1) := by decide +kernel
theorem dL_law_507 : decode cL_law 507 = .ok (.aload_n 0, 1) := by decide +kernel
theorem dL_law_508 : decode cL_law 508 = .ok (.iload_n 3, 1) := by decide +kernel
theorem dL_law_509 : decode cL_law 509 = .ok (.iconst 1, 1) := by decide +kernel
theorem dL_law_510 : decode cL_law 510 = .ok (.iadd, 1) := by decide +kernel
theorem dL_law_511 : decode cL_law 511 = .ok (.iaload, 1) := by decide +kernel
theorem dL_law_512 : decode cL_law 512 = .ok (.aload_n 0, 1) := by decide +kernel
theorem dL_law_513 : decode cL_law 513 = .ok (.iload_n 3, 1) := by decide +kernel
theorem dL_law_514 : decode cL_law 514 = .ok (.iconst 2, 1) := by decide +kernel
theorem dL_law_515 : decode cL_law 515 = .ok (.iadd, 1) := by decide +kernel
theorem dL_law_516 : decode cL_law 516 = .ok (.iaload, 1) := by decide +kernel
theorem dL_law_517 : decode cL_law 517 = .ok (.invokevirtual 55, 3) := by decide +kernel
theorem dL_law_520 : decode cL_law 520 = .ok (.aload_n 2, 1) := by decide +kernel
theorem dL_law_521 : decode cL_law 521 = .ok (.aload_n 0, 1) := by decide +kernel
theorem dL_law_522 : decode cL_law 522 = .ok (.iload_n 3, 1) := by decide +kernel
theorem dL_law_523 : decode cL_law 523 = .ok (.iconst 1, 1) := by decide +kernel
theorem dL_law_524 : decode cL_law 524 = .ok (.iadd, 1) := by decide +kernel
theorem dL_law_525 : decode cL_law 525 = .ok (.iaload, 1) := by decide +kernel
theorem dL_law_526 : decode cL_law 526 = .ok (.aload_n 0, 1) := by decide +kernel
theorem dL_law_527 : decode cL_law 527 = .ok (.iload_n 3, 1) := by decide +kernel
theorem dL_law_528 : decode cL_law 528 = .ok (.iconst 2, 1) := by decide +kernel
theorem dL_law_529 : decode cL_law 529 = .ok (.iadd, 1) := by decide +kernel
theorem dL_law_530 : decode cL_law 530 = .ok (.iaload, 1) := by decide +kernel
theorem dL_law_531 : decode cL_law 531 = .ok (.invokevirtual 58, 3) := by decide +kernel
theorem dL_law_534 : decode cL_law 534 = .ok (.if_icmp .eq 670, 3) := by decide +kernel
theorem dL_law_537 : decode cL_law 537 = .ok (.iconst 0, 1) := by decide +kernel
theorem dL_law_538 : decode cL_law 538 = .ok (.ireturn, 1) := by decide +kernel
theorem dL_law_539 : decode cL_law 539 = .ok (.aload_n 1, 1) := by decide +kernel
theorem dL_law_540 : decode cL_law 540 = .ok (.aload_n 0, 1) := by decide +kernel
theorem dL_law_541 : decode cL_law 541 = .ok (.iload_n 3, 1) := by decide +kernel
theorem dL_law_542 : decode cL_law 542 = .ok (.iconst 1, 1) := by decide +kernel
theorem dL_law_543 : decode cL_law 543 = .ok (.iadd, 1) := by decide +kernel
theorem dL_law_544 : decode cL_law 544 = .ok (.iaload, 1) := by decide +kernel
theorem dL_law_545 : decode cL_law 545 = .ok (.aload_n 0, 1) := by decide +kernel
theorem dL_law_546 : decode cL_law 546 = .ok (.iload_n 3, 1) := by decide +kernel
theorem dL_law_547 : decode cL_law 547 = .ok (.iconst 2, 1) := by decide +kernel
theorem dL_law_548 : decode cL_law 548 = .ok (.iadd, 1) := by decide +kernel
theorem dL_law_549 : decode cL_law 549 = .ok (.iaload, 1) := by decide +kernel
theorem dL_law_550 : decode cL_law 550 = .ok (.aload_n 0, 1) := by decide +kernel
theorem dL_law_551 : decode cL_law 551 = .ok (.iload_n 3, 1) := by decide +kernel
theorem dL_law_552 : decode cL_law 552 = .ok (.iconst 3, 1) := by decide +kernel
theorem dL_law_553 : decode cL_law 553 = .ok (.iadd, 1) := by decide +kernel
theorem dL_law_554 : decode cL_law 554 = .ok (.iaload, 1) := by decide +kernel
theorem dL_law_555 : decode cL_law 555 = .ok (.invokevirtual 59, 3) := by decide +kernel
theorem dL_law_558 : decode cL_law 558 = .ok (.aload_n 2, 1) := by decide +kernel
theorem dL_law_559 : decode cL_law 559 = .ok (.aload_n 0, 1) := by decide +kernel
theorem dL_law_560 : decode cL_law 560 = .ok (.iload_n 3, 1) := by decide +kernel
theorem dL_law_561 : decode cL_law 561 = .ok (.iconst 1, 1) := by decide +kernel
theorem dL_law_562 : decode cL_law 562 = .ok (.iadd, 1) := by decide +kernel
theorem dL_law_563 : decode cL_law 563 = .ok (.iaload, 1) := by decide +kernel
theorem dL_law_564 : decode cL_law 564 = .ok (.aload_n 0, 1) := by decide +kernel
theorem dL_law_565 : decode cL_law 565 = .ok (.iload_n 3, 1) := by decide +kernel
theorem dL_law_566 : decode cL_law 566 = .ok (.iconst 2, 1) := by decide +kernel
theorem dL_law_567 : decode cL_law 567 = .ok (.iadd, 1) := by decide +kernel
theorem dL_law_568 : decode cL_law 568 = .ok (.iaload, 1) := by decide +kernel
theorem dL_law_569 : decode cL_law 569 = .ok (.aload_n 0, 1) := by decide +kernel
theorem dL_law_570 : decode cL_law 570 = .ok (.iload_n 3, 1) := by decide +kernel
theorem dL_law_571 : decode cL_law 571 = .ok (.iconst 3, 1) := by decide +kernel
theorem dL_law_572 : decode cL_law 572 = .ok (.iadd, 1) := by decide +kernel
theorem dL_law_573 : decode cL_law 573 = .ok (.iaload, 1) := by decide +kernel
theorem dL_law_574 : decode cL_law 574 = .ok (.invokevirtual 62, 3) := by decide +kernel
theorem dL_law_577 : decode cL_law 577 = .ok (.if_icmp .eq 627, 3) := by decide +kernel
theorem dL_law_580 : decode cL_law 580 = .ok (.iconst 0, 1) := by decide +kernel
theorem dL_law_581 : decode cL_law 581 = .ok (.ireturn, 1) := by decide +kernel
theorem dL_law_582 : decode cL_law 582 = .ok (.aload_n 1, 1) := by decide +kernel
theorem dL_law_583 : decode cL_law 583 = .ok (.aload_n 0, 1) := by decide +kernel
theorem dL_law_584 : decode cL_law 584 = .ok (.iload_n 3, 1) := by decide +kernel
theorem dL_law_585 : decode cL_law 585 = .ok (.iconst 1, 1) := by decide +kernel
theorem dL_law_586 : decode cL_law 586 = .ok (.iadd, 1) := by decide +kernel
theorem dL_law_587 : decode cL_law 587 = .ok (.iaload, 1) := by decide +kernel
theorem dL_law_588 : decode cL_law 588 = .ok (.aload_n 0, 1) := by decide +kernel
theorem dL_law_589 : decode cL_law 589 = .ok (.iload_n 3, 1) := by decide +kernel
theorem dL_law_590 : decode cL_law 590 = .ok (.iconst 2, 1) := by decide +kernel
theorem dL_law_591 : decode cL_law 591 = .ok (.iadd, 1) := by decide +kernel
theorem dL_law_592 : decode cL_law 592 = .ok (.iaload, 1) := by decide +kernel
theorem dL_law_593 : decode cL_law 593 = .ok (.invokevirtual 63, 3) := by decide +kernel
theorem dL_law_596 : decode cL_law 596 = .ok (.aload_n 2, 1) := by decide +kernel
theorem dL_law_597 : decode cL_law 597 = .ok (.aload_n 0, 1) := by decide +kernel
theorem dL_law_598 : decode cL_law 598 = .ok (.iload_n 3, 1) := by decide +kernel
theorem dL_law_599 : decode cL_law 599 = .ok (.iconst 1, 1) := by decide +kernel
theorem dL_law_600 : decode cL_law 600 = .ok (.iadd, 1) := by decide +kernel
theorem dL_law_601 : decode cL_law 601 = .ok (.iaload, 1) := by decide +kernel
theorem dL_law_602 : decode cL_law 602 = .ok (.aload_n 0, 1) := by decide +kernel
theorem dL_law_603 : decode cL_law 603 = .ok (.iload_n 3, 1) := by decide +kernel
theorem dL_law_604 : decode cL_law 604 = .ok (.iconst 2, 1) := by decide +kernel
theorem dL_law_605 : decode cL_law 605 = .ok (.iadd, 1) := by decide +kernel
theorem dL_law_606 : decode cL_law 606 = .ok (.iaload, 1) := by decide +kernel
theorem dL_law_607 : decode cL_law 607 = .ok (.invokevirtual 66, 3) := by decide +kernel
theorem dL_law_610 : decode cL_law 610 = .ok (.if_icmp .eq 594, 3) := by decide +kernel
theorem dL_law_613 : decode cL_law 613 = .ok (.iconst 0, 1) := by decide +kernel
theorem dL_law_614 : decode cL_law 614 = .ok (.ireturn, 1) := by decide +kernel
theorem dL_law_615 : decode cL_law 615 = .ok (.aload_n 1, 1) := by decide +kernel
theorem dL_law_616 : decode cL_law 616 = .ok (.aload_n 0, 1) := by decide +kernel
theorem dL_law_617 : decode cL_law 617 = .ok (.iload_n 3, 1) := by decide +kernel
theorem dL_law_618 : decode cL_law 618 = .ok (.iconst 1, 1) := by decide +kernel
theorem dL_law_619 : decode cL_law 619 = .ok (.iadd, 1) := by decide +kernel
theorem dL_law_620 : decode cL_law 620 = .ok (.iaload, 1) := by decide +kernel
theorem dL_law_621 : decode cL_law 621 = .ok (.aload_n 0, 1) := by decide +kernel
theorem dL_law_622 : decode cL_law 622 = .ok (.iload_n 3, 1) := by decide +kernel
theorem dL_law_623 : decode cL_law 623 = .ok (.iconst 2, 1) := by decide +kernel
theorem dL_law_624 : decode cL_law 624 = .ok (.iadd, 1) := by decide +kernel
theorem dL_law_625 : decode cL_law 625 = .ok (.iaload, 1) := by decide +kernel
theorem dL_law_626 : decode cL_law 626 = .ok (.invokevirtual 67, 3) := by decide +kernel
theorem dL_law_629 : decode cL_law 629 = .ok (.aload_n 2, 1) := by decide +kernel
theorem dL_law_630 : decode cL_law 630 = .ok (.aload_n 0, 1) := by decide +kernel
theorem dL_law_631 : decode cL_law 631 = .ok (.iload_n 3, 1) := by decide +kernel
theorem dL_law_632 : decode cL_law 632 = .ok (.iconst 1, 1) := by decide +kernel
theorem dL_law_633 : decode cL_law 633 = .ok (.iadd, 1) := by decide +kernel
theorem dL_law_634 : decode cL_law 634 = .ok (.iaload, 1) := by decide +kernel
theorem dL_law_635 : decode cL_law 635 = .ok (.aload_n 0, 1) := by decide +kernel
theorem dL_law_636 : decode cL_law 636 = .ok (.iload_n 3, 1) := by decide +kernel
theorem dL_law_637 : decode cL_law 637 = .ok (.iconst 2, 1) := by decide +kernel
theorem dL_law_638 : decode cL_law 638 = .ok (.iadd, 1) := by decide +kernel
theorem dL_law_639 : decode cL_law 639 = .ok (.iaload, 1) := by decide +kernel
theorem dL_law_640 : decode cL_law 640 = .ok (.invokevirtual 70, 3) := by decide +kernel
theorem dL_law_643 : decode cL_law 643 = .ok (.if_icmp .eq 561, 3) := by decide +kernel
theorem dL_law_646 : decode cL_law 646 = .ok (.iconst 0, 1) := by decide +kernel
theorem dL_law_647 : decode cL_law 647 = .ok (.ireturn, 1) := by decide +kernel
theorem dL_law_648 : decode cL_law 648 = .ok (.aload_n 1, 1) := by decide +kernel
theorem dL_law_649 : decode cL_law 649 = .ok (.aload_n 0, 1) := by decide +kernel
theorem dL_law_650 : decode cL_law 650 = .ok (.iload_n 3, 1) := by decide +kernel
theorem dL_law_651 : decode cL_law 651 = .ok (.iconst 1, 1) := by decide +kernel
theorem dL_law_652 : decode cL_law 652 = .ok (.iadd, 1) := by decide +kernel
theorem dL_law_653 : decode cL_law 653 = .ok (.iaload, 1) := by decide +kernel
theorem dL_law_654 : decode cL_law 654 = .ok (.invokevirtual 71, 3) := by decide +kernel
theorem dL_law_657 : decode cL_law 657 = .ok (.aload_n 2, 1) := by decide +kernel
theorem dL_law_658 : decode cL_law 658 = .ok (.aload_n 0, 1) := by decide +kernel
theorem dL_law_659 : decode cL_law 659 = .ok (.iload_n 3, 1) := by decide +kernel
theorem dL_law_660 : decode cL_law 660 = .ok (.iconst 1, 1) := by decide +kernel
theorem dL_law_661 : decode cL_law 661 = .ok (.iadd, 1) := by decide +kernel
theorem dL_law_662 : decode cL_law 662 = .ok (.iaload, 1) := by decide +kernel
theorem dL_law_663 : decode cL_law 663 = .ok (.invokevirtual 75, 3) := by decide +kernel
theorem dL_law_666 : decode cL_law 666 = .ok (.if_icmp .eq 538, 3) := by decide +kernel
theorem dL_law_669 : decode cL_law 669 = .ok (.iconst 0, 1) := by decide +kernel
theorem dL_law_670 : decode cL_law 670 = .ok (.ireturn, 1) := by decide +kernel
theorem dL_law_671 : decode cL_law 671 = .ok (.aload_n 1, 1) := by decide +kernel
theorem dL_law_672 : decode cL_law 672 = .ok (.aload_n 0, 1) := by decide +kernel
theorem dL_law_673 : decode cL_law 673 = .ok (.iload_n 3, 1) := by decide +kernel
theorem dL_law_674 : decode cL_law 674 = .ok (.iconst 1, 1) := by decide +kernel
theorem dL_law_675 : decode cL_law 675 = .ok (.iadd, 1) := by decide +kernel
theorem dL_law_676 : decode cL_law 676 = .ok (.iaload, 1) := by decide +kernel
theorem dL_law_677 : decode cL_law 677 = .ok (.aload_n 0, 1) := by decide +kernel
theorem dL_law_678 : decode cL_law 678 = .ok (.iload_n 3, 1) := by decide +kernel
theorem dL_law_679 : decode cL_law 679 = .ok (.iconst 2, 1) := by decide +kernel
theorem dL_law_680 : decode cL_law 680 = .ok (.iadd, 1) := by decide +kernel
theorem dL_law_681 : decode cL_law 681 = .ok (.iaload, 1) := by decide +kernel
theorem dL_law_682 : decode cL_law 682 = .ok (.aload_n 0, 1) := by decide +kernel
theorem dL_law_683 : decode cL_law 683 = .ok (.iload_n 3, 1) := by decide +kernel
theorem dL_law_684 : decode cL_law 684 = .ok (.iconst 3, 1) := by decide +kernel
theorem dL_law_685 : decode cL_law 685 = .ok (.iadd, 1) := by decide +kernel
theorem dL_law_686 : decode cL_law 686 = .ok (.iaload, 1) := by decide +kernel
theorem dL_law_687 : decode cL_law 687 = .ok (.aload_n 0, 1) := by decide +kernel
theorem dL_law_688 : decode cL_law 688 = .ok (.iload_n 3, 1) := by decide +kernel
theorem dL_law_689 : decode cL_law 689 = .ok (.iconst 4, 1) := by decide +kernel
theorem dL_law_690 : decode cL_law 690 = .ok (.iadd, 1) := by decide +kernel
theorem dL_law_691 : decode cL_law 691 = .ok (.iaload, 1) := by decide +kernel
theorem dL_law_692 : decode cL_law 692 = .ok (.invokevirtual 76, 3) := by decide +kernel
theorem dL_law_695 : decode cL_law 695 = .ok (.aload_n 2, 1) := by decide +kernel
theorem dL_law_696 : decode cL_law 696 = .ok (.aload_n 0, 1) := by decide +kernel
theorem dL_law_697 : decode cL_law 697 = .ok (.iload_n 3, 1) := by decide +kernel
theorem dL_law_698 : decode cL_law 698 = .ok (.iconst 1, 1) := by decide +kernel
theorem dL_law_699 : decode cL_law 699 = .ok (.iadd, 1) := by decide +kernel
theorem dL_law_700 : decode cL_law 700 = .ok (.iaload, 1) := by decide +kernel
theorem dL_law_701 : decode cL_law 701 = .ok (.aload_n 0, 1) := by decide +kernel
theorem dL_law_702 : decode cL_law 702 = .ok (.iload_n 3, 1) := by decide +kernel
theorem dL_law_703 : decode cL_law 703 = .ok (.iconst 2, 1) := by decide +kernel
theorem dL_law_704 : decode cL_law 704 = .ok (.iadd, 1) := by decide +kernel
theorem dL_law_705 : decode cL_law 705 = .ok (.iaload, 1) := by decide +kernel
theorem dL_law_706 : decode cL_law 706 = .ok (.aload_n 0, 1) := by decide +kernel
theorem dL_law_707 : decode cL_law 707 = .ok (.iload_n 3, 1) := by decide +kernel
theorem dL_law_708 : decode cL_law 708 = .ok (.iconst 3, 1) := by decide +kernel
theorem dL_law_709 : decode cL_law 709 = .ok (.iadd, 1) := by decide +kernel
theorem dL_law_710 : decode cL_law 710 = .ok (.iaload, 1) := by decide +kernel
theorem dL_law_711 : decode cL_law 711 = .ok (.aload_n 0, 1) := by decide +kernel
theorem dL_law_712 : decode cL_law 712 = .ok (.iload_n 3, 1) := by decide +kernel
theorem dL_law_713 : decode cL_law 713 = .ok (.iconst 4, 1) := by decide +kernel
theorem dL_law_714 : decode cL_law 714 = .ok (.iadd, 1) := by decide +kernel
theorem dL_law_715 : decode cL_law 715 = .ok (.iaload, 1) := by decide +kernel
theorem dL_law_716 : decode cL_law 716 = .ok (.invokevirtual 79, 3) := by decide +kernel
theorem dL_law_719 : decode cL_law 719 = .ok (.if_icmp .eq 485, 3) := by decide +kernel
theorem dL_law_722 : decode cL_law 722 = .ok (.iconst 0, 1) := by decide +kernel
theorem dL_law_723 : decode cL_law 723 = .ok (.ireturn, 1) := by decide +kernel
theorem dL_law_724 : decode cL_law 724 = .ok (.aload_n 1, 1) := by decide +kernel
theorem dL_law_725 : decode cL_law 725 = .ok (.aload_n 0, 1) := by decide +kernel
theorem dL_law_726 : decode cL_law 726 = .ok (.iload_n 3, 1) := by decide +kernel
theorem dL_law_727 : decode cL_law 727 = .ok (.iconst 1, 1) := by decide +kernel
theorem dL_law_728 : decode cL_law 728 = .ok (.iadd, 1) := by decide +kernel
theorem dL_law_729 : decode cL_law 729 = .ok (.iaload, 1) := by decide +kernel
theorem dL_law_730 : decode cL_law 730 = .ok (.invokevirtual 80, 3) := by decide +kernel
theorem dL_law_733 : decode cL_law 733 = .ok (.aload_n 2, 1) := by decide +kernel
theorem dL_law_734 : decode cL_law 734 = .ok (.aload_n 0, 1) := by decide +kernel
theorem dL_law_735 : decode cL_law 735 = .ok (.iload_n 3, 1) := by decide +kernel
theorem dL_law_736 : decode cL_law 736 = .ok (.iconst 1, 1) := by decide +kernel
theorem dL_law_737 : decode cL_law 737 = .ok (.iadd, 1) := by decide +kernel
theorem dL_law_738 : decode cL_law 738 = .ok (.iaload, 1) := by decide +kernel
theorem dL_law_739 : decode cL_law 739 = .ok (.invokevirtual 83, 3) := by decide +kernel
theorem dL_law_742 : decode cL_law 742 = .ok (.if_icmp .eq 462, 3) := by decide +kernel
theorem dL_law_745 : decode cL_law 745 = .ok (.iconst 0, 1) := by decide +kernel
theorem dL_law_746 : decode cL_law 746 = .ok (.ireturn, 1) := by decide +kernel
theorem dL_law_747 : decode cL_law 747 = .ok (.aload_n 1, 1) := by decide +kernel
theorem dL_law_748 : decode cL_law 748 = .ok (.aload_n 0, 1) := by decide +kernel
theorem dL_law_749 : decode cL_law 749 = .ok (.iload_n 3, 1) := by decide +kernel
theorem dL_law_750 : decode cL_law 750 = .ok (.iconst 1, 1) := by decide +kernel
theorem dL_law_751 : decode cL_law 751 = .ok (.iadd, 1) := by decide +kernel
theorem dL_law_752 : decode cL_law 752 = .ok (.iaload, 1) := by decide +kernel
theorem dL_law_753 : decode cL_law 753 = .ok (.invokevirtual 84, 3) := by decide +kernel
theorem dL_law_756 : decode cL_law 756 = .ok (.aload_n 2, 1) := by decide +kernel
theorem dL_law_757 : decode cL_law 757 = .ok (.aload_n 0, 1) := by decide +kernel
theorem dL_law_758 : decode cL_law 758 = .ok (.iload_n 3, 1) := by decide +kernel
theorem dL_law_759 : decode cL_law 759 = .ok (.iconst 1, 1) := by decide +kernel
theorem dL_law_760 : decode cL_law 760 = .ok (.iadd, 1) := by decide +kernel
theorem dL_law_761 : decode cL_law 761 = .ok (.iaload, 1) := by decide +kernel
theorem dL_law_762 : decode cL_law 762 = .ok (.invokevirtual 87, 3) := by decide +kernel
theorem dL_law_765 : decode cL_law 765 = .ok (.if_icmp .eq 439, 3) := by decide +kernel
theorem dL_law_768 : decode cL_law 768 = .ok (.iconst 0, 1) := by decide +kernel
theorem dL_law_769 : decode cL_law 769 = .ok (.ireturn, 1) := by decide +kernel
theorem dL_law_770 : decode cL_law 770 = .ok (.aload_n 1, 1) := by decide +kernel
theorem dL_law_771 : decode cL_law 771 = .ok (.aload_n 0, 1) := by decide +kernel
theorem dL_law_772 : decode cL_law 772 = .ok (.iload_n 3, 1) := by decide +kernel
theorem dL_law_773 : decode cL_law 773 = .ok (.iconst 1, 1) := by decide +kernel
theorem dL_law_774 : decode cL_law 774 = .ok (.iadd, 1) := by decide +kernel
theorem dL_law_775 : decode cL_law 775 = .ok (.iaload, 1) := by decide +kernel
theorem dL_law_776 : decode cL_law 776 = .ok (.aload_n 0, 1) := by decide +kernel
theorem dL_law_777 : decode cL_law 777 = .ok (.iload_n 3, 1) := by decide +kernel
theorem dL_law_778 : decode cL_law 778 = .ok (.iconst 2, 1) := by decide +kernel
theorem dL_law_779 : decode cL_law 779 = .ok (.iadd, 1) := by decide +kernel
theorem dL_law_780 : decode cL_law 780 = .ok (.iaload, 1) := by decide +kernel
theorem dL_law_781 : decode cL_law 781 = .ok (.aload_n 0, 1) := by decide +kernel
theorem dL_law_782 : decode cL_law 782 = .ok (.iload_n 3, 1) := by decide +kernel
theorem dL_law_783 : decode cL_law 783 = .ok (.iconst 3, 1) := by decide +kernel
theorem dL_law_784 : decode cL_law 784 = .ok (.iadd, 1) := by decide +kernel
theorem dL_law_785 : decode cL_law 785 = .ok (.iaload, 1) := by decide +kernel
theorem dL_law_786 : decode cL_law 786 = .ok (.invokevirtual 88, 3) := by decide +kernel
theorem dL_law_789 : decode cL_law 789 = .ok (.aload_n 2, 1) := by decide +kernel
theorem dL_law_790 : decode cL_law 790 = .ok (.aload_n 0, 1) := by decide +kernel
theorem dL_law_791 : decode cL_law 791 = .ok (.iload_n 3, 1) := by decide +kernel
theorem dL_law_792 : decode cL_law 792 = .ok (.iconst 1, 1) := by decide +kernel
theorem dL_law_793 : decode cL_law 793 = .ok (.iadd, 1) := by decide +kernel
theorem dL_law_794 : decode cL_law 794 = .ok (.iaload, 1) := by decide +kernel
theorem dL_law_795 : decode cL_law 795 = .ok (.aload_n 0, 1) := by decide +kernel
theorem dL_law_796 : decode cL_law 796 = .ok (.iload_n 3, 1) := by decide +kernel
theorem dL_law_797 : decode cL_law 797 = .ok (.iconst 2, 1) := by decide +kernel
theorem dL_law_798 : decode cL_law 798 = .ok (.iadd, 1) := by decide +kernel
theorem dL_law_799 : decode cL_law 799 = .ok (.iaload, 1) := by decide +kernel
theorem dL_law_800 : decode cL_law 800 = .ok (.aload_n 0, 1) := by decide +kernel
theorem dL_law_801 : decode cL_law 801 = .ok (.iload_n 3, 1) := by decide +kernel
theorem dL_law_802 : decode cL_law 802 = .ok (.iconst 3, 1) := by decide +kernel
theorem dL_law_803 : decode cL_law 803 = .ok (.iadd, 1) := by decide +kernel
theorem dL_law_804 : decode cL_law 804 = .ok (.iaload, 1) := by decide +kernel
theorem dL_law_805 : decode cL_law 805 = .ok (.invokevirtual 91, 3) := by decide +kernel
theorem dL_law_808 : decode cL_law 808 = .ok (.if_icmp .eq 396, 3) := by decide +kernel
theorem dL_law_811 : decode cL_law 811 = .ok (.iconst 0, 1) := by decide +kernel
theorem dL_law_812 : decode cL_law 812 = .ok (.ireturn, 1) := by decide +kernel
theorem dL_law_813 : decode cL_law 813 = .ok (.aload_n 1, 1) := by decide +kernel
theorem dL_law_814 : decode cL_law 814 = .ok (.aload_n 0, 1) := by decide +kernel
theorem dL_law_815 : decode cL_law 815 = .ok (.iload_n 3, 1) := by decide +kernel
theorem dL_law_816 : decode cL_law 816 = .ok (.iconst 1, 1) := by decide +kernel
theorem dL_law_817 : decode cL_law 817 = .ok (.iadd, 1) := by decide +kernel
theorem dL_law_818 : decode cL_law 818 = .ok (.iaload, 1) := by decide +kernel
theorem dL_law_819 : decode cL_law 819 = .ok (.aload_n 0, 1) := by decide +kernel
theorem dL_law_820 : decode cL_law 820 = .ok (.iload_n 3, 1) := by decide +kernel
theorem dL_law_821 : decode cL_law 821 = .ok (.iconst 2, 1) := by decide +kernel
theorem dL_law_822 : decode cL_law 822 = .ok (.iadd, 1) := by decide +kernel
theorem dL_law_823 : decode cL_law 823 = .ok (.iaload, 1) := by decide +kernel
theorem dL_law_824 : decode cL_law 824 = .ok (.aload_n 0, 1) := by decide +kernel
theorem dL_law_825 : decode cL_law 825 = .ok (.iload_n 3, 1) := by decide +kernel
theorem dL_law_826 : decode cL_law 826 = .ok (.iconst 3, 1) := by decide +kernel
theorem dL_law_827 : decode cL_law 827 = .ok (.iadd, 1) := by decide +kernel
theorem dL_law_828 : decode cL_law 828 = .ok (.iaload, 1) := by decide +kernel
theorem dL_law_829 : decode cL_law 829 = .ok (.invokevirtual 92, 3) := by decide +kernel
theorem dL_law_832 : decode cL_law 832 = .ok (.aload_n 2, 1) := by decide +kernel
theorem dL_law_833 : decode cL_law 833 = .ok (.aload_n 0, 1) := by decide +kernel
theorem dL_law_834 : decode cL_law 834 = .ok (.iload_n 3, 1) := by decide +kernel
theorem dL_law_835 : decode cL_law 835 = .ok (.iconst 1, 1) := by decide +kernel
theorem dL_law_836 : decode cL_law 836 = .ok (.iadd, 1) := by decide +kernel
theorem dL_law_837 : decode cL_law 837 = .ok (.iaload, 1) := by decide +kernel
theorem dL_law_838 : decode cL_law 838 = .ok (.aload_n 0, 1) := by decide +kernel
theorem dL_law_839 : decode cL_law 839 = .ok (.iload_n 3, 1) := by decide +kernel
theorem dL_law_840 : decode cL_law 840 = .ok (.iconst 2, 1) := by decide +kernel
theorem dL_law_841 : decode cL_law 841 = .ok (.iadd, 1) := by decide +kernel
theorem dL_law_842 : decode cL_law 842 = .ok (.iaload, 1) := by decide +kernel
theorem dL_law_843 : decode cL_law 843 = .ok (.aload_n 0, 1) := by decide +kernel
theorem dL_law_844 : decode cL_law 844 = .ok (.iload_n 3, 1) := by decide +kernel
theorem dL_law_845 : decode cL_law 845 = .ok (.iconst 3, 1) := by decide +kernel
theorem dL_law_846 : decode cL_law 846 = .ok (.iadd, 1) := by decide +kernel
theorem dL_law_847 : decode cL_law 847 = .ok (.iaload, 1) := by decide +kernel
theorem dL_law_848 : decode cL_law 848 = .ok (.invokevirtual 95, 3) := by decide +kernel
theorem dL_law_851 : decode cL_law 851 = .ok (.lcmp, 1) := by decide +kernel
theorem dL_law_852 : decode cL_law 852 = .ok (.ifCond .eq 352, 3) := by decide +kernel
theorem dL_law_855 : decode cL_law 855 = .ok (.iconst 0, 1) := by decide +kernel
theorem dL_law_856 : decode cL_law 856 = .ok (.ireturn, 1) := by decide +kernel
theorem dL_law_857 : decode cL_law 857 = .ok (.aload_n 1, 1) := by decide +kernel
theorem dL_law_858 : decode cL_law 858 = .ok (.aload_n 0, 1) := by decide +kernel
theorem dL_law_859 : decode cL_law 859 = .ok (.iload_n 3, 1) := by decide +kernel
theorem dL_law_860 : decode cL_law 860 = .ok (.iconst 1, 1) := by decide +kernel
theorem dL_law_861 : decode cL_law 861 = .ok (.iadd, 1) := by decide +kernel
theorem dL_law_862 : decode cL_law 862 = .ok (.iaload, 1) := by decide +kernel
theorem dL_law_863 : decode cL_law 863 = .ok (.aload_n 0, 1) := by decide +kernel
theorem dL_law_864 : decode cL_law 864 = .ok (.iload_n 3, 1) := by decide +kernel
theorem dL_law_865 : decode cL_law 865 = .ok (.iconst 2, 1) := by decide +kernel
theorem dL_law_866 : decode cL_law 866 = .ok (.iadd, 1) := by decide +kernel
theorem dL_law_867 : decode cL_law 867 = .ok (.iaload, 1) := by decide +kernel
theorem dL_law_868 : decode cL_law 868 = .ok (.aload_n 0, 1) := by decide +kernel
theorem dL_law_869 : decode cL_law 869 = .ok (.iload_n 3, 1) := by decide +kernel
theorem dL_law_870 : decode cL_law 870 = .ok (.iconst 3, 1) := by decide +kernel
theorem dL_law_871 : decode cL_law 871 = .ok (.iadd, 1) := by decide +kernel
theorem dL_law_872 : decode cL_law 872 = .ok (.iaload, 1) := by decide +kernel
theorem dL_law_873 : decode cL_law 873 = .ok (.aload_n 0, 1) := by decide +kernel
theorem dL_law_874 : decode cL_law 874 = .ok (.iload_n 3, 1) := by decide +kernel
theorem dL_law_875 : decode cL_law 875 = .ok (.iconst 4, 1) := by decide +kernel
theorem dL_law_876 : decode cL_law 876 = .ok (.iadd, 1) := by decide +kernel
theorem dL_law_877 : decode cL_law 877 = .ok (.iaload, 1) := by decide +kernel
theorem dL_law_878 : decode cL_law 878 = .ok (.invokevirtual 96, 3) := by decide +kernel
theorem dL_law_881 : decode cL_law 881 = .ok (.aload_n 2, 1) := by decide +kernel
theorem dL_law_882 : decode cL_law 882 = .ok (.aload_n 0, 1) := by decide +kernel
theorem dL_law_883 : decode cL_law 883 = .ok (.iload_n 3, 1) := by decide +kernel
theorem dL_law_884 : decode cL_law 884 = .ok (.iconst 1, 1) := by decide +kernel
theorem dL_law_885 : decode cL_law 885 = .ok (.iadd, 1) := by decide +kernel
theorem dL_law_886 : decode cL_law 886 = .ok (.iaload, 1) := by decide +kernel
theorem dL_law_887 : decode cL_law 887 = .ok (.aload_n 0, 1) := by decide +kernel
theorem dL_law_888 : decode cL_law 888 = .ok (.iload_n 3, 1) := by decide +kernel
theorem dL_law_889 : decode cL_law 889 = .ok (.iconst 2, 1) := by decide +kernel
theorem dL_law_890 : decode cL_law 890 = .ok (.iadd, 1) := by decide +kernel
theorem dL_law_891 : decode cL_law 891 = .ok (.iaload, 1) := by decide +kernel
theorem dL_law_892 : decode cL_law 892 = .ok (.aload_n 0, 1) := by decide +kernel
theorem dL_law_893 : decode cL_law 893 = .ok (.iload_n 3, 1) := by decide +kernel
theorem dL_law_894 : decode cL_law 894 = .ok (.iconst 3, 1) := by decide +kernel
theorem dL_law_895 : decode cL_law 895 = .ok (.iadd, 1) := by decide +kernel
theorem dL_law_896 : decode cL_law 896 = .ok (.iaload, 1) := by decide +kernel
theorem dL_law_897 : decode cL_law 897 = .ok (.aload_n 0, 1) := by decide +kernel
theorem dL_law_898 : decode cL_law 898 = .ok (.iload_n 3, 1) := by decide +kernel
theorem dL_law_899 : decode cL_law 899 = .ok (.iconst 4, 1) := by decide +kernel
theorem dL_law_900 : decode cL_law 900 = .ok (.iadd, 1) := by decide +kernel
theorem dL_law_901 : decode cL_law 901 = .ok (.iaload, 1) := by decide +kernel
theorem dL_law_902 : decode cL_law 902 = .ok (.invokevirtual 99, 3) := by decide +kernel
theorem dL_law_905 : decode cL_law 905 = .ok (.if_icmp .eq 299, 3) := by decide +kernel
theorem dL_law_908 : decode cL_law 908 = .ok (.iconst 0, 1) := by decide +kernel
theorem dL_law_909 : decode cL_law 909 = .ok (.ireturn, 1) := by decide +kernel
theorem dL_law_910 : decode cL_law 910 = .ok (.aload_n 1, 1) := by decide +kernel
theorem dL_law_911 : decode cL_law 911 = .ok (.invokevirtual 100, 3) := by decide +kernel
theorem dL_law_914 : decode cL_law 914 = .ok (.aload_n 2, 1) := by decide +kernel
theorem dL_law_915 : decode cL_law 915 = .ok (.invokevirtual 103, 3) := by decide +kernel
theorem dL_law_918 : decode cL_law 918 = .ok (.if_icmp .eq 286, 3) := by decide +kernel
theorem dL_law_921 : decode cL_law 921 = .ok (.iconst 0, 1) := by decide +kernel
theorem dL_law_922 : decode cL_law 922 = .ok (.ireturn, 1) := by decide +kernel
theorem dL_law_923 : decode cL_law 923 = .ok (.aload_n 1, 1) := by decide +kernel
theorem dL_law_924 : decode cL_law 924 = .ok (.aload_n 0, 1) := by decide +kernel
theorem dL_law_925 : decode cL_law 925 = .ok (.iload_n 3, 1) := by decide +kernel
theorem dL_law_926 : decode cL_law 926 = .ok (.iconst 1, 1) := by decide +kernel
theorem dL_law_927 : decode cL_law 927 = .ok (.iadd, 1) := by decide +kernel
theorem dL_law_928 : decode cL_law 928 = .ok (.iaload, 1) := by decide +kernel
theorem dL_law_929 : decode cL_law 929 = .ok (.aload_n 0, 1) := by decide +kernel
theorem dL_law_930 : decode cL_law 930 = .ok (.iload_n 3, 1) := by decide +kernel
theorem dL_law_931 : decode cL_law 931 = .ok (.iconst 2, 1) := by decide +kernel
theorem dL_law_932 : decode cL_law 932 = .ok (.iadd, 1) := by decide +kernel
theorem dL_law_933 : decode cL_law 933 = .ok (.iaload, 1) := by decide +kernel
theorem dL_law_934 : decode cL_law 934 = .ok (.invokevirtual 104, 3) := by decide +kernel
theorem dL_law_937 : decode cL_law 937 = .ok (.aload_n 2, 1) := by decide +kernel
theorem dL_law_938 : decode cL_law 938 = .ok (.aload_n 0, 1) := by decide +kernel
theorem dL_law_939 : decode cL_law 939 = .ok (.iload_n 3, 1) := by decide +kernel
theorem dL_law_940 : decode cL_law 940 = .ok (.iconst 1, 1) := by decide +kernel
theorem dL_law_941 : decode cL_law 941 = .ok (.iadd, 1) := by decide +kernel
theorem dL_law_942 : decode cL_law 942 = .ok (.iaload, 1) := by decide +kernel
theorem dL_law_943 : decode cL_law 943 = .ok (.aload_n 0, 1) := by decide +kernel
theorem dL_law_944 : decode cL_law 944 = .ok (.iload_n 3, 1) := by decide +kernel
theorem dL_law_945 : decode cL_law 945 = .ok (.iconst 2, 1) := by decide +kernel
theorem dL_law_946 : decode cL_law 946 = .ok (.iadd, 1) := by decide +kernel
theorem dL_law_947 : decode cL_law 947 = .ok (.iaload, 1) := by decide +kernel
theorem dL_law_948 : decode cL_law 948 = .ok (.invokevirtual 107, 3) := by decide +kernel
theorem dL_law_951 : decode cL_law 951 = .ok (.if_icmp .eq 253, 3) := by decide +kernel
theorem dL_law_954 : decode cL_law 954 = .ok (.iconst 0, 1) := by decide +kernel
theorem dL_law_955 : decode cL_law 955 = .ok (.ireturn, 1) := by decide +kernel
theorem dL_law_956 : decode cL_law 956 = .ok (.aload_n 1, 1) := by decide +kernel
theorem dL_law_957 : decode cL_law 957 = .ok (.aload_n 0, 1) := by decide +kernel
theorem dL_law_958 : decode cL_law 958 = .ok (.iload_n 3, 1) := by decide +kernel
theorem dL_law_959 : decode cL_law 959 = .ok (.iconst 1, 1) := by decide +kernel
theorem dL_law_960 : decode cL_law 960 = .ok (.iadd, 1) := by decide +kernel
theorem dL_law_961 : decode cL_law 961 = .ok (.iaload, 1) := by decide +kernel
theorem dL_law_962 : decode cL_law 962 = .ok (.invokevirtual 108, 3) := by decide +kernel
theorem dL_law_965 : decode cL_law 965 = .ok (.aload_n 2, 1) := by decide +kernel
theorem dL_law_966 : decode cL_law 966 = .ok (.aload_n 0, 1) := by decide +kernel
theorem dL_law_967 : decode cL_law 967 = .ok (.iload_n 3, 1) := by decide +kernel
theorem dL_law_968 : decode cL_law 968 = .ok (.iconst 1, 1) := by decide +kernel
theorem dL_law_969 : decode cL_law 969 = .ok (.iadd, 1) := by decide +kernel
theorem dL_law_970 : decode cL_law 970 = .ok (.iaload, 1) := by decide +kernel
theorem dL_law_971 : decode cL_law 971 = .ok (.invokevirtual 111, 3) := by decide +kernel
theorem dL_law_974 : decode cL_law 974 = .ok (.if_icmp .eq 230, 3) := by decide +kernel
theorem dL_law_977 : decode cL_law 977 = .ok (.iconst 0, 1) := by decide +kernel
theorem dL_law_978 : decode cL_law 978 = .ok (.ireturn, 1) := by decide +kernel
theorem dL_law_979 : decode cL_law 979 = .ok (.aload_n 1, 1) := by decide +kernel
theorem dL_law_980 : decode cL_law 980 = .ok (.aload_n 0, 1) := by decide +kernel
theorem dL_law_981 : decode cL_law 981 = .ok (.iload_n 3, 1) := by decide +kernel
theorem dL_law_982 : decode cL_law 982 = .ok (.iconst 1, 1) := by decide +kernel
theorem dL_law_983 : decode cL_law 983 = .ok (.iadd, 1) := by decide +kernel
theorem dL_law_984 : decode cL_law 984 = .ok (.iaload, 1) := by decide +kernel
theorem dL_law_985 : decode cL_law 985 = .ok (.aload_n 0, 1) := by decide +kernel
theorem dL_law_986 : decode cL_law 986 = .ok (.iload_n 3, 1) := by decide +kernel
theorem dL_law_987 : decode cL_law 987 = .ok (.iconst 2, 1) := by decide +kernel
theorem dL_law_988 : decode cL_law 988 = .ok (.iadd, 1) := by decide +kernel
theorem dL_law_989 : decode cL_law 989 = .ok (.iaload, 1) := by decide +kernel
theorem dL_law_990 : decode cL_law 990 = .ok (.invokevirtual 112, 3) := by decide +kernel
theorem dL_law_993 : decode cL_law 993 = .ok (.aload_n 2, 1) := by decide +kernel
theorem dL_law_994 : decode cL_law 994 = .ok (.aload_n 0, 1) := by decide +kernel
theorem dL_law_995 : decode cL_law 995 = .ok (.iload_n 3, 1) := by decide +kernel
theorem dL_law_996 : decode cL_law 996 = .ok (.iconst 1, 1) := by decide +kernel
theorem dL_law_997 : decode cL_law 997 = .ok (.iadd, 1) := by decide +kernel
theorem dL_law_998 : decode cL_law 998 = .ok (.iaload, 1) := by decide +kernel
theorem dL_law_999 : decode cL_law 999 = .ok (.aload_n 0, 1) := by decide +kernel
theorem dL_law_1000 : decode cL_law 1000 = .ok (.iload_n 3, 1) := by decide +kernel
theorem dL_law_1001 : decode cL_law 1001 = .ok (.iconst 2, 1) := by decide +kernel
theorem dL_law_1002 : decode cL_law 1002 = .ok (.iadd, 1) := by decide +kernel
theorem dL_law_1003 : decode cL_law 1003 = .ok (.iaload, 1) := by decide +kernel
theorem dL_law_1004 : decode cL_law 1004 = .ok (.invokevirtual 115, 3) := by decide +kernel
theorem dL_law_1007 : decode cL_law 1007 = .ok (.if_icmp .eq 197, 3) := by decide +kernel
theorem dL_law_1010 : decode cL_law 1010 = .ok (.iconst 0, 1) := by decide +kernel
theorem dL_law_1011 : decode cL_law 1011 = .ok (.ireturn, 1) := by decide +kernel
theorem dL_law_1012 : decode cL_law 1012 = .ok (.aload_n 1, 1) := by decide +kernel
theorem dL_law_1013 : decode cL_law 1013 = .ok (.aload_n 0, 1) := by decide +kernel
theorem dL_law_1014 : decode cL_law 1014 = .ok (.iload_n 3, 1) := by decide +kernel
theorem dL_law_1015 : decode cL_law 1015 = .ok (.iconst 1, 1) := by decide +kernel
theorem dL_law_1016 : decode cL_law 1016 = .ok (.iadd, 1) := by decide +kernel
theorem dL_law_1017 : decode cL_law 1017 = .ok (.iaload, 1) := by decide +kernel
theorem dL_law_1018 : decode cL_law 1018 = .ok (.invokevirtual 116, 3) := by decide +kernel
theorem dL_law_1021 : decode cL_law 1021 = .ok (.aload_n 2, 1) := by decide +kernel
theorem dL_law_1022 : decode cL_law 1022 = .ok (.aload_n 0, 1) := by decide +kernel
theorem dL_law_1023 : decode cL_law 1023 = .ok (.iload_n 3, 1) := by decide +kernel
theorem dL_law_1024 : decode cL_law 1024 = .ok (.iconst 1, 1) := by decide +kernel
theorem dL_law_1025 : decode cL_law 1025 = .ok (.iadd, 1) := by decide +kernel
theorem dL_law_1026 : decode cL_law 1026 = .ok (.iaload, 1) := by decide +kernel
theorem dL_law_1027 : decode cL_law 1027 = .ok (.invokevirtual 119, 3) := by decide +kernel
theorem dL_law_1030 : decode cL_law 1030 = .ok (.if_icmp .eq 174, 3) := by decide +kernel
theorem dL_law_1033 : decode cL_law 1033 = .ok (.iconst 0, 1) := by decide +kernel
theorem dL_law_1034 : decode cL_law 1034 = .ok (.ireturn, 1) := by decide +kernel
theorem dL_law_1035 : decode cL_law 1035 = .ok (.aload_n 1, 1) := by decide +kernel
theorem dL_law_1036 : decode cL_law 1036 = .ok (.aload_n 0, 1) := by decide +kernel
theorem dL_law_1037 : decode cL_law 1037 = .ok (.iload_n 3, 1) := by decide +kernel
theorem dL_law_1038 : decode cL_law 1038 = .ok (.iconst 1, 1) := by decide +kernel
theorem dL_law_1039 : decode cL_law 1039 = .ok (.iadd, 1) := by decide +kernel
theorem dL_law_1040 : decode cL_law 1040 = .ok (.iaload, 1) := by decide +kernel
theorem dL_law_1041 : decode cL_law 1041 = .ok (.aload_n 0, 1) := by decide +kernel
theorem dL_law_1042 : decode cL_law 1042 = .ok (.iload_n 3, 1) := by decide +kernel
theorem dL_law_1043 : decode cL_law 1043 = .ok (.iconst 2, 1) := by decide +kernel
theorem dL_law_1044 : decode cL_law 1044 = .ok (.iadd, 1) := by decide +kernel
theorem dL_law_1045 : decode cL_law 1045 = .ok (.iaload, 1) := by decide +kernel
theorem dL_law_1046 : decode cL_law 1046 = .ok (.invokevirtual 120, 3) := by decide +kernel
theorem dL_law_1049 : decode cL_law 1049 = .ok (.aload_n 2, 1) := by decide +kernel
theorem dL_law_1050 : decode cL_law 1050 = .ok (.aload_n 0, 1) := by decide +kernel
theorem dL_law_1051 : decode cL_law 1051 = .ok (.iload_n 3, 1) := by decide +kernel
theorem dL_law_1052 : decode cL_law 1052 = .ok (.iconst 1, 1) := by decide +kernel
theorem dL_law_1053 : decode cL_law 1053 = .ok (.iadd, 1) := by decide +kernel
theorem dL_law_1054 : decode cL_law 1054 = .ok (.iaload, 1) := by decide +kernel
theorem dL_law_1055 : decode cL_law 1055 = .ok (.aload_n 0, 1) := by decide +kernel
theorem dL_law_1056 : decode cL_law 1056 = .ok (.iload_n 3, 1) := by decide +kernel
theorem dL_law_1057 : decode cL_law 1057 = .ok (.iconst 2, 1) := by decide +kernel
theorem dL_law_1058 : decode cL_law 1058 = .ok (.iadd, 1) := by decide +kernel
theorem dL_law_1059 : decode cL_law 1059 = .ok (.iaload, 1) := by decide +kernel
theorem dL_law_1060 : decode cL_law 1060 = .ok (.invokevirtual 124, 3) := by decide +kernel
theorem dL_law_1063 : decode cL_law 1063 = .ok (.lcmp, 1) := by decide +kernel
theorem dL_law_1064 : decode cL_law 1064 = .ok (.ifCond .eq 140, 3) := by decide +kernel
theorem dL_law_1067 : decode cL_law 1067 = .ok (.iconst 0, 1) := by decide +kernel
theorem dL_law_1068 : decode cL_law 1068 = .ok (.ireturn, 1) := by decide +kernel
theorem dL_law_1069 : decode cL_law 1069 = .ok (.aload_n 1, 1) := by decide +kernel
theorem dL_law_1070 : decode cL_law 1070 = .ok (.aload_n 0, 1) := by decide +kernel
theorem dL_law_1071 : decode cL_law 1071 = .ok (.iload_n 3, 1) := by decide +kernel
theorem dL_law_1072 : decode cL_law 1072 = .ok (.iconst 1, 1) := by decide +kernel
theorem dL_law_1073 : decode cL_law 1073 = .ok (.iadd, 1) := by decide +kernel
theorem dL_law_1074 : decode cL_law 1074 = .ok (.iaload, 1) := by decide +kernel
theorem dL_law_1075 : decode cL_law 1075 = .ok (.aload_n 0, 1) := by decide +kernel
theorem dL_law_1076 : decode cL_law 1076 = .ok (.iload_n 3, 1) := by decide +kernel
theorem dL_law_1077 : decode cL_law 1077 = .ok (.iconst 2, 1) := by decide +kernel
theorem dL_law_1078 : decode cL_law 1078 = .ok (.iadd, 1) := by decide +kernel
theorem dL_law_1079 : decode cL_law 1079 = .ok (.iaload, 1) := by decide +kernel
theorem dL_law_1080 : decode cL_law 1080 = .ok (.invokevirtual 125, 3) := by decide +kernel
theorem dL_law_1083 : decode cL_law 1083 = .ok (.aload_n 2, 1) := by decide +kernel
theorem dL_law_1084 : decode cL_law 1084 = .ok (.aload_n 0, 1) := by decide +kernel
theorem dL_law_1085 : decode cL_law 1085 = .ok (.iload_n 3, 1) := by decide +kernel
theorem dL_law_1086 : decode cL_law 1086 = .ok (.iconst 1, 1) := by decide +kernel
theorem dL_law_1087 : decode cL_law 1087 = .ok (.iadd, 1) := by decide +kernel
theorem dL_law_1088 : decode cL_law 1088 = .ok (.iaload, 1) := by decide +kernel
theorem dL_law_1089 : decode cL_law 1089 = .ok (.aload_n 0, 1) := by decide +kernel
theorem dL_law_1090 : decode cL_law 1090 = .ok (.iload_n 3, 1) := by decide +kernel
theorem dL_law_1091 : decode cL_law 1091 = .ok (.iconst 2, 1) := by decide +kernel
theorem dL_law_1092 : decode cL_law 1092 = .ok (.iadd, 1) := by decide +kernel
theorem dL_law_1093 : decode cL_law 1093 = .ok (.iaload, 1) := by decide +kernel
theorem dL_law_1094 : decode cL_law 1094 = .ok (.invokevirtual 128, 3) := by decide +kernel
theorem dL_law_1097 : decode cL_law 1097 = .ok (.if_icmp .eq 107, 3) := by decide +kernel
theorem dL_law_1100 : decode cL_law 1100 = .ok (.iconst 0, 1) := by decide +kernel
theorem dL_law_1101 : decode cL_law 1101 = .ok (.ireturn, 1) := by decide +kernel
theorem dL_law_1102 : decode cL_law 1102 = .ok (.aload_n 1, 1) := by decide +kernel
theorem dL_law_1103 : decode cL_law 1103 = .ok (.invokevirtual 129, 3) := by decide +kernel
theorem dL_law_1106 : decode cL_law 1106 = .ok (.aload_n 2, 1) := by decide +kernel
theorem dL_law_1107 : decode cL_law 1107 = .ok (.invokevirtual 132, 3) := by decide +kernel
theorem dL_law_1110 : decode cL_law 1110 = .ok (.if_icmp .eq 94, 3) := by decide +kernel
theorem dL_law_1113 : decode cL_law 1113 = .ok (.iconst 0, 1) := by decide +kernel
theorem dL_law_1114 : decode cL_law 1114 = .ok (.ireturn, 1) := by decide +kernel
theorem dL_law_1115 : decode cL_law 1115 = .ok (.aload_n 1, 1) := by decide +kernel
theorem dL_law_1116 : decode cL_law 1116 = .ok (.aload_n 0, 1) := by decide +kernel
theorem dL_law_1117 : decode cL_law 1117 = .ok (.iload_n 3, 1) := by decide +kernel
theorem dL_law_1118 : decode cL_law 1118 = .ok (.iconst 1, 1) := by decide +kernel
theorem dL_law_1119 : decode cL_law 1119 = .ok (.iadd, 1) := by decide +kernel
theorem dL_law_1120 : decode cL_law 1120 = .ok (.iaload, 1) := by decide +kernel
theorem dL_law_1121 : decode cL_law 1121 = .ok (.invokevirtual 133, 3) := by decide +kernel
theorem dL_law_1124 : decode cL_law 1124 = .ok (.aload_n 2, 1) := by decide +kernel
theorem dL_law_1125 : decode cL_law 1125 = .ok (.aload_n 0, 1) := by decide +kernel
theorem dL_law_1126 : decode cL_law 1126 = .ok (.iload_n 3, 1) := by decide +kernel
theorem dL_law_1127 : decode cL_law 1127 = .ok (.iconst 1, 1) := by decide +kernel
theorem dL_law_1128 : decode cL_law 1128 = .ok (.iadd, 1) := by decide +kernel
theorem dL_law_1129 : decode cL_law 1129 = .ok (.iaload, 1) := by decide +kernel
theorem dL_law_1130 : decode cL_law 1130 = .ok (.invokevirtual 136, 3) := by decide +kernel
theorem dL_law_1133 : decode cL_law 1133 = .ok (.if_icmp .eq 71, 3) := by decide +kernel
theorem dL_law_1136 : decode cL_law 1136 = .ok (.iconst 0, 1) := by decide +kernel
theorem dL_law_1137 : decode cL_law 1137 = .ok (.ireturn, 1) := by decide +kernel
theorem dL_law_1138 : decode cL_law 1138 = .ok (.aload_n 1, 1) := by decide +kernel
theorem dL_law_1139 : decode cL_law 1139 = .ok (.aload_n 0, 1) := by decide +kernel
theorem dL_law_1140 : decode cL_law 1140 = .ok (.iload_n 3, 1) := by decide +kernel
theorem dL_law_1141 : decode cL_law 1141 = .ok (.iconst 1, 1) := by decide +kernel
theorem dL_law_1142 : decode cL_law 1142 = .ok (.iadd, 1) := by decide +kernel
theorem dL_law_1143 : decode cL_law 1143 = .ok (.iaload, 1) := by decide +kernel
theorem dL_law_1144 : decode cL_law 1144 = .ok (.aload_n 0, 1) := by decide +kernel
theorem dL_law_1145 : decode cL_law 1145 = .ok (.iload_n 3, 1) := by decide +kernel
theorem dL_law_1146 : decode cL_law 1146 = .ok (.iconst 2, 1) := by decide +kernel
theorem dL_law_1147 : decode cL_law 1147 = .ok (.iadd, 1) := by decide +kernel
theorem dL_law_1148 : decode cL_law 1148 = .ok (.iaload, 1) := by decide +kernel
theorem dL_law_1149 : decode cL_law 1149 = .ok (.aload_n 0, 1) := by decide +kernel
theorem dL_law_1150 : decode cL_law 1150 = .ok (.iload_n 3, 1) := by decide +kernel
theorem dL_law_1151 : decode cL_law 1151 = .ok (.iconst 3, 1) := by decide +kernel
theorem dL_law_1152 : decode cL_law 1152 = .ok (.iadd, 1) := by decide +kernel
theorem dL_law_1153 : decode cL_law 1153 = .ok (.iaload, 1) := by decide +kernel
theorem dL_law_1154 : decode cL_law 1154 = .ok (.invokevirtual 137, 3) := by decide +kernel
theorem dL_law_1157 : decode cL_law 1157 = .ok (.aload_n 2, 1) := by decide +kernel
theorem dL_law_1158 : decode cL_law 1158 = .ok (.aload_n 0, 1) := by decide +kernel
theorem dL_law_1159 : decode cL_law 1159 = .ok (.iload_n 3, 1) := by decide +kernel
theorem dL_law_1160 : decode cL_law 1160 = .ok (.iconst 1, 1) := by decide +kernel
theorem dL_law_1161 : decode cL_law 1161 = .ok (.iadd, 1) := by decide +kernel
theorem dL_law_1162 : decode cL_law 1162 = .ok (.iaload, 1) := by decide +kernel
theorem dL_law_1163 : decode cL_law 1163 = .ok (.aload_n 0, 1) := by decide +kernel
theorem dL_law_1164 : decode cL_law 1164 = .ok (.iload_n 3, 1) := by decide +kernel
theorem dL_law_1165 : decode cL_law 1165 = .ok (.iconst 2, 1) := by decide +kernel
theorem dL_law_1166 : decode cL_law 1166 = .ok (.iadd, 1) := by decide +kernel
theorem dL_law_1167 : decode cL_law 1167 = .ok (.iaload, 1) := by decide +kernel
theorem dL_law_1168 : decode cL_law 1168 = .ok (.aload_n 0, 1) := by decide +kernel
theorem dL_law_1169 : decode cL_law 1169 = .ok (.iload_n 3, 1) := by decide +kernel
theorem dL_law_1170 : decode cL_law 1170 = .ok (.iconst 3, 1) := by decide +kernel
theorem dL_law_1171 : decode cL_law 1171 = .ok (.iadd, 1) := by decide +kernel
theorem dL_law_1172 : decode cL_law 1172 = .ok (.iaload, 1) := by decide +kernel
theorem dL_law_1173 : decode cL_law 1173 = .ok (.invokevirtual 140, 3) := by decide +kernel
theorem dL_law_1176 : decode cL_law 1176 = .ok (.if_icmp .eq 28, 3) := by decide +kernel
theorem dL_law_1179 : decode cL_law 1179 = .ok (.iconst 0, 1) := by decide +kernel
theorem dL_law_1180 : decode cL_law 1180 = .ok (.ireturn, 1) := by decide +kernel
theorem dL_law_1181 : decode cL_law 1181 = .ok (.aload_n 1, 1) := by decide +kernel
theorem dL_law_1182 : decode cL_law 1182 = .ok (.aload_n 0, 1) := by decide +kernel
theorem dL_law_1183 : decode cL_law 1183 = .ok (.iload_n 3, 1) := by decide +kernel
theorem dL_law_1184 : decode cL_law 1184 = .ok (.iconst 1, 1) := by decide +kernel
theorem dL_law_1185 : decode cL_law 1185 = .ok (.iadd, 1) := by decide +kernel
theorem dL_law_1186 : decode cL_law 1186 = .ok (.iaload, 1) := by decide +kernel
theorem dL_law_1187 : decode cL_law 1187 = .ok (.invokevirtual 141, 3) := by decide +kernel
theorem dL_law_1190 : decode cL_law 1190 = .ok (.aload_n 2, 1) := by decide +kernel
theorem dL_law_1191 : decode cL_law 1191 = .ok (.aload_n 0, 1) := by decide +kernel
theorem dL_law_1192 : decode cL_law 1192 = .ok (.iload_n 3, 1) := by decide +kernel
theorem dL_law_1193 : decode cL_law 1193 = .ok (.iconst 1, 1) := by decide +kernel
theorem dL_law_1194 : decode cL_law 1194 = .ok (.iadd, 1) := by decide +kernel
theorem dL_law_1195 : decode cL_law 1195 = .ok (.iaload, 1) := by decide +kernel
theorem dL_law_1196 : decode cL_law 1196 = .ok (.invokevirtual 144, 3) := by decide +kernel
theorem dL_law_1199 : decode cL_law 1199 = .ok (.if_icmp .eq 5, 3) := by decide +kernel
theorem dL_law_1202 : decode cL_law 1202 = .ok (.iconst 0, 1) := by decide +kernel
theorem dL_law_1203 : decode cL_law 1203 = .ok (.ireturn, 1) := by decide +kernel
theorem dL_law_1204 : decode cL_law 1204 = .ok (.iinc 3 5, 3) := by decide +kernel
theorem dL_law_1207 : decode cL_law 1207 = .ok (.goto (-1189), 3) := by decide +kernel
theorem dL_law_1210 : decode cL_law 1210 = .ok (.iconst 1, 1) := by decide +kernel
theorem dL_law_1211 : decode cL_law 1211 = .ok (.ireturn, 1) := by decide +kernel
end
section
/-! The whole world of a run: every cell has a kind k and a number j; its numbers are I k j · (ints) and L k j · (longs). V: the kit's W over that world. -/
abbrev TI : Type := Nat → Nat → Nat → Int32
abbrev TL : Type := Nat → Nat → Nat → Int64
abbrev VE : Type := va_G × (Nat → ClassId) × (Nat → Nat → Nat) × Nat
abbrev eC (E : VE) : Nat → ClassId := E.2.1
abbrev eA (E : VE) : Nat → Nat → Nat := E.2.2.1
abbrev eF (E : VE) : Nat → Prop := fun q => E.2.2.2 ≤ q
def ve_tys (E : VE) : List (ClassId × FieldType) := [(eC E 0, .int), (eC E 1, .long), (eC E 2, .object "WellTables$Grid"), (eC E 3, .object "WellTables$Web")]
def cef (E : VE) (k j : Nat) (f : Nat → Int32) (g : Nat → Int64) : va_E := match k with
  | 0 => .inr (5, [.ref (eA E 1 0), .int (f 1), .ref (eA E 4 0), .int (f 3), .ref (eA E 9 0), .int (f 5), .ref (eA E 10 0), .ref (eA E 11 0), .ref (eA E 12 0), .ref (eA E 15 0), .ref (eA E 17 0)])
  | 1 => .inl (eC E 2, 12, .inr (.inr (.inr (.inr (fun i => some (eA E 2 i))))))
  | 2 => .inr (0, [.ref (eA E 3 j), .int (f 1), .int (f 2), .int (f 3), .int (f 4), .int (f 5)])
  | 3 => .inl (eC E 0, 25, .inl f)
  | 4 => .inl (eC E 3, 4, .inr (.inr (.inr (.inr (fun i => some (eA E 5 i))))))
  | 5 => .inr (3, [.ref (eA E 6 j), .ref (eA E 7 j), .ref (eA E 8 j), .int (f 3), .int (f 4)])
  | 6 => .inl (eC E 0, 16, .inl f)
  | 7 => .inl (eC E 0, 16, .inl f)
  | 8 => .inl (eC E 0, 16, .inl f)
  | 9 => .inl (eC E 0, 16, .inl f)
  | 10 => .inl (eC E 0, 5, .inl f)
  | 11 => .inl (eC E 0, 9, .inl f)
  | 12 => .inr (4, [.ref (eA E 13 0), .ref (eA E 14 0)])
  | 13 => .inl (eC E 1, 32, .inr (.inl g))
  | 14 => .inl (eC E 0, 5, .inl f)
  | 15 => .inr (2, [.ref (eA E 16 0)])
  | 16 => .inl (eC E 1, 544, .inr (.inl g))
  | 17 => .inr (1, [.ref (eA E 18 0), .ref (eA E 19 0), .ref (eA E 20 0), .ref (eA E 21 0), .int (f 4), .int (f 5), .ref (eA E 22 0), .ref (eA E 23 0), .long (g 8), .long (g 9)])
  | 18 => .inl (eC E 0, 9, .inl f)
  | 19 => .inl (eC E 0, 9, .inl f)
  | 20 => .inl (eC E 1, 9, .inr (.inl g))
  | 21 => .inl (eC E 1, 9, .inr (.inl g))
  | 22 => .inl (eC E 1, 9, .inr (.inl g))
  | 23 => .inl (eC E 1, 9, .inr (.inl g))
  | 30 => .inr (6, [.ref (eA E 31 0), .ref (eA E 32 0), .ref (eA E 33 0), .ref (eA E 34 0), .ref (eA E 35 0), .int (f 5), .ref (eA E 36 0), .ref (eA E 37 0), .ref (eA E 38 0), .ref (eA E 39 0), .ref (eA E 40 0), .int (f 11), .ref (eA E 41 0), .ref (eA E 42 0), .int (f 14), .int (f 15), .int (f 16), .int (f 17), .int (f 18), .ref (eA E 43 0), .ref (eA E 44 0), .ref (eA E 45 0), .ref (eA E 46 0), .ref (eA E 47 0), .int (f 24), .int (f 25), .int (f 26), .ref (eA E 48 0), .ref (eA E 49 0), .ref (eA E 50 0), .ref (eA E 51 0), .ref (eA E 52 0), .ref (eA E 53 0), .int (f 33), .int (f 34), .long (g 35), .long (g 36)])
  | 31 => .inl (eC E 0, 300, .inl f)
  | 32 => .inl (eC E 0, 12, .inl f)
  | 33 => .inl (eC E 0, 12, .inl f)
  | 34 => .inl (eC E 0, 12, .inl f)
  | 35 => .inl (eC E 0, 12, .inl f)
  | 36 => .inl (eC E 0, 4, .inl f)
  | 37 => .inl (eC E 0, 4, .inl f)
  | 38 => .inl (eC E 0, 64, .inl f)
  | 39 => .inl (eC E 0, 64, .inl f)
  | 40 => .inl (eC E 0, 64, .inl f)
  | 41 => .inl (eC E 0, 9, .inl f)
  | 42 => .inl (eC E 1, 32, .inr (.inl g))
  | 43 => .inl (eC E 1, 25, .inr (.inl g))
  | 44 => .inl (eC E 0, 544, .inl f)
  | 45 => .inl (eC E 1, 544, .inr (.inl g))
  | 46 => .inl (eC E 0, 16, .inl f)
  | 47 => .inl (eC E 0, 16, .inl f)
  | 48 => .inl (eC E 1, 9, .inr (.inl g))
  | 49 => .inl (eC E 1, 9, .inr (.inl g))
  | 50 => .inl (eC E 1, 12, .inr (.inl g))
  | 51 => .inl (eC E 1, 12, .inr (.inl g))
  | 52 => .inl (eC E 0, 12, .inl f)
  | 53 => .inl (eC E 0, 12, .inl f)
  | _ => .inr (0, [])
theorem cef_0 (E : VE) (j : Nat) (f : Nat → Int32) (g : Nat → Int64) : cef E 0 j f g = .inr (5, [.ref (eA E 1 0), .int (f 1), .ref (eA E 4 0), .int (f 3), .ref (eA E 9 0), .int (f 5), .ref (eA E 10 0), .ref (eA E 11 0), .ref (eA E 12 0), .ref (eA E 15 0), .ref (eA E 17 0)]) := rfl
theorem cef_1 (E : VE) (j : Nat) (f : Nat → Int32) (g : Nat → Int64) : cef E 1 j f g = .inl (eC E 2, 12, .inr (.inr (.inr (.inr (fun i => some (eA E 2 i)))))) := rfl
theorem cef_2 (E : VE) (j : Nat) (f : Nat → Int32) (g : Nat → Int64) : cef E 2 j f g = .inr (0, [.ref (eA E 3 j), .int (f 1), .int (f 2), .int (f 3), .int (f 4), .int (f 5)]) := rfl
theorem cef_3 (E : VE) (j : Nat) (f : Nat → Int32) (g : Nat → Int64) : cef E 3 j f g = .inl (eC E 0, 25, .inl f) := rfl
theorem cef_4 (E : VE) (j : Nat) (f : Nat → Int32) (g : Nat → Int64) : cef E 4 j f g = .inl (eC E 3, 4, .inr (.inr (.inr (.inr (fun i => some (eA E 5 i)))))) := rfl
theorem cef_5 (E : VE) (j : Nat) (f : Nat → Int32) (g : Nat → Int64) : cef E 5 j f g = .inr (3, [.ref (eA E 6 j), .ref (eA E 7 j), .ref (eA E 8 j), .int (f 3), .int (f 4)]) := rfl
theorem cef_6 (E : VE) (j : Nat) (f : Nat → Int32) (g : Nat → Int64) : cef E 6 j f g = .inl (eC E 0, 16, .inl f) := rfl
theorem cef_7 (E : VE) (j : Nat) (f : Nat → Int32) (g : Nat → Int64) : cef E 7 j f g = .inl (eC E 0, 16, .inl f) := rfl
theorem cef_8 (E : VE) (j : Nat) (f : Nat → Int32) (g : Nat → Int64) : cef E 8 j f g = .inl (eC E 0, 16, .inl f) := rfl
theorem cef_9 (E : VE) (j : Nat) (f : Nat → Int32) (g : Nat → Int64) : cef E 9 j f g = .inl (eC E 0, 16, .inl f) := rfl
theorem cef_10 (E : VE) (j : Nat) (f : Nat → Int32) (g : Nat → Int64) : cef E 10 j f g = .inl (eC E 0, 5, .inl f) := rfl
theorem cef_11 (E : VE) (j : Nat) (f : Nat → Int32) (g : Nat → Int64) : cef E 11 j f g = .inl (eC E 0, 9, .inl f) := rfl
theorem cef_12 (E : VE) (j : Nat) (f : Nat → Int32) (g : Nat → Int64) : cef E 12 j f g = .inr (4, [.ref (eA E 13 0), .ref (eA E 14 0)]) := rfl
theorem cef_13 (E : VE) (j : Nat) (f : Nat → Int32) (g : Nat → Int64) : cef E 13 j f g = .inl (eC E 1, 32, .inr (.inl g)) := rfl
theorem cef_14 (E : VE) (j : Nat) (f : Nat → Int32) (g : Nat → Int64) : cef E 14 j f g = .inl (eC E 0, 5, .inl f) := rfl
theorem cef_15 (E : VE) (j : Nat) (f : Nat → Int32) (g : Nat → Int64) : cef E 15 j f g = .inr (2, [.ref (eA E 16 0)]) := rfl
theorem cef_16 (E : VE) (j : Nat) (f : Nat → Int32) (g : Nat → Int64) : cef E 16 j f g = .inl (eC E 1, 544, .inr (.inl g)) := rfl
theorem cef_17 (E : VE) (j : Nat) (f : Nat → Int32) (g : Nat → Int64) : cef E 17 j f g = .inr (1, [.ref (eA E 18 0), .ref (eA E 19 0), .ref (eA E 20 0), .ref (eA E 21 0), .int (f 4), .int (f 5), .ref (eA E 22 0), .ref (eA E 23 0), .long (g 8), .long (g 9)]) := rfl
theorem cef_18 (E : VE) (j : Nat) (f : Nat → Int32) (g : Nat → Int64) : cef E 18 j f g = .inl (eC E 0, 9, .inl f) := rfl
theorem cef_19 (E : VE) (j : Nat) (f : Nat → Int32) (g : Nat → Int64) : cef E 19 j f g = .inl (eC E 0, 9, .inl f) := rfl
theorem cef_20 (E : VE) (j : Nat) (f : Nat → Int32) (g : Nat → Int64) : cef E 20 j f g = .inl (eC E 1, 9, .inr (.inl g)) := rfl
theorem cef_21 (E : VE) (j : Nat) (f : Nat → Int32) (g : Nat → Int64) : cef E 21 j f g = .inl (eC E 1, 9, .inr (.inl g)) := rfl
theorem cef_22 (E : VE) (j : Nat) (f : Nat → Int32) (g : Nat → Int64) : cef E 22 j f g = .inl (eC E 1, 9, .inr (.inl g)) := rfl
theorem cef_23 (E : VE) (j : Nat) (f : Nat → Int32) (g : Nat → Int64) : cef E 23 j f g = .inl (eC E 1, 9, .inr (.inl g)) := rfl
theorem cef_30 (E : VE) (j : Nat) (f : Nat → Int32) (g : Nat → Int64) : cef E 30 j f g = .inr (6, [.ref (eA E 31 0), .ref (eA E 32 0), .ref (eA E 33 0), .ref (eA E 34 0), .ref (eA E 35 0), .int (f 5), .ref (eA E 36 0), .ref (eA E 37 0), .ref (eA E 38 0), .ref (eA E 39 0), .ref (eA E 40 0), .int (f 11), .ref (eA E 41 0), .ref (eA E 42 0), .int (f 14), .int (f 15), .int (f 16), .int (f 17), .int (f 18), .ref (eA E 43 0), .ref (eA E 44 0), .ref (eA E 45 0), .ref (eA E 46 0), .ref (eA E 47 0), .int (f 24), .int (f 25), .int (f 26), .ref (eA E 48 0), .ref (eA E 49 0), .ref (eA E 50 0), .ref (eA E 51 0), .ref (eA E 52 0), .ref (eA E 53 0), .int (f 33), .int (f 34), .long (g 35), .long (g 36)]) := rfl
theorem cef_31 (E : VE) (j : Nat) (f : Nat → Int32) (g : Nat → Int64) : cef E 31 j f g = .inl (eC E 0, 300, .inl f) := rfl
theorem cef_32 (E : VE) (j : Nat) (f : Nat → Int32) (g : Nat → Int64) : cef E 32 j f g = .inl (eC E 0, 12, .inl f) := rfl
theorem cef_33 (E : VE) (j : Nat) (f : Nat → Int32) (g : Nat → Int64) : cef E 33 j f g = .inl (eC E 0, 12, .inl f) := rfl
theorem cef_34 (E : VE) (j : Nat) (f : Nat → Int32) (g : Nat → Int64) : cef E 34 j f g = .inl (eC E 0, 12, .inl f) := rfl
theorem cef_35 (E : VE) (j : Nat) (f : Nat → Int32) (g : Nat → Int64) : cef E 35 j f g = .inl (eC E 0, 12, .inl f) := rfl
theorem cef_36 (E : VE) (j : Nat) (f : Nat → Int32) (g : Nat → Int64) : cef E 36 j f g = .inl (eC E 0, 4, .inl f) := rfl
theorem cef_37 (E : VE) (j : Nat) (f : Nat → Int32) (g : Nat → Int64) : cef E 37 j f g = .inl (eC E 0, 4, .inl f) := rfl
theorem cef_38 (E : VE) (j : Nat) (f : Nat → Int32) (g : Nat → Int64) : cef E 38 j f g = .inl (eC E 0, 64, .inl f) := rfl
theorem cef_39 (E : VE) (j : Nat) (f : Nat → Int32) (g : Nat → Int64) : cef E 39 j f g = .inl (eC E 0, 64, .inl f) := rfl
theorem cef_40 (E : VE) (j : Nat) (f : Nat → Int32) (g : Nat → Int64) : cef E 40 j f g = .inl (eC E 0, 64, .inl f) := rfl
theorem cef_41 (E : VE) (j : Nat) (f : Nat → Int32) (g : Nat → Int64) : cef E 41 j f g = .inl (eC E 0, 9, .inl f) := rfl
theorem cef_42 (E : VE) (j : Nat) (f : Nat → Int32) (g : Nat → Int64) : cef E 42 j f g = .inl (eC E 1, 32, .inr (.inl g)) := rfl
theorem cef_43 (E : VE) (j : Nat) (f : Nat → Int32) (g : Nat → Int64) : cef E 43 j f g = .inl (eC E 1, 25, .inr (.inl g)) := rfl
theorem cef_44 (E : VE) (j : Nat) (f : Nat → Int32) (g : Nat → Int64) : cef E 44 j f g = .inl (eC E 0, 544, .inl f) := rfl
theorem cef_45 (E : VE) (j : Nat) (f : Nat → Int32) (g : Nat → Int64) : cef E 45 j f g = .inl (eC E 1, 544, .inr (.inl g)) := rfl
theorem cef_46 (E : VE) (j : Nat) (f : Nat → Int32) (g : Nat → Int64) : cef E 46 j f g = .inl (eC E 0, 16, .inl f) := rfl
theorem cef_47 (E : VE) (j : Nat) (f : Nat → Int32) (g : Nat → Int64) : cef E 47 j f g = .inl (eC E 0, 16, .inl f) := rfl
theorem cef_48 (E : VE) (j : Nat) (f : Nat → Int32) (g : Nat → Int64) : cef E 48 j f g = .inl (eC E 1, 9, .inr (.inl g)) := rfl
theorem cef_49 (E : VE) (j : Nat) (f : Nat → Int32) (g : Nat → Int64) : cef E 49 j f g = .inl (eC E 1, 9, .inr (.inl g)) := rfl
theorem cef_50 (E : VE) (j : Nat) (f : Nat → Int32) (g : Nat → Int64) : cef E 50 j f g = .inl (eC E 1, 12, .inr (.inl g)) := rfl
theorem cef_51 (E : VE) (j : Nat) (f : Nat → Int32) (g : Nat → Int64) : cef E 51 j f g = .inl (eC E 1, 12, .inr (.inl g)) := rfl
theorem cef_52 (E : VE) (j : Nat) (f : Nat → Int32) (g : Nat → Int64) : cef E 52 j f g = .inl (eC E 0, 12, .inl f) := rfl
theorem cef_53 (E : VE) (j : Nat) (f : Nat → Int32) (g : Nat → Int64) : cef E 53 j f g = .inl (eC E 0, 12, .inl f) := rfl
def DL : List (Nat × Nat) := [(0, 0), (1, 0), (2, 0), (2, 1), (2, 2), (2, 3), (2, 4), (2, 5), (2, 6), (2, 7), (2, 8), (2, 9), (2, 10), (2, 11), (3, 0), (3, 1), (3, 2), (3, 3), (3, 4), (3, 5), (3, 6), (3, 7), (3, 8), (3, 9), (3, 10), (3, 11), (4, 0), (5, 0), (5, 1), (5, 2), (5, 3), (6, 0), (6, 1), (6, 2), (6, 3), (7, 0), (7, 1), (7, 2), (7, 3), (8, 0), (8, 1), (8, 2), (8, 3), (9, 0), (10, 0), (11, 0), (12, 0), (13, 0), (14, 0), (15, 0), (16, 0), (17, 0), (18, 0), (19, 0), (20, 0), (21, 0), (22, 0), (23, 0), (30, 0), (31, 0), (32, 0), (33, 0), (34, 0), (35, 0), (36, 0), (37, 0), (38, 0), (39, 0), (40, 0), (41, 0), (42, 0), (43, 0), (44, 0), (45, 0), (46, 0), (47, 0), (48, 0), (49, 0), (50, 0), (51, 0), (52, 0), (53, 0)]
theorem dl_0 : (0, 0) ∈ DL := by decide +kernel
theorem dl_1 : (1, 0) ∈ DL := by decide +kernel
theorem dl_2 {j : Nat} (h : j < 12) : (2, j) ∈ DL := (show ∀ j, j < 12 → (2, j) ∈ DL by decide +kernel) j h
theorem dl_3 {j : Nat} (h : j < 12) : (3, j) ∈ DL := (show ∀ j, j < 12 → (3, j) ∈ DL by decide +kernel) j h
theorem dl_4 : (4, 0) ∈ DL := by decide +kernel
theorem dl_5 {j : Nat} (h : j < 4) : (5, j) ∈ DL := (show ∀ j, j < 4 → (5, j) ∈ DL by decide +kernel) j h
theorem dl_6 {j : Nat} (h : j < 4) : (6, j) ∈ DL := (show ∀ j, j < 4 → (6, j) ∈ DL by decide +kernel) j h
theorem dl_7 {j : Nat} (h : j < 4) : (7, j) ∈ DL := (show ∀ j, j < 4 → (7, j) ∈ DL by decide +kernel) j h
theorem dl_8 {j : Nat} (h : j < 4) : (8, j) ∈ DL := (show ∀ j, j < 4 → (8, j) ∈ DL by decide +kernel) j h
theorem dl_9 : (9, 0) ∈ DL := by decide +kernel
theorem dl_10 : (10, 0) ∈ DL := by decide +kernel
theorem dl_11 : (11, 0) ∈ DL := by decide +kernel
theorem dl_12 : (12, 0) ∈ DL := by decide +kernel
theorem dl_13 : (13, 0) ∈ DL := by decide +kernel
theorem dl_14 : (14, 0) ∈ DL := by decide +kernel
theorem dl_15 : (15, 0) ∈ DL := by decide +kernel
theorem dl_16 : (16, 0) ∈ DL := by decide +kernel
theorem dl_17 : (17, 0) ∈ DL := by decide +kernel
theorem dl_18 : (18, 0) ∈ DL := by decide +kernel
theorem dl_19 : (19, 0) ∈ DL := by decide +kernel
theorem dl_20 : (20, 0) ∈ DL := by decide +kernel
theorem dl_21 : (21, 0) ∈ DL := by decide +kernel
theorem dl_22 : (22, 0) ∈ DL := by decide +kernel
theorem dl_23 : (23, 0) ∈ DL := by decide +kernel
theorem dl_30 : (30, 0) ∈ DL := by decide +kernel
theorem dl_31 : (31, 0) ∈ DL := by decide +kernel
theorem dl_32 : (32, 0) ∈ DL := by decide +kernel
theorem dl_33 : (33, 0) ∈ DL := by decide +kernel
theorem dl_34 : (34, 0) ∈ DL := by decide +kernel
theorem dl_35 : (35, 0) ∈ DL := by decide +kernel
theorem dl_36 : (36, 0) ∈ DL := by decide +kernel
theorem dl_37 : (37, 0) ∈ DL := by decide +kernel
theorem dl_38 : (38, 0) ∈ DL := by decide +kernel
theorem dl_39 : (39, 0) ∈ DL := by decide +kernel
theorem dl_40 : (40, 0) ∈ DL := by decide +kernel
theorem dl_41 : (41, 0) ∈ DL := by decide +kernel
theorem dl_42 : (42, 0) ∈ DL := by decide +kernel
theorem dl_43 : (43, 0) ∈ DL := by decide +kernel
theorem dl_44 : (44, 0) ∈ DL := by decide +kernel
theorem dl_45 : (45, 0) ∈ DL := by decide +kernel
theorem dl_46 : (46, 0) ∈ DL := by decide +kernel
theorem dl_47 : (47, 0) ∈ DL := by decide +kernel
theorem dl_48 : (48, 0) ∈ DL := by decide +kernel
theorem dl_49 : (49, 0) ∈ DL := by decide +kernel
theorem dl_50 : (50, 0) ∈ DL := by decide +kernel
theorem dl_51 : (51, 0) ∈ DL := by decide +kernel
theorem dl_52 : (52, 0) ∈ DL := by decide +kernel
theorem dl_53 : (53, 0) ∈ DL := by decide +kernel
def wl (E : VE) (I : TI) (L : TL) : va_W := DL.map (fun q => (eA E q.1 q.2, cef E q.1 q.2 (I q.1 q.2) (L q.1 q.2)))
def upI (I : TI) (k j x : Nat) (v : Int32) : TI := fun k' j' x' => if k' = k ∧ j' = j ∧ x' = x then v else I k' j' x'
def upL (L : TL) (k j x : Nat) (v : Int64) : TL := fun k' j' x' => if k' = k ∧ j' = j ∧ x' = x then v else L k' j' x'
theorem upI_row (I : TI) (k j x : Nat) (v : Int32) : upI I k j x v k j = upd (I k j) x v := by
  funext y; simp [upI, upd]
theorem upI_off (I : TI) (k j x : Nat) (v : Int32) {k' j' : Nat} (h : (k', j') ≠ (k, j)) : upI I k j x v k' j' = I k' j' := by
  funext y
  unfold upI
  rw [if_neg]
  rintro ⟨rfl, rfl, -⟩
  exact h rfl
theorem upL_row (L : TL) (k j x : Nat) (v : Int64) : upL L k j x v k j = vp_updL (L k j) x v := by
  funext y; simp [upL, vp_updL]
theorem upL_off (L : TL) (k j x : Nat) (v : Int64) {k' j' : Nat} (h : (k', j') ≠ (k, j)) : upL L k j x v k' j' = L k' j' := by
  funext y
  unfold upL
  rw [if_neg]
  rintro ⟨rfl, rfl, -⟩
  exact h rfl
theorem dl_inj : ∀ i, i < DL.length → ∀ j, j < DL.length → DL[i]? = DL[j]? → i = j := by decide +kernel
theorem wl_at {k j : Nat} (h : (k, j) ∈ DL) : ∃ q0 : Nat, DL[q0]? = some (k, j) ∧ ∀ (E : VE) (I : TI) (L : TL), (wl E I L)[q0]? = some (eA E k j, cef E k j (I k j) (L k j)) := by
  obtain ⟨q0, h0⟩ := List.getElem?_of_mem h
  exact ⟨q0, h0, fun E I L => by simp [wl, List.getElem?_map, h0]⟩
theorem wl_set {E : VE} {I I' : TI} {L L' : TL} {k j q0 : Nat} (h0 : DL[q0]? = some (k, j)) (hI : ∀ k' j', (k', j') ≠ (k, j) → I' k' j' = I k' j') (hL : ∀ k' j', (k', j') ≠ (k, j) → L' k' j' = L k' j') :
    (wl E I L).set q0 (eA E k j, cef E k j (I' k j) (L' k j)) = wl E I' L' := by
  have hlt : q0 < DL.length := (List.getElem?_eq_some_iff.mp h0).1
  have hw : q0 < (wl E I L).length := by unfold wl; rw [List.length_map]; exact hlt
  apply List.ext_getElem?
  intro i
  rw [List.getElem?_set]
  by_cases hi : q0 = i
  · subst hi
    rw [if_pos rfl, if_pos hw]
    unfold wl
    rw [List.getElem?_map, h0]
    rfl
  · rw [if_neg hi]
    unfold wl
    rw [List.getElem?_map, List.getElem?_map]
    cases hq : DL[i]? with
    | none => rfl
    | some q =>
      have hne : q ≠ (k, j) := by
        intro e
        subst e
        exact hi (dl_inj q0 hlt i (List.getElem?_eq_some_iff.mp hq).1 (h0.trans hq.symm))
      obtain ⟨a, b⟩ := q
      simp only [Option.map_some]
      rw [hI a b hne, hL a b hne]
/-! words of nest mates -/
def nwF : List (String × Nat × String × String × String × String) := [("WellTables", 214, "WellTables$Maker", "kinds", "[I", "WellTables"), ("WellTables", 217, "WellTables$Maker", "lines", "[I", "WellTables"), ("WellTables", 219, "WellTables$Maker", "uppers", "[J", "WellTables"), ("WellTables", 223, "WellTables$Maker", "lowers", "[J", "WellTables"), ("WellTables", 213, "WellTables$Maker", "steps", "I", "WellTables"), ("WellTables$Maker", 47, "WellTables$Grid", "rows", "I", "WellTables"), ("WellTables$Worths", 23, "WellTables$Grid", "rows", "I", "WellTables"), ("WellTables", 101, "WellTables$Grid", "rows", "I", "WellTables"), ("WellTables$Worths", 29, "WellTables$Grid", "columns", "I", "WellTables"), ("WellTables", 104, "WellTables$Grid", "columns", "I", "WellTables"), ("WellTables", 85, "WellTables$Grid", "kind", "I", "WellTables"), ("WellTables", 114, "WellTables$Grid", "net", "I", "WellTables"), ("WellTables", 232, "WellTables$Grid", "fits", "Z", "WellTables"), ("WellTables$Ways", 25, "WellTables$Web", "weights", "[I", "WellTables"), ("WellTables", 177, "WellTables$Web", "lines", "I", "WellTables"), ("WellTables$Ways", 15, "WellTables$Web", "steps", "I", "WellTables"), ("WellTables", 171, "WellTables$Web", "steps", "I", "WellTables")]
def nwM : List (String × Nat × MethodName × String) := [("WellTables", 33, ⟨"WellTables$Worths", "<init>", "()V"⟩, "WellTables"), ("WellTables", 40, ⟨"WellTables$Ways", "<init>", "()V"⟩, "WellTables"), ("WellTables", 47, ⟨"WellTables$Maker", "<init>", "()V"⟩, "WellTables"), ("WellTables", 52, ⟨"WellTables$Grid", "<init>", "()V"⟩, "WellTables"), ("WellTables", 53, ⟨"WellTables$Web", "<init>", "()V"⟩, "WellTables"), ("WellTables$Grid", 42, ⟨"WellTables", "isNumber", "(J)Z"⟩, "WellTables"), ("WellTables$Worths", 66, ⟨"WellTables", "holds", "(II)Z"⟩, "WellTables"), ("WellTables$Worths", 48, ⟨"WellTables", "areAsMany", "(II)Z"⟩, "WellTables"), ("WellTables$Worths", 52, ⟨"WellTables", "signOf", "(J)I"⟩, "WellTables"), ("WellTables$Web", 28, ⟨"WellTables", "holds", "(II)Z"⟩, "WellTables"), ("WellTables$Maker", 87, ⟨"WellTables", "signOf", "(J)I"⟩, "WellTables")]
def NWok (U : State) : Prop := (∀ q ∈ nwF, va_Nw (.fieldLinkNest q.1 q.2.1 q.2.2.1 q.2.2.2.1 q.2.2.2.2.1 q.2.2.2.2.2) U) ∧ ∀ q ∈ nwM, va_Nw (.methodLinkNest q.1 q.2.1 q.2.2.1 q.2.2.2) U
theorem NWok.warm {s U : State} (hW : s.WarmedH U.vm) (h : NWok s) : NWok U := ⟨fun q hq => va_Nw.warmF hW (h.1 q hq), fun q hq => va_Nw.warmM hW (h.2 q hq)⟩
theorem NWok.same {u U : State} (hv : u.vm = U.vm) (h : NWok u) : NWok U := ⟨fun q hq => va_Nw.same rfl hv (h.1 q hq), fun q hq => va_Nw.same rfl hv (h.2 q hq)⟩
/-! the judgement -/
abbrev VA : Type := (Program × Launch × Env × Room × State × MethodId × Array Value) × (List Frame × Method × Code) × (VE × Nat × Nat × (State → Prop))
abbrev vp (a : VA) : Program := a.1.1
abbrev vl (a : VA) : Launch := a.1.2.1
abbrev ve (a : VA) : Env := a.1.2.2.1
abbrev vR (a : VA) : Room := a.1.2.2.2.1
abbrev vs (a : VA) : State := a.1.2.2.2.2.1
abbrev vm (a : VA) : MethodId := a.1.2.2.2.2.2.1
abbrev vargs (a : VA) : Array Value := a.1.2.2.2.2.2.2
abbrev vbelow (a : VA) : List Frame := a.2.1.1
abbrev vmeth (a : VA) : Method := a.2.1.2.1
abbrev vc (a : VA) : Code := a.2.1.2.2
abbrev vE (a : VA) : VE := a.2.2.1
abbrev vcl (a : VA) : Nat := a.2.2.2.1
abbrev vsl (a : VA) : Nat := a.2.2.2.2.1
abbrev vQ (a : VA) : State → Prop := a.2.2.2.2.2
abbrev VW (a : VA) (H : Heap) (locs : List Loc) (g : JFrame) : Prop := W (vp a) (vl a) (ve a) (vR a) (vs a) (vm a) (vargs a) (vbelow a) (vmeth a) (vc a) H locs (vcl a) (vsl a) (vQ a) g
def V (a : VA) (pc : Nat) (lv : List (Nat × Value)) (st : List Value) (I : TI) (L : TL) : Prop :=
  ∀ (H : Heap) (locs : List Loc) (ls : Array Slot), lv_has ls (vc a).maxLocals lv → va_P (vE a).1 vwCl (wl (vE a) I L) H → va_S (eF (vE a)) (vs a).heap H locs → VW a H locs (F0 (vm a) pc ls st)
def EOk (E : VE) : Prop := ∀ (I : TI) (L : TL), va_D (eF E) (wl E I L)
def VOk (a : VA) (own : String) (cc : ByteArray) (rm : Room) (nL : Nat) : Prop :=
  (vp a).tables.exec = Jvm.exec ∧ (vc a).code = cc ∧ (vc a).maxLocals = nL ∧ (vs a).vm.findClass own = some (vm a).cls ∧ (∀ w ∈ WS, w.before (vargs a) (vs a) = true) ∧ NWok (vs a) ∧ va_K (vE a).1 vwCl (ve_tys (vE a)) (vs a) ∧ EOk (vE a) ∧ vR a = rm ∧ vcl a ≤ rm.cells ∧ vsl a ≤ rm.slots
def QQ (E : VE) (Post : Option Value → TI → TL → Prop) : Array Value → State → Outcome → State → Prop := fun _ st oc t =>
  (∃ (r : Option Value) (I : TI) (L : TL), oc = .returned r ∧ Post r I L ∧ va_P E.1 vwCl (wl E I L) t.heap) ∧ va_F (eF E) st t
def VRet (a : VA) (ret : Option FieldType) (Post : Option Value → TI → TL → Prop) : Prop :=
  (vmeth a).sig.returnType = ret ∧ (vmeth a).locks = false ∧ vQ a = MQ (vbelow a) (QQ (vE a) Post) (vargs a) (vs a) (vcl a) (vsl a) (eF (vE a))
def Ct (l : Launch) (E : VE) (y : MethodName) (b : ByteArray) (maxL : Nat) (ret : Option FieldType) (rm : Room) (args : List Value) (I : TI) (L : TL) (Post : Option Value → TI → TL → Prop) : Prop :=
  Met l y (.code y b maxL ret :: WS) rm (va_Pc args (fun U => va_P E.1 vwCl (wl E I L) U.heap ∧ va_K E.1 vwCl (ve_tys E) U ∧ NWok U)) (QQ E Post) 0 0 (eF E)
theorem ct_of {l : Launch} {E : VE} {y : MethodName} {b : ByteArray} {maxL : Nat} {ret : Option FieldType} {rm : Room} {args : List Value} {I : TI} {L : TL} {Post : Option Value → TI → TL → Prop}
    (hy : plainName y.cls = true) (hlen : (lg_sl args).length ≤ maxL) (hE : EOk E)
    (body : ∀ a : VA, VOk a y.cls b rm maxL → VRet a ret Post → vl a = l → vE a = E → V a 0 (lv_args 0 args) [] I L) : Ct l E y b maxL ret rm args I L Post := by
  refine Met.ofW (cc := b) (maxL := maxL) (ret := ret) hy rfl ?_
  intro p e s m as below meth c s₁ B hml hv
  obtain ⟨rfl, hP, hK, hN⟩ := hv
  have hts := atoms_spec (ws := Cond.code y b maxL ret :: WS) B.pre
  have hown : s.vm.findClass y.cls = some m.cls := findClass_of_methodNamed B.named
  have hl := lv_entry args (n := maxL) hlen
  rw [lg_entry_eq]
  refine body ((p, l, e, _, s, m, _), (below, meth, c), (E, 0, 0, _)) ⟨B.exec, B.bytes, hml, hown, fun w h => hts w (List.mem_cons_of_mem _ h), hN, hK, hE, rfl, Nat.zero_le _, Nat.zero_le _⟩ ⟨B.returns, B.notSynchronized, rfl⟩ rfl rfl s.heap [] _ ?_ hP va_S.rf
  show lv_has _ c.maxLocals _
  rw [hml]
  exact hl
theorem Ct.mono {l : Launch} {E : VE} {y : MethodName} {b : ByteArray} {maxL : Nat} {ret : Option FieldType} {rm : Room} {args : List Value} {I : TI} {L : TL} {Post Post' : Option Value → TI → TL → Prop}
    (h : Ct l E y b maxL ret rm args I L Post) (hp : ∀ r I' L', Post r I' L' → Post' r I' L') : Ct l E y b maxL ret rm args I L Post' := by
  intro p e ha hc hk s m args below hf happ hP hT
  obtain ⟨k, o, h1, h2, h3, ⟨⟨r, I', L', e1, e2, e3⟩, h4⟩, h5⟩ := h p e ha hc hk s m args below hf happ hP hT
  exact ⟨k, o, h1, h2, h3, ⟨⟨r, I', L', e1, hp _ _ _ e2, e3⟩, h4⟩, h5⟩
section VV
variable {a : VA} {own : String} {cc : ByteArray} {rm : Room} {nL : Nat} {pc : Nat} {lv : List (Nat × Value)} {st : List Value} {I : TI} {L : TL}
theorem v_sub (ks : List Nat) {lv' : List (Nat × Value)} (h : lv_pick lv ks = lv') (k : V a pc lv' st I L) : V a pc lv st I L := fun H locs ls hl hP hS => k H locs ls (lv_sub hl ks h) hP hS
theorem v_pc {pc' : Nat} (h : pc = pc') (k : V a pc' lv st I L) : V a pc lv st I L := h ▸ k
theorem v_topi {x : Int32} (k : ∀ y : Int32, y = x → V a pc lv (.int y :: st) I L) : V a pc lv (.int x :: st) I L := k x rfl
theorem v_topl {x : Int64} (k : ∀ y : Int64, y = x → V a pc lv (.long y :: st) I L) : V a pc lv (.long x :: st) I L := k x rfl
theorem v_eqi {x y : Int32} (h : x = y) (k : V a pc lv (.int y :: st) I L) : V a pc lv (.int x :: st) I L := h ▸ k
theorem v_eql {x y : Int64} (h : x = y) (k : V a pc lv (.long y :: st) I L) : V a pc lv (.long x :: st) I L := h ▸ k
theorem v_eqI {I' : TI} (h : I = I') (k : V a pc lv st I' L) : V a pc lv st I L := h ▸ k
theorem v_eqL {L' : TL} (h : L = L') (k : V a pc lv st I L') : V a pc lv st I L := h ▸ k
theorem v_iadd (X : VOk a own cc rm nL) {x y : Int32} (hd : decode cc pc = .ok (.iadd, 1)) (kk : V a (pc + 1) lv (.int (x + y) :: st) I L) : V a pc lv (.int y :: .int x :: st) I L := fun H locs ls hl hP hS => lv_iadd X.1 X.2.1 hd (kk H locs ls hl hP hS)
theorem v_isub (X : VOk a own cc rm nL) {x y : Int32} (hd : decode cc pc = .ok (.isub, 1)) (kk : V a (pc + 1) lv (.int (x - y) :: st) I L) : V a pc lv (.int y :: .int x :: st) I L := fun H locs ls hl hP hS => lv_isub X.1 X.2.1 hd (kk H locs ls hl hP hS)
theorem v_imul (X : VOk a own cc rm nL) {x y : Int32} (hd : decode cc pc = .ok (.imul, 1)) (kk : V a (pc + 1) lv (.int (x * y) :: st) I L) : V a pc lv (.int y :: .int x :: st) I L := fun H locs ls hl hP hS => lv_imul X.1 X.2.1 hd (kk H locs ls hl hP hS)
theorem v_iand (X : VOk a own cc rm nL) {x y : Int32} (hd : decode cc pc = .ok (.iand, 1)) (kk : V a (pc + 1) lv (.int (x &&& y) :: st) I L) : V a pc lv (.int y :: .int x :: st) I L := fun H locs ls hl hP hS => lv_iand X.1 X.2.1 hd (kk H locs ls hl hP hS)
theorem v_ior (X : VOk a own cc rm nL) {x y : Int32} (hd : decode cc pc = .ok (.ior, 1)) (kk : V a (pc + 1) lv (.int (x ||| y) :: st) I L) : V a pc lv (.int y :: .int x :: st) I L := fun H locs ls hl hP hS => lv_ior X.1 X.2.1 hd (kk H locs ls hl hP hS)
theorem v_ixor (X : VOk a own cc rm nL) {x y : Int32} (hd : decode cc pc = .ok (.ixor, 1)) (kk : V a (pc + 1) lv (.int (x ^^^ y) :: st) I L) : V a pc lv (.int y :: .int x :: st) I L := fun H locs ls hl hP hS => lv_ixor X.1 X.2.1 hd (kk H locs ls hl hP hS)
theorem v_ladd (X : VOk a own cc rm nL) {x y : Int64} (hd : decode cc pc = .ok (.ladd, 1)) (kk : V a (pc + 1) lv (.long (x + y) :: st) I L) : V a pc lv (.long y :: .long x :: st) I L := fun H locs ls hl hP hS => lv_ladd X.1 X.2.1 hd (kk H locs ls hl hP hS)
theorem v_lsub (X : VOk a own cc rm nL) {x y : Int64} (hd : decode cc pc = .ok (.lsub, 1)) (kk : V a (pc + 1) lv (.long (x - y) :: st) I L) : V a pc lv (.long y :: .long x :: st) I L := fun H locs ls hl hP hS => lv_lsub X.1 X.2.1 hd (kk H locs ls hl hP hS)
theorem v_lmul (X : VOk a own cc rm nL) {x y : Int64} (hd : decode cc pc = .ok (.lmul, 1)) (kk : V a (pc + 1) lv (.long (x * y) :: st) I L) : V a pc lv (.long y :: .long x :: st) I L := fun H locs ls hl hP hS => lv_lmul X.1 X.2.1 hd (kk H locs ls hl hP hS)
theorem v_ishl (X : VOk a own cc rm nL) {x y : Int32} (hd : decode cc pc = .ok (.ishl, 1)) (kk : V a (pc + 1) lv (.int (x <<< (y &&& 31)) :: st) I L) : V a pc lv (.int y :: .int x :: st) I L := fun H locs ls hl hP hS => lv_ishl X.1 X.2.1 hd (kk H locs ls hl hP hS)
theorem v_ishr (X : VOk a own cc rm nL) {x y : Int32} (hd : decode cc pc = .ok (.ishr, 1)) (kk : V a (pc + 1) lv (.int (x >>> (y &&& 31)) :: st) I L) : V a pc lv (.int y :: .int x :: st) I L := fun H locs ls hl hP hS => lv_ishr X.1 X.2.1 hd (kk H locs ls hl hP hS)
theorem v_iushr (X : VOk a own cc rm nL) {x y v : Int32} (hd : decode cc pc = .ok (.iushr, 1)) (hv : (x.toUInt32 >>> (y.toUInt32 &&& Int32.toUInt32 31)).toInt32 = v) (kk : V a (pc + 1) lv (.int v :: st) I L) : V a pc lv (.int y :: .int x :: st) I L := fun H locs ls hl hP hS => lv_iushr X.1 X.2.1 hd hv (kk H locs ls hl hP hS)
theorem v_lneg (X : VOk a own cc rm nL) {x : Int64} (hd : decode cc pc = .ok (.lneg, 1)) (kk : V a (pc + 1) lv (.long (-x) :: st) I L) : V a pc lv (.long x :: st) I L := fun H locs ls hl hP hS => lv_lneg X.1 X.2.1 hd (kk H locs ls hl hP hS)
theorem v_ineg (X : VOk a own cc rm nL) {x : Int32} (hd : decode cc pc = .ok (.ineg, 1)) (kk : V a (pc + 1) lv (.int (-x) :: st) I L) : V a pc lv (.int x :: st) I L := fun H locs ls hl hP hS => lv_ineg X.1 X.2.1 hd (kk H locs ls hl hP hS)
theorem v_i2l (X : VOk a own cc rm nL) {x : Int32} {v : Int64} (hd : decode cc pc = .ok (.i2l, 1)) (hv : x.toInt64 = v) (kk : V a (pc + 1) lv (.long v :: st) I L) : V a pc lv (.int x :: st) I L := fun H locs ls hl hP hS => lv_i2l X.1 X.2.1 hd hv (kk H locs ls hl hP hS)
theorem v_l2i (X : VOk a own cc rm nL) {x : Int64} {v : Int32} (hd : decode cc pc = .ok (.l2i, 1)) (hv : x.toInt32 = v) (kk : V a (pc + 1) lv (.int v :: st) I L) : V a pc lv (.long x :: st) I L := fun H locs ls hl hP hS => lv_l2i X.1 X.2.1 hd hv (kk H locs ls hl hP hS)
theorem v_irem (X : VOk a own cc rm nL) {x y : Int32} (hd : decode cc pc = .ok (.irem, 1)) (hne : ¬ y = 0) (kk : V a (pc + 1) lv (.int (x - x / y * y) :: st) I L) : V a pc lv (.int y :: .int x :: st) I L := fun H locs ls hl hP hS => lv_irem X.1 X.2.1 hd hne (kk H locs ls hl hP hS)
theorem v_lrem (X : VOk a own cc rm nL) {x y : Int64} (hd : decode cc pc = .ok (.lrem, 1)) (hne : ¬ y = 0) (kk : V a (pc + 1) lv (.long (x - x / y * y) :: st) I L) : V a pc lv (.long y :: .long x :: st) I L := fun H locs ls hl hP hS => lv_lrem X.1 X.2.1 hd hne (kk H locs ls hl hP hS)
theorem v_ldiv (X : VOk a own cc rm nL) {x y : Int64} (hd : decode cc pc = .ok (.ldiv, 1)) (hne : ¬ y = 0) (kk : V a (pc + 1) lv (.long (x / y) :: st) I L) : V a pc lv (.long y :: .long x :: st) I L := fun H locs ls hl hP hS => lv_ldiv X.1 X.2.1 hd hne (kk H locs ls hl hP hS)
theorem v_dup (X : VOk a own cc rm nL) {va : Value} (hd : decode cc pc = .ok (.dup, 1)) (hva : va.category = 1) (kk : V a (pc + 1) lv (va :: va :: st) I L) : V a pc lv (va :: st) I L := fun H locs ls hl hP hS => lv_dup X.1 X.2.1 hd hva (kk H locs ls hl hP hS)
theorem v_pop (X : VOk a own cc rm nL) {va : Value} (hd : decode cc pc = .ok (.pop, 1)) (hva : va.category = 1) (kk : V a (pc + 1) lv (st) I L) : V a pc lv (va :: st) I L := fun H locs ls hl hP hS => lv_pop X.1 X.2.1 hd hva (kk H locs ls hl hP hS)
theorem v_dup2_11 (X : VOk a own cc rm nL) {va vb : Value} (hd : decode cc pc = .ok (.dup2, 1)) (hva : va.category = 1) (hvb : vb.category = 1) (kk : V a (pc + 1) lv (va :: vb :: va :: vb :: st) I L) : V a pc lv (va :: vb :: st) I L := fun H locs ls hl hP hS => lv_dup2_11 X.1 X.2.1 hd hva hvb (kk H locs ls hl hP hS)
theorem v_dup2_2 (X : VOk a own cc rm nL) {va : Value} (hd : decode cc pc = .ok (.dup2, 1)) (hva : va.category = 2) (kk : V a (pc + 1) lv (va :: va :: st) I L) : V a pc lv (va :: st) I L := fun H locs ls hl hP hS => lv_dup2_2 X.1 X.2.1 hd hva (kk H locs ls hl hP hS)
theorem v_iconst (X : VOk a own cc rm nL) {n : Int} {v : Int32} (hd : decode cc pc = .ok (.iconst n, 1)) (hv : Int32.ofInt n = v) (kk : V a (pc + 1) lv (.int v :: st) I L) : V a pc lv (st) I L := fun H locs ls hl hP hS => lv_iconst X.1 X.2.1 hd hv (kk H locs ls hl hP hS)
theorem v_bipush (X : VOk a own cc rm nL) {n : Int} {v : Int32} (hd : decode cc pc = .ok (.bipush n, 2)) (hv : (Int8.ofInt n).toInt32 = v) (kk : V a (pc + 2) lv (.int v :: st) I L) : V a pc lv (st) I L := fun H locs ls hl hP hS => lv_bipush X.1 X.2.1 hd hv (kk H locs ls hl hP hS)
theorem v_sipush (X : VOk a own cc rm nL) {n : Int} {v : Int32} (hd : decode cc pc = .ok (.sipush n, 3)) (hv : (Int16.ofInt n).toInt32 = v) (kk : V a (pc + 3) lv (.int v :: st) I L) : V a pc lv (st) I L := fun H locs ls hl hP hS => lv_sipush X.1 X.2.1 hd hv (kk H locs ls hl hP hS)
theorem v_lconst (X : VOk a own cc rm nL) {n : Fin 2} {v : Int64} (hd : decode cc pc = .ok (.lconst n, 1)) (hv : Int64.ofNat (n : Nat) = v) (kk : V a (pc + 1) lv (.long v :: st) I L) : V a pc lv (st) I L := fun H locs ls hl hP hS => lv_lconst X.1 X.2.1 hd hv (kk H locs ls hl hP hS)
theorem v_if_eq (X : VOk a own cc rm nL) {x : Int32} {off : Int} {tgt : Nat} (hd : decode cc pc = .ok (.ifCond .eq off, 3)) (ht : (pc : Int) + off = (tgt : Int)) (kt : x = 0 → V a tgt lv st I L) (kf : ¬ x = 0 → V a (pc + 3) lv st I L) : V a pc lv (.int x :: st) I L := fun H locs ls hl hP hS => lv_if_eq X.1 X.2.1 hd ht (fun h => kt h H locs ls hl hP hS) (fun h => kf h H locs ls hl hP hS)
theorem v_icmp_eq (X : VOk a own cc rm nL) {x y : Int32} {off : Int} {tgt : Nat} (hd : decode cc pc = .ok (.if_icmp .eq off, 3)) (ht : (pc : Int) + off = (tgt : Int)) (kt : x = y → V a tgt lv st I L) (kf : ¬ x = y → V a (pc + 3) lv st I L) : V a pc lv (.int y :: .int x :: st) I L := fun H locs ls hl hP hS => lv_icmp_eq X.1 X.2.1 hd ht (fun h => kt h H locs ls hl hP hS) (fun h => kf h H locs ls hl hP hS)
theorem v_if_ne (X : VOk a own cc rm nL) {x : Int32} {off : Int} {tgt : Nat} (hd : decode cc pc = .ok (.ifCond .ne off, 3)) (ht : (pc : Int) + off = (tgt : Int)) (kt : ¬ x = 0 → V a tgt lv st I L) (kf : x = 0 → V a (pc + 3) lv st I L) : V a pc lv (.int x :: st) I L := fun H locs ls hl hP hS => lv_if_ne X.1 X.2.1 hd ht (fun h => kt h H locs ls hl hP hS) (fun h => kf h H locs ls hl hP hS)
theorem v_icmp_ne (X : VOk a own cc rm nL) {x y : Int32} {off : Int} {tgt : Nat} (hd : decode cc pc = .ok (.if_icmp .ne off, 3)) (ht : (pc : Int) + off = (tgt : Int)) (kt : ¬ x = y → V a tgt lv st I L) (kf : x = y → V a (pc + 3) lv st I L) : V a pc lv (.int y :: .int x :: st) I L := fun H locs ls hl hP hS => lv_icmp_ne X.1 X.2.1 hd ht (fun h => kt h H locs ls hl hP hS) (fun h => kf h H locs ls hl hP hS)
theorem v_if_lt (X : VOk a own cc rm nL) {x : Int32} {off : Int} {tgt : Nat} (hd : decode cc pc = .ok (.ifCond .lt off, 3)) (ht : (pc : Int) + off = (tgt : Int)) (kt : x < 0 → V a tgt lv st I L) (kf : ¬ x < 0 → V a (pc + 3) lv st I L) : V a pc lv (.int x :: st) I L := fun H locs ls hl hP hS => lv_if_lt X.1 X.2.1 hd ht (fun h => kt h H locs ls hl hP hS) (fun h => kf h H locs ls hl hP hS)
theorem v_icmp_lt (X : VOk a own cc rm nL) {x y : Int32} {off : Int} {tgt : Nat} (hd : decode cc pc = .ok (.if_icmp .lt off, 3)) (ht : (pc : Int) + off = (tgt : Int)) (kt : x < y → V a tgt lv st I L) (kf : ¬ x < y → V a (pc + 3) lv st I L) : V a pc lv (.int y :: .int x :: st) I L := fun H locs ls hl hP hS => lv_icmp_lt X.1 X.2.1 hd ht (fun h => kt h H locs ls hl hP hS) (fun h => kf h H locs ls hl hP hS)
theorem v_if_ge (X : VOk a own cc rm nL) {x : Int32} {off : Int} {tgt : Nat} (hd : decode cc pc = .ok (.ifCond .ge off, 3)) (ht : (pc : Int) + off = (tgt : Int)) (kt : 0 ≤ x → V a tgt lv st I L) (kf : ¬ 0 ≤ x → V a (pc + 3) lv st I L) : V a pc lv (.int x :: st) I L := fun H locs ls hl hP hS => lv_if_ge X.1 X.2.1 hd ht (fun h => kt h H locs ls hl hP hS) (fun h => kf h H locs ls hl hP hS)
theorem v_icmp_ge (X : VOk a own cc rm nL) {x y : Int32} {off : Int} {tgt : Nat} (hd : decode cc pc = .ok (.if_icmp .ge off, 3)) (ht : (pc : Int) + off = (tgt : Int)) (kt : y ≤ x → V a tgt lv st I L) (kf : ¬ y ≤ x → V a (pc + 3) lv st I L) : V a pc lv (.int y :: .int x :: st) I L := fun H locs ls hl hP hS => lv_icmp_ge X.1 X.2.1 hd ht (fun h => kt h H locs ls hl hP hS) (fun h => kf h H locs ls hl hP hS)
theorem v_if_gt (X : VOk a own cc rm nL) {x : Int32} {off : Int} {tgt : Nat} (hd : decode cc pc = .ok (.ifCond .gt off, 3)) (ht : (pc : Int) + off = (tgt : Int)) (kt : 0 < x → V a tgt lv st I L) (kf : ¬ 0 < x → V a (pc + 3) lv st I L) : V a pc lv (.int x :: st) I L := fun H locs ls hl hP hS => lv_if_gt X.1 X.2.1 hd ht (fun h => kt h H locs ls hl hP hS) (fun h => kf h H locs ls hl hP hS)
theorem v_icmp_gt (X : VOk a own cc rm nL) {x y : Int32} {off : Int} {tgt : Nat} (hd : decode cc pc = .ok (.if_icmp .gt off, 3)) (ht : (pc : Int) + off = (tgt : Int)) (kt : y < x → V a tgt lv st I L) (kf : ¬ y < x → V a (pc + 3) lv st I L) : V a pc lv (.int y :: .int x :: st) I L := fun H locs ls hl hP hS => lv_icmp_gt X.1 X.2.1 hd ht (fun h => kt h H locs ls hl hP hS) (fun h => kf h H locs ls hl hP hS)
theorem v_if_le (X : VOk a own cc rm nL) {x : Int32} {off : Int} {tgt : Nat} (hd : decode cc pc = .ok (.ifCond .le off, 3)) (ht : (pc : Int) + off = (tgt : Int)) (kt : x ≤ 0 → V a tgt lv st I L) (kf : ¬ x ≤ 0 → V a (pc + 3) lv st I L) : V a pc lv (.int x :: st) I L := fun H locs ls hl hP hS => lv_if_le X.1 X.2.1 hd ht (fun h => kt h H locs ls hl hP hS) (fun h => kf h H locs ls hl hP hS)
theorem v_icmp_le (X : VOk a own cc rm nL) {x y : Int32} {off : Int} {tgt : Nat} (hd : decode cc pc = .ok (.if_icmp .le off, 3)) (ht : (pc : Int) + off = (tgt : Int)) (kt : x ≤ y → V a tgt lv st I L) (kf : ¬ x ≤ y → V a (pc + 3) lv st I L) : V a pc lv (.int y :: .int x :: st) I L := fun H locs ls hl hP hS => lv_icmp_le X.1 X.2.1 hd ht (fun h => kt h H locs ls hl hP hS) (fun h => kf h H locs ls hl hP hS)
theorem v_iload_n (X : VOk a own cc rm nL) (q : Nat) {k : Fin 4} {x : Int32} (hk : lv[q]? = some ((k : Nat), .int x)) (hd : decode cc pc = .ok (.iload_n k, 1)) (kk : V a (pc + 1) lv (.int x :: st) I L) : V a pc lv st I L := fun H locs ls hl hP hS => lv_iload_n X.1 X.2.1 hd rfl (lv_at hl q hk) (kk H locs ls hl hP hS)
theorem v_iload (X : VOk a own cc rm nL) (q : Nat) {i : Nat} {x : Int32} (hk : lv[q]? = some (i, .int x)) (hd : decode cc pc = .ok (.iload i, 2)) (kk : V a (pc + 2) lv (.int x :: st) I L) : V a pc lv st I L := fun H locs ls hl hP hS => lv_iload X.1 X.2.1 hd (lv_at hl q hk) (kk H locs ls hl hP hS)
theorem v_lload_n (X : VOk a own cc rm nL) (q : Nat) {k : Fin 4} {x : Int64} (hk : lv[q]? = some ((k : Nat), .long x)) (hd : decode cc pc = .ok (.lload_n k, 1)) (kk : V a (pc + 1) lv (.long x :: st) I L) : V a pc lv st I L := fun H locs ls hl hP hS => lv_lload_n X.1 X.2.1 hd rfl (lv_at hl q hk) (kk H locs ls hl hP hS)
theorem v_lload (X : VOk a own cc rm nL) (q : Nat) {i : Nat} {x : Int64} (hk : lv[q]? = some (i, .long x)) (hd : decode cc pc = .ok (.lload i, 2)) (kk : V a (pc + 2) lv (.long x :: st) I L) : V a pc lv st I L := fun H locs ls hl hP hS => lv_lload X.1 X.2.1 hd (lv_at hl q hk) (kk H locs ls hl hP hS)
theorem v_aload_n (X : VOk a own cc rm nL) (q : Nat) {k : Fin 4} {x : Nat} (hk : lv[q]? = some ((k : Nat), .ref x)) (hd : decode cc pc = .ok (.aload_n k, 1)) (kk : V a (pc + 1) lv (.ref x :: st) I L) : V a pc lv st I L := fun H locs ls hl hP hS => lv_aload_n X.1 X.2.1 hd rfl (lv_at hl q hk) (kk H locs ls hl hP hS)
theorem v_aload (X : VOk a own cc rm nL) (q : Nat) {i : Nat} {x : Nat} (hk : lv[q]? = some (i, .ref x)) (hd : decode cc pc = .ok (.aload i, 2)) (kk : V a (pc + 2) lv (.ref x :: st) I L) : V a pc lv st I L := fun H locs ls hl hP hS => lv_aload X.1 X.2.1 hd (lv_at hl q hk) (kk H locs ls hl hP hS)
theorem v_aload_nN (X : VOk a own cc rm nL) (q : Nat) {k : Fin 4} (hk : lv[q]? = some ((k : Nat), .null)) (hd : decode cc pc = .ok (.aload_n k, 1)) (kk : V a (pc + 1) lv (.null :: st) I L) : V a pc lv st I L := fun H locs ls hl hP hS => lv_aload_nN X.1 X.2.1 hd rfl (lv_at hl q hk) (kk H locs ls hl hP hS)
theorem v_aloadN (X : VOk a own cc rm nL) (q : Nat) {i : Nat} (hk : lv[q]? = some (i, .null)) (hd : decode cc pc = .ok (.aload i, 2)) (kk : V a (pc + 2) lv (.null :: st) I L) : V a pc lv st I L := fun H locs ls hl hP hS => lv_aloadN X.1 X.2.1 hd (lv_at hl q hk) (kk H locs ls hl hP hS)
theorem v_istore_n (X : VOk a own cc rm nL) (ks : List Nat) {k : Fin 4} {x : Int32} {lv' : List (Nat × Value)} (hn : (k : Nat) < nL) (hl' : lv_pick (((k : Nat), Value.int x) :: lv.filter (fun q => !(q.1 == (k : Nat)) && !(q.1 + 1 == (k : Nat) && q.2.category == 2))) ks = lv') (hd : decode cc pc = .ok (.istore_n k, 1)) (kk : V a (pc + 1) lv' st I L) : V a pc lv (.int x :: st) I L := fun H locs ls hl hP hS => lv_istore_n X.1 X.2.1 hd rfl hl (by rw [X.2.2.1]; exact hn) rfl (fun ls' hl2 => kk H locs ls' (lv_sub hl2 ks hl') hP hS)
theorem v_istore (X : VOk a own cc rm nL) (ks : List Nat) {i : Nat} {x : Int32} {lv' : List (Nat × Value)} (hn : i < nL) (hl' : lv_pick ((i, Value.int x) :: lv.filter (fun q => !(q.1 == i) && !(q.1 + 1 == i && q.2.category == 2))) ks = lv') (hd : decode cc pc = .ok (.istore i, 2)) (kk : V a (pc + 2) lv' st I L) : V a pc lv (.int x :: st) I L := fun H locs ls hl hP hS => lv_istore X.1 X.2.1 hd hl (by rw [X.2.2.1]; exact hn) rfl (fun ls' hl2 => kk H locs ls' (lv_sub hl2 ks hl') hP hS)
theorem v_lstore_n (X : VOk a own cc rm nL) (ks : List Nat) {k : Fin 4} {x : Int64} {lv' : List (Nat × Value)} (hn : (k : Nat) + 1 < nL) (hl' : lv_pick (((k : Nat), Value.long x) :: lv.filter (fun q => !(q.1 == (k : Nat)) && (!(q.1 == (k : Nat) + 1) && !(q.1 + 1 == (k : Nat) && q.2.category == 2)))) ks = lv') (hd : decode cc pc = .ok (.lstore_n k, 1)) (kk : V a (pc + 1) lv' st I L) : V a pc lv (.long x :: st) I L := fun H locs ls hl hP hS => lv_lstore_n X.1 X.2.1 hd rfl hl (by rw [X.2.2.1]; exact hn) rfl (fun ls' hl2 => kk H locs ls' (lv_sub hl2 ks hl') hP hS)
theorem v_lstore (X : VOk a own cc rm nL) (ks : List Nat) {i : Nat} {x : Int64} {lv' : List (Nat × Value)} (hn : i + 1 < nL) (hl' : lv_pick ((i, Value.long x) :: lv.filter (fun q => !(q.1 == i) && (!(q.1 == i + 1) && !(q.1 + 1 == i && q.2.category == 2)))) ks = lv') (hd : decode cc pc = .ok (.lstore i, 2)) (kk : V a (pc + 2) lv' st I L) : V a pc lv (.long x :: st) I L := fun H locs ls hl hP hS => lv_lstore X.1 X.2.1 hd hl (by rw [X.2.2.1]; exact hn) rfl (fun ls' hl2 => kk H locs ls' (lv_sub hl2 ks hl') hP hS)
theorem v_astore_n (X : VOk a own cc rm nL) (ks : List Nat) {k : Fin 4} {x : Nat} {lv' : List (Nat × Value)} (hn : (k : Nat) < nL) (hl' : lv_pick (((k : Nat), Value.ref x) :: lv.filter (fun q => !(q.1 == (k : Nat)) && !(q.1 + 1 == (k : Nat) && q.2.category == 2))) ks = lv') (hd : decode cc pc = .ok (.astore_n k, 1)) (kk : V a (pc + 1) lv' st I L) : V a pc lv (.ref x :: st) I L := fun H locs ls hl hP hS => lv_astore_n X.1 X.2.1 hd rfl hl (by rw [X.2.2.1]; exact hn) rfl (fun ls' hl2 => kk H locs ls' (lv_sub hl2 ks hl') hP hS)
theorem v_astore (X : VOk a own cc rm nL) (ks : List Nat) {i : Nat} {x : Nat} {lv' : List (Nat × Value)} (hn : i < nL) (hl' : lv_pick ((i, Value.ref x) :: lv.filter (fun q => !(q.1 == i) && !(q.1 + 1 == i && q.2.category == 2))) ks = lv') (hd : decode cc pc = .ok (.astore i, 2)) (kk : V a (pc + 2) lv' st I L) : V a pc lv (.ref x :: st) I L := fun H locs ls hl hP hS => lv_astore X.1 X.2.1 hd hl (by rw [X.2.2.1]; exact hn) rfl (fun ls' hl2 => kk H locs ls' (lv_sub hl2 ks hl') hP hS)
theorem v_astore_nN (X : VOk a own cc rm nL) (ks : List Nat) {k : Fin 4} {lv' : List (Nat × Value)} (hn : (k : Nat) < nL) (hl' : lv_pick (((k : Nat), Value.null) :: lv.filter (fun q => !(q.1 == (k : Nat)) && !(q.1 + 1 == (k : Nat) && q.2.category == 2))) ks = lv') (hd : decode cc pc = .ok (.astore_n k, 1)) (kk : V a (pc + 1) lv' st I L) : V a pc lv (.null :: st) I L := fun H locs ls hl hP hS => lv_astore_nN X.1 X.2.1 hd rfl hl (by rw [X.2.2.1]; exact hn) rfl (fun ls' hl2 => kk H locs ls' (lv_sub hl2 ks hl') hP hS)
theorem v_astoreN (X : VOk a own cc rm nL) (ks : List Nat) {i : Nat} {lv' : List (Nat × Value)} (hn : i < nL) (hl' : lv_pick ((i, Value.null) :: lv.filter (fun q => !(q.1 == i) && !(q.1 + 1 == i && q.2.category == 2))) ks = lv') (hd : decode cc pc = .ok (.astore i, 2)) (kk : V a (pc + 2) lv' st I L) : V a pc lv (.null :: st) I L := fun H locs ls hl hP hS => lv_astoreN X.1 X.2.1 hd hl (by rw [X.2.2.1]; exact hn) rfl (fun ls' hl2 => kk H locs ls' (lv_sub hl2 ks hl') hP hS)
theorem v_iinc (X : VOk a own cc rm nL) (ks : List Nat) (q : Nat) {i : Nat} {n : Int} {x : Int32} (v : Int32) {lv' : List (Nat × Value)} (hk : lv[q]? = some (i, .int x)) (hv : x + Int32.ofInt n = v) (hn : i < nL) (hl' : lv_pick ((i, Value.int v) :: lv.filter (fun q => !(q.1 == i) && !(q.1 + 1 == i && q.2.category == 2))) ks = lv') (hd : decode cc pc = .ok (.iinc i n, 3)) (kk : V a (pc + 3) lv' st I L) : V a pc lv st I L := fun H locs ls hl hP hS => lv_iinc X.1 X.2.1 hd hl hk hv (by rw [X.2.2.1]; exact hn) rfl (fun ls' hl2 => kk H locs ls' (lv_sub hl2 ks hl') hP hS)
theorem v_goto (X : VOk a own cc rm nL) {off : Int} {tgt : Nat} (hd : decode cc pc = .ok (.goto off, 3)) (ht : (pc : Int) + off = (tgt : Int)) (kk : V a tgt lv st I L) : V a pc lv st I L := fun H locs ls hl hP hS => lv_goto X.1 X.2.1 hd ht (kk H locs ls hl hP hS)
theorem v_null (X : VOk a own cc rm nL) (hd : decode cc pc = .ok (.aconst_null, 1)) (kk : V a (pc + 1) lv (.null :: st) I L) : V a pc lv st I L := fun H locs ls hl hP hS => lv_null X.1 X.2.1 hd (kk H locs ls hl hP hS)
theorem v_ifnull (X : VOk a own cc rm nL) {x : Nat} {off : Int} (hd : decode cc pc = .ok (.ifnull off, 3)) (kk : V a (pc + 3) lv st I L) : V a pc lv (.ref x :: st) I L := fun H locs ls hl hP hS => lv_ifnull X.1 X.2.1 hd (kk H locs ls hl hP hS)
theorem v_ifnullN (X : VOk a own cc rm nL) {off : Int} {tgt : Nat} (hd : decode cc pc = .ok (.ifnull off, 3)) (ht : (pc : Int) + off = (tgt : Int)) (kk : V a tgt lv st I L) : V a pc lv (.null :: st) I L := fun H locs ls hl hP hS => lv_ifnullN X.1 X.2.1 hd ht (kk H locs ls hl hP hS)
theorem v_ifnonnull (X : VOk a own cc rm nL) {x : Nat} {off : Int} {tgt : Nat} (hd : decode cc pc = .ok (.ifnonnull off, 3)) (ht : (pc : Int) + off = (tgt : Int)) (kk : V a tgt lv st I L) : V a pc lv (.ref x :: st) I L := fun H locs ls hl hP hS => lv_ifnonnull X.1 X.2.1 hd ht (kk H locs ls hl hP hS)
theorem v_ifnonnullN (X : VOk a own cc rm nL) {off : Int} (hd : decode cc pc = .ok (.ifnonnull off, 3)) (kk : V a (pc + 3) lv st I L) : V a pc lv (.null :: st) I L := fun H locs ls hl hP hS => lv_ifnonnullN X.1 X.2.1 hd (kk H locs ls hl hP hS)
theorem v_lcmp (X : VOk a own cc rm nL) {x y : Int64} (hd : decode cc pc = .ok (.lcmp, 1)) (kk : V a (pc + 1) lv (.int (lg_cmp x y) :: st) I L) : V a pc lv (.long y :: .long x :: st) I L := fun H locs ls hl hP hS => W.lcmp X.1 X.2.1 hd (kk H locs ls hl hP hS)
theorem v_ldc (X : VOk a own cc rm nL) {index : Nat} {v : Int32} (hw : Cond.constant own index v ∈ WS) (hd : decode cc pc = .ok (.ldc index, 2)) (k : V a (pc + 2) lv (.int v :: st) I L) : V a pc lv st I L := fun H locs ls hl hP hS => lv_ldc X.1 X.2.1 X.2.2.2.1 (X.2.2.2.2.1 _ hw) hd (k H locs ls hl hP hS)
theorem v_ldcw (X : VOk a own cc rm nL) {index : Nat} {v : Int32} (hw : Cond.constant own index v ∈ WS) (hd : decode cc pc = .ok (.ldc_w index, 3)) (k : V a (pc + 3) lv (.int v :: st) I L) : V a pc lv st I L := fun H locs ls hl hP hS => lv_ldcw X.1 X.2.1 X.2.2.2.1 (X.2.2.2.2.1 _ hw) hd (k H locs ls hl hP hS)
theorem v_ldc2 (X : VOk a own cc rm nL) {index : Nat} {v : Int64} (hw : Cond.constantLong own index v ∈ WS) (hd : decode cc pc = .ok (.ldc2_w index, 3)) (k : V a (pc + 3) lv (.long v :: st) I L) : V a pc lv st I L := fun H locs ls hl hP hS => lv_ldc2 X.1 X.2.1 X.2.2.2.1 (X.2.2.2.2.1 _ hw) hd (k H locs ls hl hP hS)
theorem v_tableIn (X : VOk a own cc rm nL) {dflt lo hi : Int} {offs : Array Int} {len : Nat} {x : Int32} {off : Int} {tgt : Nat} (hd : decode cc pc = .ok (.tableswitch dflt lo hi offs, len)) (h1 : ¬ x.toInt < lo) (h2 : ¬ hi < x.toInt) (ho : offs[(x.toInt - lo).toNat]? = some off) (ht : (pc : Int) + off = (tgt : Int)) (k : V a tgt lv st I L) : V a pc lv (.int x :: st) I L := fun H locs ls hl hP hS => lv_tableIn X.1 X.2.1 hd h1 h2 ho ht (k H locs ls hl hP hS)
theorem v_tableOut (X : VOk a own cc rm nL) {dflt lo hi : Int} {offs : Array Int} {len : Nat} {x : Int32} {tgt : Nat} (hd : decode cc pc = .ok (.tableswitch dflt lo hi offs, len)) (h : x.toInt < lo ∨ hi < x.toInt) (ht : (pc : Int) + dflt = (tgt : Int)) (k : V a tgt lv st I L) : V a pc lv (.int x :: st) I L := fun H locs ls hl hP hS => lv_tableOut X.1 X.2.1 hd h ht (k H locs ls hl hP hS)
/-! fields -/
theorem v_getf (X : VOk a own cc rm nL) {k j ci N index slot : Nat} {C : String} {T : u_T} {fs : List Value} {v : Value} (hdom : (k, j) ∈ DL) (hce : cef (vE a) k j (I k j) (L k j) = .inr (ci, fs)) (hc : vwCl[ci]? = some (C, T, N)) (hin : ∀ w ∈ u_ws C T N, w ∈ WS) (hk : slot < N) (hw : Cond.fieldLink own index (T slot).1 (T slot).2.1 (T slot).2.2.1 ∈ WS) (hv : fs[slot]? = some v) (hd : decode cc pc = .ok (.getfield index, 3)) (kk : V a (pc + 3) lv (v :: st) I L) : V a pc lv (.ref (eA (vE a) k j) :: st) I L := by
  intro H locs ls hl hP hS
  obtain ⟨q0, -, h1⟩ := wl_at hdom
  have he := h1 (vE a) I L
  rw [hce] at he
  exact va_get X.1 X.2.1 X.2.2.2.2.1 hin X.2.2.2.1 X.2.2.2.2.2.2.1 hP q0 he hc slot hk (X.2.2.2.2.1 _ hw) (fun _ h => h) hv hd (kk H locs ls hl hP hS)
theorem v_getfN (X : VOk a own cc rm nL) {k j ci N index slot : Nat} {C host : String} {T : u_T} {fs : List Value} {v : Value} (hdom : (k, j) ∈ DL) (hce : cef (vE a) k j (I k j) (L k j) = .inr (ci, fs)) (hc : vwCl[ci]? = some (C, T, N)) (hin : ∀ w ∈ u_ws C T N, w ∈ WS) (hk : slot < N) {q : String × Nat × String × String × String × String} (hq : q ∈ nwF) (hw : q = (own, index, (T slot).1, (T slot).2.1, (T slot).2.2.1, host)) (hv : fs[slot]? = some v) (hd : decode cc pc = .ok (.getfield index, 3)) (kk : V a (pc + 3) lv (v :: st) I L) : V a pc lv (.ref (eA (vE a) k j) :: st) I L := by
  intro H locs ls hl hP hS
  obtain ⟨q0, -, h1⟩ := wl_at hdom
  have he := h1 (vE a) I L
  rw [hce] at he
  subst hw
  exact va_getN X.1 X.2.1 X.2.2.2.2.1 hin X.2.2.2.1 X.2.2.2.2.2.2.1 hP q0 he hc slot hk (va_Nw.use rfl (X.2.2.2.2.2.1.1 _ hq)) (fun _ h => h) hv hd (kk H locs ls hl hP hS)
theorem v_putf (X : VOk a own cc rm nL) {k j ci N index slot : Nat} {C : String} {T : u_T} {fs : List Value} {v : Value} {I' : TI} {L' : TL} (hdom : (k, j) ∈ DL) (hce : cef (vE a) k j (I k j) (L k j) = .inr (ci, fs)) (hc : vwCl[ci]? = some (C, T, N)) (hin : ∀ w ∈ u_ws C T N, w ∈ WS) (ty0 : Nat → FieldType) (hty : ∀ k, k < N → parseFieldDescriptor (T k).2.2.1 = some (ty0 k)) (hnm : ∀ a, a < N → ∀ b, b < N → a ≠ b → (T a).2.1 ≠ (T b).2.1) (hk : slot < N) (hw : Cond.fieldLink own index (T slot).1 (T slot).2.1 (T slot).2.2.1 ∈ WS) (hfin : (T slot).2.2.2 = false) {ty : FieldType} (hpd : parseFieldDescriptor (T slot).2.2.1 = some ty) (hn : narrow ty v = v) (hfit : fits ty v = true) (hlen : slot < fs.length)
    (hce' : cef (vE a) k j (I' k j) (L' k j) = .inr (ci, fs.set slot v)) (hI : ∀ k' j', (k', j') ≠ (k, j) → I' k' j' = I k' j') (hL : ∀ k' j', (k', j') ≠ (k, j) → L' k' j' = L k' j') (hd : decode cc pc = .ok (.putfield index, 3)) (kk : V a (pc + 3) lv st I' L') : V a pc lv (v :: .ref (eA (vE a) k j) :: st) I L := by
  intro H locs ls hl hP hS
  obtain ⟨q0, h0, h1⟩ := wl_at hdom
  have he := h1 (vE a) I L
  rw [hce] at he
  refine va_put X.1 X.2.1 X.2.2.2.2.1 hin ty0 hty hnm X.2.2.2.1 X.2.2.2.2.2.2.1 hP (X.2.2.2.2.2.2.2.1 I L) hS q0 he hc slot hk (X.2.2.2.2.1 _ hw) (fun _ h => h) hfin hpd hn hfit hlen hd (fun H1 locs1 hP1 _ hS1 => ?_)
  rw [← hce', wl_set h0 hI hL] at hP1
  exact kk H1 locs1 ls hl hP1 hS1
theorem v_putfN (X : VOk a own cc rm nL) {k j ci N index slot : Nat} {C host : String} {T : u_T} {fs : List Value} {v : Value} {I' : TI} {L' : TL} (hdom : (k, j) ∈ DL) (hce : cef (vE a) k j (I k j) (L k j) = .inr (ci, fs)) (hc : vwCl[ci]? = some (C, T, N)) (hin : ∀ w ∈ u_ws C T N, w ∈ WS) (ty0 : Nat → FieldType) (hty : ∀ k, k < N → parseFieldDescriptor (T k).2.2.1 = some (ty0 k)) (hnm : ∀ a, a < N → ∀ b, b < N → a ≠ b → (T a).2.1 ≠ (T b).2.1) (hk : slot < N) {q : String × Nat × String × String × String × String} (hq : q ∈ nwF) (hw : q = (own, index, (T slot).1, (T slot).2.1, (T slot).2.2.1, host)) (hfin : (T slot).2.2.2 = false) {ty : FieldType} (hpd : parseFieldDescriptor (T slot).2.2.1 = some ty) (hn : narrow ty v = v) (hfit : fits ty v = true) (hlen : slot < fs.length)
    (hce' : cef (vE a) k j (I' k j) (L' k j) = .inr (ci, fs.set slot v)) (hI : ∀ k' j', (k', j') ≠ (k, j) → I' k' j' = I k' j') (hL : ∀ k' j', (k', j') ≠ (k, j) → L' k' j' = L k' j') (hd : decode cc pc = .ok (.putfield index, 3)) (kk : V a (pc + 3) lv st I' L') : V a pc lv (v :: .ref (eA (vE a) k j) :: st) I L := by
  intro H locs ls hl hP hS
  obtain ⟨q0, h0, h1⟩ := wl_at hdom
  have he := h1 (vE a) I L
  rw [hce] at he
  subst hw
  refine va_putN X.1 X.2.1 X.2.2.2.2.1 hin ty0 hty hnm X.2.2.2.1 X.2.2.2.2.2.2.1 hP (X.2.2.2.2.2.2.2.1 I L) hS q0 he hc slot hk (va_Nw.use rfl (X.2.2.2.2.2.1.1 _ hq)) (fun _ h => h) hfin hpd hn hfit hlen hd (fun H1 locs1 hP1 _ hS1 => ?_)
  rw [← hce', wl_set h0 hI hL] at hP1
  exact kk H1 locs1 ls hl hP1 hS1
/-! arrays -/
theorem v_iald (X : VOk a own cc rm nL) {k j n : Nat} (hdom : (k, j) ∈ DL) (hce : ∀ f g, cef (vE a) k j f g = .inl (eC (vE a) 0, n, .inl f)) {i : Int32} (hi : vp_in i n) (hd : decode cc pc = .ok (.iaload, 1)) (kk : V a (pc + 1) lv (.int (I k j i.toNatClampNeg) :: st) I L) : V a pc lv (.int i :: .ref (eA (vE a) k j) :: st) I L := by
  intro H locs ls hl hP hS
  obtain ⟨q0, -, h1⟩ := wl_at hdom
  have he := h1 (vE a) I L
  rw [hce] at he
  exact va_iald X.1 X.2.1 X.2.2.2.2.2.2.1 hP q0 0 he rfl hi hd (kk H locs ls hl hP hS)
theorem v_lald (X : VOk a own cc rm nL) {k j n : Nat} (hdom : (k, j) ∈ DL) (hce : ∀ f g, cef (vE a) k j f g = .inl (eC (vE a) 1, n, .inr (.inl g))) {i : Int32} (hi : vp_in i n) (hd : decode cc pc = .ok (.laload, 1)) (kk : V a (pc + 1) lv (.long (L k j i.toNatClampNeg) :: st) I L) : V a pc lv (.int i :: .ref (eA (vE a) k j) :: st) I L := by
  intro H locs ls hl hP hS
  obtain ⟨q0, -, h1⟩ := wl_at hdom
  have he := h1 (vE a) I L
  rw [hce] at he
  exact va_lald X.1 X.2.1 X.2.2.2.2.2.2.1 hP q0 1 he rfl hi hd (kk H locs ls hl hP hS)
theorem v_iast (X : VOk a own cc rm nL) {k j n : Nat} (hdom : (k, j) ∈ DL) (hce : ∀ f g, cef (vE a) k j f g = .inl (eC (vE a) 0, n, .inl f)) {i x : Int32} (hi : vp_in i n) (hd : decode cc pc = .ok (.iastore, 1)) (kk : V a (pc + 1) lv st (upI I k j i.toNatClampNeg x) L) : V a pc lv (.int x :: .int i :: .ref (eA (vE a) k j) :: st) I L := by
  intro H locs ls hl hP hS
  obtain ⟨q0, h0, h1⟩ := wl_at hdom
  have he := h1 (vE a) I L
  rw [hce] at he
  refine va_iast X.1 X.2.1 X.2.2.2.2.2.2.1 hP (X.2.2.2.2.2.2.2.1 I L) hS q0 0 he rfl hi hd (fun H1 locs1 hP1 _ hS1 => ?_)
  rw [← upI_row, ← hce _ (L k j), wl_set h0 (fun k' j' h => upI_off I k j _ x h) (fun _ _ _ => rfl)] at hP1
  exact kk H1 locs1 ls hl hP1 hS1
theorem v_last (X : VOk a own cc rm nL) {k j n : Nat} (hdom : (k, j) ∈ DL) (hce : ∀ f g, cef (vE a) k j f g = .inl (eC (vE a) 1, n, .inr (.inl g))) {i : Int32} {x : Int64} (hi : vp_in i n) (hd : decode cc pc = .ok (.lastore, 1)) (kk : V a (pc + 1) lv st I (upL L k j i.toNatClampNeg x)) : V a pc lv (.long x :: .int i :: .ref (eA (vE a) k j) :: st) I L := by
  intro H locs ls hl hP hS
  obtain ⟨q0, h0, h1⟩ := wl_at hdom
  have he := h1 (vE a) I L
  rw [hce] at he
  refine va_last X.1 X.2.1 X.2.2.2.2.2.2.1 hP (X.2.2.2.2.2.2.2.1 I L) hS q0 1 he rfl hi hd (fun H1 locs1 hP1 _ hS1 => ?_)
  rw [← upL_row, ← hce (I k j) _, wl_set h0 (fun _ _ _ => rfl) (fun k' j' h => upL_off L k j _ x h)] at hP1
  exact kk H1 locs1 ls hl hP1 hS1
theorem v_aaldG (X : VOk a own cc rm nL) {i : Int32} (hi : vp_in i 12) (hd : decode cc pc = .ok (.aaload, 1)) (kk : V a (pc + 1) lv (.ref (eA (vE a) 2 i.toNatClampNeg) :: st) I L) : V a pc lv (.int i :: .ref (eA (vE a) 1 0) :: st) I L := by
  intro H locs ls hl hP hS
  obtain ⟨q0, -, h1⟩ := wl_at dl_1
  exact va_aldq (C := "WellTables$Grid") X.1 X.2.1 X.2.2.2.2.2.2.1 hP q0 2 (h1 (vE a) I L) rfl hi hd (kk H locs ls hl hP hS)
theorem v_aaldW (X : VOk a own cc rm nL) {i : Int32} (hi : vp_in i 4) (hd : decode cc pc = .ok (.aaload, 1)) (kk : V a (pc + 1) lv (.ref (eA (vE a) 5 i.toNatClampNeg) :: st) I L) : V a pc lv (.int i :: .ref (eA (vE a) 4 0) :: st) I L := by
  intro H locs ls hl hP hS
  obtain ⟨q0, -, h1⟩ := wl_at dl_4
  exact va_aldq (C := "WellTables$Web") X.1 X.2.1 X.2.2.2.2.2.2.1 hP q0 3 (h1 (vE a) I L) rfl hi hd (kk H locs ls hl hP hS)
theorem v_aleni (X : VOk a own cc rm nL) {k j n : Nat} (hdom : (k, j) ∈ DL) (hce : ∀ f g, cef (vE a) k j f g = .inl (eC (vE a) 0, n, .inl f)) {v : Int32} (hv : Int32.ofNat n = v) (hd : decode cc pc = .ok (.arraylength, 1)) (kk : V a (pc + 1) lv (.int v :: st) I L) : V a pc lv (.ref (eA (vE a) k j) :: st) I L := by
  intro H locs ls hl hP hS
  obtain ⟨q0, -, h1⟩ := wl_at hdom
  have he := h1 (vE a) I L
  rw [hce] at he
  exact va_alen X.1 X.2.1 X.2.2.2.2.2.2.1 hP q0 0 he rfl hv hd (kk H locs ls hl hP hS)
/-! ends -/
theorem v_iret {Post : Option Value → TI → TL → Prop} (X : VOk a own cc rm nL) (Y : VRet a (some .int) Post) {v : Int32} (hd : decode cc pc = .ok (.ireturn, 1)) (hp : Post (some (.int v)) I L) : V a pc lv [.int v] I L := by
  intro H locs ls hl hP hS
  show W _ _ _ _ _ _ _ _ _ _ _ _ _ _ (vQ a) _
  rw [Y.2.2]
  exact W.iret X.1 X.2.1 Y.1 (fun t ht _ => ⟨⟨_, I, L, rfl, hp, by rw [ht]; exact hP⟩, hS.F ht⟩) hS.2.2 hd Y.2.1
theorem v_zret {Post : Option Value → TI → TL → Prop} (X : VOk a own cc rm nL) (Y : VRet a (some .boolean) Post) {v : Int32} (hn : narrow .boolean (.int v) = .int v) (hd : decode cc pc = .ok (.ireturn, 1)) (hp : Post (some (.int v)) I L) : V a pc lv [.int v] I L := by
  intro H locs ls hl hP hS
  show W _ _ _ _ _ _ _ _ _ _ _ _ _ _ (vQ a) _
  rw [Y.2.2]
  exact W.zret X.1 X.2.1 Y.1 hn (fun t ht _ => ⟨⟨_, I, L, rfl, hp, by rw [ht]; exact hP⟩, hS.F ht⟩) hS.2.2 hd Y.2.1
theorem v_lret {Post : Option Value → TI → TL → Prop} (X : VOk a own cc rm nL) (Y : VRet a (some .long) Post) {v : Int64} (hd : decode cc pc = .ok (.lreturn, 1)) (hp : Post (some (.long v)) I L) : V a pc lv [.long v] I L := by
  intro H locs ls hl hP hS
  show W _ _ _ _ _ _ _ _ _ _ _ _ _ _ (vQ a) _
  rw [Y.2.2]
  exact W.lret X.1 X.2.1 Y.1 (fun t ht _ => ⟨⟨_, I, L, rfl, hp, by rw [ht]; exact hP⟩, hS.F ht⟩) hS.2.2 hd Y.2.1
theorem v_vret {Post : Option Value → TI → TL → Prop} (X : VOk a own cc rm nL) (Y : VRet a none Post) (hd : decode cc pc = .ok (.return_, 1)) (hp : Post none I L) : V a pc lv [] I L := by
  intro H locs ls hl hP hS
  show W _ _ _ _ _ _ _ _ _ _ _ _ _ _ (vQ a) _
  rw [Y.2.2]
  exact W.vret X.1 X.2.1 Y.1 (fun t ht _ => ⟨⟨_, I, L, rfl, hp, by rw [ht]; exact hP⟩, hS.F ht⟩) hS.2.2 hd Y.2.1
theorem v_aret {Post : Option Value → TI → TL → Prop} (X : VOk a own cc rm nL) {n : String} (Y : VRet a (some (.object n)) Post) {v : Value} (hv : v = .null ∨ ∃ q, v = .ref q) (hd : decode cc pc = .ok (.areturn, 1)) (hp : Post (some v) I L) : V a pc lv [v] I L := by
  intro H locs ls hl hP hS
  show W _ _ _ _ _ _ _ _ _ _ _ _ _ _ (vQ a) _
  rw [Y.2.2]
  exact W.aret X.1 X.2.1 Y.1 (Or.inl ⟨_, rfl⟩) hv (fun t ht _ => ⟨⟨_, I, L, rfl, hp, by rw [ht]; exact hP⟩, hS.F ht⟩) hS.2.2 hd Y.2.1
/-! calls -/
def CkB (own : String) (index : Nat) (y : MethodName) (b : ByteArray) (maxL : Nat) (ret : Option FieldType) (n : Nat) : Prop :=
  Cond.methodLink own index y ∈ WS ∧ Cond.initialized y.cls ∈ WS ∧ Cond.code y b maxL ret ∈ WS ∧ (y.cls ≠ "java/lang/invoke/MethodHandle" ∧ y.cls ≠ "java/lang/invoke/VarHandle" ∧ (parseMethodDescriptor y.desc).map (fun d => d.parameters.length) = some n)
def CkV (own : String) (index : Nat) (y : MethodName) (b : ByteArray) (maxL : Nat) (ret : Option FieldType) (n : Nat) : Prop := CkB own index y b maxL ret n ∧ Cond.instanceMethod y ∈ WS ∧ Cond.selects y.cls y y ∈ WS
def CkS (own : String) (index : Nat) (y : MethodName) (b : ByteArray) (maxL : Nat) (ret : Option FieldType) (n : Nat) : Prop := CkB own index y b maxL ret n ∧ Cond.static y ∈ WS
def CkN (own : String) (index : Nat) (y : MethodName) (b : ByteArray) (maxL : Nat) (ret : Option FieldType) (n : Nat) : Prop :=
  (∃ host : String, (own, index, y, host) ∈ nwM) ∧ Cond.initialized y.cls ∈ WS ∧ Cond.code y b maxL ret ∈ WS ∧ (y.cls ≠ "java/lang/invoke/MethodHandle" ∧ y.cls ≠ "java/lang/invoke/VarHandle" ∧ (parseMethodDescriptor y.desc).map (fun d => d.parameters.length) = some n) ∧ Cond.static y ∈ WS
def RmOk (rmc : Room) (maxL : Nat) (rm : Room) : Prop := rmc.cells = 0 ∧ rmc.slots = 0 ∧ rmc.frames + 1 ≤ rm.frames ∧ 8 + (maxL + 11) + rmc.locals ≤ rm.locals
theorem ws_call {y : MethodName} {b : ByteArray} {maxL : Nat} {ret : Option FieldType} (h : Cond.code y b maxL ret ∈ WS) : GoodIn WS (.code y b maxL ret :: WS) := fun w hw => by
  rcases List.mem_cons.mp hw with rfl | hw
  · exact ws_good _ h
  · exact ws_good _ hw
theorem v_run {y : MethodName} {rest st0 : List Value} {Post : Option Value → TI → TL → Prop} {H : Heap} {locs : List Loc} {ls : Array Slot} {as : Array Value}
    (hr : va_Run (vp a) (vl a) (ve a) (vR a) (vs a) (vm a) (vargs a) (vbelow a) (vmeth a) (vc a) H locs (vcl a) (vsl a) 0 0 (F0 (vm a) pc ls st0) rest (QQ (vE a) Post as) (eF (vE a))) (hS : va_S (eF (vE a)) (vs a).heap H locs) (hl : lv_has ls (vc a).maxLocals lv)
    (kk : ∀ (r : Option Value) (I' : TI) (L' : TL), Post r I' L' → V a (pc + 3) lv (r.toList ++ rest) I' L') : VW a H locs (F0 (vm a) pc ls st0) := by
  intro T hT X
  obtain ⟨v, st₀, t, T', L, h0, X', hL, e1, e2, ⟨⟨r, I', L', hv, hp, hb⟩, hz, hk⟩, st⟩ := hr T hT X
  cases hv
  rw [h0] at hz hk
  rw [← e1] at hz hk hb
  obtain ⟨t2, a1, b1⟩ := kk _ I' L' hp T'.heap (locs ++ L) ls hl hb ⟨Nat.le_trans hS.1 hz, fun q h1 h2 => by rw [hk q (Nat.lt_of_lt_of_le h1 hS.1) h2]; exact hS.2.1 q h1 h2, fun q hq => by
      rcases List.mem_append.mp hq with h | h
      · exact hS.2.2 q h
      · exact hL q h⟩ T' rfl X'
  exact ⟨t2, st t2 a1, b1⟩
theorem ct_blind {E : VE} {I : TI} {L : TL} {args : List Value} : FrameBlind (va_Pc args (fun U => va_P E.1 vwCl (wl E I L) U.heap ∧ va_K E.1 vwCl (ve_tys E) U ∧ NWok U)) := fun v U g mk q => by
  obtain ⟨q0, qP, qK, qN⟩ := q
  exact ⟨q0, qP, va_K.moved (u := U) (U := U.calling g mk v) (Vm.Alike.refl U.vm) qK, NWok.same (u := U) (U := U.calling g mk v) rfl qN⟩
theorem ct_pre (X : VOk a own cc rm nL) {H : Heap} {args : List Value} (hP : va_P (vE a).1 vwCl (wl (vE a) I L) H) : ∀ U : State, U.heap = H → (vs a).WarmedH U.vm → va_Pc args (fun U => va_P (vE a).1 vwCl (wl (vE a) I L) U.heap ∧ va_K (vE a).1 vwCl (ve_tys (vE a)) U ∧ NWok U) args.toArray U := fun U hU hW =>
  ⟨rfl, by rw [hU]; exact hP, va_K.moved hW.alike X.2.2.2.2.2.2.1, X.2.2.2.2.2.1.warm hW⟩
theorem ck_callB (X : VOk a own cc rm nL) {y : MethodName} {b : ByteArray} {maxL : Nat} {ret : Option FieldType} {n index : Nat} {rmc : Room} (hk : CkB own index y b maxL ret n) (hR : RmOk rmc maxL rm) : CallB (vR a) (vs a) (vargs a) own index y b maxL ret (.code y b maxL ret :: WS) rmc 0 0 n :=
  callB_of n X.2.2.2.2.1 (ws_call hk.2.2.1) rfl hR.1 hR.2.1 (X.2.2.2.2.1 _ hk.2.1) (X.2.2.2.2.1 _ hk.1) hk.2.2.2 (by rw [X.2.2.2.2.2.2.2.2.1]; exact hR.2.2)
theorem v_callV {y : MethodName} {b : ByteArray} {maxL : Nat} {ret : Option FieldType} {n index : Nat} {rmc : Room} {rest As : List Value} {Post : Option Value → TI → TL → Prop} {k j ci N : Nat} {T : u_T} {fs : List Value} (X : VOk a own cc rm nL)
    (hM : Ct (vl a) (vE a) y b maxL ret rmc (.ref (eA (vE a) k j) :: As) I L Post) (hk : CkV own index y b maxL ret n) (hdom : (k, j) ∈ DL) (hce : cef (vE a) k j (I k j) (L k j) = .inr (ci, fs)) (hc : vwCl[ci]? = some (y.cls, T, N)) (hR : RmOk rmc maxL rm)
    (hn : As.length = n) (hst : st = As.reverse ++ .ref (eA (vE a) k j) :: rest) (hroom : (rest.map fun v => v.category).sum ≤ 8) (hd : decode cc pc = .ok (.invokevirtual index, 3))
    (kk : ∀ (r : Option Value) (I' : TI) (L' : TL), Post r I' L' → V a (pc + 3) lv (r.toList ++ rest) I' L') : V a pc lv st I L := by
  intro H locs ls hl hP hS
  obtain ⟨q0, -, h1⟩ := wl_at hdom
  have he := h1 (vE a) I L
  rw [hce] at he
  exact v_run (y := y) (va_runV ⟨X.1, X.2.1, X.2.2.1, X.2.2.2.1, X.2.2.2.2.1⟩ hM ⟨ck_callB X hk.1 hR, X.2.2.2.2.1 _ hk.2.1, X.2.2.2.2.1 _ hk.2.2⟩ ⟨ct_blind, va_recv X.2.2.2.2.2.2.1 hP hc he, ct_pre X hP⟩ rfl hn (by rw [← X.2.2.1]; exact hl.1) hst (lv_room hroom) hd ⟨by rw [X.2.2.2.2.2.2.2.2.1]; exact X.2.2.2.2.2.2.2.2.2.1, by rw [X.2.2.2.2.2.2.2.2.1]; exact X.2.2.2.2.2.2.2.2.2.2⟩) hS hl kk
theorem v_callS {y : MethodName} {b : ByteArray} {maxL : Nat} {ret : Option FieldType} {n index : Nat} {rmc : Room} {rest As : List Value} {Post : Option Value → TI → TL → Prop} (X : VOk a own cc rm nL)
    (hM : Ct (vl a) (vE a) y b maxL ret rmc As I L Post) (hk : CkS own index y b maxL ret n) (hR : RmOk rmc maxL rm)
    (hn : As.length = n) (hst : st = As.reverse ++ rest) (hroom : (rest.map fun v => v.category).sum ≤ 8) (hd : decode cc pc = .ok (.invokestatic index, 3))
    (kk : ∀ (r : Option Value) (I' : TI) (L' : TL), Post r I' L' → V a (pc + 3) lv (r.toList ++ rest) I' L') : V a pc lv st I L := by
  intro H locs ls hl hP hS
  exact v_run (y := y) (va_runS ⟨X.1, X.2.1, X.2.2.1, X.2.2.2.1, X.2.2.2.2.1⟩ hM ⟨ck_callB X hk.1 hR, X.2.2.2.2.1 _ hk.2⟩ ⟨ct_blind, ct_pre X hP⟩ rfl hn (by rw [← X.2.2.1]; exact hl.1) hst (lv_room hroom) hd ⟨by rw [X.2.2.2.2.2.2.2.2.1]; exact X.2.2.2.2.2.2.2.2.2.1, by rw [X.2.2.2.2.2.2.2.2.1]; exact X.2.2.2.2.2.2.2.2.2.2⟩) hS hl kk
theorem v_callN {y : MethodName} {b : ByteArray} {maxL : Nat} {ret : Option FieldType} {n index : Nat} {rmc : Room} {rest As : List Value} {Post : Option Value → TI → TL → Prop} (X : VOk a own cc rm nL)
    (hM : Ct (vl a) (vE a) y b maxL ret rmc As I L Post) (hk : CkN own index y b maxL ret n) (hR : RmOk rmc maxL rm)
    (hn : As.length = n) (hst : st = As.reverse ++ rest) (hroom : (rest.map fun v => v.category).sum ≤ 8) (hd : decode cc pc = .ok (.invokestatic index, 3))
    (kk : ∀ (r : Option Value) (I' : TI) (L' : TL), Post r I' L' → V a (pc + 3) lv (r.toList ++ rest) I' L') : V a pc lv st I L := by
  intro H locs ls hl hP hS
  obtain ⟨⟨host, hh⟩, h2, h3, h4, h5⟩ := hk
  exact v_run (y := y) (va_runSN (host := host) ⟨X.1, X.2.1, X.2.2.1, X.2.2.2.1, X.2.2.2.2.1⟩ hM ⟨va_cnB n X.2.2.2.2.1 (ws_call h3) rfl hR.1 hR.2.1 (X.2.2.2.2.2.1.2 _ hh) (X.2.2.2.2.1 _ h2) h4 (by rw [X.2.2.2.2.2.2.2.2.1]; exact hR.2.2), X.2.2.2.2.1 _ h5, trivial⟩ ⟨ct_blind, ct_pre X hP⟩ rfl hn (by rw [← X.2.2.1]; exact hl.1) hst (lv_room hroom) hd ⟨by rw [X.2.2.2.2.2.2.2.2.1]; exact X.2.2.2.2.2.2.2.2.2.1, by rw [X.2.2.2.2.2.2.2.2.1]; exact X.2.2.2.2.2.2.2.2.2.2⟩) hS hl kk
end VV
end
section
theorem fit_z {v : Int32} (h : narrow .boolean (.int v) = .int v) : fits .boolean (.int v) = true := by
  have e : v &&& 1 = v := by simpa [narrow] using h
  obtain ⟨j, hj, hv⟩ := pk_andE v (m := 1) 1 rfl
  rw [e] at hv
  have hj : j < 2 := hj
  rcases (show j = 0 ∨ j = 1 by omega) with rfl | rfl
  · rw [hv]; rfl
  · rw [hv]; rfl
theorem lay_0_0 : u_lay RX0 TX0 0 ∈ WS := ws_of (i := 151) (by decide +kernel) (by decide +kernel)
theorem lay_0_1 : u_lay RX0 TX0 1 ∈ WS := ws_of (i := 153) (by decide +kernel) (by decide +kernel)
theorem lay_0_2 : u_lay RX0 TX0 2 ∈ WS := ws_of (i := 155) (by decide +kernel) (by decide +kernel)
theorem lay_0_3 : u_lay RX0 TX0 3 ∈ WS := ws_of (i := 157) (by decide +kernel) (by decide +kernel)
theorem lay_0_4 : u_lay RX0 TX0 4 ∈ WS := ws_of (i := 159) (by decide +kernel) (by decide +kernel)
theorem lay_0_5 : u_lay RX0 TX0 5 ∈ WS := ws_of (i := 161) (by decide +kernel) (by decide +kernel)
theorem inW0 : ∀ w ∈ u_ws RX0 TX0 6, w ∈ WS := by
  intro w h
  obtain ⟨k, hk, rfl⟩ := List.mem_map.mp h
  have hk := List.mem_range.mp hk
  match k, hk with
  | 0, _ => exact lay_0_0
  | 1, _ => exact lay_0_1
  | 2, _ => exact lay_0_2
  | 3, _ => exact lay_0_3
  | 4, _ => exact lay_0_4
  | 5, _ => exact lay_0_5
  | k + 6, hk => exact absurd hk (by omega)
theorem lay_1_0 : u_lay RX1 TX1 0 ∈ WS := ws_of (i := 111) (by decide +kernel) (by decide +kernel)
theorem lay_1_1 : u_lay RX1 TX1 1 ∈ WS := ws_of (i := 113) (by decide +kernel) (by decide +kernel)
theorem lay_1_2 : u_lay RX1 TX1 2 ∈ WS := ws_of (i := 115) (by decide +kernel) (by decide +kernel)
theorem lay_1_3 : u_lay RX1 TX1 3 ∈ WS := ws_of (i := 117) (by decide +kernel) (by decide +kernel)
theorem lay_1_4 : u_lay RX1 TX1 4 ∈ WS := ws_of (i := 119) (by decide +kernel) (by decide +kernel)
theorem lay_1_5 : u_lay RX1 TX1 5 ∈ WS := ws_of (i := 121) (by decide +kernel) (by decide +kernel)
theorem lay_1_6 : u_lay RX1 TX1 6 ∈ WS := ws_of (i := 123) (by decide +kernel) (by decide +kernel)
theorem lay_1_7 : u_lay RX1 TX1 7 ∈ WS := ws_of (i := 125) (by decide +kernel) (by decide +kernel)
theorem lay_1_8 : u_lay RX1 TX1 8 ∈ WS := ws_of (i := 127) (by decide +kernel) (by decide +kernel)
theorem lay_1_9 : u_lay RX1 TX1 9 ∈ WS := ws_of (i := 129) (by decide +kernel) (by decide +kernel)
theorem inW1 : ∀ w ∈ u_ws RX1 TX1 10, w ∈ WS := by
  intro w h
  obtain ⟨k, hk, rfl⟩ := List.mem_map.mp h
  have hk := List.mem_range.mp hk
  match k, hk with
  | 0, _ => exact lay_1_0
  | 1, _ => exact lay_1_1
  | 2, _ => exact lay_1_2
  | 3, _ => exact lay_1_3
  | 4, _ => exact lay_1_4
  | 5, _ => exact lay_1_5
  | 6, _ => exact lay_1_6
  | 7, _ => exact lay_1_7
  | 8, _ => exact lay_1_8
  | 9, _ => exact lay_1_9
  | k + 10, hk => exact absurd hk (by omega)
theorem lay_2_0 : u_lay RX2 TX2 0 ∈ WS := ws_of (i := 87) (by decide +kernel) (by decide +kernel)
theorem inW2 : ∀ w ∈ u_ws RX2 TX2 1, w ∈ WS := by
  intro w h
  obtain ⟨k, hk, rfl⟩ := List.mem_map.mp h
  have hk := List.mem_range.mp hk
  match k, hk with
  | 0, _ => exact lay_2_0
  | k + 1, hk => exact absurd hk (by omega)
theorem lay_3_0 : u_lay RX3 TX3 0 ∈ WS := ws_of (i := 178) (by decide +kernel) (by decide +kernel)
theorem lay_3_1 : u_lay RX3 TX3 1 ∈ WS := ws_of (i := 180) (by decide +kernel) (by decide +kernel)
theorem lay_3_2 : u_lay RX3 TX3 2 ∈ WS := ws_of (i := 182) (by decide +kernel) (by decide +kernel)
theorem lay_3_3 : u_lay RX3 TX3 3 ∈ WS := ws_of (i := 184) (by decide +kernel) (by decide +kernel)
theorem lay_3_4 : u_lay RX3 TX3 4 ∈ WS := ws_of (i := 186) (by decide +kernel) (by decide +kernel)
theorem inW3 : ∀ w ∈ u_ws RX3 TX3 5, w ∈ WS := by
  intro w h
  obtain ⟨k, hk, rfl⟩ := List.mem_map.mp h
  have hk := List.mem_range.mp hk
  match k, hk with
  | 0, _ => exact lay_3_0
  | 1, _ => exact lay_3_1
  | 2, _ => exact lay_3_2
  | 3, _ => exact lay_3_3
  | 4, _ => exact lay_3_4
  | k + 5, hk => exact absurd hk (by omega)
theorem lay_4_0 : u_lay RX4 TX4 0 ∈ WS := ws_of (i := 73) (by decide +kernel) (by decide +kernel)
theorem lay_4_1 : u_lay RX4 TX4 1 ∈ WS := ws_of (i := 75) (by decide +kernel) (by decide +kernel)
theorem inW4 : ∀ w ∈ u_ws RX4 TX4 2, w ∈ WS := by
  intro w h
  obtain ⟨k, hk, rfl⟩ := List.mem_map.mp h
  have hk := List.mem_range.mp hk
  match k, hk with
  | 0, _ => exact lay_4_0
  | 1, _ => exact lay_4_1
  | k + 2, hk => exact absurd hk (by omega)
theorem lay_5_0 : u_lay RX5 TX5 0 ∈ WS := ws_of (i := 200) (by decide +kernel) (by decide +kernel)
theorem lay_5_1 : u_lay RX5 TX5 1 ∈ WS := ws_of (i := 202) (by decide +kernel) (by decide +kernel)
theorem lay_5_2 : u_lay RX5 TX5 2 ∈ WS := ws_of (i := 204) (by decide +kernel) (by decide +kernel)
theorem lay_5_3 : u_lay RX5 TX5 3 ∈ WS := ws_of (i := 206) (by decide +kernel) (by decide +kernel)
theorem lay_5_4 : u_lay RX5 TX5 4 ∈ WS := ws_of (i := 208) (by decide +kernel) (by decide +kernel)
theorem lay_5_5 : u_lay RX5 TX5 5 ∈ WS := ws_of (i := 210) (by decide +kernel) (by decide +kernel)
theorem lay_5_6 : u_lay RX5 TX5 6 ∈ WS := ws_of (i := 212) (by decide +kernel) (by decide +kernel)
theorem lay_5_7 : u_lay RX5 TX5 7 ∈ WS := ws_of (i := 214) (by decide +kernel) (by decide +kernel)
theorem lay_5_8 : u_lay RX5 TX5 8 ∈ WS := ws_of (i := 216) (by decide +kernel) (by decide +kernel)
theorem lay_5_9 : u_lay RX5 TX5 9 ∈ WS := ws_of (i := 218) (by decide +kernel) (by decide +kernel)
theorem lay_5_10 : u_lay RX5 TX5 10 ∈ WS := ws_of (i := 220) (by decide +kernel) (by decide +kernel)
theorem inW5 : ∀ w ∈ u_ws RX5 TX5 11, w ∈ WS := by
  intro w h
  obtain ⟨k, hk, rfl⟩ := List.mem_map.mp h
  have hk := List.mem_range.mp hk
  match k, hk with
  | 0, _ => exact lay_5_0
  | 1, _ => exact lay_5_1
  | 2, _ => exact lay_5_2
  | 3, _ => exact lay_5_3
  | 4, _ => exact lay_5_4
  | 5, _ => exact lay_5_5
  | 6, _ => exact lay_5_6
  | 7, _ => exact lay_5_7
  | 8, _ => exact lay_5_8
  | 9, _ => exact lay_5_9
  | 10, _ => exact lay_5_10
  | k + 11, hk => exact absurd hk (by omega)
theorem lay_6_0 : u_lay RX6 TX6 0 ∈ WS := ws_of (i := 615) (by decide +kernel) (by decide +kernel)
theorem lay_6_1 : u_lay RX6 TX6 1 ∈ WS := ws_of (i := 617) (by decide +kernel) (by decide +kernel)
theorem lay_6_2 : u_lay RX6 TX6 2 ∈ WS := ws_of (i := 619) (by decide +kernel) (by decide +kernel)
theorem lay_6_3 : u_lay RX6 TX6 3 ∈ WS := ws_of (i := 621) (by decide +kernel) (by decide +kernel)
theorem lay_6_4 : u_lay RX6 TX6 4 ∈ WS := ws_of (i := 623) (by decide +kernel) (by decide +kernel)
theorem lay_6_5 : u_lay RX6 TX6 5 ∈ WS := ws_of (i := 625) (by decide +kernel) (by decide +kernel)
theorem lay_6_6 : u_lay RX6 TX6 6 ∈ WS := ws_of (i := 627) (by decide +kernel) (by decide +kernel)
theorem lay_6_7 : u_lay RX6 TX6 7 ∈ WS := ws_of (i := 629) (by decide +kernel) (by decide +kernel)
theorem lay_6_8 : u_lay RX6 TX6 8 ∈ WS := ws_of (i := 631) (by decide +kernel) (by decide +kernel)
theorem lay_6_9 : u_lay RX6 TX6 9 ∈ WS := ws_of (i := 633) (by decide +kernel) (by decide +kernel)
theorem lay_6_10 : u_lay RX6 TX6 10 ∈ WS := ws_of (i := 635) (by decide +kernel) (by decide +kernel)
theorem lay_6_11 : u_lay RX6 TX6 11 ∈ WS := ws_of (i := 637) (by decide +kernel) (by decide +kernel)
theorem lay_6_12 : u_lay RX6 TX6 12 ∈ WS := ws_of (i := 639) (by decide +kernel) (by decide +kernel)
theorem lay_6_13 : u_lay RX6 TX6 13 ∈ WS := ws_of (i := 641) (by decide +kernel) (by decide +kernel)
theorem lay_6_14 : u_lay RX6 TX6 14 ∈ WS := ws_of (i := 643) (by decide +kernel) (by decide +kernel)
theorem lay_6_15 : u_lay RX6 TX6 15 ∈ WS := ws_of (i := 645) (by decide +kernel) (by decide +kernel)
theorem lay_6_16 : u_lay RX6 TX6 16 ∈ WS := ws_of (i := 647) (by decide +kernel) (by decide +kernel)
theorem lay_6_17 : u_lay RX6 TX6 17 ∈ WS := ws_of (i := 649) (by decide +kernel) (by decide +kernel)
theorem lay_6_18 : u_lay RX6 TX6 18 ∈ WS := ws_of (i := 651) (by decide +kernel) (by decide +kernel)
theorem lay_6_19 : u_lay RX6 TX6 19 ∈ WS := ws_of (i := 653) (by decide +kernel) (by decide +kernel)
theorem lay_6_20 : u_lay RX6 TX6 20 ∈ WS := ws_of (i := 655) (by decide +kernel) (by decide +kernel)
theorem lay_6_21 : u_lay RX6 TX6 21 ∈ WS := ws_of (i := 657) (by decide +kernel) (by decide +kernel)
theorem lay_6_22 : u_lay RX6 TX6 22 ∈ WS := ws_of (i := 659) (by decide +kernel) (by decide +kernel)
theorem lay_6_23 : u_lay RX6 TX6 23 ∈ WS := ws_of (i := 661) (by decide +kernel) (by decide +kernel)
theorem lay_6_24 : u_lay RX6 TX6 24 ∈ WS := ws_of (i := 663) (by decide +kernel) (by decide +kernel)
theorem lay_6_25 : u_lay RX6 TX6 25 ∈ WS := ws_of (i := 665) (by decide +kernel) (by decide +kernel)
theorem lay_6_26 : u_lay RX6 TX6 26 ∈ WS := ws_of (i := 667) (by decide +kernel) (by decide +kernel)
theorem lay_6_27 : u_lay RX6 TX6 27 ∈ WS := ws_of (i := 669) (by decide +kernel) (by decide +kernel)
theorem lay_6_28 : u_lay RX6 TX6 28 ∈ WS := ws_of (i := 671) (by decide +kernel) (by decide +kernel)
theorem lay_6_29 : u_lay RX6 TX6 29 ∈ WS := ws_of (i := 673) (by decide +kernel) (by decide +kernel)
theorem lay_6_30 : u_lay RX6 TX6 30 ∈ WS := ws_of (i := 675) (by decide +kernel) (by decide +kernel)
theorem lay_6_31 : u_lay RX6 TX6 31 ∈ WS := ws_of (i := 677) (by decide +kernel) (by decide +kernel)
theorem lay_6_32 : u_lay RX6 TX6 32 ∈ WS := ws_of (i := 679) (by decide +kernel) (by decide +kernel)
theorem lay_6_33 : u_lay RX6 TX6 33 ∈ WS := ws_of (i := 681) (by decide +kernel) (by decide +kernel)
theorem lay_6_34 : u_lay RX6 TX6 34 ∈ WS := ws_of (i := 683) (by decide +kernel) (by decide +kernel)
theorem lay_6_35 : u_lay RX6 TX6 35 ∈ WS := ws_of (i := 685) (by decide +kernel) (by decide +kernel)
theorem lay_6_36 : u_lay RX6 TX6 36 ∈ WS := ws_of (i := 687) (by decide +kernel) (by decide +kernel)
theorem inW6 : ∀ w ∈ u_ws RX6 TX6 37, w ∈ WS := by
  intro w h
  obtain ⟨k, hk, rfl⟩ := List.mem_map.mp h
  have hk := List.mem_range.mp hk
  match k, hk with
  | 0, _ => exact lay_6_0
  | 1, _ => exact lay_6_1
  | 2, _ => exact lay_6_2
  | 3, _ => exact lay_6_3
  | 4, _ => exact lay_6_4
  | 5, _ => exact lay_6_5
  | 6, _ => exact lay_6_6
  | 7, _ => exact lay_6_7
  | 8, _ => exact lay_6_8
  | 9, _ => exact lay_6_9
  | 10, _ => exact lay_6_10
  | 11, _ => exact lay_6_11
  | 12, _ => exact lay_6_12
  | 13, _ => exact lay_6_13
  | 14, _ => exact lay_6_14
  | 15, _ => exact lay_6_15
  | 16, _ => exact lay_6_16
  | 17, _ => exact lay_6_17
  | 18, _ => exact lay_6_18
  | 19, _ => exact lay_6_19
  | 20, _ => exact lay_6_20
  | 21, _ => exact lay_6_21
  | 22, _ => exact lay_6_22
  | 23, _ => exact lay_6_23
  | 24, _ => exact lay_6_24
  | 25, _ => exact lay_6_25
  | 26, _ => exact lay_6_26
  | 27, _ => exact lay_6_27
  | 28, _ => exact lay_6_28
  | 29, _ => exact lay_6_29
  | 30, _ => exact lay_6_30
  | 31, _ => exact lay_6_31
  | 32, _ => exact lay_6_32
  | 33, _ => exact lay_6_33
  | 34, _ => exact lay_6_34
  | 35, _ => exact lay_6_35
  | 36, _ => exact lay_6_36
  | k + 37, hk => exact absurd hk (by omega)
theorem fl_X5_11 : Cond.fieldLink RX5 11 "WellTables" "grids" "[LWellTables$Grid;" ∈ WS := ws_of (i := 189) (by decide +kernel) (by decide +kernel)
theorem gf_X5_11 {a : VA} {cc : ByteArray} {rm : Room} {nL : Nat} (X : VOk a RX5 cc rm nL) {pc : Nat} {lv : List (Nat × Value)} {st : List Value} {I : TI} {L : TL} (hd : decode cc pc = .ok (.getfield 11, 3)) (kk : V a (pc + 3) lv (.ref (eA (vE a) 1 0) :: st) I L) : V a pc lv (.ref (eA (vE a) 0 0) :: st) I L := v_getf X (slot := 0) dl_0 (cef_0 _ _ _ _) rfl inW5 (by decide) fl_X5_11 rfl hd kk
theorem fl_X5_17 : Cond.fieldLink RX5 17 "WellTables" "webs" "[LWellTables$Web;" ∈ WS := ws_of (i := 191) (by decide +kernel) (by decide +kernel)
theorem gf_X5_17 {a : VA} {cc : ByteArray} {rm : Room} {nL : Nat} (X : VOk a RX5 cc rm nL) {pc : Nat} {lv : List (Nat × Value)} {st : List Value} {I : TI} {L : TL} (hd : decode cc pc = .ok (.getfield 17, 3)) (kk : V a (pc + 3) lv (.ref (eA (vE a) 4 0) :: st) I L) : V a pc lv (.ref (eA (vE a) 0 0) :: st) I L := v_getf X (slot := 2) dl_0 (cef_0 _ _ _ _) rfl inW5 (by decide) fl_X5_17 rfl hd kk
theorem fl_X5_21 : Cond.fieldLink RX5 21 "WellTables" "theRow" "[I" ∈ WS := ws_of (i := 193) (by decide +kernel) (by decide +kernel)
theorem gf_X5_21 {a : VA} {cc : ByteArray} {rm : Room} {nL : Nat} (X : VOk a RX5 cc rm nL) {pc : Nat} {lv : List (Nat × Value)} {st : List Value} {I : TI} {L : TL} (hd : decode cc pc = .ok (.getfield 21, 3)) (kk : V a (pc + 3) lv (.ref (eA (vE a) 9 0) :: st) I L) : V a pc lv (.ref (eA (vE a) 0 0) :: st) I L := v_getf X (slot := 4) dl_0 (cef_0 _ _ _ _) rfl inW5 (by decide) fl_X5_21 rfl hd kk
theorem fl_X5_25 : Cond.fieldLink RX5 25 "WellTables" "brought" "[I" ∈ WS := ws_of (i := 195) (by decide +kernel) (by decide +kernel)
theorem gf_X5_25 {a : VA} {cc : ByteArray} {rm : Room} {nL : Nat} (X : VOk a RX5 cc rm nL) {pc : Nat} {lv : List (Nat × Value)} {st : List Value} {I : TI} {L : TL} (hd : decode cc pc = .ok (.getfield 25, 3)) (kk : V a (pc + 3) lv (.ref (eA (vE a) 10 0) :: st) I L) : V a pc lv (.ref (eA (vE a) 0 0) :: st) I L := v_getf X (slot := 6) dl_0 (cef_0 _ _ _ _) rfl inW5 (by decide) fl_X5_25 rfl hd kk
theorem fl_X5_28 : Cond.fieldLink RX5 28 "WellTables" "refusals" "[I" ∈ WS := ws_of (i := 196) (by decide +kernel) (by decide +kernel)
theorem gf_X5_28 {a : VA} {cc : ByteArray} {rm : Room} {nL : Nat} (X : VOk a RX5 cc rm nL) {pc : Nat} {lv : List (Nat × Value)} {st : List Value} {I : TI} {L : TL} (hd : decode cc pc = .ok (.getfield 28, 3)) (kk : V a (pc + 3) lv (.ref (eA (vE a) 11 0) :: st) I L) : V a pc lv (.ref (eA (vE a) 0 0) :: st) I L := v_getf X (slot := 7) dl_0 (cef_0 _ _ _ _) rfl inW5 (by decide) fl_X5_28 rfl hd kk
theorem fl_X5_34 : Cond.fieldLink RX5 34 "WellTables" "worths" "LWellTables$Worths;" ∈ WS := ws_of (i := 197) (by decide +kernel) (by decide +kernel)
theorem gf_X5_34 {a : VA} {cc : ByteArray} {rm : Room} {nL : Nat} (X : VOk a RX5 cc rm nL) {pc : Nat} {lv : List (Nat × Value)} {st : List Value} {I : TI} {L : TL} (hd : decode cc pc = .ok (.getfield 34, 3)) (kk : V a (pc + 3) lv (.ref (eA (vE a) 12 0) :: st) I L) : V a pc lv (.ref (eA (vE a) 0 0) :: st) I L := v_getf X (slot := 8) dl_0 (cef_0 _ _ _ _) rfl inW5 (by decide) fl_X5_34 rfl hd kk
theorem fl_X5_41 : Cond.fieldLink RX5 41 "WellTables" "ways" "LWellTables$Ways;" ∈ WS := ws_of (i := 198) (by decide +kernel) (by decide +kernel)
theorem gf_X5_41 {a : VA} {cc : ByteArray} {rm : Room} {nL : Nat} (X : VOk a RX5 cc rm nL) {pc : Nat} {lv : List (Nat × Value)} {st : List Value} {I : TI} {L : TL} (hd : decode cc pc = .ok (.getfield 41, 3)) (kk : V a (pc + 3) lv (.ref (eA (vE a) 15 0) :: st) I L) : V a pc lv (.ref (eA (vE a) 0 0) :: st) I L := v_getf X (slot := 9) dl_0 (cef_0 _ _ _ _) rfl inW5 (by decide) fl_X5_41 rfl hd kk
theorem fl_X5_48 : Cond.fieldLink RX5 48 "WellTables" "maker" "LWellTables$Maker;" ∈ WS := ws_of (i := 199) (by decide +kernel) (by decide +kernel)
theorem gf_X5_48 {a : VA} {cc : ByteArray} {rm : Room} {nL : Nat} (X : VOk a RX5 cc rm nL) {pc : Nat} {lv : List (Nat × Value)} {st : List Value} {I : TI} {L : TL} (hd : decode cc pc = .ok (.getfield 48, 3)) (kk : V a (pc + 3) lv (.ref (eA (vE a) 17 0) :: st) I L) : V a pc lv (.ref (eA (vE a) 0 0) :: st) I L := v_getf X (slot := 10) dl_0 (cef_0 _ _ _ _) rfl inW5 (by decide) fl_X5_48 rfl hd kk
theorem gf_X5_85 {a : VA} {cc : ByteArray} {rm : Room} {nL : Nat} (X : VOk a RX5 cc rm nL) {j : Nat} (hj : j < 12) {pc : Nat} {lv : List (Nat × Value)} {st : List Value} {I : TI} {L : TL} (hd : decode cc pc = .ok (.getfield 85, 3)) (kk : V a (pc + 3) lv (.int (I 2 j 3) :: st) I L) : V a pc lv (.ref (eA (vE a) 2 j) :: st) I L := v_getfN X (slot := 3) (dl_2 hj) (cef_2 _ _ _ _) rfl inW0 (by decide) (List.mem_of_getElem? (i := 10) rfl) rfl rfl hd kk
theorem gf_X5_101 {a : VA} {cc : ByteArray} {rm : Room} {nL : Nat} (X : VOk a RX5 cc rm nL) {j : Nat} (hj : j < 12) {pc : Nat} {lv : List (Nat × Value)} {st : List Value} {I : TI} {L : TL} (hd : decode cc pc = .ok (.getfield 101, 3)) (kk : V a (pc + 3) lv (.int (I 2 j 1) :: st) I L) : V a pc lv (.ref (eA (vE a) 2 j) :: st) I L := v_getfN X (slot := 1) (dl_2 hj) (cef_2 _ _ _ _) rfl inW0 (by decide) (List.mem_of_getElem? (i := 7) rfl) rfl rfl hd kk
theorem gf_X5_104 {a : VA} {cc : ByteArray} {rm : Room} {nL : Nat} (X : VOk a RX5 cc rm nL) {j : Nat} (hj : j < 12) {pc : Nat} {lv : List (Nat × Value)} {st : List Value} {I : TI} {L : TL} (hd : decode cc pc = .ok (.getfield 104, 3)) (kk : V a (pc + 3) lv (.int (I 2 j 2) :: st) I L) : V a pc lv (.ref (eA (vE a) 2 j) :: st) I L := v_getfN X (slot := 2) (dl_2 hj) (cef_2 _ _ _ _) rfl inW0 (by decide) (List.mem_of_getElem? (i := 9) rfl) rfl rfl hd kk
theorem gf_X5_114 {a : VA} {cc : ByteArray} {rm : Room} {nL : Nat} (X : VOk a RX5 cc rm nL) {j : Nat} (hj : j < 12) {pc : Nat} {lv : List (Nat × Value)} {st : List Value} {I : TI} {L : TL} (hd : decode cc pc = .ok (.getfield 114, 3)) (kk : V a (pc + 3) lv (.int (I 2 j 4) :: st) I L) : V a pc lv (.ref (eA (vE a) 2 j) :: st) I L := v_getfN X (slot := 4) (dl_2 hj) (cef_2 _ _ _ _) rfl inW0 (by decide) (List.mem_of_getElem? (i := 11) rfl) rfl rfl hd kk
theorem pf_X5_114 {a : VA} {cc : ByteArray} {rm : Room} {nL : Nat} (X : VOk a RX5 cc rm nL) {j : Nat} (hj : j < 12) {pc : Nat} {lv : List (Nat × Value)} {st : List Value} {I : TI} {L : TL} {v : Int32} (hd : decode cc pc = .ok (.putfield 114, 3)) (kk : V a (pc + 3) lv st (upI I 2 j 4 v) L) : V a pc lv (.int v :: .ref (eA (vE a) 2 j) :: st) I L := v_putfN X (slot := 4) (I' := (upI I 2 j 4 v)) (L' := L) (dl_2 hj) (cef_2 _ _ _ _) rfl inW0 tyX0 tyX0_ok nmX0 (by decide) (List.mem_of_getElem? (i := 11) rfl) rfl rfl (ty := .int) (by decide +kernel) rfl rfl (by simp) (by rw [upI_row, cef_2]; rfl) (fun k' j' h => upI_off I 2 j 4 v h) (fun _ _ _ => rfl) hd kk
theorem fl_X5_117 : Cond.fieldLink RX5 117 "WellTables" "gridCount" "I" ∈ WS := ws_of (i := 190) (by decide +kernel) (by decide +kernel)
theorem gf_X5_117 {a : VA} {cc : ByteArray} {rm : Room} {nL : Nat} (X : VOk a RX5 cc rm nL) {pc : Nat} {lv : List (Nat × Value)} {st : List Value} {I : TI} {L : TL} (hd : decode cc pc = .ok (.getfield 117, 3)) (kk : V a (pc + 3) lv (.int (I 0 0 1) :: st) I L) : V a pc lv (.ref (eA (vE a) 0 0) :: st) I L := v_getf X (slot := 1) dl_0 (cef_0 _ _ _ _) rfl inW5 (by decide) fl_X5_117 rfl hd kk
theorem pf_X5_117 {a : VA} {cc : ByteArray} {rm : Room} {nL : Nat} (X : VOk a RX5 cc rm nL) {pc : Nat} {lv : List (Nat × Value)} {st : List Value} {I : TI} {L : TL} {v : Int32} (hd : decode cc pc = .ok (.putfield 117, 3)) (kk : V a (pc + 3) lv st (upI I 0 0 1 v) L) : V a pc lv (.int v :: .ref (eA (vE a) 0 0) :: st) I L := v_putf X (slot := 1) (I' := (upI I 0 0 1 v)) (L' := L) dl_0 (cef_0 _ _ _ _) rfl inW5 tyX5 tyX5_ok nmX5 (by decide) fl_X5_117 rfl (ty := .int) (by decide +kernel) rfl rfl (by simp) (by rw [upI_row, cef_0]; rfl) (fun k' j' h => upI_off I 0 0 1 v h) (fun _ _ _ => rfl) hd kk
theorem fl_X5_158 : Cond.fieldLink RX5 158 "WellTables" "webCount" "I" ∈ WS := ws_of (i := 192) (by decide +kernel) (by decide +kernel)
theorem gf_X5_158 {a : VA} {cc : ByteArray} {rm : Room} {nL : Nat} (X : VOk a RX5 cc rm nL) {pc : Nat} {lv : List (Nat × Value)} {st : List Value} {I : TI} {L : TL} (hd : decode cc pc = .ok (.getfield 158, 3)) (kk : V a (pc + 3) lv (.int (I 0 0 3) :: st) I L) : V a pc lv (.ref (eA (vE a) 0 0) :: st) I L := v_getf X (slot := 3) dl_0 (cef_0 _ _ _ _) rfl inW5 (by decide) fl_X5_158 rfl hd kk
theorem pf_X5_158 {a : VA} {cc : ByteArray} {rm : Room} {nL : Nat} (X : VOk a RX5 cc rm nL) {pc : Nat} {lv : List (Nat × Value)} {st : List Value} {I : TI} {L : TL} {v : Int32} (hd : decode cc pc = .ok (.putfield 158, 3)) (kk : V a (pc + 3) lv st (upI I 0 0 3 v) L) : V a pc lv (.int v :: .ref (eA (vE a) 0 0) :: st) I L := v_putf X (slot := 3) (I' := (upI I 0 0 3 v)) (L' := L) dl_0 (cef_0 _ _ _ _) rfl inW5 tyX5 tyX5_ok nmX5 (by decide) fl_X5_158 rfl (ty := .int) (by decide +kernel) rfl rfl (by simp) (by rw [upI_row, cef_0]; rfl) (fun k' j' h => upI_off I 0 0 3 v h) (fun _ _ _ => rfl) hd kk
theorem gf_X5_171 {a : VA} {cc : ByteArray} {rm : Room} {nL : Nat} (X : VOk a RX5 cc rm nL) {j : Nat} (hj : j < 4) {pc : Nat} {lv : List (Nat × Value)} {st : List Value} {I : TI} {L : TL} (hd : decode cc pc = .ok (.getfield 171, 3)) (kk : V a (pc + 3) lv (.int (I 5 j 4) :: st) I L) : V a pc lv (.ref (eA (vE a) 5 j) :: st) I L := v_getfN X (slot := 4) (dl_5 hj) (cef_5 _ _ _ _) rfl inW3 (by decide) (List.mem_of_getElem? (i := 16) rfl) rfl rfl hd kk
theorem pf_X5_171 {a : VA} {cc : ByteArray} {rm : Room} {nL : Nat} (X : VOk a RX5 cc rm nL) {j : Nat} (hj : j < 4) {pc : Nat} {lv : List (Nat × Value)} {st : List Value} {I : TI} {L : TL} {v : Int32} (hd : decode cc pc = .ok (.putfield 171, 3)) (kk : V a (pc + 3) lv st (upI I 5 j 4 v) L) : V a pc lv (.int v :: .ref (eA (vE a) 5 j) :: st) I L := v_putfN X (slot := 4) (I' := (upI I 5 j 4 v)) (L' := L) (dl_5 hj) (cef_5 _ _ _ _) rfl inW3 tyX3 tyX3_ok nmX3 (by decide) (List.mem_of_getElem? (i := 16) rfl) rfl rfl (ty := .int) (by decide +kernel) rfl rfl (by simp) (by rw [upI_row, cef_5]; rfl) (fun k' j' h => upI_off I 5 j 4 v h) (fun _ _ _ => rfl) hd kk
theorem gf_X5_177 {a : VA} {cc : ByteArray} {rm : Room} {nL : Nat} (X : VOk a RX5 cc rm nL) {j : Nat} (hj : j < 4) {pc : Nat} {lv : List (Nat × Value)} {st : List Value} {I : TI} {L : TL} (hd : decode cc pc = .ok (.getfield 177, 3)) (kk : V a (pc + 3) lv (.int (I 5 j 3) :: st) I L) : V a pc lv (.ref (eA (vE a) 5 j) :: st) I L := v_getfN X (slot := 3) (dl_5 hj) (cef_5 _ _ _ _) rfl inW3 (by decide) (List.mem_of_getElem? (i := 14) rfl) rfl rfl hd kk
theorem fl_X5_199 : Cond.fieldLink RX5 199 "WellTables" "rowIsThere" "Z" ∈ WS := ws_of (i := 194) (by decide +kernel) (by decide +kernel)
theorem gf_X5_199 {a : VA} {cc : ByteArray} {rm : Room} {nL : Nat} (X : VOk a RX5 cc rm nL) {pc : Nat} {lv : List (Nat × Value)} {st : List Value} {I : TI} {L : TL} (hd : decode cc pc = .ok (.getfield 199, 3)) (kk : V a (pc + 3) lv (.int (I 0 0 5) :: st) I L) : V a pc lv (.ref (eA (vE a) 0 0) :: st) I L := v_getf X (slot := 5) dl_0 (cef_0 _ _ _ _) rfl inW5 (by decide) fl_X5_199 rfl hd kk
theorem pf_X5_199 {a : VA} {cc : ByteArray} {rm : Room} {nL : Nat} (X : VOk a RX5 cc rm nL) {pc : Nat} {lv : List (Nat × Value)} {st : List Value} {I : TI} {L : TL} {v : Int32} (hz : narrow .boolean (.int v) = .int v) (hd : decode cc pc = .ok (.putfield 199, 3)) (kk : V a (pc + 3) lv st (upI I 0 0 5 v) L) : V a pc lv (.int v :: .ref (eA (vE a) 0 0) :: st) I L := v_putf X (slot := 5) (I' := (upI I 0 0 5 v)) (L' := L) dl_0 (cef_0 _ _ _ _) rfl inW5 tyX5 tyX5_ok nmX5 (by decide) fl_X5_199 rfl (ty := .boolean) (by decide +kernel) hz (fit_z hz) (by simp) (by rw [upI_row, cef_0]; rfl) (fun k' j' h => upI_off I 0 0 5 v h) (fun _ _ _ => rfl) hd kk
theorem gf_X5_213 {a : VA} {cc : ByteArray} {rm : Room} {nL : Nat} (X : VOk a RX5 cc rm nL) {pc : Nat} {lv : List (Nat × Value)} {st : List Value} {I : TI} {L : TL} (hd : decode cc pc = .ok (.getfield 213, 3)) (kk : V a (pc + 3) lv (.int (I 17 0 4) :: st) I L) : V a pc lv (.ref (eA (vE a) 17 0) :: st) I L := v_getfN X (slot := 4) dl_17 (cef_17 _ _ _ _) rfl inW1 (by decide) (List.mem_of_getElem? (i := 4) rfl) rfl rfl hd kk
theorem gf_X5_214 {a : VA} {cc : ByteArray} {rm : Room} {nL : Nat} (X : VOk a RX5 cc rm nL) {pc : Nat} {lv : List (Nat × Value)} {st : List Value} {I : TI} {L : TL} (hd : decode cc pc = .ok (.getfield 214, 3)) (kk : V a (pc + 3) lv (.ref (eA (vE a) 18 0) :: st) I L) : V a pc lv (.ref (eA (vE a) 17 0) :: st) I L := v_getfN X (slot := 0) dl_17 (cef_17 _ _ _ _) rfl inW1 (by decide) (List.mem_of_getElem? (i := 0) rfl) rfl rfl hd kk
theorem gf_X5_217 {a : VA} {cc : ByteArray} {rm : Room} {nL : Nat} (X : VOk a RX5 cc rm nL) {pc : Nat} {lv : List (Nat × Value)} {st : List Value} {I : TI} {L : TL} (hd : decode cc pc = .ok (.getfield 217, 3)) (kk : V a (pc + 3) lv (.ref (eA (vE a) 19 0) :: st) I L) : V a pc lv (.ref (eA (vE a) 17 0) :: st) I L := v_getfN X (slot := 1) dl_17 (cef_17 _ _ _ _) rfl inW1 (by decide) (List.mem_of_getElem? (i := 1) rfl) rfl rfl hd kk
theorem gf_X5_219 {a : VA} {cc : ByteArray} {rm : Room} {nL : Nat} (X : VOk a RX5 cc rm nL) {pc : Nat} {lv : List (Nat × Value)} {st : List Value} {I : TI} {L : TL} (hd : decode cc pc = .ok (.getfield 219, 3)) (kk : V a (pc + 3) lv (.ref (eA (vE a) 20 0) :: st) I L) : V a pc lv (.ref (eA (vE a) 17 0) :: st) I L := v_getfN X (slot := 2) dl_17 (cef_17 _ _ _ _) rfl inW1 (by decide) (List.mem_of_getElem? (i := 2) rfl) rfl rfl hd kk
theorem gf_X5_223 {a : VA} {cc : ByteArray} {rm : Room} {nL : Nat} (X : VOk a RX5 cc rm nL) {pc : Nat} {lv : List (Nat × Value)} {st : List Value} {I : TI} {L : TL} (hd : decode cc pc = .ok (.getfield 223, 3)) (kk : V a (pc + 3) lv (.ref (eA (vE a) 21 0) :: st) I L) : V a pc lv (.ref (eA (vE a) 17 0) :: st) I L := v_getfN X (slot := 3) dl_17 (cef_17 _ _ _ _) rfl inW1 (by decide) (List.mem_of_getElem? (i := 3) rfl) rfl rfl hd kk
theorem gf_X5_232 {a : VA} {cc : ByteArray} {rm : Room} {nL : Nat} (X : VOk a RX5 cc rm nL) {j : Nat} (hj : j < 12) {pc : Nat} {lv : List (Nat × Value)} {st : List Value} {I : TI} {L : TL} (hd : decode cc pc = .ok (.getfield 232, 3)) (kk : V a (pc + 3) lv (.int (I 2 j 5) :: st) I L) : V a pc lv (.ref (eA (vE a) 2 j) :: st) I L := v_getfN X (slot := 5) (dl_2 hj) (cef_2 _ _ _ _) rfl inW0 (by decide) (List.mem_of_getElem? (i := 12) rfl) rfl rfl hd kk
theorem fl_X0_9 : Cond.fieldLink RX0 9 "WellTables$Grid" "numbers" "[I" ∈ WS := ws_of (i := 137) (by decide +kernel) (by decide +kernel)
theorem gf_X0_9 {a : VA} {cc : ByteArray} {rm : Room} {nL : Nat} (X : VOk a RX0 cc rm nL) {j : Nat} (hj : j < 12) {pc : Nat} {lv : List (Nat × Value)} {st : List Value} {I : TI} {L : TL} (hd : decode cc pc = .ok (.getfield 9, 3)) (kk : V a (pc + 3) lv (.ref (eA (vE a) 3 j) :: st) I L) : V a pc lv (.ref (eA (vE a) 2 j) :: st) I L := v_getf X (slot := 0) (dl_2 hj) (cef_2 _ _ _ _) rfl inW0 (by decide) fl_X0_9 rfl hd kk
theorem fl_X0_15 : Cond.fieldLink RX0 15 "WellTables$Grid" "rows" "I" ∈ WS := ws_of (i := 138) (by decide +kernel) (by decide +kernel)
theorem gf_X0_15 {a : VA} {cc : ByteArray} {rm : Room} {nL : Nat} (X : VOk a RX0 cc rm nL) {j : Nat} (hj : j < 12) {pc : Nat} {lv : List (Nat × Value)} {st : List Value} {I : TI} {L : TL} (hd : decode cc pc = .ok (.getfield 15, 3)) (kk : V a (pc + 3) lv (.int (I 2 j 1) :: st) I L) : V a pc lv (.ref (eA (vE a) 2 j) :: st) I L := v_getf X (slot := 1) (dl_2 hj) (cef_2 _ _ _ _) rfl inW0 (by decide) fl_X0_15 rfl hd kk
theorem pf_X0_15 {a : VA} {cc : ByteArray} {rm : Room} {nL : Nat} (X : VOk a RX0 cc rm nL) {j : Nat} (hj : j < 12) {pc : Nat} {lv : List (Nat × Value)} {st : List Value} {I : TI} {L : TL} {v : Int32} (hd : decode cc pc = .ok (.putfield 15, 3)) (kk : V a (pc + 3) lv st (upI I 2 j 1 v) L) : V a pc lv (.int v :: .ref (eA (vE a) 2 j) :: st) I L := v_putf X (slot := 1) (I' := (upI I 2 j 1 v)) (L' := L) (dl_2 hj) (cef_2 _ _ _ _) rfl inW0 tyX0 tyX0_ok nmX0 (by decide) fl_X0_15 rfl (ty := .int) (by decide +kernel) rfl rfl (by simp) (by rw [upI_row, cef_2]; rfl) (fun k' j' h => upI_off I 2 j 1 v h) (fun _ _ _ => rfl) hd kk
theorem fl_X0_19 : Cond.fieldLink RX0 19 "WellTables$Grid" "columns" "I" ∈ WS := ws_of (i := 142) (by decide +kernel) (by decide +kernel)
theorem gf_X0_19 {a : VA} {cc : ByteArray} {rm : Room} {nL : Nat} (X : VOk a RX0 cc rm nL) {j : Nat} (hj : j < 12) {pc : Nat} {lv : List (Nat × Value)} {st : List Value} {I : TI} {L : TL} (hd : decode cc pc = .ok (.getfield 19, 3)) (kk : V a (pc + 3) lv (.int (I 2 j 2) :: st) I L) : V a pc lv (.ref (eA (vE a) 2 j) :: st) I L := v_getf X (slot := 2) (dl_2 hj) (cef_2 _ _ _ _) rfl inW0 (by decide) fl_X0_19 rfl hd kk
theorem pf_X0_19 {a : VA} {cc : ByteArray} {rm : Room} {nL : Nat} (X : VOk a RX0 cc rm nL) {j : Nat} (hj : j < 12) {pc : Nat} {lv : List (Nat × Value)} {st : List Value} {I : TI} {L : TL} {v : Int32} (hd : decode cc pc = .ok (.putfield 19, 3)) (kk : V a (pc + 3) lv st (upI I 2 j 2 v) L) : V a pc lv (.int v :: .ref (eA (vE a) 2 j) :: st) I L := v_putf X (slot := 2) (I' := (upI I 2 j 2 v)) (L' := L) (dl_2 hj) (cef_2 _ _ _ _) rfl inW0 tyX0 tyX0_ok nmX0 (by decide) fl_X0_19 rfl (ty := .int) (by decide +kernel) rfl rfl (by simp) (by rw [upI_row, cef_2]; rfl) (fun k' j' h => upI_off I 2 j 2 v h) (fun _ _ _ => rfl) hd kk
theorem fl_X0_22 : Cond.fieldLink RX0 22 "WellTables$Grid" "kind" "I" ∈ WS := ws_of (i := 145) (by decide +kernel) (by decide +kernel)
theorem pf_X0_22 {a : VA} {cc : ByteArray} {rm : Room} {nL : Nat} (X : VOk a RX0 cc rm nL) {j : Nat} (hj : j < 12) {pc : Nat} {lv : List (Nat × Value)} {st : List Value} {I : TI} {L : TL} {v : Int32} (hd : decode cc pc = .ok (.putfield 22, 3)) (kk : V a (pc + 3) lv st (upI I 2 j 3 v) L) : V a pc lv (.int v :: .ref (eA (vE a) 2 j) :: st) I L := v_putf X (slot := 3) (I' := (upI I 2 j 3 v)) (L' := L) (dl_2 hj) (cef_2 _ _ _ _) rfl inW0 tyX0 tyX0_ok nmX0 (by decide) fl_X0_22 rfl (ty := .int) (by decide +kernel) rfl rfl (by simp) (by rw [upI_row, cef_2]; rfl) (fun k' j' h => upI_off I 2 j 3 v h) (fun _ _ _ => rfl) hd kk
theorem fl_X0_25 : Cond.fieldLink RX0 25 "WellTables$Grid" "net" "I" ∈ WS := ws_of (i := 147) (by decide +kernel) (by decide +kernel)
theorem pf_X0_25 {a : VA} {cc : ByteArray} {rm : Room} {nL : Nat} (X : VOk a RX0 cc rm nL) {j : Nat} (hj : j < 12) {pc : Nat} {lv : List (Nat × Value)} {st : List Value} {I : TI} {L : TL} {v : Int32} (hd : decode cc pc = .ok (.putfield 25, 3)) (kk : V a (pc + 3) lv st (upI I 2 j 4 v) L) : V a pc lv (.int v :: .ref (eA (vE a) 2 j) :: st) I L := v_putf X (slot := 4) (I' := (upI I 2 j 4 v)) (L' := L) (dl_2 hj) (cef_2 _ _ _ _) rfl inW0 tyX0 tyX0_ok nmX0 (by decide) fl_X0_25 rfl (ty := .int) (by decide +kernel) rfl rfl (by simp) (by rw [upI_row, cef_2]; rfl) (fun k' j' h => upI_off I 2 j 4 v h) (fun _ _ _ => rfl) hd kk
theorem fl_X0_28 : Cond.fieldLink RX0 28 "WellTables$Grid" "fits" "Z" ∈ WS := ws_of (i := 149) (by decide +kernel) (by decide +kernel)
theorem pf_X0_28 {a : VA} {cc : ByteArray} {rm : Room} {nL : Nat} (X : VOk a RX0 cc rm nL) {j : Nat} (hj : j < 12) {pc : Nat} {lv : List (Nat × Value)} {st : List Value} {I : TI} {L : TL} {v : Int32} (hz : narrow .boolean (.int v) = .int v) (hd : decode cc pc = .ok (.putfield 28, 3)) (kk : V a (pc + 3) lv st (upI I 2 j 5 v) L) : V a pc lv (.int v :: .ref (eA (vE a) 2 j) :: st) I L := v_putf X (slot := 5) (I' := (upI I 2 j 5 v)) (L' := L) (dl_2 hj) (cef_2 _ _ _ _) rfl inW0 tyX0 tyX0_ok nmX0 (by decide) fl_X0_28 rfl (ty := .boolean) (by decide +kernel) hz (fit_z hz) (by simp) (by rw [upI_row, cef_2]; rfl) (fun k' j' h => upI_off I 2 j 5 v h) (fun _ _ _ => rfl) hd kk
theorem fl_X1_9 : Cond.fieldLink RX1 9 "WellTables$Maker" "kinds" "[I" ∈ WS := ws_of (i := 96) (by decide +kernel) (by decide +kernel)
theorem gf_X1_9 {a : VA} {cc : ByteArray} {rm : Room} {nL : Nat} (X : VOk a RX1 cc rm nL) {pc : Nat} {lv : List (Nat × Value)} {st : List Value} {I : TI} {L : TL} (hd : decode cc pc = .ok (.getfield 9, 3)) (kk : V a (pc + 3) lv (.ref (eA (vE a) 18 0) :: st) I L) : V a pc lv (.ref (eA (vE a) 17 0) :: st) I L := v_getf X (slot := 0) dl_17 (cef_17 _ _ _ _) rfl inW1 (by decide) fl_X1_9 rfl hd kk
theorem fl_X1_15 : Cond.fieldLink RX1 15 "WellTables$Maker" "lines" "[I" ∈ WS := ws_of (i := 98) (by decide +kernel) (by decide +kernel)
theorem gf_X1_15 {a : VA} {cc : ByteArray} {rm : Room} {nL : Nat} (X : VOk a RX1 cc rm nL) {pc : Nat} {lv : List (Nat × Value)} {st : List Value} {I : TI} {L : TL} (hd : decode cc pc = .ok (.getfield 15, 3)) (kk : V a (pc + 3) lv (.ref (eA (vE a) 19 0) :: st) I L) : V a pc lv (.ref (eA (vE a) 17 0) :: st) I L := v_getf X (slot := 1) dl_17 (cef_17 _ _ _ _) rfl inW1 (by decide) fl_X1_15 rfl hd kk
theorem fl_X1_18 : Cond.fieldLink RX1 18 "WellTables$Maker" "uppers" "[J" ∈ WS := ws_of (i := 100) (by decide +kernel) (by decide +kernel)
theorem gf_X1_18 {a : VA} {cc : ByteArray} {rm : Room} {nL : Nat} (X : VOk a RX1 cc rm nL) {pc : Nat} {lv : List (Nat × Value)} {st : List Value} {I : TI} {L : TL} (hd : decode cc pc = .ok (.getfield 18, 3)) (kk : V a (pc + 3) lv (.ref (eA (vE a) 20 0) :: st) I L) : V a pc lv (.ref (eA (vE a) 17 0) :: st) I L := v_getf X (slot := 2) dl_17 (cef_17 _ _ _ _) rfl inW1 (by decide) fl_X1_18 rfl hd kk
theorem fl_X1_22 : Cond.fieldLink RX1 22 "WellTables$Maker" "lowers" "[J" ∈ WS := ws_of (i := 102) (by decide +kernel) (by decide +kernel)
theorem gf_X1_22 {a : VA} {cc : ByteArray} {rm : Room} {nL : Nat} (X : VOk a RX1 cc rm nL) {pc : Nat} {lv : List (Nat × Value)} {st : List Value} {I : TI} {L : TL} (hd : decode cc pc = .ok (.getfield 22, 3)) (kk : V a (pc + 3) lv (.ref (eA (vE a) 21 0) :: st) I L) : V a pc lv (.ref (eA (vE a) 17 0) :: st) I L := v_getf X (slot := 3) dl_17 (cef_17 _ _ _ _) rfl inW1 (by decide) fl_X1_22 rfl hd kk
theorem fl_X1_25 : Cond.fieldLink RX1 25 "WellTables$Maker" "restUppers" "[J" ∈ WS := ws_of (i := 107) (by decide +kernel) (by decide +kernel)
theorem gf_X1_25 {a : VA} {cc : ByteArray} {rm : Room} {nL : Nat} (X : VOk a RX1 cc rm nL) {pc : Nat} {lv : List (Nat × Value)} {st : List Value} {I : TI} {L : TL} (hd : decode cc pc = .ok (.getfield 25, 3)) (kk : V a (pc + 3) lv (.ref (eA (vE a) 22 0) :: st) I L) : V a pc lv (.ref (eA (vE a) 17 0) :: st) I L := v_getf X (slot := 6) dl_17 (cef_17 _ _ _ _) rfl inW1 (by decide) fl_X1_25 rfl hd kk
theorem fl_X1_28 : Cond.fieldLink RX1 28 "WellTables$Maker" "restLowers" "[J" ∈ WS := ws_of (i := 108) (by decide +kernel) (by decide +kernel)
theorem gf_X1_28 {a : VA} {cc : ByteArray} {rm : Room} {nL : Nat} (X : VOk a RX1 cc rm nL) {pc : Nat} {lv : List (Nat × Value)} {st : List Value} {I : TI} {L : TL} (hd : decode cc pc = .ok (.getfield 28, 3)) (kk : V a (pc + 3) lv (.ref (eA (vE a) 23 0) :: st) I L) : V a pc lv (.ref (eA (vE a) 17 0) :: st) I L := v_getf X (slot := 7) dl_17 (cef_17 _ _ _ _) rfl inW1 (by decide) fl_X1_28 rfl hd kk
theorem fl_X1_43 : Cond.fieldLink RX1 43 "WellTables$Maker" "steps" "I" ∈ WS := ws_of (i := 104) (by decide +kernel) (by decide +kernel)
theorem gf_X1_43 {a : VA} {cc : ByteArray} {rm : Room} {nL : Nat} (X : VOk a RX1 cc rm nL) {pc : Nat} {lv : List (Nat × Value)} {st : List Value} {I : TI} {L : TL} (hd : decode cc pc = .ok (.getfield 43, 3)) (kk : V a (pc + 3) lv (.int (I 17 0 4) :: st) I L) : V a pc lv (.ref (eA (vE a) 17 0) :: st) I L := v_getf X (slot := 4) dl_17 (cef_17 _ _ _ _) rfl inW1 (by decide) fl_X1_43 rfl hd kk
theorem pf_X1_43 {a : VA} {cc : ByteArray} {rm : Room} {nL : Nat} (X : VOk a RX1 cc rm nL) {pc : Nat} {lv : List (Nat × Value)} {st : List Value} {I : TI} {L : TL} {v : Int32} (hd : decode cc pc = .ok (.putfield 43, 3)) (kk : V a (pc + 3) lv st (upI I 17 0 4 v) L) : V a pc lv (.int v :: .ref (eA (vE a) 17 0) :: st) I L := v_putf X (slot := 4) (I' := (upI I 17 0 4 v)) (L' := L) dl_17 (cef_17 _ _ _ _) rfl inW1 tyX1 tyX1_ok nmX1 (by decide) fl_X1_43 rfl (ty := .int) (by decide +kernel) rfl rfl (by simp) (by rw [upI_row, cef_17]; rfl) (fun k' j' h => upI_off I 17 0 4 v h) (fun _ _ _ => rfl) hd kk
theorem gf_X1_47 {a : VA} {cc : ByteArray} {rm : Room} {nL : Nat} (X : VOk a RX1 cc rm nL) {j : Nat} (hj : j < 12) {pc : Nat} {lv : List (Nat × Value)} {st : List Value} {I : TI} {L : TL} (hd : decode cc pc = .ok (.getfield 47, 3)) (kk : V a (pc + 3) lv (.int (I 2 j 1) :: st) I L) : V a pc lv (.ref (eA (vE a) 2 j) :: st) I L := v_getfN X (slot := 1) (dl_2 hj) (cef_2 _ _ _ _) rfl inW0 (by decide) (List.mem_of_getElem? (i := 5) rfl) rfl rfl hd kk
theorem fl_X1_58 : Cond.fieldLink RX1 58 "WellTables$Maker" "size" "I" ∈ WS := ws_of (i := 106) (by decide +kernel) (by decide +kernel)
theorem gf_X1_58 {a : VA} {cc : ByteArray} {rm : Room} {nL : Nat} (X : VOk a RX1 cc rm nL) {pc : Nat} {lv : List (Nat × Value)} {st : List Value} {I : TI} {L : TL} (hd : decode cc pc = .ok (.getfield 58, 3)) (kk : V a (pc + 3) lv (.int (I 17 0 5) :: st) I L) : V a pc lv (.ref (eA (vE a) 17 0) :: st) I L := v_getf X (slot := 5) dl_17 (cef_17 _ _ _ _) rfl inW1 (by decide) fl_X1_58 rfl hd kk
theorem pf_X1_58 {a : VA} {cc : ByteArray} {rm : Room} {nL : Nat} (X : VOk a RX1 cc rm nL) {pc : Nat} {lv : List (Nat × Value)} {st : List Value} {I : TI} {L : TL} {v : Int32} (hd : decode cc pc = .ok (.putfield 58, 3)) (kk : V a (pc + 3) lv st (upI I 17 0 5 v) L) : V a pc lv (.int v :: .ref (eA (vE a) 17 0) :: st) I L := v_putf X (slot := 5) (I' := (upI I 17 0 5 v)) (L' := L) dl_17 (cef_17 _ _ _ _) rfl inW1 tyX1 tyX1_ok nmX1 (by decide) fl_X1_58 rfl (ty := .int) (by decide +kernel) rfl rfl (by simp) (by rw [upI_row, cef_17]; rfl) (fun k' j' h => upI_off I 17 0 5 v h) (fun _ _ _ => rfl) hd kk
theorem fl_X1_72 : Cond.fieldLink RX1 72 "WellTables$Maker" "shareUpper" "J" ∈ WS := ws_of (i := 109) (by decide +kernel) (by decide +kernel)
theorem gf_X1_72 {a : VA} {cc : ByteArray} {rm : Room} {nL : Nat} (X : VOk a RX1 cc rm nL) {pc : Nat} {lv : List (Nat × Value)} {st : List Value} {I : TI} {L : TL} (hd : decode cc pc = .ok (.getfield 72, 3)) (kk : V a (pc + 3) lv (.long (L 17 0 8) :: st) I L) : V a pc lv (.ref (eA (vE a) 17 0) :: st) I L := v_getf X (slot := 8) dl_17 (cef_17 _ _ _ _) rfl inW1 (by decide) fl_X1_72 rfl hd kk
theorem pf_X1_72 {a : VA} {cc : ByteArray} {rm : Room} {nL : Nat} (X : VOk a RX1 cc rm nL) {pc : Nat} {lv : List (Nat × Value)} {st : List Value} {I : TI} {L : TL} {v : Int64} (hd : decode cc pc = .ok (.putfield 72, 3)) (kk : V a (pc + 3) lv st I (upL L 17 0 8 v)) : V a pc lv (.long v :: .ref (eA (vE a) 17 0) :: st) I L := v_putf X (slot := 8) (I' := I) (L' := (upL L 17 0 8 v)) dl_17 (cef_17 _ _ _ _) rfl inW1 tyX1 tyX1_ok nmX1 (by decide) fl_X1_72 rfl (ty := .long) (by decide +kernel) rfl rfl (by simp) (by rw [upL_row, cef_17]; rfl) (fun _ _ _ => rfl) (fun k' j' h => upL_off L 17 0 8 v h) hd kk
theorem fl_X1_76 : Cond.fieldLink RX1 76 "WellTables$Maker" "shareLower" "J" ∈ WS := ws_of (i := 110) (by decide +kernel) (by decide +kernel)
theorem gf_X1_76 {a : VA} {cc : ByteArray} {rm : Room} {nL : Nat} (X : VOk a RX1 cc rm nL) {pc : Nat} {lv : List (Nat × Value)} {st : List Value} {I : TI} {L : TL} (hd : decode cc pc = .ok (.getfield 76, 3)) (kk : V a (pc + 3) lv (.long (L 17 0 9) :: st) I L) : V a pc lv (.ref (eA (vE a) 17 0) :: st) I L := v_getf X (slot := 9) dl_17 (cef_17 _ _ _ _) rfl inW1 (by decide) fl_X1_76 rfl hd kk
theorem pf_X1_76 {a : VA} {cc : ByteArray} {rm : Room} {nL : Nat} (X : VOk a RX1 cc rm nL) {pc : Nat} {lv : List (Nat × Value)} {st : List Value} {I : TI} {L : TL} {v : Int64} (hd : decode cc pc = .ok (.putfield 76, 3)) (kk : V a (pc + 3) lv st I (upL L 17 0 9 v)) : V a pc lv (.long v :: .ref (eA (vE a) 17 0) :: st) I L := v_putf X (slot := 9) (I' := I) (L' := (upL L 17 0 9 v)) dl_17 (cef_17 _ _ _ _) rfl inW1 tyX1 tyX1_ok nmX1 (by decide) fl_X1_76 rfl (ty := .long) (by decide +kernel) rfl rfl (by simp) (by rw [upL_row, cef_17]; rfl) (fun _ _ _ => rfl) (fun k' j' h => upL_off L 17 0 9 v h) hd kk
theorem fl_X2_9 : Cond.fieldLink RX2 9 "WellTables$Ways" "ahead" "[J" ∈ WS := ws_of (i := 86) (by decide +kernel) (by decide +kernel)
theorem gf_X2_9 {a : VA} {cc : ByteArray} {rm : Room} {nL : Nat} (X : VOk a RX2 cc rm nL) {pc : Nat} {lv : List (Nat × Value)} {st : List Value} {I : TI} {L : TL} (hd : decode cc pc = .ok (.getfield 9, 3)) (kk : V a (pc + 3) lv (.ref (eA (vE a) 16 0) :: st) I L) : V a pc lv (.ref (eA (vE a) 15 0) :: st) I L := v_getf X (slot := 0) dl_15 (cef_15 _ _ _ _) rfl inW2 (by decide) fl_X2_9 rfl hd kk
theorem gf_X2_15 {a : VA} {cc : ByteArray} {rm : Room} {nL : Nat} (X : VOk a RX2 cc rm nL) {j : Nat} (hj : j < 4) {pc : Nat} {lv : List (Nat × Value)} {st : List Value} {I : TI} {L : TL} (hd : decode cc pc = .ok (.getfield 15, 3)) (kk : V a (pc + 3) lv (.int (I 5 j 4) :: st) I L) : V a pc lv (.ref (eA (vE a) 5 j) :: st) I L := v_getfN X (slot := 4) (dl_5 hj) (cef_5 _ _ _ _) rfl inW3 (by decide) (List.mem_of_getElem? (i := 15) rfl) rfl rfl hd kk
theorem gf_X2_25 {a : VA} {cc : ByteArray} {rm : Room} {nL : Nat} (X : VOk a RX2 cc rm nL) {j : Nat} (hj : j < 4) {pc : Nat} {lv : List (Nat × Value)} {st : List Value} {I : TI} {L : TL} (hd : decode cc pc = .ok (.getfield 25, 3)) (kk : V a (pc + 3) lv (.ref (eA (vE a) 8 j) :: st) I L) : V a pc lv (.ref (eA (vE a) 5 j) :: st) I L := v_getfN X (slot := 2) (dl_5 hj) (cef_5 _ _ _ _) rfl inW3 (by decide) (List.mem_of_getElem? (i := 13) rfl) rfl rfl hd kk
theorem fl_X3_9 : Cond.fieldLink RX3 9 "WellTables$Web" "kinds" "[I" ∈ WS := ws_of (i := 169) (by decide +kernel) (by decide +kernel)
theorem gf_X3_9 {a : VA} {cc : ByteArray} {rm : Room} {nL : Nat} (X : VOk a RX3 cc rm nL) {j : Nat} (hj : j < 4) {pc : Nat} {lv : List (Nat × Value)} {st : List Value} {I : TI} {L : TL} (hd : decode cc pc = .ok (.getfield 9, 3)) (kk : V a (pc + 3) lv (.ref (eA (vE a) 6 j) :: st) I L) : V a pc lv (.ref (eA (vE a) 5 j) :: st) I L := v_getf X (slot := 0) (dl_5 hj) (cef_5 _ _ _ _) rfl inW3 (by decide) fl_X3_9 rfl hd kk
theorem fl_X3_15 : Cond.fieldLink RX3 15 "WellTables$Web" "places" "[I" ∈ WS := ws_of (i := 170) (by decide +kernel) (by decide +kernel)
theorem gf_X3_15 {a : VA} {cc : ByteArray} {rm : Room} {nL : Nat} (X : VOk a RX3 cc rm nL) {j : Nat} (hj : j < 4) {pc : Nat} {lv : List (Nat × Value)} {st : List Value} {I : TI} {L : TL} (hd : decode cc pc = .ok (.getfield 15, 3)) (kk : V a (pc + 3) lv (.ref (eA (vE a) 7 j) :: st) I L) : V a pc lv (.ref (eA (vE a) 5 j) :: st) I L := v_getf X (slot := 1) (dl_5 hj) (cef_5 _ _ _ _) rfl inW3 (by decide) fl_X3_15 rfl hd kk
theorem fl_X3_18 : Cond.fieldLink RX3 18 "WellTables$Web" "weights" "[I" ∈ WS := ws_of (i := 171) (by decide +kernel) (by decide +kernel)
theorem gf_X3_18 {a : VA} {cc : ByteArray} {rm : Room} {nL : Nat} (X : VOk a RX3 cc rm nL) {j : Nat} (hj : j < 4) {pc : Nat} {lv : List (Nat × Value)} {st : List Value} {I : TI} {L : TL} (hd : decode cc pc = .ok (.getfield 18, 3)) (kk : V a (pc + 3) lv (.ref (eA (vE a) 8 j) :: st) I L) : V a pc lv (.ref (eA (vE a) 5 j) :: st) I L := v_getf X (slot := 2) (dl_5 hj) (cef_5 _ _ _ _) rfl inW3 (by decide) fl_X3_18 rfl hd kk
theorem fl_X3_21 : Cond.fieldLink RX3 21 "WellTables$Web" "lines" "I" ∈ WS := ws_of (i := 173) (by decide +kernel) (by decide +kernel)
theorem gf_X3_21 {a : VA} {cc : ByteArray} {rm : Room} {nL : Nat} (X : VOk a RX3 cc rm nL) {j : Nat} (hj : j < 4) {pc : Nat} {lv : List (Nat × Value)} {st : List Value} {I : TI} {L : TL} (hd : decode cc pc = .ok (.getfield 21, 3)) (kk : V a (pc + 3) lv (.int (I 5 j 3) :: st) I L) : V a pc lv (.ref (eA (vE a) 5 j) :: st) I L := v_getf X (slot := 3) (dl_5 hj) (cef_5 _ _ _ _) rfl inW3 (by decide) fl_X3_21 rfl hd kk
theorem pf_X3_21 {a : VA} {cc : ByteArray} {rm : Room} {nL : Nat} (X : VOk a RX3 cc rm nL) {j : Nat} (hj : j < 4) {pc : Nat} {lv : List (Nat × Value)} {st : List Value} {I : TI} {L : TL} {v : Int32} (hd : decode cc pc = .ok (.putfield 21, 3)) (kk : V a (pc + 3) lv st (upI I 5 j 3 v) L) : V a pc lv (.int v :: .ref (eA (vE a) 5 j) :: st) I L := v_putf X (slot := 3) (I' := (upI I 5 j 3 v)) (L' := L) (dl_5 hj) (cef_5 _ _ _ _) rfl inW3 tyX3 tyX3_ok nmX3 (by decide) fl_X3_21 rfl (ty := .int) (by decide +kernel) rfl rfl (by simp) (by rw [upI_row, cef_5]; rfl) (fun k' j' h => upI_off I 5 j 3 v h) (fun _ _ _ => rfl) hd kk
theorem fl_X3_25 : Cond.fieldLink RX3 25 "WellTables$Web" "steps" "I" ∈ WS := ws_of (i := 175) (by decide +kernel) (by decide +kernel)
theorem gf_X3_25 {a : VA} {cc : ByteArray} {rm : Room} {nL : Nat} (X : VOk a RX3 cc rm nL) {j : Nat} (hj : j < 4) {pc : Nat} {lv : List (Nat × Value)} {st : List Value} {I : TI} {L : TL} (hd : decode cc pc = .ok (.getfield 25, 3)) (kk : V a (pc + 3) lv (.int (I 5 j 4) :: st) I L) : V a pc lv (.ref (eA (vE a) 5 j) :: st) I L := v_getf X (slot := 4) (dl_5 hj) (cef_5 _ _ _ _) rfl inW3 (by decide) fl_X3_25 rfl hd kk
theorem pf_X3_25 {a : VA} {cc : ByteArray} {rm : Room} {nL : Nat} (X : VOk a RX3 cc rm nL) {j : Nat} (hj : j < 4) {pc : Nat} {lv : List (Nat × Value)} {st : List Value} {I : TI} {L : TL} {v : Int32} (hd : decode cc pc = .ok (.putfield 25, 3)) (kk : V a (pc + 3) lv st (upI I 5 j 4 v) L) : V a pc lv (.int v :: .ref (eA (vE a) 5 j) :: st) I L := v_putf X (slot := 4) (I' := (upI I 5 j 4 v)) (L' := L) (dl_5 hj) (cef_5 _ _ _ _) rfl inW3 tyX3 tyX3_ok nmX3 (by decide) fl_X3_25 rfl (ty := .int) (by decide +kernel) rfl rfl (by simp) (by rw [upI_row, cef_5]; rfl) (fun k' j' h => upI_off I 5 j 4 v h) (fun _ _ _ => rfl) hd kk
theorem fl_X4_9 : Cond.fieldLink RX4 9 "WellTables$Worths" "found" "[J" ∈ WS := ws_of (i := 71) (by decide +kernel) (by decide +kernel)
theorem gf_X4_9 {a : VA} {cc : ByteArray} {rm : Room} {nL : Nat} (X : VOk a RX4 cc rm nL) {pc : Nat} {lv : List (Nat × Value)} {st : List Value} {I : TI} {L : TL} (hd : decode cc pc = .ok (.getfield 9, 3)) (kk : V a (pc + 3) lv (.ref (eA (vE a) 13 0) :: st) I L) : V a pc lv (.ref (eA (vE a) 12 0) :: st) I L := v_getf X (slot := 0) dl_12 (cef_12 _ _ _ _) rfl inW4 (by decide) fl_X4_9 rfl hd kk
theorem fl_X4_15 : Cond.fieldLink RX4 15 "WellTables$Worths" "chosen" "[I" ∈ WS := ws_of (i := 72) (by decide +kernel) (by decide +kernel)
theorem gf_X4_15 {a : VA} {cc : ByteArray} {rm : Room} {nL : Nat} (X : VOk a RX4 cc rm nL) {pc : Nat} {lv : List (Nat × Value)} {st : List Value} {I : TI} {L : TL} (hd : decode cc pc = .ok (.getfield 15, 3)) (kk : V a (pc + 3) lv (.ref (eA (vE a) 14 0) :: st) I L) : V a pc lv (.ref (eA (vE a) 12 0) :: st) I L := v_getf X (slot := 1) dl_12 (cef_12 _ _ _ _) rfl inW4 (by decide) fl_X4_15 rfl hd kk
theorem gf_X4_23 {a : VA} {cc : ByteArray} {rm : Room} {nL : Nat} (X : VOk a RX4 cc rm nL) {j : Nat} (hj : j < 12) {pc : Nat} {lv : List (Nat × Value)} {st : List Value} {I : TI} {L : TL} (hd : decode cc pc = .ok (.getfield 23, 3)) (kk : V a (pc + 3) lv (.int (I 2 j 1) :: st) I L) : V a pc lv (.ref (eA (vE a) 2 j) :: st) I L := v_getfN X (slot := 1) (dl_2 hj) (cef_2 _ _ _ _) rfl inW0 (by decide) (List.mem_of_getElem? (i := 6) rfl) rfl rfl hd kk
theorem gf_X4_29 {a : VA} {cc : ByteArray} {rm : Room} {nL : Nat} (X : VOk a RX4 cc rm nL) {j : Nat} (hj : j < 12) {pc : Nat} {lv : List (Nat × Value)} {st : List Value} {I : TI} {L : TL} (hd : decode cc pc = .ok (.getfield 29, 3)) (kk : V a (pc + 3) lv (.int (I 2 j 2) :: st) I L) : V a pc lv (.ref (eA (vE a) 2 j) :: st) I L := v_getfN X (slot := 2) (dl_2 hj) (cef_2 _ _ _ _) rfl inW0 (by decide) (List.mem_of_getElem? (i := 8) rfl) rfl rfl hd kk
theorem fl_X6_7 : Cond.fieldLink RX6 7 "WellTablesModel" "cells" "[I" ∈ WS := ws_of (i := 578) (by decide +kernel) (by decide +kernel)
theorem gf_X6_7 {a : VA} {cc : ByteArray} {rm : Room} {nL : Nat} (X : VOk a RX6 cc rm nL) {pc : Nat} {lv : List (Nat × Value)} {st : List Value} {I : TI} {L : TL} (hd : decode cc pc = .ok (.getfield 7, 3)) (kk : V a (pc + 3) lv (.ref (eA (vE a) 31 0) :: st) I L) : V a pc lv (.ref (eA (vE a) 30 0) :: st) I L := v_getf X (slot := 0) dl_30 (cef_30 _ _ _ _) rfl inW6 (by decide) fl_X6_7 rfl hd kk
theorem fl_X6_13 : Cond.fieldLink RX6 13 "WellTablesModel" "rows" "[I" ∈ WS := ws_of (i := 579) (by decide +kernel) (by decide +kernel)
theorem gf_X6_13 {a : VA} {cc : ByteArray} {rm : Room} {nL : Nat} (X : VOk a RX6 cc rm nL) {pc : Nat} {lv : List (Nat × Value)} {st : List Value} {I : TI} {L : TL} (hd : decode cc pc = .ok (.getfield 13, 3)) (kk : V a (pc + 3) lv (.ref (eA (vE a) 32 0) :: st) I L) : V a pc lv (.ref (eA (vE a) 30 0) :: st) I L := v_getf X (slot := 1) dl_30 (cef_30 _ _ _ _) rfl inW6 (by decide) fl_X6_13 rfl hd kk
theorem fl_X6_16 : Cond.fieldLink RX6 16 "WellTablesModel" "columns" "[I" ∈ WS := ws_of (i := 580) (by decide +kernel) (by decide +kernel)
theorem gf_X6_16 {a : VA} {cc : ByteArray} {rm : Room} {nL : Nat} (X : VOk a RX6 cc rm nL) {pc : Nat} {lv : List (Nat × Value)} {st : List Value} {I : TI} {L : TL} (hd : decode cc pc = .ok (.getfield 16, 3)) (kk : V a (pc + 3) lv (.ref (eA (vE a) 33 0) :: st) I L) : V a pc lv (.ref (eA (vE a) 30 0) :: st) I L := v_getf X (slot := 2) dl_30 (cef_30 _ _ _ _) rfl inW6 (by decide) fl_X6_16 rfl hd kk
theorem fl_X6_19 : Cond.fieldLink RX6 19 "WellTablesModel" "kind" "[I" ∈ WS := ws_of (i := 581) (by decide +kernel) (by decide +kernel)
theorem gf_X6_19 {a : VA} {cc : ByteArray} {rm : Room} {nL : Nat} (X : VOk a RX6 cc rm nL) {pc : Nat} {lv : List (Nat × Value)} {st : List Value} {I : TI} {L : TL} (hd : decode cc pc = .ok (.getfield 19, 3)) (kk : V a (pc + 3) lv (.ref (eA (vE a) 34 0) :: st) I L) : V a pc lv (.ref (eA (vE a) 30 0) :: st) I L := v_getf X (slot := 3) dl_30 (cef_30 _ _ _ _) rfl inW6 (by decide) fl_X6_19 rfl hd kk
theorem fl_X6_22 : Cond.fieldLink RX6 22 "WellTablesModel" "netOf" "[I" ∈ WS := ws_of (i := 582) (by decide +kernel) (by decide +kernel)
theorem gf_X6_22 {a : VA} {cc : ByteArray} {rm : Room} {nL : Nat} (X : VOk a RX6 cc rm nL) {pc : Nat} {lv : List (Nat × Value)} {st : List Value} {I : TI} {L : TL} (hd : decode cc pc = .ok (.getfield 22, 3)) (kk : V a (pc + 3) lv (.ref (eA (vE a) 35 0) :: st) I L) : V a pc lv (.ref (eA (vE a) 30 0) :: st) I L := v_getf X (slot := 4) dl_30 (cef_30 _ _ _ _) rfl inW6 (by decide) fl_X6_22 rfl hd kk
theorem fl_X6_25 : Cond.fieldLink RX6 25 "WellTablesModel" "lines" "[I" ∈ WS := ws_of (i := 584) (by decide +kernel) (by decide +kernel)
theorem gf_X6_25 {a : VA} {cc : ByteArray} {rm : Room} {nL : Nat} (X : VOk a RX6 cc rm nL) {pc : Nat} {lv : List (Nat × Value)} {st : List Value} {I : TI} {L : TL} (hd : decode cc pc = .ok (.getfield 25, 3)) (kk : V a (pc + 3) lv (.ref (eA (vE a) 36 0) :: st) I L) : V a pc lv (.ref (eA (vE a) 30 0) :: st) I L := v_getf X (slot := 6) dl_30 (cef_30 _ _ _ _) rfl inW6 (by decide) fl_X6_25 rfl hd kk
theorem fl_X6_28 : Cond.fieldLink RX6 28 "WellTablesModel" "stepCount" "[I" ∈ WS := ws_of (i := 585) (by decide +kernel) (by decide +kernel)
theorem gf_X6_28 {a : VA} {cc : ByteArray} {rm : Room} {nL : Nat} (X : VOk a RX6 cc rm nL) {pc : Nat} {lv : List (Nat × Value)} {st : List Value} {I : TI} {L : TL} (hd : decode cc pc = .ok (.getfield 28, 3)) (kk : V a (pc + 3) lv (.ref (eA (vE a) 37 0) :: st) I L) : V a pc lv (.ref (eA (vE a) 30 0) :: st) I L := v_getf X (slot := 7) dl_30 (cef_30 _ _ _ _) rfl inW6 (by decide) fl_X6_28 rfl hd kk
theorem fl_X6_31 : Cond.fieldLink RX6 31 "WellTablesModel" "sKind" "[I" ∈ WS := ws_of (i := 586) (by decide +kernel) (by decide +kernel)
theorem gf_X6_31 {a : VA} {cc : ByteArray} {rm : Room} {nL : Nat} (X : VOk a RX6 cc rm nL) {pc : Nat} {lv : List (Nat × Value)} {st : List Value} {I : TI} {L : TL} (hd : decode cc pc = .ok (.getfield 31, 3)) (kk : V a (pc + 3) lv (.ref (eA (vE a) 38 0) :: st) I L) : V a pc lv (.ref (eA (vE a) 30 0) :: st) I L := v_getf X (slot := 8) dl_30 (cef_30 _ _ _ _) rfl inW6 (by decide) fl_X6_31 rfl hd kk
theorem fl_X6_34 : Cond.fieldLink RX6 34 "WellTablesModel" "sLine" "[I" ∈ WS := ws_of (i := 587) (by decide +kernel) (by decide +kernel)
theorem gf_X6_34 {a : VA} {cc : ByteArray} {rm : Room} {nL : Nat} (X : VOk a RX6 cc rm nL) {pc : Nat} {lv : List (Nat × Value)} {st : List Value} {I : TI} {L : TL} (hd : decode cc pc = .ok (.getfield 34, 3)) (kk : V a (pc + 3) lv (.ref (eA (vE a) 39 0) :: st) I L) : V a pc lv (.ref (eA (vE a) 30 0) :: st) I L := v_getf X (slot := 9) dl_30 (cef_30 _ _ _ _) rfl inW6 (by decide) fl_X6_34 rfl hd kk
theorem fl_X6_37 : Cond.fieldLink RX6 37 "WellTablesModel" "sWeight" "[I" ∈ WS := ws_of (i := 588) (by decide +kernel) (by decide +kernel)
theorem gf_X6_37 {a : VA} {cc : ByteArray} {rm : Room} {nL : Nat} (X : VOk a RX6 cc rm nL) {pc : Nat} {lv : List (Nat × Value)} {st : List Value} {I : TI} {L : TL} (hd : decode cc pc = .ok (.getfield 37, 3)) (kk : V a (pc + 3) lv (.ref (eA (vE a) 40 0) :: st) I L) : V a pc lv (.ref (eA (vE a) 30 0) :: st) I L := v_getf X (slot := 10) dl_30 (cef_30 _ _ _ _) rfl inW6 (by decide) fl_X6_37 rfl hd kk
theorem fl_X6_40 : Cond.fieldLink RX6 40 "WellTablesModel" "refused" "[I" ∈ WS := ws_of (i := 590) (by decide +kernel) (by decide +kernel)
theorem gf_X6_40 {a : VA} {cc : ByteArray} {rm : Room} {nL : Nat} (X : VOk a RX6 cc rm nL) {pc : Nat} {lv : List (Nat × Value)} {st : List Value} {I : TI} {L : TL} (hd : decode cc pc = .ok (.getfield 40, 3)) (kk : V a (pc + 3) lv (.ref (eA (vE a) 41 0) :: st) I L) : V a pc lv (.ref (eA (vE a) 30 0) :: st) I L := v_getf X (slot := 12) dl_30 (cef_30 _ _ _ _) rfl inW6 (by decide) fl_X6_40 rfl hd kk
theorem fl_X6_43 : Cond.fieldLink RX6 43 "WellTablesModel" "used" "[J" ∈ WS := ws_of (i := 591) (by decide +kernel) (by decide +kernel)
theorem gf_X6_43 {a : VA} {cc : ByteArray} {rm : Room} {nL : Nat} (X : VOk a RX6 cc rm nL) {pc : Nat} {lv : List (Nat × Value)} {st : List Value} {I : TI} {L : TL} (hd : decode cc pc = .ok (.getfield 43, 3)) (kk : V a (pc + 3) lv (.ref (eA (vE a) 42 0) :: st) I L) : V a pc lv (.ref (eA (vE a) 30 0) :: st) I L := v_getf X (slot := 13) dl_30 (cef_30 _ _ _ _) rfl inW6 (by decide) fl_X6_43 rfl hd kk
theorem fl_X6_47 : Cond.fieldLink RX6 47 "WellTablesModel" "next" "[J" ∈ WS := ws_of (i := 597) (by decide +kernel) (by decide +kernel)
theorem gf_X6_47 {a : VA} {cc : ByteArray} {rm : Room} {nL : Nat} (X : VOk a RX6 cc rm nL) {pc : Nat} {lv : List (Nat × Value)} {st : List Value} {I : TI} {L : TL} (hd : decode cc pc = .ok (.getfield 47, 3)) (kk : V a (pc + 3) lv (.ref (eA (vE a) 43 0) :: st) I L) : V a pc lv (.ref (eA (vE a) 30 0) :: st) I L := v_getf X (slot := 19) dl_30 (cef_30 _ _ _ _) rfl inW6 (by decide) fl_X6_47 rfl hd kk
theorem fl_X6_50 : Cond.fieldLink RX6 50 "WellTablesModel" "waysOn" "[I" ∈ WS := ws_of (i := 598) (by decide +kernel) (by decide +kernel)
theorem gf_X6_50 {a : VA} {cc : ByteArray} {rm : Room} {nL : Nat} (X : VOk a RX6 cc rm nL) {pc : Nat} {lv : List (Nat × Value)} {st : List Value} {I : TI} {L : TL} (hd : decode cc pc = .ok (.getfield 50, 3)) (kk : V a (pc + 3) lv (.ref (eA (vE a) 44 0) :: st) I L) : V a pc lv (.ref (eA (vE a) 30 0) :: st) I L := v_getf X (slot := 20) dl_30 (cef_30 _ _ _ _) rfl inW6 (by decide) fl_X6_50 rfl hd kk
theorem fl_X6_53 : Cond.fieldLink RX6 53 "WellTablesModel" "weightOn" "[J" ∈ WS := ws_of (i := 599) (by decide +kernel) (by decide +kernel)
theorem gf_X6_53 {a : VA} {cc : ByteArray} {rm : Room} {nL : Nat} (X : VOk a RX6 cc rm nL) {pc : Nat} {lv : List (Nat × Value)} {st : List Value} {I : TI} {L : TL} (hd : decode cc pc = .ok (.getfield 53, 3)) (kk : V a (pc + 3) lv (.ref (eA (vE a) 45 0) :: st) I L) : V a pc lv (.ref (eA (vE a) 30 0) :: st) I L := v_getf X (slot := 21) dl_30 (cef_30 _ _ _ _) rfl inW6 (by decide) fl_X6_53 rfl hd kk
theorem fl_X6_56 : Cond.fieldLink RX6 56 "WellTablesModel" "row" "[I" ∈ WS := ws_of (i := 600) (by decide +kernel) (by decide +kernel)
theorem gf_X6_56 {a : VA} {cc : ByteArray} {rm : Room} {nL : Nat} (X : VOk a RX6 cc rm nL) {pc : Nat} {lv : List (Nat × Value)} {st : List Value} {I : TI} {L : TL} (hd : decode cc pc = .ok (.getfield 56, 3)) (kk : V a (pc + 3) lv (.ref (eA (vE a) 46 0) :: st) I L) : V a pc lv (.ref (eA (vE a) 30 0) :: st) I L := v_getf X (slot := 22) dl_30 (cef_30 _ _ _ _) rfl inW6 (by decide) fl_X6_56 rfl hd kk
theorem fl_X6_59 : Cond.fieldLink RX6 59 "WellTablesModel" "moved" "[I" ∈ WS := ws_of (i := 601) (by decide +kernel) (by decide +kernel)
theorem gf_X6_59 {a : VA} {cc : ByteArray} {rm : Room} {nL : Nat} (X : VOk a RX6 cc rm nL) {pc : Nat} {lv : List (Nat × Value)} {st : List Value} {I : TI} {L : TL} (hd : decode cc pc = .ok (.getfield 59, 3)) (kk : V a (pc + 3) lv (.ref (eA (vE a) 47 0) :: st) I L) : V a pc lv (.ref (eA (vE a) 30 0) :: st) I L := v_getf X (slot := 23) dl_30 (cef_30 _ _ _ _) rfl inW6 (by decide) fl_X6_59 rfl hd kk
theorem fl_X6_62 : Cond.fieldLink RX6 62 "WellTablesModel" "up" "[J" ∈ WS := ws_of (i := 605) (by decide +kernel) (by decide +kernel)
theorem gf_X6_62 {a : VA} {cc : ByteArray} {rm : Room} {nL : Nat} (X : VOk a RX6 cc rm nL) {pc : Nat} {lv : List (Nat × Value)} {st : List Value} {I : TI} {L : TL} (hd : decode cc pc = .ok (.getfield 62, 3)) (kk : V a (pc + 3) lv (.ref (eA (vE a) 48 0) :: st) I L) : V a pc lv (.ref (eA (vE a) 30 0) :: st) I L := v_getf X (slot := 27) dl_30 (cef_30 _ _ _ _) rfl inW6 (by decide) fl_X6_62 rfl hd kk
theorem fl_X6_65 : Cond.fieldLink RX6 65 "WellTablesModel" "down" "[J" ∈ WS := ws_of (i := 606) (by decide +kernel) (by decide +kernel)
theorem gf_X6_65 {a : VA} {cc : ByteArray} {rm : Room} {nL : Nat} (X : VOk a RX6 cc rm nL) {pc : Nat} {lv : List (Nat × Value)} {st : List Value} {I : TI} {L : TL} (hd : decode cc pc = .ok (.getfield 65, 3)) (kk : V a (pc + 3) lv (.ref (eA (vE a) 49 0) :: st) I L) : V a pc lv (.ref (eA (vE a) 30 0) :: st) I L := v_getf X (slot := 28) dl_30 (cef_30 _ _ _ _) rfl inW6 (by decide) fl_X6_65 rfl hd kk
theorem fl_X6_68 : Cond.fieldLink RX6 68 "WellTablesModel" "shareUp" "[J" ∈ WS := ws_of (i := 607) (by decide +kernel) (by decide +kernel)
theorem gf_X6_68 {a : VA} {cc : ByteArray} {rm : Room} {nL : Nat} (X : VOk a RX6 cc rm nL) {pc : Nat} {lv : List (Nat × Value)} {st : List Value} {I : TI} {L : TL} (hd : decode cc pc = .ok (.getfield 68, 3)) (kk : V a (pc + 3) lv (.ref (eA (vE a) 50 0) :: st) I L) : V a pc lv (.ref (eA (vE a) 30 0) :: st) I L := v_getf X (slot := 29) dl_30 (cef_30 _ _ _ _) rfl inW6 (by decide) fl_X6_68 rfl hd kk
theorem fl_X6_71 : Cond.fieldLink RX6 71 "WellTablesModel" "shareDown" "[J" ∈ WS := ws_of (i := 608) (by decide +kernel) (by decide +kernel)
theorem gf_X6_71 {a : VA} {cc : ByteArray} {rm : Room} {nL : Nat} (X : VOk a RX6 cc rm nL) {pc : Nat} {lv : List (Nat × Value)} {st : List Value} {I : TI} {L : TL} (hd : decode cc pc = .ok (.getfield 71, 3)) (kk : V a (pc + 3) lv (.ref (eA (vE a) 51 0) :: st) I L) : V a pc lv (.ref (eA (vE a) 30 0) :: st) I L := v_getf X (slot := 30) dl_30 (cef_30 _ _ _ _) rfl inW6 (by decide) fl_X6_71 rfl hd kk
theorem fl_X6_74 : Cond.fieldLink RX6 74 "WellTablesModel" "shareKind" "[I" ∈ WS := ws_of (i := 609) (by decide +kernel) (by decide +kernel)
theorem gf_X6_74 {a : VA} {cc : ByteArray} {rm : Room} {nL : Nat} (X : VOk a RX6 cc rm nL) {pc : Nat} {lv : List (Nat × Value)} {st : List Value} {I : TI} {L : TL} (hd : decode cc pc = .ok (.getfield 74, 3)) (kk : V a (pc + 3) lv (.ref (eA (vE a) 52 0) :: st) I L) : V a pc lv (.ref (eA (vE a) 30 0) :: st) I L := v_getf X (slot := 31) dl_30 (cef_30 _ _ _ _) rfl inW6 (by decide) fl_X6_74 rfl hd kk
theorem fl_X6_77 : Cond.fieldLink RX6 77 "WellTablesModel" "shareLine" "[I" ∈ WS := ws_of (i := 610) (by decide +kernel) (by decide +kernel)
theorem gf_X6_77 {a : VA} {cc : ByteArray} {rm : Room} {nL : Nat} (X : VOk a RX6 cc rm nL) {pc : Nat} {lv : List (Nat × Value)} {st : List Value} {I : TI} {L : TL} (hd : decode cc pc = .ok (.getfield 77, 3)) (kk : V a (pc + 3) lv (.ref (eA (vE a) 53 0) :: st) I L) : V a pc lv (.ref (eA (vE a) 30 0) :: st) I L := v_getf X (slot := 32) dl_30 (cef_30 _ _ _ _) rfl inW6 (by decide) fl_X6_77 rfl hd kk
theorem fl_X6_84 : Cond.fieldLink RX6 84 "WellTablesModel" "many" "I" ∈ WS := ws_of (i := 583) (by decide +kernel) (by decide +kernel)
theorem gf_X6_84 {a : VA} {cc : ByteArray} {rm : Room} {nL : Nat} (X : VOk a RX6 cc rm nL) {pc : Nat} {lv : List (Nat × Value)} {st : List Value} {I : TI} {L : TL} (hd : decode cc pc = .ok (.getfield 84, 3)) (kk : V a (pc + 3) lv (.int (I 30 0 5) :: st) I L) : V a pc lv (.ref (eA (vE a) 30 0) :: st) I L := v_getf X (slot := 5) dl_30 (cef_30 _ _ _ _) rfl inW6 (by decide) fl_X6_84 rfl hd kk
theorem pf_X6_84 {a : VA} {cc : ByteArray} {rm : Room} {nL : Nat} (X : VOk a RX6 cc rm nL) {pc : Nat} {lv : List (Nat × Value)} {st : List Value} {I : TI} {L : TL} {v : Int32} (hd : decode cc pc = .ok (.putfield 84, 3)) (kk : V a (pc + 3) lv st (upI I 30 0 5 v) L) : V a pc lv (.int v :: .ref (eA (vE a) 30 0) :: st) I L := v_putf X (slot := 5) (I' := (upI I 30 0 5 v)) (L' := L) dl_30 (cef_30 _ _ _ _) rfl inW6 tyX6 tyX6_ok nmX6 (by decide) fl_X6_84 rfl (ty := .int) (by decide +kernel) rfl rfl (by simp) (by rw [upI_row, cef_30]; rfl) (fun k' j' h => upI_off I 30 0 5 v h) (fun _ _ _ => rfl) hd kk
theorem fl_X6_127 : Cond.fieldLink RX6 127 "WellTablesModel" "below" "I" ∈ WS := ws_of (i := 592) (by decide +kernel) (by decide +kernel)
theorem gf_X6_127 {a : VA} {cc : ByteArray} {rm : Room} {nL : Nat} (X : VOk a RX6 cc rm nL) {pc : Nat} {lv : List (Nat × Value)} {st : List Value} {I : TI} {L : TL} (hd : decode cc pc = .ok (.getfield 127, 3)) (kk : V a (pc + 3) lv (.int (I 30 0 14) :: st) I L) : V a pc lv (.ref (eA (vE a) 30 0) :: st) I L := v_getf X (slot := 14) dl_30 (cef_30 _ _ _ _) rfl inW6 (by decide) fl_X6_127 rfl hd kk
theorem pf_X6_127 {a : VA} {cc : ByteArray} {rm : Room} {nL : Nat} (X : VOk a RX6 cc rm nL) {pc : Nat} {lv : List (Nat × Value)} {st : List Value} {I : TI} {L : TL} {v : Int32} (hd : decode cc pc = .ok (.putfield 127, 3)) (kk : V a (pc + 3) lv st (upI I 30 0 14 v) L) : V a pc lv (.int v :: .ref (eA (vE a) 30 0) :: st) I L := v_putf X (slot := 14) (I' := (upI I 30 0 14 v)) (L' := L) dl_30 (cef_30 _ _ _ _) rfl inW6 tyX6 tyX6_ok nmX6 (by decide) fl_X6_127 rfl (ty := .int) (by decide +kernel) rfl rfl (by simp) (by rw [upI_row, cef_30]; rfl) (fun k' j' h => upI_off I 30 0 14 v h) (fun _ _ _ => rfl) hd kk
theorem fl_X6_130 : Cond.fieldLink RX6 130 "WellTablesModel" "noughts" "I" ∈ WS := ws_of (i := 593) (by decide +kernel) (by decide +kernel)
theorem gf_X6_130 {a : VA} {cc : ByteArray} {rm : Room} {nL : Nat} (X : VOk a RX6 cc rm nL) {pc : Nat} {lv : List (Nat × Value)} {st : List Value} {I : TI} {L : TL} (hd : decode cc pc = .ok (.getfield 130, 3)) (kk : V a (pc + 3) lv (.int (I 30 0 15) :: st) I L) : V a pc lv (.ref (eA (vE a) 30 0) :: st) I L := v_getf X (slot := 15) dl_30 (cef_30 _ _ _ _) rfl inW6 (by decide) fl_X6_130 rfl hd kk
theorem pf_X6_130 {a : VA} {cc : ByteArray} {rm : Room} {nL : Nat} (X : VOk a RX6 cc rm nL) {pc : Nat} {lv : List (Nat × Value)} {st : List Value} {I : TI} {L : TL} {v : Int32} (hd : decode cc pc = .ok (.putfield 130, 3)) (kk : V a (pc + 3) lv st (upI I 30 0 15 v) L) : V a pc lv (.int v :: .ref (eA (vE a) 30 0) :: st) I L := v_putf X (slot := 15) (I' := (upI I 30 0 15 v)) (L' := L) dl_30 (cef_30 _ _ _ _) rfl inW6 tyX6 tyX6_ok nmX6 (by decide) fl_X6_130 rfl (ty := .int) (by decide +kernel) rfl rfl (by simp) (by rw [upI_row, cef_30]; rfl) (fun k' j' h => upI_off I 30 0 15 v h) (fun _ _ _ => rfl) hd kk
theorem fl_X6_133 : Cond.fieldLink RX6 133 "WellTablesModel" "above" "I" ∈ WS := ws_of (i := 594) (by decide +kernel) (by decide +kernel)
theorem gf_X6_133 {a : VA} {cc : ByteArray} {rm : Room} {nL : Nat} (X : VOk a RX6 cc rm nL) {pc : Nat} {lv : List (Nat × Value)} {st : List Value} {I : TI} {L : TL} (hd : decode cc pc = .ok (.getfield 133, 3)) (kk : V a (pc + 3) lv (.int (I 30 0 16) :: st) I L) : V a pc lv (.ref (eA (vE a) 30 0) :: st) I L := v_getf X (slot := 16) dl_30 (cef_30 _ _ _ _) rfl inW6 (by decide) fl_X6_133 rfl hd kk
theorem pf_X6_133 {a : VA} {cc : ByteArray} {rm : Room} {nL : Nat} (X : VOk a RX6 cc rm nL) {pc : Nat} {lv : List (Nat × Value)} {st : List Value} {I : TI} {L : TL} {v : Int32} (hd : decode cc pc = .ok (.putfield 133, 3)) (kk : V a (pc + 3) lv st (upI I 30 0 16 v) L) : V a pc lv (.int v :: .ref (eA (vE a) 30 0) :: st) I L := v_putf X (slot := 16) (I' := (upI I 30 0 16 v)) (L' := L) dl_30 (cef_30 _ _ _ _) rfl inW6 tyX6 tyX6_ok nmX6 (by decide) fl_X6_133 rfl (ty := .int) (by decide +kernel) rfl rfl (by simp) (by rw [upI_row, cef_30]; rfl) (fun k' j' h => upI_off I 30 0 16 v h) (fun _ _ _ => rfl) hd kk
theorem fl_X6_136 : Cond.fieldLink RX6 136 "WellTablesModel" "firstBelow" "I" ∈ WS := ws_of (i := 595) (by decide +kernel) (by decide +kernel)
theorem gf_X6_136 {a : VA} {cc : ByteArray} {rm : Room} {nL : Nat} (X : VOk a RX6 cc rm nL) {pc : Nat} {lv : List (Nat × Value)} {st : List Value} {I : TI} {L : TL} (hd : decode cc pc = .ok (.getfield 136, 3)) (kk : V a (pc + 3) lv (.int (I 30 0 17) :: st) I L) : V a pc lv (.ref (eA (vE a) 30 0) :: st) I L := v_getf X (slot := 17) dl_30 (cef_30 _ _ _ _) rfl inW6 (by decide) fl_X6_136 rfl hd kk
theorem pf_X6_136 {a : VA} {cc : ByteArray} {rm : Room} {nL : Nat} (X : VOk a RX6 cc rm nL) {pc : Nat} {lv : List (Nat × Value)} {st : List Value} {I : TI} {L : TL} {v : Int32} (hd : decode cc pc = .ok (.putfield 136, 3)) (kk : V a (pc + 3) lv st (upI I 30 0 17 v) L) : V a pc lv (.int v :: .ref (eA (vE a) 30 0) :: st) I L := v_putf X (slot := 17) (I' := (upI I 30 0 17 v)) (L' := L) dl_30 (cef_30 _ _ _ _) rfl inW6 tyX6 tyX6_ok nmX6 (by decide) fl_X6_136 rfl (ty := .int) (by decide +kernel) rfl rfl (by simp) (by rw [upI_row, cef_30]; rfl) (fun k' j' h => upI_off I 30 0 17 v h) (fun _ _ _ => rfl) hd kk
theorem fl_X6_139 : Cond.fieldLink RX6 139 "WellTablesModel" "firstNot" "I" ∈ WS := ws_of (i := 596) (by decide +kernel) (by decide +kernel)
theorem gf_X6_139 {a : VA} {cc : ByteArray} {rm : Room} {nL : Nat} (X : VOk a RX6 cc rm nL) {pc : Nat} {lv : List (Nat × Value)} {st : List Value} {I : TI} {L : TL} (hd : decode cc pc = .ok (.getfield 139, 3)) (kk : V a (pc + 3) lv (.int (I 30 0 18) :: st) I L) : V a pc lv (.ref (eA (vE a) 30 0) :: st) I L := v_getf X (slot := 18) dl_30 (cef_30 _ _ _ _) rfl inW6 (by decide) fl_X6_139 rfl hd kk
theorem pf_X6_139 {a : VA} {cc : ByteArray} {rm : Room} {nL : Nat} (X : VOk a RX6 cc rm nL) {pc : Nat} {lv : List (Nat × Value)} {st : List Value} {I : TI} {L : TL} {v : Int32} (hd : decode cc pc = .ok (.putfield 139, 3)) (kk : V a (pc + 3) lv st (upI I 30 0 18 v) L) : V a pc lv (.int v :: .ref (eA (vE a) 30 0) :: st) I L := v_putf X (slot := 18) (I' := (upI I 30 0 18 v)) (L' := L) dl_30 (cef_30 _ _ _ _) rfl inW6 tyX6 tyX6_ok nmX6 (by decide) fl_X6_139 rfl (ty := .int) (by decide +kernel) rfl rfl (by simp) (by rw [upI_row, cef_30]; rfl) (fun k' j' h => upI_off I 30 0 18 v h) (fun _ _ _ => rfl) hd kk
theorem fl_X6_168 : Cond.fieldLink RX6 168 "WellTablesModel" "nets" "I" ∈ WS := ws_of (i := 589) (by decide +kernel) (by decide +kernel)
theorem gf_X6_168 {a : VA} {cc : ByteArray} {rm : Room} {nL : Nat} (X : VOk a RX6 cc rm nL) {pc : Nat} {lv : List (Nat × Value)} {st : List Value} {I : TI} {L : TL} (hd : decode cc pc = .ok (.getfield 168, 3)) (kk : V a (pc + 3) lv (.int (I 30 0 11) :: st) I L) : V a pc lv (.ref (eA (vE a) 30 0) :: st) I L := v_getf X (slot := 11) dl_30 (cef_30 _ _ _ _) rfl inW6 (by decide) fl_X6_168 rfl hd kk
theorem pf_X6_168 {a : VA} {cc : ByteArray} {rm : Room} {nL : Nat} (X : VOk a RX6 cc rm nL) {pc : Nat} {lv : List (Nat × Value)} {st : List Value} {I : TI} {L : TL} {v : Int32} (hd : decode cc pc = .ok (.putfield 168, 3)) (kk : V a (pc + 3) lv st (upI I 30 0 11 v) L) : V a pc lv (.int v :: .ref (eA (vE a) 30 0) :: st) I L := v_putf X (slot := 11) (I' := (upI I 30 0 11 v)) (L' := L) dl_30 (cef_30 _ _ _ _) rfl inW6 tyX6 tyX6_ok nmX6 (by decide) fl_X6_168 rfl (ty := .int) (by decide +kernel) rfl rfl (by simp) (by rw [upI_row, cef_30]; rfl) (fun k' j' h => upI_off I 30 0 11 v h) (fun _ _ _ => rfl) hd kk
theorem fl_X6_187 : Cond.fieldLink RX6 187 "WellTablesModel" "hasRow" "Z" ∈ WS := ws_of (i := 602) (by decide +kernel) (by decide +kernel)
theorem gf_X6_187 {a : VA} {cc : ByteArray} {rm : Room} {nL : Nat} (X : VOk a RX6 cc rm nL) {pc : Nat} {lv : List (Nat × Value)} {st : List Value} {I : TI} {L : TL} (hd : decode cc pc = .ok (.getfield 187, 3)) (kk : V a (pc + 3) lv (.int (I 30 0 24) :: st) I L) : V a pc lv (.ref (eA (vE a) 30 0) :: st) I L := v_getf X (slot := 24) dl_30 (cef_30 _ _ _ _) rfl inW6 (by decide) fl_X6_187 rfl hd kk
theorem pf_X6_187 {a : VA} {cc : ByteArray} {rm : Room} {nL : Nat} (X : VOk a RX6 cc rm nL) {pc : Nat} {lv : List (Nat × Value)} {st : List Value} {I : TI} {L : TL} {v : Int32} (hz : narrow .boolean (.int v) = .int v) (hd : decode cc pc = .ok (.putfield 187, 3)) (kk : V a (pc + 3) lv st (upI I 30 0 24 v) L) : V a pc lv (.int v :: .ref (eA (vE a) 30 0) :: st) I L := v_putf X (slot := 24) (I' := (upI I 30 0 24 v)) (L' := L) dl_30 (cef_30 _ _ _ _) rfl inW6 tyX6 tyX6_ok nmX6 (by decide) fl_X6_187 rfl (ty := .boolean) (by decide +kernel) hz (fit_z hz) (by simp) (by rw [upI_row, cef_30]; rfl) (fun k' j' h => upI_off I 30 0 24 v h) (fun _ _ _ => rfl) hd kk
theorem fl_X6_196 : Cond.fieldLink RX6 196 "WellTablesModel" "lastSign" "I" ∈ WS := ws_of (i := 604) (by decide +kernel) (by decide +kernel)
theorem gf_X6_196 {a : VA} {cc : ByteArray} {rm : Room} {nL : Nat} (X : VOk a RX6 cc rm nL) {pc : Nat} {lv : List (Nat × Value)} {st : List Value} {I : TI} {L : TL} (hd : decode cc pc = .ok (.getfield 196, 3)) (kk : V a (pc + 3) lv (.int (I 30 0 26) :: st) I L) : V a pc lv (.ref (eA (vE a) 30 0) :: st) I L := v_getf X (slot := 26) dl_30 (cef_30 _ _ _ _) rfl inW6 (by decide) fl_X6_196 rfl hd kk
theorem pf_X6_196 {a : VA} {cc : ByteArray} {rm : Room} {nL : Nat} (X : VOk a RX6 cc rm nL) {pc : Nat} {lv : List (Nat × Value)} {st : List Value} {I : TI} {L : TL} {v : Int32} (hd : decode cc pc = .ok (.putfield 196, 3)) (kk : V a (pc + 3) lv st (upI I 30 0 26 v) L) : V a pc lv (.int v :: .ref (eA (vE a) 30 0) :: st) I L := v_putf X (slot := 26) (I' := (upI I 30 0 26 v)) (L' := L) dl_30 (cef_30 _ _ _ _) rfl inW6 tyX6 tyX6_ok nmX6 (by decide) fl_X6_196 rfl (ty := .int) (by decide +kernel) rfl rfl (by simp) (by rw [upI_row, cef_30]; rfl) (fun k' j' h => upI_off I 30 0 26 v h) (fun _ _ _ => rfl) hd kk
theorem fl_X6_199 : Cond.fieldLink RX6 199 "WellTablesModel" "changed" "I" ∈ WS := ws_of (i := 603) (by decide +kernel) (by decide +kernel)
theorem gf_X6_199 {a : VA} {cc : ByteArray} {rm : Room} {nL : Nat} (X : VOk a RX6 cc rm nL) {pc : Nat} {lv : List (Nat × Value)} {st : List Value} {I : TI} {L : TL} (hd : decode cc pc = .ok (.getfield 199, 3)) (kk : V a (pc + 3) lv (.int (I 30 0 25) :: st) I L) : V a pc lv (.ref (eA (vE a) 30 0) :: st) I L := v_getf X (slot := 25) dl_30 (cef_30 _ _ _ _) rfl inW6 (by decide) fl_X6_199 rfl hd kk
theorem pf_X6_199 {a : VA} {cc : ByteArray} {rm : Room} {nL : Nat} (X : VOk a RX6 cc rm nL) {pc : Nat} {lv : List (Nat × Value)} {st : List Value} {I : TI} {L : TL} {v : Int32} (hd : decode cc pc = .ok (.putfield 199, 3)) (kk : V a (pc + 3) lv st (upI I 30 0 25 v) L) : V a pc lv (.int v :: .ref (eA (vE a) 30 0) :: st) I L := v_putf X (slot := 25) (I' := (upI I 30 0 25 v)) (L' := L) dl_30 (cef_30 _ _ _ _) rfl inW6 tyX6 tyX6_ok nmX6 (by decide) fl_X6_199 rfl (ty := .int) (by decide +kernel) rfl rfl (by simp) (by rw [upI_row, cef_30]; rfl) (fun k' j' h => upI_off I 30 0 25 v h) (fun _ _ _ => rfl) hd kk
theorem fl_X6_210 : Cond.fieldLink RX6 210 "WellTablesModel" "resultUp" "J" ∈ WS := ws_of (i := 613) (by decide +kernel) (by decide +kernel)
theorem gf_X6_210 {a : VA} {cc : ByteArray} {rm : Room} {nL : Nat} (X : VOk a RX6 cc rm nL) {pc : Nat} {lv : List (Nat × Value)} {st : List Value} {I : TI} {L : TL} (hd : decode cc pc = .ok (.getfield 210, 3)) (kk : V a (pc + 3) lv (.long (L 30 0 35) :: st) I L) : V a pc lv (.ref (eA (vE a) 30 0) :: st) I L := v_getf X (slot := 35) dl_30 (cef_30 _ _ _ _) rfl inW6 (by decide) fl_X6_210 rfl hd kk
theorem pf_X6_210 {a : VA} {cc : ByteArray} {rm : Room} {nL : Nat} (X : VOk a RX6 cc rm nL) {pc : Nat} {lv : List (Nat × Value)} {st : List Value} {I : TI} {L : TL} {v : Int64} (hd : decode cc pc = .ok (.putfield 210, 3)) (kk : V a (pc + 3) lv st I (upL L 30 0 35 v)) : V a pc lv (.long v :: .ref (eA (vE a) 30 0) :: st) I L := v_putf X (slot := 35) (I' := I) (L' := (upL L 30 0 35 v)) dl_30 (cef_30 _ _ _ _) rfl inW6 tyX6 tyX6_ok nmX6 (by decide) fl_X6_210 rfl (ty := .long) (by decide +kernel) rfl rfl (by simp) (by rw [upL_row, cef_30]; rfl) (fun _ _ _ => rfl) (fun k' j' h => upL_off L 30 0 35 v h) hd kk
theorem fl_X6_214 : Cond.fieldLink RX6 214 "WellTablesModel" "resultDown" "J" ∈ WS := ws_of (i := 614) (by decide +kernel) (by decide +kernel)
theorem gf_X6_214 {a : VA} {cc : ByteArray} {rm : Room} {nL : Nat} (X : VOk a RX6 cc rm nL) {pc : Nat} {lv : List (Nat × Value)} {st : List Value} {I : TI} {L : TL} (hd : decode cc pc = .ok (.getfield 214, 3)) (kk : V a (pc + 3) lv (.long (L 30 0 36) :: st) I L) : V a pc lv (.ref (eA (vE a) 30 0) :: st) I L := v_getf X (slot := 36) dl_30 (cef_30 _ _ _ _) rfl inW6 (by decide) fl_X6_214 rfl hd kk
theorem pf_X6_214 {a : VA} {cc : ByteArray} {rm : Room} {nL : Nat} (X : VOk a RX6 cc rm nL) {pc : Nat} {lv : List (Nat × Value)} {st : List Value} {I : TI} {L : TL} {v : Int64} (hd : decode cc pc = .ok (.putfield 214, 3)) (kk : V a (pc + 3) lv st I (upL L 30 0 36 v)) : V a pc lv (.long v :: .ref (eA (vE a) 30 0) :: st) I L := v_putf X (slot := 36) (I' := I) (L' := (upL L 30 0 36 v)) dl_30 (cef_30 _ _ _ _) rfl inW6 tyX6 tyX6_ok nmX6 (by decide) fl_X6_214 rfl (ty := .long) (by decide +kernel) rfl rfl (by simp) (by rw [upL_row, cef_30]; rfl) (fun _ _ _ => rfl) (fun k' j' h => upL_off L 30 0 36 v h) hd kk
theorem fl_X6_221 : Cond.fieldLink RX6 221 "WellTablesModel" "shares" "I" ∈ WS := ws_of (i := 611) (by decide +kernel) (by decide +kernel)
theorem gf_X6_221 {a : VA} {cc : ByteArray} {rm : Room} {nL : Nat} (X : VOk a RX6 cc rm nL) {pc : Nat} {lv : List (Nat × Value)} {st : List Value} {I : TI} {L : TL} (hd : decode cc pc = .ok (.getfield 221, 3)) (kk : V a (pc + 3) lv (.int (I 30 0 33) :: st) I L) : V a pc lv (.ref (eA (vE a) 30 0) :: st) I L := v_getf X (slot := 33) dl_30 (cef_30 _ _ _ _) rfl inW6 (by decide) fl_X6_221 rfl hd kk
theorem pf_X6_221 {a : VA} {cc : ByteArray} {rm : Room} {nL : Nat} (X : VOk a RX6 cc rm nL) {pc : Nat} {lv : List (Nat × Value)} {st : List Value} {I : TI} {L : TL} {v : Int32} (hd : decode cc pc = .ok (.putfield 221, 3)) (kk : V a (pc + 3) lv st (upI I 30 0 33 v) L) : V a pc lv (.int v :: .ref (eA (vE a) 30 0) :: st) I L := v_putf X (slot := 33) (I' := (upI I 30 0 33 v)) (L' := L) dl_30 (cef_30 _ _ _ _) rfl inW6 tyX6 tyX6_ok nmX6 (by decide) fl_X6_221 rfl (ty := .int) (by decide +kernel) rfl rfl (by simp) (by rw [upI_row, cef_30]; rfl) (fun k' j' h => upI_off I 30 0 33 v h) (fun _ _ _ => rfl) hd kk
theorem fl_X6_224 : Cond.fieldLink RX6 224 "WellTablesModel" "canBe" "Z" ∈ WS := ws_of (i := 612) (by decide +kernel) (by decide +kernel)
theorem gf_X6_224 {a : VA} {cc : ByteArray} {rm : Room} {nL : Nat} (X : VOk a RX6 cc rm nL) {pc : Nat} {lv : List (Nat × Value)} {st : List Value} {I : TI} {L : TL} (hd : decode cc pc = .ok (.getfield 224, 3)) (kk : V a (pc + 3) lv (.int (I 30 0 34) :: st) I L) : V a pc lv (.ref (eA (vE a) 30 0) :: st) I L := v_getf X (slot := 34) dl_30 (cef_30 _ _ _ _) rfl inW6 (by decide) fl_X6_224 rfl hd kk
theorem pf_X6_224 {a : VA} {cc : ByteArray} {rm : Room} {nL : Nat} (X : VOk a RX6 cc rm nL) {pc : Nat} {lv : List (Nat × Value)} {st : List Value} {I : TI} {L : TL} {v : Int32} (hz : narrow .boolean (.int v) = .int v) (hd : decode cc pc = .ok (.putfield 224, 3)) (kk : V a (pc + 3) lv st (upI I 30 0 34 v) L) : V a pc lv (.int v :: .ref (eA (vE a) 30 0) :: st) I L := v_putf X (slot := 34) (I' := (upI I 30 0 34 v)) (L' := L) dl_30 (cef_30 _ _ _ _) rfl inW6 tyX6 tyX6_ok nmX6 (by decide) fl_X6_224 rfl (ty := .boolean) (by decide +kernel) hz (fit_z hz) (by simp) (by rw [upI_row, cef_30]; rfl) (fun k' j' h => upI_off I 30 0 34 v h) (fun _ _ _ => rfl) hd kk
theorem k_X5_54 : CkS RX5 54 yX5_isSide cX5_isSide 1 (some .boolean) 1 := ⟨⟨ws_of (i := 227) (by decide +kernel) (by decide +kernel), ws_of (i := 42) (by decide +kernel) (by decide +kernel), ws_of (i := 229) (by decide +kernel) (by decide +kernel), by decide +kernel⟩, ws_of (i := 228) (by decide +kernel) (by decide +kernel)⟩
theorem k_X5_58 : CkV RX5 58 yX5_refused cX5_refused 2 (some .int) 1 := ⟨⟨ws_of (i := 230) (by decide +kernel) (by decide +kernel), ws_of (i := 42) (by decide +kernel) (by decide +kernel), ws_of (i := 233) (by decide +kernel) (by decide +kernel), by decide +kernel⟩, ws_of (i := 232) (by decide +kernel) (by decide +kernel), ws_of (i := 0) (by decide +kernel) (by decide +kernel)⟩
theorem k_X5_62 : CkV RX5 62 yX5_freeGrid cX5_freeGrid 1 (some (.object "WellTables$Grid")) 0 := ⟨⟨ws_of (i := 234) (by decide +kernel) (by decide +kernel), ws_of (i := 42) (by decide +kernel) (by decide +kernel), ws_of (i := 237) (by decide +kernel) (by decide +kernel), by decide +kernel⟩, ws_of (i := 236) (by decide +kernel) (by decide +kernel), ws_of (i := 1) (by decide +kernel) (by decide +kernel)⟩
theorem k_X5_66 : CkV RX5 66 yX0_begin cX0_begin 4 none 3 := ⟨⟨ws_of (i := 238) (by decide +kernel) (by decide +kernel), ws_of (i := 46) (by decide +kernel) (by decide +kernel), ws_of (i := 241) (by decide +kernel) (by decide +kernel), by decide +kernel⟩, ws_of (i := 239) (by decide +kernel) (by decide +kernel), ws_of (i := 240) (by decide +kernel) (by decide +kernel)⟩
theorem k_X5_70 : CkV RX5 70 yX5_come cX5_come 2 (some .int) 1 := ⟨⟨ws_of (i := 245) (by decide +kernel) (by decide +kernel), ws_of (i := 42) (by decide +kernel) (by decide +kernel), ws_of (i := 248) (by decide +kernel) (by decide +kernel), by decide +kernel⟩, ws_of (i := 247) (by decide +kernel) (by decide +kernel), ws_of (i := 2) (by decide +kernel) (by decide +kernel)⟩
theorem k_X5_74 : CkV RX5 74 yX5_gridOf cX5_gridOf 2 (some (.object "WellTables$Grid")) 1 := ⟨⟨ws_of (i := 253) (by decide +kernel) (by decide +kernel), ws_of (i := 42) (by decide +kernel) (by decide +kernel), ws_of (i := 256) (by decide +kernel) (by decide +kernel), by decide +kernel⟩, ws_of (i := 255) (by decide +kernel) (by decide +kernel), ws_of (i := 3) (by decide +kernel) (by decide +kernel)⟩
theorem k_X5_78 : CkV RX5 78 yX0_reaches cX0_reaches 3 (some .boolean) 2 := ⟨⟨ws_of (i := 257) (by decide +kernel) (by decide +kernel), ws_of (i := 46) (by decide +kernel) (by decide +kernel), ws_of (i := 260) (by decide +kernel) (by decide +kernel), by decide +kernel⟩, ws_of (i := 258) (by decide +kernel) (by decide +kernel), ws_of (i := 259) (by decide +kernel) (by decide +kernel)⟩
theorem k_X5_82 : CkV RX5 82 yX5_nought cX5_nought 2 (some .int) 1 := ⟨⟨ws_of (i := 261) (by decide +kernel) (by decide +kernel), ws_of (i := 42) (by decide +kernel) (by decide +kernel), ws_of (i := 264) (by decide +kernel) (by decide +kernel), by decide +kernel⟩, ws_of (i := 263) (by decide +kernel) (by decide +kernel), ws_of (i := 4) (by decide +kernel) (by decide +kernel)⟩
theorem k_X5_89 : CkS RX5 89 yX5_isNumber cX5_isNumber 2 (some .boolean) 1 := ⟨⟨ws_of (i := 265) (by decide +kernel) (by decide +kernel), ws_of (i := 42) (by decide +kernel) (by decide +kernel), ws_of (i := 267) (by decide +kernel) (by decide +kernel), by decide +kernel⟩, ws_of (i := 266) (by decide +kernel) (by decide +kernel)⟩
theorem k_X5_93 : CkV RX5 93 yX0_number cX0_number 3 (some .int) 2 := ⟨⟨ws_of (i := 270) (by decide +kernel) (by decide +kernel), ws_of (i := 46) (by decide +kernel) (by decide +kernel), ws_of (i := 273) (by decide +kernel) (by decide +kernel), by decide +kernel⟩, ws_of (i := 271) (by decide +kernel) (by decide +kernel), ws_of (i := 272) (by decide +kernel) (by decide +kernel)⟩
theorem k_X5_97 : CkV RX5 97 yX0_put cX0_put 5 none 3 := ⟨⟨ws_of (i := 275) (by decide +kernel) (by decide +kernel), ws_of (i := 46) (by decide +kernel) (by decide +kernel), ws_of (i := 278) (by decide +kernel) (by decide +kernel), by decide +kernel⟩, ws_of (i := 276) (by decide +kernel) (by decide +kernel), ws_of (i := 277) (by decide +kernel) (by decide +kernel)⟩
theorem k_X5_107 : CkV RX5 107 yX4_firstLow cX4_firstLow 6 (some .int) 2 := ⟨⟨ws_of (i := 288) (by decide +kernel) (by decide +kernel), ws_of (i := 43) (by decide +kernel) (by decide +kernel), ws_of (i := 291) (by decide +kernel) (by decide +kernel), by decide +kernel⟩, ws_of (i := 289) (by decide +kernel) (by decide +kernel), ws_of (i := 290) (by decide +kernel) (by decide +kernel)⟩
theorem k_X5_111 : CkV RX5 111 yX4_looks cX4_looks 8 (some .int) 2 := ⟨⟨ws_of (i := 325) (by decide +kernel) (by decide +kernel), ws_of (i := 43) (by decide +kernel) (by decide +kernel), ws_of (i := 328) (by decide +kernel) (by decide +kernel), by decide +kernel⟩, ws_of (i := 326) (by decide +kernel) (by decide +kernel), ws_of (i := 327) (by decide +kernel) (by decide +kernel)⟩
theorem k_X5_120 : CkS RX5 120 yX5_areSome cX5_areSome 2 (some .boolean) 2 := ⟨⟨ws_of (i := 340) (by decide +kernel) (by decide +kernel), ws_of (i := 42) (by decide +kernel) (by decide +kernel), ws_of (i := 342) (by decide +kernel) (by decide +kernel), by decide +kernel⟩, ws_of (i := 341) (by decide +kernel) (by decide +kernel)⟩
theorem k_X5_123 : CkS RX5 123 yX5_areAsMany cX5_areAsMany 2 (some .boolean) 2 := ⟨⟨ws_of (i := 343) (by decide +kernel) (by decide +kernel), ws_of (i := 42) (by decide +kernel) (by decide +kernel), ws_of (i := 323) (by decide +kernel) (by decide +kernel), by decide +kernel⟩, ws_of (i := 322) (by decide +kernel) (by decide +kernel)⟩
theorem k_X5_126 : CkV RX5 126 yX4_ofPart cX4_ofPart 4 (some .long) 3 := ⟨⟨ws_of (i := 344) (by decide +kernel) (by decide +kernel), ws_of (i := 43) (by decide +kernel) (by decide +kernel), ws_of (i := 347) (by decide +kernel) (by decide +kernel), by decide +kernel⟩, ws_of (i := 345) (by decide +kernel) (by decide +kernel), ws_of (i := 346) (by decide +kernel) (by decide +kernel)⟩
theorem k_X5_130 : CkV RX5 130 yX4_manyOf cX4_manyOf 6 (some .int) 2 := ⟨⟨ws_of (i := 356) (by decide +kernel) (by decide +kernel), ws_of (i := 43) (by decide +kernel) (by decide +kernel), ws_of (i := 359) (by decide +kernel) (by decide +kernel), by decide +kernel⟩, ws_of (i := 357) (by decide +kernel) (by decide +kernel), ws_of (i := 358) (by decide +kernel) (by decide +kernel)⟩
theorem k_X5_134 : CkS RX5 134 yX5_rowByColumn cX5_rowByColumn 6 (some .int) 4 := ⟨⟨ws_of (i := 367) (by decide +kernel) (by decide +kernel), ws_of (i := 42) (by decide +kernel) (by decide +kernel), ws_of (i := 369) (by decide +kernel) (by decide +kernel), by decide +kernel⟩, ws_of (i := 368) (by decide +kernel) (by decide +kernel)⟩
theorem k_X5_138 : CkS RX5 138 yJ6_bitCount_0f7a4 cJ6_bitCount_0f7a4 1 (some .int) 1 := ⟨⟨ws_of (i := 324) (by decide +kernel) (by decide +kernel), ws_of (i := 51) (by decide +kernel) (by decide +kernel), ws_of (i := 297) (by decide +kernel) (by decide +kernel), by decide +kernel⟩, ws_of (i := 296) (by decide +kernel) (by decide +kernel)⟩
theorem k_X5_143 : CkS RX5 143 yX5_holds cX5_holds 2 (some .boolean) 2 := ⟨⟨ws_of (i := 378) (by decide +kernel) (by decide +kernel), ws_of (i := 42) (by decide +kernel) (by decide +kernel), ws_of (i := 315) (by decide +kernel) (by decide +kernel), by decide +kernel⟩, ws_of (i := 314) (by decide +kernel) (by decide +kernel)⟩
theorem k_X5_146 : CkS RX5 146 yX5_takeRow cX5_takeRow 7 none 5 := ⟨⟨ws_of (i := 379) (by decide +kernel) (by decide +kernel), ws_of (i := 42) (by decide +kernel) (by decide +kernel), ws_of (i := 381) (by decide +kernel) (by decide +kernel), by decide +kernel⟩, ws_of (i := 380) (by decide +kernel) (by decide +kernel)⟩
theorem k_X5_150 : CkS RX5 150 yX5_exchange cX5_exchange 4 none 2 := ⟨⟨ws_of (i := 386) (by decide +kernel) (by decide +kernel), ws_of (i := 42) (by decide +kernel) (by decide +kernel), ws_of (i := 388) (by decide +kernel) (by decide +kernel), by decide +kernel⟩, ws_of (i := 387) (by decide +kernel) (by decide +kernel)⟩
theorem k_X5_154 : CkS RX5 154 yX5_reverse cX5_reverse 6 none 3 := ⟨⟨ws_of (i := 389) (by decide +kernel) (by decide +kernel), ws_of (i := 42) (by decide +kernel) (by decide +kernel), ws_of (i := 391) (by decide +kernel) (by decide +kernel), by decide +kernel⟩, ws_of (i := 390) (by decide +kernel) (by decide +kernel)⟩
theorem k_X5_161 : CkV RX5 161 yX3_begin cX3_begin 2 none 1 := ⟨⟨ws_of (i := 400) (by decide +kernel) (by decide +kernel), ws_of (i := 47) (by decide +kernel) (by decide +kernel), ws_of (i := 403) (by decide +kernel) (by decide +kernel), by decide +kernel⟩, ws_of (i := 401) (by decide +kernel) (by decide +kernel), ws_of (i := 402) (by decide +kernel) (by decide +kernel)⟩
theorem k_X5_164 : CkV RX5 164 yX5_webOf cX5_webOf 2 (some (.object "WellTables$Web")) 1 := ⟨⟨ws_of (i := 408) (by decide +kernel) (by decide +kernel), ws_of (i := 42) (by decide +kernel) (by decide +kernel), ws_of (i := 411) (by decide +kernel) (by decide +kernel), by decide +kernel⟩, ws_of (i := 410) (by decide +kernel) (by decide +kernel), ws_of (i := 9) (by decide +kernel) (by decide +kernel)⟩
theorem k_X5_168 : CkV RX5 168 yX3_takes cX3_takes 3 (some .boolean) 2 := ⟨⟨ws_of (i := 412) (by decide +kernel) (by decide +kernel), ws_of (i := 47) (by decide +kernel) (by decide +kernel), ws_of (i := 415) (by decide +kernel) (by decide +kernel), by decide +kernel⟩, ws_of (i := 413) (by decide +kernel) (by decide +kernel), ws_of (i := 414) (by decide +kernel) (by decide +kernel)⟩
theorem k_X5_174 : CkV RX5 174 yX3_add cX3_add 4 none 3 := ⟨⟨ws_of (i := 416) (by decide +kernel) (by decide +kernel), ws_of (i := 47) (by decide +kernel) (by decide +kernel), ws_of (i := 419) (by decide +kernel) (by decide +kernel), by decide +kernel⟩, ws_of (i := 417) (by decide +kernel) (by decide +kernel), ws_of (i := 418) (by decide +kernel) (by decide +kernel)⟩
theorem k_X5_180 : CkV RX5 180 yX2_lead cX2_lead 7 (some .long) 4 := ⟨⟨ws_of (i := 428) (by decide +kernel) (by decide +kernel), ws_of (i := 44) (by decide +kernel) (by decide +kernel), ws_of (i := 431) (by decide +kernel) (by decide +kernel), by decide +kernel⟩, ws_of (i := 429) (by decide +kernel) (by decide +kernel), ws_of (i := 430) (by decide +kernel) (by decide +kernel)⟩
theorem k_X5_184 : CkV RX5 184 yX5_leading cX5_leading 6 (some .long) 4 := ⟨⟨ws_of (i := 449) (by decide +kernel) (by decide +kernel), ws_of (i := 42) (by decide +kernel) (by decide +kernel), ws_of (i := 452) (by decide +kernel) (by decide +kernel), by decide +kernel⟩, ws_of (i := 451) (by decide +kernel) (by decide +kernel), ws_of (i := 11) (by decide +kernel) (by decide +kernel)⟩
theorem k_X5_188 : CkS RX5 188 yJ9_max_f86c9 cJ9_max_f86c9 4 (some .long) 2 := ⟨⟨ws_of (i := 457) (by decide +kernel) (by decide +kernel), ws_of (i := 50) (by decide +kernel) (by decide +kernel), ws_of (i := 459) (by decide +kernel) (by decide +kernel), by decide +kernel⟩, ws_of (i := 458) (by decide +kernel) (by decide +kernel)⟩
theorem k_X5_195 : CkV RX5 195 yX2_linesAhead cX2_linesAhead 12 (some .int) 4 := ⟨⟨ws_of (i := 465) (by decide +kernel) (by decide +kernel), ws_of (i := 44) (by decide +kernel) (by decide +kernel), ws_of (i := 468) (by decide +kernel) (by decide +kernel), by decide +kernel⟩, ws_of (i := 466) (by decide +kernel) (by decide +kernel), ws_of (i := 467) (by decide +kernel) (by decide +kernel)⟩
theorem k_X5_203 : CkV RX5 203 yX5_emptyTheRow cX5_emptyTheRow 1 none 0 := ⟨⟨ws_of (i := 477) (by decide +kernel) (by decide +kernel), ws_of (i := 42) (by decide +kernel) (by decide +kernel), ws_of (i := 480) (by decide +kernel) (by decide +kernel), by decide +kernel⟩, ws_of (i := 479) (by decide +kernel) (by decide +kernel), ws_of (i := 12) (by decide +kernel) (by decide +kernel)⟩
theorem k_X5_206 : CkS RX5 206 yX5_signChanges cX5_signChanges 6 (some .int) 2 := ⟨⟨ws_of (i := 486) (by decide +kernel) (by decide +kernel), ws_of (i := 42) (by decide +kernel) (by decide +kernel), ws_of (i := 488) (by decide +kernel) (by decide +kernel), by decide +kernel⟩, ws_of (i := 487) (by decide +kernel) (by decide +kernel)⟩
theorem k_X5_210 : CkV RX5 210 yX1_takeApart cX1_takeApart 3 (some .int) 1 := ⟨⟨ws_of (i := 498) (by decide +kernel) (by decide +kernel), ws_of (i := 45) (by decide +kernel) (by decide +kernel), ws_of (i := 501) (by decide +kernel) (by decide +kernel), by decide +kernel⟩, ws_of (i := 499) (by decide +kernel) (by decide +kernel), ws_of (i := 500) (by decide +kernel) (by decide +kernel)⟩
theorem k_X5_235 : CkS RX5 235 yJ7_fill_53178 cJ7_fill_53178 4 none 2 := ⟨⟨ws_of (i := 481) (by decide +kernel) (by decide +kernel), ws_of (i := 49) (by decide +kernel) (by decide +kernel), ws_of (i := 244) (by decide +kernel) (by decide +kernel), by decide +kernel⟩, ws_of (i := 243) (by decide +kernel) (by decide +kernel)⟩
theorem k_X5_245 : CkS RX5 245 yX5_signOf cX5_signOf 2 (some .int) 1 := ⟨⟨ws_of (i := 489) (by decide +kernel) (by decide +kernel), ws_of (i := 42) (by decide +kernel) (by decide +kernel), ws_of (i := 362) (by decide +kernel) (by decide +kernel), by decide +kernel⟩, ws_of (i := 361) (by decide +kernel) (by decide +kernel)⟩
theorem k_X0_32 : CkS RX0 32 yJ7_fill_53178 cJ7_fill_53178 4 none 2 := ⟨⟨ws_of (i := 242) (by decide +kernel) (by decide +kernel), ws_of (i := 49) (by decide +kernel) (by decide +kernel), ws_of (i := 244) (by decide +kernel) (by decide +kernel), by decide +kernel⟩, ws_of (i := 243) (by decide +kernel) (by decide +kernel)⟩
theorem k_X0_38 : CkV RX0 38 yX0_reaches cX0_reaches 3 (some .boolean) 2 := ⟨⟨ws_of (i := 274) (by decide +kernel) (by decide +kernel), ws_of (i := 46) (by decide +kernel) (by decide +kernel), ws_of (i := 260) (by decide +kernel) (by decide +kernel), by decide +kernel⟩, ws_of (i := 258) (by decide +kernel) (by decide +kernel), ws_of (i := 259) (by decide +kernel) (by decide +kernel)⟩
theorem k_X0_42 : CkN RX0 42 yX5_isNumber cX5_isNumber 2 (some .boolean) 1 := ⟨⟨"WellTables", List.mem_of_getElem? (i := 5) rfl⟩, ws_of (i := 42) (by decide +kernel) (by decide +kernel), ws_of (i := 267) (by decide +kernel) (by decide +kernel), by decide +kernel, ws_of (i := 266) (by decide +kernel) (by decide +kernel)⟩
theorem k_X1_31 : CkV RX1 31 yX1_begin cX1_begin 4 none 1 := ⟨⟨ws_of (i := 502) (by decide +kernel) (by decide +kernel), ws_of (i := 45) (by decide +kernel) (by decide +kernel), ws_of (i := 505) (by decide +kernel) (by decide +kernel), by decide +kernel⟩, ws_of (i := 504) (by decide +kernel) (by decide +kernel), ws_of (i := 13) (by decide +kernel) (by decide +kernel)⟩
theorem k_X1_35 : CkV RX1 35 yX1_clear cX1_clear 5 (some .boolean) 1 := ⟨⟨ws_of (i := 511) (by decide +kernel) (by decide +kernel), ws_of (i := 45) (by decide +kernel) (by decide +kernel), ws_of (i := 514) (by decide +kernel) (by decide +kernel), by decide +kernel⟩, ws_of (i := 513) (by decide +kernel) (by decide +kernel), ws_of (i := 14) (by decide +kernel) (by decide +kernel)⟩
theorem k_X1_39 : CkV RX1 39 yX1_standOnLine cX1_standOnLine 3 (some .boolean) 0 := ⟨⟨ws_of (i := 541) (by decide +kernel) (by decide +kernel), ws_of (i := 45) (by decide +kernel) (by decide +kernel), ws_of (i := 544) (by decide +kernel) (by decide +kernel), by decide +kernel⟩, ws_of (i := 543) (by decide +kernel) (by decide +kernel), ws_of (i := 19) (by decide +kernel) (by decide +kernel)⟩
theorem k_X1_52 : CkS RX1 52 yJ9_min_7cf53 cJ9_min_7cf53 2 (some .int) 2 := ⟨⟨ws_of (i := 506) (by decide +kernel) (by decide +kernel), ws_of (i := 50) (by decide +kernel) (by decide +kernel), ws_of (i := 294) (by decide +kernel) (by decide +kernel), by decide +kernel⟩, ws_of (i := 293) (by decide +kernel) (by decide +kernel)⟩
theorem k_X1_61 : CkS RX1 61 yX1_placeOf cX1_placeOf 3 (some .int) 3 := ⟨⟨ws_of (i := 507) (by decide +kernel) (by decide +kernel), ws_of (i := 45) (by decide +kernel) (by decide +kernel), ws_of (i := 509) (by decide +kernel) (by decide +kernel), by decide +kernel⟩, ws_of (i := 508) (by decide +kernel) (by decide +kernel)⟩
theorem k_X1_65 : CkV RX1 65 yX0_number cX0_number 3 (some .int) 2 := ⟨⟨ws_of (i := 510) (by decide +kernel) (by decide +kernel), ws_of (i := 46) (by decide +kernel) (by decide +kernel), ws_of (i := 273) (by decide +kernel) (by decide +kernel), by decide +kernel⟩, ws_of (i := 271) (by decide +kernel) (by decide +kernel), ws_of (i := 272) (by decide +kernel) (by decide +kernel)⟩
theorem k_X1_68 : CkV RX1 68 yX1_findShare cX1_findShare 11 (some .boolean) 2 := ⟨⟨ws_of (i := 515) (by decide +kernel) (by decide +kernel), ws_of (i := 45) (by decide +kernel) (by decide +kernel), ws_of (i := 518) (by decide +kernel) (by decide +kernel), by decide +kernel⟩, ws_of (i := 517) (by decide +kernel) (by decide +kernel), ws_of (i := 15) (by decide +kernel) (by decide +kernel)⟩
theorem k_X1_79 : CkV RX1 79 yX1_note cX1_note 7 none 4 := ⟨⟨ws_of (i := 529) (by decide +kernel) (by decide +kernel), ws_of (i := 45) (by decide +kernel) (by decide +kernel), ws_of (i := 532) (by decide +kernel) (by decide +kernel), by decide +kernel⟩, ws_of (i := 531) (by decide +kernel) (by decide +kernel), ws_of (i := 16) (by decide +kernel) (by decide +kernel)⟩
theorem k_X1_83 : CkV RX1 83 yX1_takeRowAbove cX1_takeRowAbove 5 none 3 := ⟨⟨ws_of (i := 533) (by decide +kernel) (by decide +kernel), ws_of (i := 45) (by decide +kernel) (by decide +kernel), ws_of (i := 536) (by decide +kernel) (by decide +kernel), by decide +kernel⟩, ws_of (i := 535) (by decide +kernel) (by decide +kernel), ws_of (i := 17) (by decide +kernel) (by decide +kernel)⟩
theorem k_X1_87 : CkN RX1 87 yX5_signOf cX5_signOf 2 (some .int) 1 := ⟨⟨"WellTables", List.mem_of_getElem? (i := 10) rfl⟩, ws_of (i := 42) (by decide +kernel) (by decide +kernel), ws_of (i := 362) (by decide +kernel) (by decide +kernel), by decide +kernel, ws_of (i := 361) (by decide +kernel) (by decide +kernel)⟩
theorem k_X1_91 : CkS RX1 91 yJ9_abs_067f4 cJ9_abs_067f4 2 (some .long) 1 := ⟨⟨ws_of (i := 520) (by decide +kernel) (by decide +kernel), ws_of (i := 50) (by decide +kernel) (by decide +kernel), ws_of (i := 522) (by decide +kernel) (by decide +kernel), by decide +kernel⟩, ws_of (i := 521) (by decide +kernel) (by decide +kernel)⟩
theorem k_X1_95 : CkS RX1 95 yX1_commonOf cX1_commonOf 11 (some .long) 2 := ⟨⟨ws_of (i := 523) (by decide +kernel) (by decide +kernel), ws_of (i := 45) (by decide +kernel) (by decide +kernel), ws_of (i := 525) (by decide +kernel) (by decide +kernel), by decide +kernel⟩, ws_of (i := 524) (by decide +kernel) (by decide +kernel)⟩
theorem k_X1_99 : CkS RX1 99 yX1_without cX1_without 4 (some .long) 2 := ⟨⟨ws_of (i := 526) (by decide +kernel) (by decide +kernel), ws_of (i := 45) (by decide +kernel) (by decide +kernel), ws_of (i := 528) (by decide +kernel) (by decide +kernel), by decide +kernel⟩, ws_of (i := 527) (by decide +kernel) (by decide +kernel)⟩
theorem k_X1_102 : CkV RX1 102 yX1_takeShare cX1_takeShare 17 none 2 := ⟨⟨ws_of (i := 537) (by decide +kernel) (by decide +kernel), ws_of (i := 45) (by decide +kernel) (by decide +kernel), ws_of (i := 540) (by decide +kernel) (by decide +kernel), by decide +kernel⟩, ws_of (i := 539) (by decide +kernel) (by decide +kernel), ws_of (i := 18) (by decide +kernel) (by decide +kernel)⟩
theorem k_X2_21 : CkV RX2 21 yX2_fromStep cX2_fromStep 10 (some .long) 4 := ⟨⟨ws_of (i := 432) (by decide +kernel) (by decide +kernel), ws_of (i := 44) (by decide +kernel) (by decide +kernel), ws_of (i := 435) (by decide +kernel) (by decide +kernel), by decide +kernel⟩, ws_of (i := 434) (by decide +kernel) (by decide +kernel), ws_of (i := 10) (by decide +kernel) (by decide +kernel)⟩
theorem k_X2_29 : CkV RX2 29 yX3_isWeighedOn cX3_isWeighedOn 3 (some .boolean) 2 := ⟨⟨ws_of (i := 436) (by decide +kernel) (by decide +kernel), ws_of (i := 47) (by decide +kernel) (by decide +kernel), ws_of (i := 439) (by decide +kernel) (by decide +kernel), by decide +kernel⟩, ws_of (i := 437) (by decide +kernel) (by decide +kernel), ws_of (i := 438) (by decide +kernel) (by decide +kernel)⟩
theorem k_X2_33 : CkV RX2 33 yX3_afterGoing cX3_afterGoing 7 (some .int) 2 := ⟨⟨ws_of (i := 441) (by decide +kernel) (by decide +kernel), ws_of (i := 47) (by decide +kernel) (by decide +kernel), ws_of (i := 444) (by decide +kernel) (by decide +kernel), by decide +kernel⟩, ws_of (i := 442) (by decide +kernel) (by decide +kernel), ws_of (i := 443) (by decide +kernel) (by decide +kernel)⟩
theorem k_X3_28 : CkN RX3 28 yX5_holds cX5_holds 2 (some .boolean) 2 := ⟨⟨"WellTables", List.mem_of_getElem? (i := 9) rfl⟩, ws_of (i := 42) (by decide +kernel) (by decide +kernel), ws_of (i := 315) (by decide +kernel) (by decide +kernel), by decide +kernel, ws_of (i := 314) (by decide +kernel) (by decide +kernel)⟩
theorem k_X4_19 : CkV RX4 19 yX4_findAll cX4_findAll 6 none 2 := ⟨⟨ws_of (i := 305) (by decide +kernel) (by decide +kernel), ws_of (i := 43) (by decide +kernel) (by decide +kernel), ws_of (i := 308) (by decide +kernel) (by decide +kernel), by decide +kernel⟩, ws_of (i := 307) (by decide +kernel) (by decide +kernel), ws_of (i := 6) (by decide +kernel) (by decide +kernel)⟩
theorem k_X4_32 : CkS RX4 32 yJ9_min_7cf53 cJ9_min_7cf53 2 (some .int) 2 := ⟨⟨ws_of (i := 292) (by decide +kernel) (by decide +kernel), ws_of (i := 50) (by decide +kernel) (by decide +kernel), ws_of (i := 294) (by decide +kernel) (by decide +kernel), by decide +kernel⟩, ws_of (i := 293) (by decide +kernel) (by decide +kernel)⟩
theorem k_X4_38 : CkS RX4 38 yJ6_bitCount_0f7a4 cJ6_bitCount_0f7a4 1 (some .int) 1 := ⟨⟨ws_of (i := 295) (by decide +kernel) (by decide +kernel), ws_of (i := 51) (by decide +kernel) (by decide +kernel), ws_of (i := 297) (by decide +kernel) (by decide +kernel), by decide +kernel⟩, ws_of (i := 296) (by decide +kernel) (by decide +kernel)⟩
theorem k_X4_44 : CkV RX4 44 yX4_firstLowColumns cX4_firstLowColumns 6 (some .int) 3 := ⟨⟨ws_of (i := 301) (by decide +kernel) (by decide +kernel), ws_of (i := 43) (by decide +kernel) (by decide +kernel), ws_of (i := 304) (by decide +kernel) (by decide +kernel), by decide +kernel⟩, ws_of (i := 303) (by decide +kernel) (by decide +kernel), ws_of (i := 5) (by decide +kernel) (by decide +kernel)⟩
theorem k_X4_48 : CkN RX4 48 yX5_areAsMany cX5_areAsMany 2 (some .boolean) 2 := ⟨⟨"WellTables", List.mem_of_getElem? (i := 7) rfl⟩, ws_of (i := 42) (by decide +kernel) (by decide +kernel), ws_of (i := 323) (by decide +kernel) (by decide +kernel), by decide +kernel, ws_of (i := 322) (by decide +kernel) (by decide +kernel)⟩
theorem k_X4_52 : CkN RX4 52 yX5_signOf cX5_signOf 2 (some .int) 1 := ⟨⟨"WellTables", List.mem_of_getElem? (i := 8) rfl⟩, ws_of (i := 42) (by decide +kernel) (by decide +kernel), ws_of (i := 362) (by decide +kernel) (by decide +kernel), by decide +kernel, ws_of (i := 361) (by decide +kernel) (by decide +kernel)⟩
theorem k_X4_56 : CkS RX4 56 yX4_stretch cX4_stretch 2 (some .int) 2 := ⟨⟨ws_of (i := 329) (by decide +kernel) (by decide +kernel), ws_of (i := 43) (by decide +kernel) (by decide +kernel), ws_of (i := 331) (by decide +kernel) (by decide +kernel), by decide +kernel⟩, ws_of (i := 330) (by decide +kernel) (by decide +kernel)⟩
theorem k_X4_59 : CkV RX4 59 yX4_choose cX4_choose 4 (some .int) 1 := ⟨⟨ws_of (i := 309) (by decide +kernel) (by decide +kernel), ws_of (i := 43) (by decide +kernel) (by decide +kernel), ws_of (i := 312) (by decide +kernel) (by decide +kernel), by decide +kernel⟩, ws_of (i := 311) (by decide +kernel) (by decide +kernel), ws_of (i := 7) (by decide +kernel) (by decide +kernel)⟩
theorem k_X4_62 : CkV RX4 62 yX4_alongLastRow cX4_alongLastRow 9 (some .long) 3 := ⟨⟨ws_of (i := 316) (by decide +kernel) (by decide +kernel), ws_of (i := 43) (by decide +kernel) (by decide +kernel), ws_of (i := 319) (by decide +kernel) (by decide +kernel), by decide +kernel⟩, ws_of (i := 318) (by decide +kernel) (by decide +kernel), ws_of (i := 8) (by decide +kernel) (by decide +kernel)⟩
theorem k_X4_66 : CkN RX4 66 yX5_holds cX5_holds 2 (some .boolean) 2 := ⟨⟨"WellTables", List.mem_of_getElem? (i := 6) rfl⟩, ws_of (i := 42) (by decide +kernel) (by decide +kernel), ws_of (i := 315) (by decide +kernel) (by decide +kernel), by decide +kernel, ws_of (i := 314) (by decide +kernel) (by decide +kernel)⟩
theorem k_X4_69 : CkV RX4 69 yX0_number cX0_number 3 (some .int) 2 := ⟨⟨ws_of (i := 320) (by decide +kernel) (by decide +kernel), ws_of (i := 46) (by decide +kernel) (by decide +kernel), ws_of (i := 273) (by decide +kernel) (by decide +kernel), by decide +kernel⟩, ws_of (i := 271) (by decide +kernel) (by decide +kernel), ws_of (i := 272) (by decide +kernel) (by decide +kernel)⟩
theorem k_L_13 : CkV RL 13 yX5_table cX5_table 4 (some .int) 2 := ⟨⟨ws_of (i := 223) (by decide +kernel) (by decide +kernel), ws_of (i := 42) (by decide +kernel) (by decide +kernel), ws_of (i := 226) (by decide +kernel) (by decide +kernel), by decide +kernel⟩, ws_of (i := 224) (by decide +kernel) (by decide +kernel), ws_of (i := 225) (by decide +kernel) (by decide +kernel)⟩
theorem k_L_17 : CkV RL 17 yX6_table cX6_table 3 (some .int) 2 := ⟨⟨ws_of (i := 690) (by decide +kernel) (by decide +kernel), ws_of (i := 48) (by decide +kernel) (by decide +kernel), ws_of (i := 693) (by decide +kernel) (by decide +kernel), by decide +kernel⟩, ws_of (i := 691) (by decide +kernel) (by decide +kernel), ws_of (i := 692) (by decide +kernel) (by decide +kernel)⟩
theorem k_L_18 : CkV RL 18 yX5_set cX5_set 7 (some .int) 4 := ⟨⟨ws_of (i := 249) (by decide +kernel) (by decide +kernel), ws_of (i := 42) (by decide +kernel) (by decide +kernel), ws_of (i := 252) (by decide +kernel) (by decide +kernel), by decide +kernel⟩, ws_of (i := 250) (by decide +kernel) (by decide +kernel), ws_of (i := 251) (by decide +kernel) (by decide +kernel)⟩
theorem k_L_22 : CkV RL 22 yX6_set cX6_set 6 (some .int) 4 := ⟨⟨ws_of (i := 706) (by decide +kernel) (by decide +kernel), ws_of (i := 48) (by decide +kernel) (by decide +kernel), ws_of (i := 709) (by decide +kernel) (by decide +kernel), by decide +kernel⟩, ws_of (i := 707) (by decide +kernel) (by decide +kernel), ws_of (i := 708) (by decide +kernel) (by decide +kernel)⟩
theorem k_L_23 : CkV RL 23 yX5_at cX5_at 5 (some .int) 3 := ⟨⟨ws_of (i := 280) (by decide +kernel) (by decide +kernel), ws_of (i := 42) (by decide +kernel) (by decide +kernel), ws_of (i := 283) (by decide +kernel) (by decide +kernel), by decide +kernel⟩, ws_of (i := 281) (by decide +kernel) (by decide +kernel), ws_of (i := 282) (by decide +kernel) (by decide +kernel)⟩
theorem k_L_27 : CkV RL 27 yX6_at cX6_at 4 (some .int) 3 := ⟨⟨ws_of (i := 727) (by decide +kernel) (by decide +kernel), ws_of (i := 48) (by decide +kernel) (by decide +kernel), ws_of (i := 730) (by decide +kernel) (by decide +kernel), by decide +kernel⟩, ws_of (i := 728) (by decide +kernel) (by decide +kernel), ws_of (i := 729) (by decide +kernel) (by decide +kernel)⟩
theorem k_L_28 : CkV RL 28 yX5_look cX5_look 4 (some .int) 2 := ⟨⟨ws_of (i := 284) (by decide +kernel) (by decide +kernel), ws_of (i := 42) (by decide +kernel) (by decide +kernel), ws_of (i := 287) (by decide +kernel) (by decide +kernel), by decide +kernel⟩, ws_of (i := 285) (by decide +kernel) (by decide +kernel), ws_of (i := 286) (by decide +kernel) (by decide +kernel)⟩
theorem k_L_31 : CkV RL 31 yX6_look cX6_look 3 (some .int) 2 := ⟨⟨ws_of (i := 745) (by decide +kernel) (by decide +kernel), ws_of (i := 48) (by decide +kernel) (by decide +kernel), ws_of (i := 748) (by decide +kernel) (by decide +kernel), by decide +kernel⟩, ws_of (i := 746) (by decide +kernel) (by decide +kernel), ws_of (i := 747) (by decide +kernel) (by decide +kernel)⟩
theorem k_L_32 : CkV RL 32 yX5_drop cX5_drop 1 (some .int) 0 := ⟨⟨ws_of (i := 332) (by decide +kernel) (by decide +kernel), ws_of (i := 42) (by decide +kernel) (by decide +kernel), ws_of (i := 335) (by decide +kernel) (by decide +kernel), by decide +kernel⟩, ws_of (i := 333) (by decide +kernel) (by decide +kernel), ws_of (i := 334) (by decide +kernel) (by decide +kernel)⟩
theorem k_L_36 : CkV RL 36 yX6_drop cX6_drop 1 (some .int) 0 := ⟨⟨ws_of (i := 764) (by decide +kernel) (by decide +kernel), ws_of (i := 48) (by decide +kernel) (by decide +kernel), ws_of (i := 767) (by decide +kernel) (by decide +kernel), by decide +kernel⟩, ws_of (i := 765) (by decide +kernel) (by decide +kernel), ws_of (i := 766) (by decide +kernel) (by decide +kernel)⟩
theorem k_L_37 : CkV RL 37 yX5_worth cX5_worth 5 (some .long) 3 := ⟨⟨ws_of (i := 336) (by decide +kernel) (by decide +kernel), ws_of (i := 42) (by decide +kernel) (by decide +kernel), ws_of (i := 339) (by decide +kernel) (by decide +kernel), by decide +kernel⟩, ws_of (i := 337) (by decide +kernel) (by decide +kernel), ws_of (i := 338) (by decide +kernel) (by decide +kernel)⟩
theorem k_L_41 : CkV RL 41 yX6_worth cX6_worth 4 (some .long) 3 := ⟨⟨ws_of (i := 731) (by decide +kernel) (by decide +kernel), ws_of (i := 48) (by decide +kernel) (by decide +kernel), ws_of (i := 734) (by decide +kernel) (by decide +kernel), by decide +kernel⟩, ws_of (i := 732) (by decide +kernel) (by decide +kernel), ws_of (i := 733) (by decide +kernel) (by decide +kernel)⟩
theorem k_L_42 : CkV RL 42 yX5_low cX5_low 4 (some .int) 2 := ⟨⟨ws_of (i := 348) (by decide +kernel) (by decide +kernel), ws_of (i := 42) (by decide +kernel) (by decide +kernel), ws_of (i := 351) (by decide +kernel) (by decide +kernel), by decide +kernel⟩, ws_of (i := 349) (by decide +kernel) (by decide +kernel), ws_of (i := 350) (by decide +kernel) (by decide +kernel)⟩
theorem k_L_46 : CkV RL 46 yX6_low cX6_low 3 (some .int) 2 := ⟨⟨ws_of (i := 768) (by decide +kernel) (by decide +kernel), ws_of (i := 48) (by decide +kernel) (by decide +kernel), ws_of (i := 771) (by decide +kernel) (by decide +kernel), by decide +kernel⟩, ws_of (i := 769) (by decide +kernel) (by decide +kernel), ws_of (i := 770) (by decide +kernel) (by decide +kernel)⟩
theorem k_L_47 : CkV RL 47 yX5_count cX5_count 4 (some .int) 2 := ⟨⟨ws_of (i := 352) (by decide +kernel) (by decide +kernel), ws_of (i := 42) (by decide +kernel) (by decide +kernel), ws_of (i := 355) (by decide +kernel) (by decide +kernel), by decide +kernel⟩, ws_of (i := 353) (by decide +kernel) (by decide +kernel), ws_of (i := 354) (by decide +kernel) (by decide +kernel)⟩
theorem k_L_50 : CkV RL 50 yX6_count cX6_count 3 (some .int) 2 := ⟨⟨ws_of (i := 772) (by decide +kernel) (by decide +kernel), ws_of (i := 48) (by decide +kernel) (by decide +kernel), ws_of (i := 775) (by decide +kernel) (by decide +kernel), by decide +kernel⟩, ws_of (i := 773) (by decide +kernel) (by decide +kernel), ws_of (i := 774) (by decide +kernel) (by decide +kernel)⟩
theorem k_L_51 : CkV RL 51 yX5_product cX5_product 8 (some .int) 2 := ⟨⟨ws_of (i := 363) (by decide +kernel) (by decide +kernel), ws_of (i := 42) (by decide +kernel) (by decide +kernel), ws_of (i := 366) (by decide +kernel) (by decide +kernel), by decide +kernel⟩, ws_of (i := 364) (by decide +kernel) (by decide +kernel), ws_of (i := 365) (by decide +kernel) (by decide +kernel)⟩
theorem k_L_54 : CkV RL 54 yX6_product cX6_product 8 (some .int) 2 := ⟨⟨ws_of (i := 777) (by decide +kernel) (by decide +kernel), ws_of (i := 48) (by decide +kernel) (by decide +kernel), ws_of (i := 780) (by decide +kernel) (by decide +kernel), by decide +kernel⟩, ws_of (i := 778) (by decide +kernel) (by decide +kernel), ws_of (i := 779) (by decide +kernel) (by decide +kernel)⟩
theorem k_L_55 : CkV RL 55 yX5_sum cX5_sum 8 (some .int) 2 := ⟨⟨ws_of (i := 370) (by decide +kernel) (by decide +kernel), ws_of (i := 42) (by decide +kernel) (by decide +kernel), ws_of (i := 373) (by decide +kernel) (by decide +kernel), by decide +kernel⟩, ws_of (i := 371) (by decide +kernel) (by decide +kernel), ws_of (i := 372) (by decide +kernel) (by decide +kernel)⟩
theorem k_L_58 : CkV RL 58 yX6_sum cX6_sum 4 (some .int) 2 := ⟨⟨ws_of (i := 785) (by decide +kernel) (by decide +kernel), ws_of (i := 48) (by decide +kernel) (by decide +kernel), ws_of (i := 788) (by decide +kernel) (by decide +kernel), by decide +kernel⟩, ws_of (i := 786) (by decide +kernel) (by decide +kernel), ws_of (i := 787) (by decide +kernel) (by decide +kernel)⟩
theorem k_L_59 : CkV RL 59 yX5_part cX5_part 8 (some .int) 3 := ⟨⟨ws_of (i := 374) (by decide +kernel) (by decide +kernel), ws_of (i := 42) (by decide +kernel) (by decide +kernel), ws_of (i := 377) (by decide +kernel) (by decide +kernel), by decide +kernel⟩, ws_of (i := 375) (by decide +kernel) (by decide +kernel), ws_of (i := 376) (by decide +kernel) (by decide +kernel)⟩
theorem k_L_62 : CkV RL 62 yX6_part cX6_part 8 (some .int) 3 := ⟨⟨ws_of (i := 793) (by decide +kernel) (by decide +kernel), ws_of (i := 48) (by decide +kernel) (by decide +kernel), ws_of (i := 796) (by decide +kernel) (by decide +kernel), by decide +kernel⟩, ws_of (i := 794) (by decide +kernel) (by decide +kernel), ws_of (i := 795) (by decide +kernel) (by decide +kernel)⟩
theorem k_L_63 : CkV RL 63 yX5_turn cX5_turn 5 (some .int) 2 := ⟨⟨ws_of (i := 382) (by decide +kernel) (by decide +kernel), ws_of (i := 42) (by decide +kernel) (by decide +kernel), ws_of (i := 385) (by decide +kernel) (by decide +kernel), by decide +kernel⟩, ws_of (i := 383) (by decide +kernel) (by decide +kernel), ws_of (i := 384) (by decide +kernel) (by decide +kernel)⟩
theorem k_L_66 : CkV RL 66 yX6_turn cX6_turn 9 (some .int) 2 := ⟨⟨ws_of (i := 797) (by decide +kernel) (by decide +kernel), ws_of (i := 48) (by decide +kernel) (by decide +kernel), ws_of (i := 800) (by decide +kernel) (by decide +kernel), by decide +kernel⟩, ws_of (i := 798) (by decide +kernel) (by decide +kernel), ws_of (i := 799) (by decide +kernel) (by decide +kernel)⟩
theorem k_L_67 : CkV RL 67 yX5_same cX5_same 7 (some .int) 2 := ⟨⟨ws_of (i := 392) (by decide +kernel) (by decide +kernel), ws_of (i := 42) (by decide +kernel) (by decide +kernel), ws_of (i := 395) (by decide +kernel) (by decide +kernel), by decide +kernel⟩, ws_of (i := 393) (by decide +kernel) (by decide +kernel), ws_of (i := 394) (by decide +kernel) (by decide +kernel)⟩
theorem k_L_70 : CkV RL 70 yX6_same cX6_same 5 (some .int) 2 := ⟨⟨ws_of (i := 802) (by decide +kernel) (by decide +kernel), ws_of (i := 48) (by decide +kernel) (by decide +kernel), ws_of (i := 805) (by decide +kernel) (by decide +kernel), by decide +kernel⟩, ws_of (i := 803) (by decide +kernel) (by decide +kernel), ws_of (i := 804) (by decide +kernel) (by decide +kernel)⟩
theorem k_L_71 : CkV RL 71 yX5_net cX5_net 3 (some .int) 1 := ⟨⟨ws_of (i := 396) (by decide +kernel) (by decide +kernel), ws_of (i := 42) (by decide +kernel) (by decide +kernel), ws_of (i := 399) (by decide +kernel) (by decide +kernel), by decide +kernel⟩, ws_of (i := 397) (by decide +kernel) (by decide +kernel), ws_of (i := 398) (by decide +kernel) (by decide +kernel)⟩
theorem k_L_75 : CkV RL 75 yX6_net cX6_net 2 (some .int) 1 := ⟨⟨ws_of (i := 806) (by decide +kernel) (by decide +kernel), ws_of (i := 48) (by decide +kernel) (by decide +kernel), ws_of (i := 809) (by decide +kernel) (by decide +kernel), by decide +kernel⟩, ws_of (i := 807) (by decide +kernel) (by decide +kernel), ws_of (i := 808) (by decide +kernel) (by decide +kernel)⟩
theorem k_L_76 : CkV RL 76 yX5_step cX5_step 6 (some .int) 4 := ⟨⟨ws_of (i := 404) (by decide +kernel) (by decide +kernel), ws_of (i := 42) (by decide +kernel) (by decide +kernel), ws_of (i := 407) (by decide +kernel) (by decide +kernel), by decide +kernel⟩, ws_of (i := 405) (by decide +kernel) (by decide +kernel), ws_of (i := 406) (by decide +kernel) (by decide +kernel)⟩
theorem k_L_79 : CkV RL 79 yX6_step cX6_step 6 (some .int) 4 := ⟨⟨ws_of (i := 810) (by decide +kernel) (by decide +kernel), ws_of (i := 48) (by decide +kernel) (by decide +kernel), ws_of (i := 813) (by decide +kernel) (by decide +kernel), by decide +kernel⟩, ws_of (i := 811) (by decide +kernel) (by decide +kernel), ws_of (i := 812) (by decide +kernel) (by decide +kernel)⟩
theorem k_L_80 : CkV RL 80 yX5_back cX5_back 3 (some .int) 1 := ⟨⟨ws_of (i := 420) (by decide +kernel) (by decide +kernel), ws_of (i := 42) (by decide +kernel) (by decide +kernel), ws_of (i := 423) (by decide +kernel) (by decide +kernel), by decide +kernel⟩, ws_of (i := 421) (by decide +kernel) (by decide +kernel), ws_of (i := 422) (by decide +kernel) (by decide +kernel)⟩
theorem k_L_83 : CkV RL 83 yX6_back cX6_back 2 (some .int) 1 := ⟨⟨ws_of (i := 819) (by decide +kernel) (by decide +kernel), ws_of (i := 48) (by decide +kernel) (by decide +kernel), ws_of (i := 822) (by decide +kernel) (by decide +kernel), by decide +kernel⟩, ws_of (i := 820) (by decide +kernel) (by decide +kernel), ws_of (i := 821) (by decide +kernel) (by decide +kernel)⟩
theorem k_L_84 : CkV RL 84 yX5_made cX5_made 6 (some .int) 1 := ⟨⟨ws_of (i := 424) (by decide +kernel) (by decide +kernel), ws_of (i := 42) (by decide +kernel) (by decide +kernel), ws_of (i := 427) (by decide +kernel) (by decide +kernel), by decide +kernel⟩, ws_of (i := 425) (by decide +kernel) (by decide +kernel), ws_of (i := 426) (by decide +kernel) (by decide +kernel)⟩
theorem k_L_87 : CkV RL 87 yX6_made cX6_made 7 (some .int) 1 := ⟨⟨ws_of (i := 823) (by decide +kernel) (by decide +kernel), ws_of (i := 48) (by decide +kernel) (by decide +kernel), ws_of (i := 826) (by decide +kernel) (by decide +kernel), by decide +kernel⟩, ws_of (i := 824) (by decide +kernel) (by decide +kernel), ws_of (i := 825) (by decide +kernel) (by decide +kernel)⟩
theorem k_L_88 : CkV RL 88 yX5_families cX5_families 4 (some .int) 3 := ⟨⟨ws_of (i := 445) (by decide +kernel) (by decide +kernel), ws_of (i := 42) (by decide +kernel) (by decide +kernel), ws_of (i := 448) (by decide +kernel) (by decide +kernel), by decide +kernel⟩, ws_of (i := 446) (by decide +kernel) (by decide +kernel), ws_of (i := 447) (by decide +kernel) (by decide +kernel)⟩
theorem k_L_91 : CkV RL 91 yX6_families cX6_families 5 (some .int) 3 := ⟨⟨ws_of (i := 827) (by decide +kernel) (by decide +kernel), ws_of (i := 48) (by decide +kernel) (by decide +kernel), ws_of (i := 830) (by decide +kernel) (by decide +kernel), by decide +kernel⟩, ws_of (i := 828) (by decide +kernel) (by decide +kernel), ws_of (i := 829) (by decide +kernel) (by decide +kernel)⟩
theorem k_L_92 : CkV RL 92 yX5_weight cX5_weight 4 (some .long) 3 := ⟨⟨ws_of (i := 453) (by decide +kernel) (by decide +kernel), ws_of (i := 42) (by decide +kernel) (by decide +kernel), ws_of (i := 456) (by decide +kernel) (by decide +kernel), by decide +kernel⟩, ws_of (i := 454) (by decide +kernel) (by decide +kernel), ws_of (i := 455) (by decide +kernel) (by decide +kernel)⟩
theorem k_L_95 : CkV RL 95 yX6_weight cX6_weight 5 (some .long) 3 := ⟨⟨ws_of (i := 843) (by decide +kernel) (by decide +kernel), ws_of (i := 48) (by decide +kernel) (by decide +kernel), ws_of (i := 846) (by decide +kernel) (by decide +kernel), by decide +kernel⟩, ws_of (i := 844) (by decide +kernel) (by decide +kernel), ws_of (i := 845) (by decide +kernel) (by decide +kernel)⟩
theorem k_L_96 : CkV RL 96 yX5_family cX5_family 10 (some .int) 4 := ⟨⟨ws_of (i := 460) (by decide +kernel) (by decide +kernel), ws_of (i := 42) (by decide +kernel) (by decide +kernel), ws_of (i := 463) (by decide +kernel) (by decide +kernel), by decide +kernel⟩, ws_of (i := 461) (by decide +kernel) (by decide +kernel), ws_of (i := 462) (by decide +kernel) (by decide +kernel)⟩
theorem k_L_99 : CkV RL 99 yX6_family cX6_family 11 (some .int) 4 := ⟨⟨ws_of (i := 847) (by decide +kernel) (by decide +kernel), ws_of (i := 48) (by decide +kernel) (by decide +kernel), ws_of (i := 850) (by decide +kernel) (by decide +kernel), by decide +kernel⟩, ws_of (i := 848) (by decide +kernel) (by decide +kernel), ws_of (i := 849) (by decide +kernel) (by decide +kernel)⟩
theorem k_L_100 : CkV RL 100 yX5_unnet cX5_unnet 1 (some .int) 0 := ⟨⟨ws_of (i := 469) (by decide +kernel) (by decide +kernel), ws_of (i := 42) (by decide +kernel) (by decide +kernel), ws_of (i := 472) (by decide +kernel) (by decide +kernel), by decide +kernel⟩, ws_of (i := 470) (by decide +kernel) (by decide +kernel), ws_of (i := 471) (by decide +kernel) (by decide +kernel)⟩
theorem k_L_103 : CkV RL 103 yX6_unnet cX6_unnet 1 (some .int) 0 := ⟨⟨ws_of (i := 852) (by decide +kernel) (by decide +kernel), ws_of (i := 48) (by decide +kernel) (by decide +kernel), ws_of (i := 855) (by decide +kernel) (by decide +kernel), by decide +kernel⟩, ws_of (i := 853) (by decide +kernel) (by decide +kernel), ws_of (i := 854) (by decide +kernel) (by decide +kernel)⟩
theorem k_L_104 : CkV RL 104 yX5_tell cX5_tell 3 (some .int) 2 := ⟨⟨ws_of (i := 473) (by decide +kernel) (by decide +kernel), ws_of (i := 42) (by decide +kernel) (by decide +kernel), ws_of (i := 476) (by decide +kernel) (by decide +kernel), by decide +kernel⟩, ws_of (i := 474) (by decide +kernel) (by decide +kernel), ws_of (i := 475) (by decide +kernel) (by decide +kernel)⟩
theorem k_L_107 : CkV RL 107 yX6_tell cX6_tell 3 (some .int) 2 := ⟨⟨ws_of (i := 856) (by decide +kernel) (by decide +kernel), ws_of (i := 48) (by decide +kernel) (by decide +kernel), ws_of (i := 859) (by decide +kernel) (by decide +kernel), by decide +kernel⟩, ws_of (i := 857) (by decide +kernel) (by decide +kernel), ws_of (i := 858) (by decide +kernel) (by decide +kernel)⟩
theorem k_L_108 : CkV RL 108 yX5_changes cX5_changes 5 (some .int) 1 := ⟨⟨ws_of (i := 482) (by decide +kernel) (by decide +kernel), ws_of (i := 42) (by decide +kernel) (by decide +kernel), ws_of (i := 485) (by decide +kernel) (by decide +kernel), by decide +kernel⟩, ws_of (i := 483) (by decide +kernel) (by decide +kernel), ws_of (i := 484) (by decide +kernel) (by decide +kernel)⟩
theorem k_L_111 : CkV RL 111 yX6_changes cX6_changes 7 (some .int) 1 := ⟨⟨ws_of (i := 865) (by decide +kernel) (by decide +kernel), ws_of (i := 48) (by decide +kernel) (by decide +kernel), ws_of (i := 868) (by decide +kernel) (by decide +kernel), by decide +kernel⟩, ws_of (i := 866) (by decide +kernel) (by decide +kernel), ws_of (i := 867) (by decide +kernel) (by decide +kernel)⟩
theorem k_L_112 : CkV RL 112 yX5_band cX5_band 6 (some .int) 2 := ⟨⟨ws_of (i := 490) (by decide +kernel) (by decide +kernel), ws_of (i := 42) (by decide +kernel) (by decide +kernel), ws_of (i := 493) (by decide +kernel) (by decide +kernel), by decide +kernel⟩, ws_of (i := 491) (by decide +kernel) (by decide +kernel), ws_of (i := 492) (by decide +kernel) (by decide +kernel)⟩
theorem k_L_115 : CkV RL 115 yX6_band cX6_band 5 (some .int) 2 := ⟨⟨ws_of (i := 873) (by decide +kernel) (by decide +kernel), ws_of (i := 48) (by decide +kernel) (by decide +kernel), ws_of (i := 876) (by decide +kernel) (by decide +kernel), by decide +kernel⟩, ws_of (i := 874) (by decide +kernel) (by decide +kernel), ws_of (i := 875) (by decide +kernel) (by decide +kernel)⟩
theorem k_L_116 : CkV RL 116 yX5_make cX5_make 3 (some .int) 1 := ⟨⟨ws_of (i := 494) (by decide +kernel) (by decide +kernel), ws_of (i := 42) (by decide +kernel) (by decide +kernel), ws_of (i := 497) (by decide +kernel) (by decide +kernel), by decide +kernel⟩, ws_of (i := 495) (by decide +kernel) (by decide +kernel), ws_of (i := 496) (by decide +kernel) (by decide +kernel)⟩
theorem k_L_119 : CkV RL 119 yX6_make cX6_make 6 (some .int) 1 := ⟨⟨ws_of (i := 877) (by decide +kernel) (by decide +kernel), ws_of (i := 48) (by decide +kernel) (by decide +kernel), ws_of (i := 880) (by decide +kernel) (by decide +kernel), by decide +kernel⟩, ws_of (i := 878) (by decide +kernel) (by decide +kernel), ws_of (i := 879) (by decide +kernel) (by decide +kernel)⟩
theorem k_L_120 : CkV RL 120 yX5_making cX5_making 3 (some .long) 2 := ⟨⟨ws_of (i := 545) (by decide +kernel) (by decide +kernel), ws_of (i := 42) (by decide +kernel) (by decide +kernel), ws_of (i := 548) (by decide +kernel) (by decide +kernel), by decide +kernel⟩, ws_of (i := 546) (by decide +kernel) (by decide +kernel), ws_of (i := 547) (by decide +kernel) (by decide +kernel)⟩
theorem k_L_124 : CkV RL 124 yX6_making cX6_making 3 (some .long) 2 := ⟨⟨ws_of (i := 903) (by decide +kernel) (by decide +kernel), ws_of (i := 48) (by decide +kernel) (by decide +kernel), ws_of (i := 906) (by decide +kernel) (by decide +kernel), by decide +kernel⟩, ws_of (i := 904) (by decide +kernel) (by decide +kernel), ws_of (i := 905) (by decide +kernel) (by decide +kernel)⟩
theorem k_L_125 : CkV RL 125 yX5_lay cX5_lay 5 (some .int) 2 := ⟨⟨ws_of (i := 549) (by decide +kernel) (by decide +kernel), ws_of (i := 42) (by decide +kernel) (by decide +kernel), ws_of (i := 552) (by decide +kernel) (by decide +kernel), by decide +kernel⟩, ws_of (i := 550) (by decide +kernel) (by decide +kernel), ws_of (i := 551) (by decide +kernel) (by decide +kernel)⟩
theorem k_L_128 : CkV RL 128 yX6_lay cX6_lay 4 (some .int) 2 := ⟨⟨ws_of (i := 907) (by decide +kernel) (by decide +kernel), ws_of (i := 48) (by decide +kernel) (by decide +kernel), ws_of (i := 910) (by decide +kernel) (by decide +kernel), by decide +kernel⟩, ws_of (i := 908) (by decide +kernel) (by decide +kernel), ws_of (i := 909) (by decide +kernel) (by decide +kernel)⟩
theorem k_L_129 : CkV RL 129 yX5_tear cX5_tear 2 (some .int) 0 := ⟨⟨ws_of (i := 553) (by decide +kernel) (by decide +kernel), ws_of (i := 42) (by decide +kernel) (by decide +kernel), ws_of (i := 556) (by decide +kernel) (by decide +kernel), by decide +kernel⟩, ws_of (i := 554) (by decide +kernel) (by decide +kernel), ws_of (i := 555) (by decide +kernel) (by decide +kernel)⟩
theorem k_L_132 : CkV RL 132 yX6_tear cX6_tear 2 (some .int) 0 := ⟨⟨ws_of (i := 911) (by decide +kernel) (by decide +kernel), ws_of (i := 48) (by decide +kernel) (by decide +kernel), ws_of (i := 914) (by decide +kernel) (by decide +kernel), by decide +kernel⟩, ws_of (i := 912) (by decide +kernel) (by decide +kernel), ws_of (i := 913) (by decide +kernel) (by decide +kernel)⟩
theorem k_L_133 : CkV RL 133 yX5_row cX5_row 2 (some .int) 1 := ⟨⟨ws_of (i := 557) (by decide +kernel) (by decide +kernel), ws_of (i := 42) (by decide +kernel) (by decide +kernel), ws_of (i := 560) (by decide +kernel) (by decide +kernel), by decide +kernel⟩, ws_of (i := 558) (by decide +kernel) (by decide +kernel), ws_of (i := 559) (by decide +kernel) (by decide +kernel)⟩
theorem k_L_136 : CkV RL 136 yX6_row cX6_row 2 (some .int) 1 := ⟨⟨ws_of (i := 915) (by decide +kernel) (by decide +kernel), ws_of (i := 48) (by decide +kernel) (by decide +kernel), ws_of (i := 918) (by decide +kernel) (by decide +kernel), by decide +kernel⟩, ws_of (i := 916) (by decide +kernel) (by decide +kernel), ws_of (i := 917) (by decide +kernel) (by decide +kernel)⟩
theorem k_L_137 : CkV RL 137 yX5_copy cX5_copy 4 (some .int) 3 := ⟨⟨ws_of (i := 561) (by decide +kernel) (by decide +kernel), ws_of (i := 42) (by decide +kernel) (by decide +kernel), ws_of (i := 564) (by decide +kernel) (by decide +kernel), by decide +kernel⟩, ws_of (i := 562) (by decide +kernel) (by decide +kernel), ws_of (i := 563) (by decide +kernel) (by decide +kernel)⟩
theorem k_L_140 : CkV RL 140 yX6_copy cX6_copy 5 (some .int) 3 := ⟨⟨ws_of (i := 919) (by decide +kernel) (by decide +kernel), ws_of (i := 48) (by decide +kernel) (by decide +kernel), ws_of (i := 922) (by decide +kernel) (by decide +kernel), by decide +kernel⟩, ws_of (i := 920) (by decide +kernel) (by decide +kernel), ws_of (i := 921) (by decide +kernel) (by decide +kernel)⟩
theorem k_L_141 : CkV RL 141 yX5_status cX5_status 2 (some .int) 1 := ⟨⟨ws_of (i := 568) (by decide +kernel) (by decide +kernel), ws_of (i := 42) (by decide +kernel) (by decide +kernel), ws_of (i := 571) (by decide +kernel) (by decide +kernel), by decide +kernel⟩, ws_of (i := 569) (by decide +kernel) (by decide +kernel), ws_of (i := 570) (by decide +kernel) (by decide +kernel)⟩
theorem k_L_144 : CkV RL 144 yX6_status cX6_status 2 (some .int) 1 := ⟨⟨ws_of (i := 924) (by decide +kernel) (by decide +kernel), ws_of (i := 48) (by decide +kernel) (by decide +kernel), ws_of (i := 927) (by decide +kernel) (by decide +kernel), by decide +kernel⟩, ws_of (i := 925) (by decide +kernel) (by decide +kernel), ws_of (i := 926) (by decide +kernel) (by decide +kernel)⟩
theorem k_X6_80 : CkV RX6 80 yX6_no cX6_no 2 (some .int) 1 := ⟨⟨ws_of (i := 702) (by decide +kernel) (by decide +kernel), ws_of (i := 48) (by decide +kernel) (by decide +kernel), ws_of (i := 705) (by decide +kernel) (by decide +kernel), by decide +kernel⟩, ws_of (i := 704) (by decide +kernel) (by decide +kernel), ws_of (i := 21) (by decide +kernel) (by decide +kernel)⟩
theorem k_X6_90 : CkS RX6 90 yX6_isIn cX6_isIn 6 (some .boolean) 3 := ⟨⟨ws_of (i := 695) (by decide +kernel) (by decide +kernel), ws_of (i := 48) (by decide +kernel) (by decide +kernel), ws_of (i := 697) (by decide +kernel) (by decide +kernel), by decide +kernel⟩, ws_of (i := 696) (by decide +kernel) (by decide +kernel)⟩
theorem k_X6_94 : CkV RX6 94 yX6_begins cX6_begins 5 (some .int) 3 := ⟨⟨ws_of (i := 698) (by decide +kernel) (by decide +kernel), ws_of (i := 48) (by decide +kernel) (by decide +kernel), ws_of (i := 701) (by decide +kernel) (by decide +kernel), by decide +kernel⟩, ws_of (i := 700) (by decide +kernel) (by decide +kernel), ws_of (i := 20) (by decide +kernel) (by decide +kernel)⟩
theorem k_X6_98 : CkV RX6 98 yX6_isTable cX6_isTable 2 (some .boolean) 1 := ⟨⟨ws_of (i := 714) (by decide +kernel) (by decide +kernel), ws_of (i := 48) (by decide +kernel) (by decide +kernel), ws_of (i := 717) (by decide +kernel) (by decide +kernel), by decide +kernel⟩, ws_of (i := 716) (by decide +kernel) (by decide +kernel), ws_of (i := 23) (by decide +kernel) (by decide +kernel)⟩
theorem k_X6_102 : CkV RX6 102 yX6_isPlace cX6_isPlace 4 (some .boolean) 3 := ⟨⟨ws_of (i := 710) (by decide +kernel) (by decide +kernel), ws_of (i := 48) (by decide +kernel) (by decide +kernel), ws_of (i := 713) (by decide +kernel) (by decide +kernel), by decide +kernel⟩, ws_of (i := 712) (by decide +kernel) (by decide +kernel), ws_of (i := 22) (by decide +kernel) (by decide +kernel)⟩
theorem k_X6_106 : CkV RX6 106 yX6_none cX6_none 3 (some .int) 1 := ⟨⟨ws_of (i := 718) (by decide +kernel) (by decide +kernel), ws_of (i := 48) (by decide +kernel) (by decide +kernel), ws_of (i := 721) (by decide +kernel) (by decide +kernel), by decide +kernel⟩, ws_of (i := 720) (by decide +kernel) (by decide +kernel), ws_of (i := 24) (by decide +kernel) (by decide +kernel)⟩
theorem k_X6_113 : CkS RX6 113 yX6_place cX6_place 3 (some .int) 3 := ⟨⟨ws_of (i := 724) (by decide +kernel) (by decide +kernel), ws_of (i := 48) (by decide +kernel) (by decide +kernel), ws_of (i := 726) (by decide +kernel) (by decide +kernel), by decide +kernel⟩, ws_of (i := 725) (by decide +kernel) (by decide +kernel)⟩
theorem k_X6_116 : CkS RX6 116 yX6_bits cX6_bits 3 (some .int) 1 := ⟨⟨ws_of (i := 738) (by decide +kernel) (by decide +kernel), ws_of (i := 48) (by decide +kernel) (by decide +kernel), ws_of (i := 740) (by decide +kernel) (by decide +kernel), by decide +kernel⟩, ws_of (i := 739) (by decide +kernel) (by decide +kernel)⟩
theorem k_X6_119 : CkS RX6 119 yX6_isSome cX6_isSome 2 (some .boolean) 2 := ⟨⟨ws_of (i := 735) (by decide +kernel) (by decide +kernel), ws_of (i := 48) (by decide +kernel) (by decide +kernel), ws_of (i := 737) (by decide +kernel) (by decide +kernel), by decide +kernel⟩, ws_of (i := 736) (by decide +kernel) (by decide +kernel)⟩
theorem k_X6_123 : CkV RX6 123 yX6_worthOf cX6_worthOf 11 (some .long) 3 := ⟨⟨ws_of (i := 741) (by decide +kernel) (by decide +kernel), ws_of (i := 48) (by decide +kernel) (by decide +kernel), ws_of (i := 744) (by decide +kernel) (by decide +kernel), by decide +kernel⟩, ws_of (i := 743) (by decide +kernel) (by decide +kernel), ws_of (i := 25) (by decide +kernel) (by decide +kernel)⟩
theorem k_X6_142 : CkV RX6 142 yX6_counts cX6_counts 5 none 3 := ⟨⟨ws_of (i := 753) (by decide +kernel) (by decide +kernel), ws_of (i := 48) (by decide +kernel) (by decide +kernel), ws_of (i := 756) (by decide +kernel) (by decide +kernel), by decide +kernel⟩, ws_of (i := 755) (by decide +kernel) (by decide +kernel), ws_of (i := 27) (by decide +kernel) (by decide +kernel)⟩
theorem k_X6_146 : CkS RX6 146 yX6_span cX6_span 2 (some .int) 2 := ⟨⟨ws_of (i := 761) (by decide +kernel) (by decide +kernel), ws_of (i := 48) (by decide +kernel) (by decide +kernel), ws_of (i := 763) (by decide +kernel) (by decide +kernel), by decide +kernel⟩, ws_of (i := 762) (by decide +kernel) (by decide +kernel)⟩
theorem k_X6_150 : CkV RX6 150 yX6_goesThrough cX6_goesThrough 5 none 1 := ⟨⟨ws_of (i := 749) (by decide +kernel) (by decide +kernel), ws_of (i := 48) (by decide +kernel) (by decide +kernel), ws_of (i := 752) (by decide +kernel) (by decide +kernel), by decide +kernel⟩, ws_of (i := 751) (by decide +kernel) (by decide +kernel), ws_of (i := 26) (by decide +kernel) (by decide +kernel)⟩
theorem k_X6_154 : CkV RX6 154 yX6_looks cX6_looks 7 (some .int) 2 := ⟨⟨ws_of (i := 757) (by decide +kernel) (by decide +kernel), ws_of (i := 48) (by decide +kernel) (by decide +kernel), ws_of (i := 760) (by decide +kernel) (by decide +kernel), by decide +kernel⟩, ws_of (i := 759) (by decide +kernel) (by decide +kernel), ws_of (i := 28) (by decide +kernel) (by decide +kernel)⟩
theorem k_X6_160 : CkV RX6 160 yX6_comes cX6_comes 7 (some .int) 3 := ⟨⟨ws_of (i := 781) (by decide +kernel) (by decide +kernel), ws_of (i := 48) (by decide +kernel) (by decide +kernel), ws_of (i := 784) (by decide +kernel) (by decide +kernel), by decide +kernel⟩, ws_of (i := 783) (by decide +kernel) (by decide +kernel), ws_of (i := 29) (by decide +kernel) (by decide +kernel)⟩
theorem k_X6_163 : CkV RX6 163 yX6_areAlike cX6_areAlike 3 (some .boolean) 2 := ⟨⟨ws_of (i := 789) (by decide +kernel) (by decide +kernel), ws_of (i := 48) (by decide +kernel) (by decide +kernel), ws_of (i := 792) (by decide +kernel) (by decide +kernel), by decide +kernel⟩, ws_of (i := 791) (by decide +kernel) (by decide +kernel), ws_of (i := 30) (by decide +kernel) (by decide +kernel)⟩
theorem k_X6_171 : CkV RX6 171 yX6_isNet cX6_isNet 2 (some .boolean) 1 := ⟨⟨ws_of (i := 814) (by decide +kernel) (by decide +kernel), ws_of (i := 48) (by decide +kernel) (by decide +kernel), ws_of (i := 817) (by decide +kernel) (by decide +kernel), by decide +kernel⟩, ws_of (i := 816) (by decide +kernel) (by decide +kernel), ws_of (i := 31) (by decide +kernel) (by decide +kernel)⟩
theorem k_X6_176 : CkV RX6 176 yX6_over cX6_over 5 (some .int) 2 := ⟨⟨ws_of (i := 839) (by decide +kernel) (by decide +kernel), ws_of (i := 48) (by decide +kernel) (by decide +kernel), ws_of (i := 842) (by decide +kernel) (by decide +kernel), by decide +kernel⟩, ws_of (i := 841) (by decide +kernel) (by decide +kernel), ws_of (i := 34) (by decide +kernel) (by decide +kernel)⟩
theorem k_X6_179 : CkV RX6 179 yX6_whyNot cX6_whyNot 4 (some .int) 3 := ⟨⟨ws_of (i := 831) (by decide +kernel) (by decide +kernel), ws_of (i := 48) (by decide +kernel) (by decide +kernel), ws_of (i := 834) (by decide +kernel) (by decide +kernel), by decide +kernel⟩, ws_of (i := 833) (by decide +kernel) (by decide +kernel), ws_of (i := 32) (by decide +kernel) (by decide +kernel)⟩
theorem k_X6_182 : CkV RX6 182 yX6_finds cX6_finds 10 none 2 := ⟨⟨ws_of (i := 835) (by decide +kernel) (by decide +kernel), ws_of (i := 48) (by decide +kernel) (by decide +kernel), ws_of (i := 838) (by decide +kernel) (by decide +kernel), by decide +kernel⟩, ws_of (i := 837) (by decide +kernel) (by decide +kernel), ws_of (i := 33) (by decide +kernel) (by decide +kernel)⟩
theorem k_X6_193 : CkV RX6 193 yX6_isTold cX6_isTold 2 none 0 := ⟨⟨ws_of (i := 861) (by decide +kernel) (by decide +kernel), ws_of (i := 48) (by decide +kernel) (by decide +kernel), ws_of (i := 864) (by decide +kernel) (by decide +kernel), by decide +kernel⟩, ws_of (i := 863) (by decide +kernel) (by decide +kernel), ws_of (i := 35) (by decide +kernel) (by decide +kernel)⟩
theorem k_X6_202 : CkV RX6 202 yX6_meets cX6_meets 4 none 1 := ⟨⟨ws_of (i := 869) (by decide +kernel) (by decide +kernel), ws_of (i := 48) (by decide +kernel) (by decide +kernel), ws_of (i := 872) (by decide +kernel) (by decide +kernel), by decide +kernel⟩, ws_of (i := 871) (by decide +kernel) (by decide +kernel), ws_of (i := 36) (by decide +kernel) (by decide +kernel)⟩
theorem k_X6_206 : CkS RX6 206 yX6_divisor cX6_divisor 10 (some .long) 2 := ⟨⟨ws_of (i := 896) (by decide +kernel) (by decide +kernel), ws_of (i := 48) (by decide +kernel) (by decide +kernel), ws_of (i := 898) (by decide +kernel) (by decide +kernel), by decide +kernel⟩, ws_of (i := 897) (by decide +kernel) (by decide +kernel)⟩
theorem k_X6_217 : CkV RX6 217 yX6_fraction cX6_fraction 7 none 2 := ⟨⟨ws_of (i := 892) (by decide +kernel) (by decide +kernel), ws_of (i := 48) (by decide +kernel) (by decide +kernel), ws_of (i := 895) (by decide +kernel) (by decide +kernel), by decide +kernel⟩, ws_of (i := 894) (by decide +kernel) (by decide +kernel), ws_of (i := 39) (by decide +kernel) (by decide +kernel)⟩
theorem k_X6_227 : CkS RX6 227 yX6_cell cX6_cell 3 (some .int) 3 := ⟨⟨ws_of (i := 885) (by decide +kernel) (by decide +kernel), ws_of (i := 48) (by decide +kernel) (by decide +kernel), ws_of (i := 887) (by decide +kernel) (by decide +kernel), by decide +kernel⟩, ws_of (i := 886) (by decide +kernel) (by decide +kernel)⟩
theorem k_X6_231 : CkV RX6 231 yX6_times cX6_times 13 none 4 := ⟨⟨ws_of (i := 888) (by decide +kernel) (by decide +kernel), ws_of (i := 48) (by decide +kernel) (by decide +kernel), ws_of (i := 891) (by decide +kernel) (by decide +kernel), by decide +kernel⟩, ws_of (i := 890) (by decide +kernel) (by decide +kernel), ws_of (i := 38) (by decide +kernel) (by decide +kernel)⟩
theorem k_X6_235 : CkV RX6 235 yX6_shares cX6_shares 7 none 4 := ⟨⟨ws_of (i := 899) (by decide +kernel) (by decide +kernel), ws_of (i := 48) (by decide +kernel) (by decide +kernel), ws_of (i := 902) (by decide +kernel) (by decide +kernel), by decide +kernel⟩, ws_of (i := 901) (by decide +kernel) (by decide +kernel), ws_of (i := 40) (by decide +kernel) (by decide +kernel)⟩
theorem k_X6_238 : CkV RX6 238 yX6_clears cX6_clears 18 none 4 := ⟨⟨ws_of (i := 881) (by decide +kernel) (by decide +kernel), ws_of (i := 48) (by decide +kernel) (by decide +kernel), ws_of (i := 884) (by decide +kernel) (by decide +kernel), by decide +kernel⟩, ws_of (i := 883) (by decide +kernel) (by decide +kernel), ws_of (i := 37) (by decide +kernel) (by decide +kernel)⟩
theorem kc_X5_194 : Cond.constant RX5 194 1048575 ∈ WS := ws_of (i := 464) (by decide +kernel) (by decide +kernel)
theorem kc_X6_186 : Cond.constant RX6 186 1048575 ∈ WS := ws_of (i := 851) (by decide +kernel) (by decide +kernel)
theorem kc_J6_265 : Cond.constant RJ6 265 1431655765 ∈ WS := ws_of (i := 298) (by decide +kernel) (by decide +kernel)
theorem kc_J6_266 : Cond.constant RJ6 266 858993459 ∈ WS := ws_of (i := 299) (by decide +kernel) (by decide +kernel)
theorem kc_J6_267 : Cond.constant RJ6 267 252645135 ∈ WS := ws_of (i := 300) (by decide +kernel) (by decide +kernel)
theorem kc_X5_241 : Cond.constantLong RX5 241 (-1000) ∈ WS := ws_of (i := 268) (by decide +kernel) (by decide +kernel)
theorem kc_X5_243 : Cond.constantLong RX5 243 1000 ∈ WS := ws_of (i := 269) (by decide +kernel) (by decide +kernel)
theorem kc_X6_88 : Cond.constantLong RX6 88 5 ∈ WS := ws_of (i := 694) (by decide +kernel) (by decide +kernel)
theorem kc_X6_109 : Cond.constantLong RX6 109 (-1000) ∈ WS := ws_of (i := 722) (by decide +kernel) (by decide +kernel)
theorem kc_X6_111 : Cond.constantLong RX6 111 1000 ∈ WS := ws_of (i := 723) (by decide +kernel) (by decide +kernel)
theorem kc_X6_158 : Cond.constantLong RX6 158 (-1) ∈ WS := ws_of (i := 776) (by decide +kernel) (by decide +kernel)
theorem kc_X6_166 : Cond.constantLong RX6 166 2 ∈ WS := ws_of (i := 801) (by decide +kernel) (by decide +kernel)
theorem kc_X6_174 : Cond.constantLong RX6 174 9 ∈ WS := ws_of (i := 818) (by decide +kernel) (by decide +kernel)
theorem kc_X6_191 : Cond.constantLong RX6 191 15 ∈ WS := ws_of (i := 860) (by decide +kernel) (by decide +kernel)
theorem kc_X6_242 : Cond.constantLong RX6 242 16 ∈ WS := ws_of (i := 923) (by decide +kernel) (by decide +kernel)
theorem kc_X6_244 : Cond.constantLong RX6 244 (-8) ∈ WS := ws_of (i := 928) (by decide +kernel) (by decide +kernel)
theorem kc_X6_246 : Cond.constantLong RX6 246 (-2) ∈ WS := ws_of (i := 929) (by decide +kernel) (by decide +kernel)
end
section
/-! further rows: truth values, numbers that are Nats, long compares, a copy -/
def bI (p : Prop) [Decidable p] : Int32 := if p then 1 else 0
theorem bI_eq0 {p : Prop} [Decidable p] : bI p = 0 ↔ ¬ p := by
  unfold bI
  split <;> simp_all
theorem bI_nar {p : Prop} [Decidable p] : narrow .boolean (.int (bI p)) = .int (bI p) := by
  unfold bI
  split <;> rfl
theorem bI_t {p : Prop} [Decidable p] (h : p) : bI p = 1 := if_pos h
theorem bI_f {p : Prop} [Decidable p] (h : ¬ p) : bI p = 0 := if_neg h
theorem nI_pos_ne {n : Nat} (h : n < 2 ^ 31) : nI n = 0 ↔ n = 0 := nI_eq h (by decide) (b := 0)
theorem nI_0lt {n : Nat} (h : n < 2 ^ 31) : 0 < nI n ↔ 0 < n := nI_ltI (a := 0) (by decide) h
theorem nI_le0 {n : Nat} (h : n < 2 ^ 31) : nI n ≤ 0 ↔ n = 0 := by
  have := nI_leI (b := 0) h (by decide)
  exact this.trans Nat.le_zero
/-- an index within, as a number -/
theorem ix_of {x : Int32} {n : Nat} (h1 : 0 ≤ x) (h2 : x < nI n) (hn : n < 2 ^ 31) : ∃ j : Nat, j < n ∧ x = nI j := by
  obtain ⟨j, hj, rfl⟩ := nI_of (Int32.not_lt.mpr h1)
  exact ⟨j, (nI_ltI hj hn).mp h2, rfl⟩
theorem ix_of' {x : Int32} {n : Nat} (h1 : 0 ≤ x) (h2 : x ≤ nI n) (hn : n < 2 ^ 31) : ∃ j : Nat, j ≤ n ∧ x = nI j := by
  obtain ⟨j, hj, rfl⟩ := nI_of (Int32.not_lt.mpr h1)
  exact ⟨j, (nI_leI hj hn).mp h2, rfl⟩
def rowI (I : TI) (k j : Nat) (f : Nat → Int32) : TI := fun k' j' => if k' = k ∧ j' = j then f else I k' j'
def rowL (L : TL) (k j : Nat) (f : Nat → Int64) : TL := fun k' j' => if k' = k ∧ j' = j then f else L k' j'
theorem rowI_row (I : TI) (k j : Nat) (f : Nat → Int32) : rowI I k j f k j = f := by simp [rowI]
theorem rowI_off (I : TI) (k j : Nat) (f : Nat → Int32) {k' j' : Nat} (h : (k', j') ≠ (k, j)) : rowI I k j f k' j' = I k' j' := by
  unfold rowI
  rw [if_neg]
  rintro ⟨rfl, rfl⟩
  exact h rfl
theorem rowL_row (L : TL) (k j : Nat) (f : Nat → Int64) : rowL L k j f k j = f := by simp [rowL]
theorem rowL_off (L : TL) (k j : Nat) (f : Nat → Int64) {k' j' : Nat} (h : (k', j') ≠ (k, j)) : rowL L k j f k' j' = L k' j' := by
  unfold rowL
  rw [if_neg]
  rintro ⟨rfl, rfl⟩
  exact h rfl
theorem rowI_self (I : TI) (k j : Nat) : rowI I k j (I k j) = I := by
  funext k' j'
  unfold rowI
  split
  next h => rw [h.1, h.2]
  next => rfl
theorem rowL_self (L : TL) (k j : Nat) : rowL L k j (L k j) = L := by
  funext k' j'
  unfold rowL
  split
  next h => rw [h.1, h.2]
  next => rfl
theorem rowI_rowI (I : TI) (k j : Nat) (f g : Nat → Int32) : rowI (rowI I k j f) k j g = rowI I k j g := by
  funext k' j'
  unfold rowI
  split <;> rfl
theorem rowL_rowL (L : TL) (k j : Nat) (f g : Nat → Int64) : rowL (rowL L k j f) k j g = rowL L k j g := by
  funext k' j'
  unfold rowL
  split <;> rfl
theorem upI_rowI (I : TI) (k j x : Nat) (v : Int32) : upI I k j x v = rowI I k j (upd (I k j) x v) := by
  funext k' j' x'
  unfold upI rowI
  by_cases h : k' = k ∧ j' = j
  · obtain ⟨rfl, rfl⟩ := h
    simp [upd]
  · rw [if_neg h, if_neg (fun q => h ⟨q.1, q.2.1⟩)]
theorem upL_rowL (L : TL) (k j x : Nat) (v : Int64) : upL L k j x v = rowL L k j (vp_updL (L k j) x v) := by
  funext k' j' x'
  unfold upL rowL
  by_cases h : k' = k ∧ j' = j
  · obtain ⟨rfl, rfl⟩ := h
    simp [vp_updL]
  · rw [if_neg h, if_neg (fun q => h ⟨q.1, q.2.1⟩)]
theorem an_and (a b : Nat) : nI a &&& nI b = nI (a &&& b) := by
  apply Int32.toBitVec_inj.mp
  show (nI a).toBitVec &&& (nI b).toBitVec = (nI (a &&& b)).toBitVec
  apply BitVec.eq_of_toNat_eq
  simp [nI, Nat.and_mod_two_pow]
theorem an_or (a b : Nat) : nI a ||| nI b = nI (a ||| b) := by
  apply Int32.toBitVec_inj.mp
  show (nI a).toBitVec ||| (nI b).toBitVec = (nI (a ||| b)).toBitVec
  apply BitVec.eq_of_toNat_eq
  simp [nI, Nat.or_mod_two_pow]
theorem an_xor (a b : Nat) : nI a ^^^ nI b = nI (a ^^^ b) := by
  apply Int32.toBitVec_inj.mp
  show (nI a).toBitVec ^^^ (nI b).toBitVec = (nI (a ^^^ b)).toBitVec
  apply BitVec.eq_of_toNat_eq
  simp [nI, Nat.xor_mod_two_pow]
theorem sh_amt : ∀ n, n < 32 → ((nI n &&& 31).toBitVec.smod 32).toNat = n := by decide +kernel
theorem sh_l {n k : Nat} (hk : k < 31) (h : n * 2 ^ k < 2 ^ 31) : nI n <<< (nI k &&& 31) = nI (n * 2 ^ k) := pk_shlN _ k (sh_amt k (by omega)) (by omega)
theorem sh_one {k : Nat} (hk : k < 31) : nI 1 <<< (nI k &&& 31) = nI (2 ^ k) := by
  have h : 2 ^ k < 2 ^ 31 := Nat.pow_lt_pow_right (by decide) hk
  have e := sh_l (n := 1) hk (by omega)
  rwa [Nat.one_mul] at e
theorem sh_r {n k : Nat} (hn : n < 2 ^ 31) (hk : k < 32) : nI n >>> (nI k &&& 31) = nI (n / 2 ^ k) := pk_shrN hn _ k (sh_amt k hk)
theorem nI_dec {n : Nat} (h : 0 < n) : nI n + Int32.ofInt (-1) = nI (n - 1) := by
  obtain ⟨m, rfl⟩ : ∃ m, n = m + 1 := ⟨n - 1, by omega⟩
  exact pk_m1 m
theorem retT {p : Prop} [Decidable p] (h : p) : some (Value.int (nI 1)) = some (.int (bI p)) := by rw [bI_t h]; rfl
theorem retF {p : Prop} [Decidable p] (h : ¬ p) : some (Value.int (nI 0)) = some (.int (bI p)) := by rw [bI_f h]; rfl
def isT (c : Nat) (x : Int32) : Prop := ∃ t, t < c ∧ x = nI t
theorem isT_of {x : Int32} {c : Nat} (hc : c < 2 ^ 31) (h1 : ¬ x < 0) (h2 : ¬ nI c ≤ x) : isT c x := ix_of (Int32.not_lt.mp h1) (Int32.not_le.mp h2) hc
theorem isT_neg {x : Int32} {c : Nat} (hc : c < 2 ^ 31) (h : x < 0) : ¬ isT c x := fun ⟨t, h1, h2⟩ => nI_pos (n := t) (by omega) (h2 ▸ h)
theorem isT_big {x : Int32} {c : Nat} (hc : c < 2 ^ 31) (h : nI c ≤ x) : ¬ isT c x := fun ⟨t, h1, h2⟩ => by
  rw [h2] at h
  have := (nI_leI hc (by omega)).mp h
  omega
section VM
variable {a : VA} {own : String} {cc : ByteArray} {rm : Room} {nL : Nat} {pc : Nat} {lv : List (Nat × Value)} {st : List Value} {I : TI} {L : TL}
theorem v_ifb_eq (X : VOk a own cc rm nL) {p : Prop} [Decidable p] {off : Int} {tgt : Nat} (hd : decode cc pc = .ok (.ifCond .eq off, 3)) (ht : (pc : Int) + off = (tgt : Int)) (kt : ¬ p → V a tgt lv st I L) (kf : p → V a (pc + 3) lv st I L) : V a pc lv (.int (bI p) :: st) I L :=
  v_if_eq X hd ht (fun h => kt (bI_eq0.mp h)) (fun h => kf (Decidable.not_not.mp fun q => h (bI_eq0.mpr q)))
theorem v_ifb_ne (X : VOk a own cc rm nL) {p : Prop} [Decidable p] {off : Int} {tgt : Nat} (hd : decode cc pc = .ok (.ifCond .ne off, 3)) (ht : (pc : Int) + off = (tgt : Int)) (kt : p → V a tgt lv st I L) (kf : ¬ p → V a (pc + 3) lv st I L) : V a pc lv (.int (bI p) :: st) I L :=
  v_if_ne X hd ht (fun h => kt (Decidable.not_not.mp fun q => h (bI_eq0.mpr q))) (fun h => kf (bI_eq0.mp h))
theorem v_icmp_lt_n (X : VOk a own cc rm nL) {x y : Nat} (ha : x < 2 ^ 31) (hb : y < 2 ^ 31) {off : Int} {tgt : Nat} (hd : decode cc pc = .ok (.if_icmp .lt off, 3)) (ht : (pc : Int) + off = (tgt : Int)) (kt : x < y → V a tgt lv st I L) (kf : y ≤ x → V a (pc + 3) lv st I L) : V a pc lv (.int (nI y) :: .int (nI x) :: st) I L := v_icmp_lt X hd ht (fun h => kt ((nI_ltI ha hb).mp h)) (fun h => kf (Nat.le_of_not_lt fun q => h ((nI_ltI ha hb).mpr q)))
theorem v_icmp_ge_n (X : VOk a own cc rm nL) {x y : Nat} (ha : x < 2 ^ 31) (hb : y < 2 ^ 31) {off : Int} {tgt : Nat} (hd : decode cc pc = .ok (.if_icmp .ge off, 3)) (ht : (pc : Int) + off = (tgt : Int)) (kt : y ≤ x → V a tgt lv st I L) (kf : x < y → V a (pc + 3) lv st I L) : V a pc lv (.int (nI y) :: .int (nI x) :: st) I L := v_icmp_ge X hd ht (fun h => kt ((nI_leI hb ha).mp h)) (fun h => kf (Nat.lt_of_not_le fun q => h ((nI_leI hb ha).mpr q)))
theorem v_icmp_gt_n (X : VOk a own cc rm nL) {x y : Nat} (ha : x < 2 ^ 31) (hb : y < 2 ^ 31) {off : Int} {tgt : Nat} (hd : decode cc pc = .ok (.if_icmp .gt off, 3)) (ht : (pc : Int) + off = (tgt : Int)) (kt : y < x → V a tgt lv st I L) (kf : x ≤ y → V a (pc + 3) lv st I L) : V a pc lv (.int (nI y) :: .int (nI x) :: st) I L := v_icmp_gt X hd ht (fun h => kt ((nI_ltI hb ha).mp h)) (fun h => kf (Nat.le_of_not_lt fun q => h ((nI_ltI hb ha).mpr q)))
theorem v_icmp_le_n (X : VOk a own cc rm nL) {x y : Nat} (ha : x < 2 ^ 31) (hb : y < 2 ^ 31) {off : Int} {tgt : Nat} (hd : decode cc pc = .ok (.if_icmp .le off, 3)) (ht : (pc : Int) + off = (tgt : Int)) (kt : x ≤ y → V a tgt lv st I L) (kf : y < x → V a (pc + 3) lv st I L) : V a pc lv (.int (nI y) :: .int (nI x) :: st) I L := v_icmp_le X hd ht (fun h => kt ((nI_leI ha hb).mp h)) (fun h => kf (Nat.lt_of_not_le fun q => h ((nI_leI ha hb).mpr q)))
theorem v_icmp_eq_n (X : VOk a own cc rm nL) {x y : Nat} (ha : x < 2 ^ 31) (hb : y < 2 ^ 31) {off : Int} {tgt : Nat} (hd : decode cc pc = .ok (.if_icmp .eq off, 3)) (ht : (pc : Int) + off = (tgt : Int)) (kt : x = y → V a tgt lv st I L) (kf : x ≠ y → V a (pc + 3) lv st I L) : V a pc lv (.int (nI y) :: .int (nI x) :: st) I L := v_icmp_eq X hd ht (fun h => kt ((nI_eq ha hb).mp h)) (fun h => kf (fun q => h ((nI_eq ha hb).mpr q)))
theorem v_icmp_ne_n (X : VOk a own cc rm nL) {x y : Nat} (ha : x < 2 ^ 31) (hb : y < 2 ^ 31) {off : Int} {tgt : Nat} (hd : decode cc pc = .ok (.if_icmp .ne off, 3)) (ht : (pc : Int) + off = (tgt : Int)) (kt : x ≠ y → V a tgt lv st I L) (kf : x = y → V a (pc + 3) lv st I L) : V a pc lv (.int (nI y) :: .int (nI x) :: st) I L := v_icmp_ne X hd ht (fun h => kt (fun q => h ((nI_eq ha hb).mpr q))) (fun h => kf ((nI_eq ha hb).mp h))
theorem v_if_eq_n (X : VOk a own cc rm nL) {x : Nat} (ha : x < 2 ^ 31) {off : Int} {tgt : Nat} (hd : decode cc pc = .ok (.ifCond .eq off, 3)) (ht : (pc : Int) + off = (tgt : Int)) (kt : x = 0 → V a tgt lv st I L) (kf : 0 < x → V a (pc + 3) lv st I L) : V a pc lv (.int (nI x) :: st) I L := v_if_eq X hd ht (fun h => kt ((nI_pos_ne ha).mp h)) (fun h => kf (Nat.pos_of_ne_zero fun q => h ((nI_pos_ne ha).mpr q)))
theorem v_if_ne_n (X : VOk a own cc rm nL) {x : Nat} (ha : x < 2 ^ 31) {off : Int} {tgt : Nat} (hd : decode cc pc = .ok (.ifCond .ne off, 3)) (ht : (pc : Int) + off = (tgt : Int)) (kt : 0 < x → V a tgt lv st I L) (kf : x = 0 → V a (pc + 3) lv st I L) : V a pc lv (.int (nI x) :: st) I L := v_if_ne X hd ht (fun h => kt (Nat.pos_of_ne_zero fun q => h ((nI_pos_ne ha).mpr q))) (fun h => kf ((nI_pos_ne ha).mp h))
theorem v_if_gt_n (X : VOk a own cc rm nL) {x : Nat} (ha : x < 2 ^ 31) {off : Int} {tgt : Nat} (hd : decode cc pc = .ok (.ifCond .gt off, 3)) (ht : (pc : Int) + off = (tgt : Int)) (kt : 0 < x → V a tgt lv st I L) (kf : x = 0 → V a (pc + 3) lv st I L) : V a pc lv (.int (nI x) :: st) I L := v_if_gt X hd ht (fun h => kt ((nI_0lt ha).mp h)) (fun h => kf (Nat.le_zero.mp (Nat.le_of_not_lt fun q => h ((nI_0lt ha).mpr q))))
theorem v_if_le_n (X : VOk a own cc rm nL) {x : Nat} (ha : x < 2 ^ 31) {off : Int} {tgt : Nat} (hd : decode cc pc = .ok (.ifCond .le off, 3)) (ht : (pc : Int) + off = (tgt : Int)) (kt : x = 0 → V a tgt lv st I L) (kf : 0 < x → V a (pc + 3) lv st I L) : V a pc lv (.int (nI x) :: st) I L := v_if_le X hd ht (fun h => kt ((nI_le0 ha).mp h)) (fun h => kf (Nat.pos_of_ne_zero fun q => h ((nI_le0 ha).mpr q)))
theorem v_if_lt_n (X : VOk a own cc rm nL) {x : Nat} (ha : x < 2 ^ 31) {off : Int} {tgt : Nat} (hd : decode cc pc = .ok (.ifCond .lt off, 3)) (ht : (pc : Int) + off = (tgt : Int)) (kf : V a (pc + 3) lv st I L) : V a pc lv (.int (nI x) :: st) I L := v_if_lt X hd ht (fun h => absurd h (nI_pos ha)) (fun _ => kf)
theorem v_if_ge_n (X : VOk a own cc rm nL) {x : Nat} (ha : x < 2 ^ 31) {off : Int} {tgt : Nat} (hd : decode cc pc = .ok (.ifCond .ge off, 3)) (ht : (pc : Int) + off = (tgt : Int)) (kt : V a tgt lv st I L) : V a pc lv (.int (nI x) :: st) I L := v_if_ge X hd ht (fun _ => kt) (fun h => absurd (nI_pos' ha) h)
theorem v_lcmp_lt (X : VOk a own cc rm nL) {x y : Int64} {off : Int} {tgt : Nat} (h1 : decode cc pc = .ok (.lcmp, 1)) (hd : decode cc (pc + 1) = .ok (.ifCond .lt off, 3)) (ht : ((pc + 1 : Nat) : Int) + off = (tgt : Int)) (kt : x < y → V a tgt lv st I L) (kf : ¬ x < y → V a (pc + 1 + 3) lv st I L) : V a pc lv (.long y :: .long x :: st) I L := v_lcmp X h1 (v_if_lt X hd ht (fun h => kt ((lg_cmp_lt x y).mp h)) (fun h => kf (fun q => h ((lg_cmp_lt x y).mpr q))))
theorem v_lcmp_ge (X : VOk a own cc rm nL) {x y : Int64} {off : Int} {tgt : Nat} (h1 : decode cc pc = .ok (.lcmp, 1)) (hd : decode cc (pc + 1) = .ok (.ifCond .ge off, 3)) (ht : ((pc + 1 : Nat) : Int) + off = (tgt : Int)) (kt : y ≤ x → V a tgt lv st I L) (kf : ¬ y ≤ x → V a (pc + 1 + 3) lv st I L) : V a pc lv (.long y :: .long x :: st) I L := v_lcmp X h1 (v_if_ge X hd ht (fun h => kt ((lg_cmp_ge x y).mp h)) (fun h => kf (fun q => h ((lg_cmp_ge x y).mpr q))))
theorem v_lcmp_gt (X : VOk a own cc rm nL) {x y : Int64} {off : Int} {tgt : Nat} (h1 : decode cc pc = .ok (.lcmp, 1)) (hd : decode cc (pc + 1) = .ok (.ifCond .gt off, 3)) (ht : ((pc + 1 : Nat) : Int) + off = (tgt : Int)) (kt : y < x → V a tgt lv st I L) (kf : ¬ y < x → V a (pc + 1 + 3) lv st I L) : V a pc lv (.long y :: .long x :: st) I L := v_lcmp X h1 (v_if_gt X hd ht (fun h => kt ((lg_cmp_gt x y).mp h)) (fun h => kf (fun q => h ((lg_cmp_gt x y).mpr q))))
theorem v_lcmp_le (X : VOk a own cc rm nL) {x y : Int64} {off : Int} {tgt : Nat} (h1 : decode cc pc = .ok (.lcmp, 1)) (hd : decode cc (pc + 1) = .ok (.ifCond .le off, 3)) (ht : ((pc + 1 : Nat) : Int) + off = (tgt : Int)) (kt : x ≤ y → V a tgt lv st I L) (kf : ¬ x ≤ y → V a (pc + 1 + 3) lv st I L) : V a pc lv (.long y :: .long x :: st) I L := v_lcmp X h1 (v_if_le X hd ht (fun h => kt ((lg_cmp_le x y).mp h)) (fun h => kf (fun q => h ((lg_cmp_le x y).mpr q))))
theorem v_lcmp_eq (X : VOk a own cc rm nL) {x y : Int64} {off : Int} {tgt : Nat} (h1 : decode cc pc = .ok (.lcmp, 1)) (hd : decode cc (pc + 1) = .ok (.ifCond .eq off, 3)) (ht : ((pc + 1 : Nat) : Int) + off = (tgt : Int)) (kt : x = y → V a tgt lv st I L) (kf : ¬ x = y → V a (pc + 1 + 3) lv st I L) : V a pc lv (.long y :: .long x :: st) I L := v_lcmp X h1 (v_if_eq X hd ht (fun h => kt ((lg_cmp_eq x y).mp h)) (fun h => kf (fun q => h ((lg_cmp_eq x y).mpr q))))
theorem v_lcmp_ne (X : VOk a own cc rm nL) {x y : Int64} {off : Int} {tgt : Nat} (h1 : decode cc pc = .ok (.lcmp, 1)) (hd : decode cc (pc + 1) = .ok (.ifCond .ne off, 3)) (ht : ((pc + 1 : Nat) : Int) + off = (tgt : Int)) (kt : ¬ x = y → V a tgt lv st I L) (kf : x = y → V a (pc + 1 + 3) lv st I L) : V a pc lv (.long y :: .long x :: st) I L := v_lcmp X h1 (v_if_ne X hd ht (fun h => kt (fun q => h ((lg_cmp_eq x y).mpr q))) (fun h => kf ((lg_cmp_eq x y).mp h)))
theorem v_st {st' : List Value} (h : st = st') (k : V a pc lv st' I L) : V a pc lv st I L := h ▸ k
theorem v_iald_n (X : VOk a own cc rm nL) {k j n : Nat} (hdom : (k, j) ∈ DL) (hce : ∀ f g, cef (vE a) k j f g = .inl (eC (vE a) 0, n, .inl f)) {i : Nat} (hi : i < n) (hn : n < 2 ^ 31) (hd : decode cc pc = .ok (.iaload, 1)) (kk : V a (pc + 1) lv (.int (I k j i) :: st) I L) : V a pc lv (.int (nI i) :: .ref (eA (vE a) k j) :: st) I L :=
  v_iald X hdom hce (vp_in_nI hi hn) hd (by rw [nI_clamp (by omega)]; exact kk)
theorem v_lald_n (X : VOk a own cc rm nL) {k j n : Nat} (hdom : (k, j) ∈ DL) (hce : ∀ f g, cef (vE a) k j f g = .inl (eC (vE a) 1, n, .inr (.inl g))) {i : Nat} (hi : i < n) (hn : n < 2 ^ 31) (hd : decode cc pc = .ok (.laload, 1)) (kk : V a (pc + 1) lv (.long (L k j i) :: st) I L) : V a pc lv (.int (nI i) :: .ref (eA (vE a) k j) :: st) I L :=
  v_lald X hdom hce (vp_in_nI hi hn) hd (by rw [nI_clamp (by omega)]; exact kk)
theorem v_iast_n (X : VOk a own cc rm nL) {k j n : Nat} (hdom : (k, j) ∈ DL) (hce : ∀ f g, cef (vE a) k j f g = .inl (eC (vE a) 0, n, .inl f)) {i : Nat} {x : Int32} (hi : i < n) (hn : n < 2 ^ 31) (hd : decode cc pc = .ok (.iastore, 1)) (kk : V a (pc + 1) lv st (upI I k j i x) L) : V a pc lv (.int x :: .int (nI i) :: .ref (eA (vE a) k j) :: st) I L :=
  v_iast X hdom hce (vp_in_nI hi hn) hd (by rw [nI_clamp (by omega)]; exact kk)
theorem v_last_n (X : VOk a own cc rm nL) {k j n : Nat} (hdom : (k, j) ∈ DL) (hce : ∀ f g, cef (vE a) k j f g = .inl (eC (vE a) 1, n, .inr (.inl g))) {i : Nat} {x : Int64} (hi : i < n) (hn : n < 2 ^ 31) (hd : decode cc pc = .ok (.lastore, 1)) (kk : V a (pc + 1) lv st I (upL L k j i x)) : V a pc lv (.long x :: .int (nI i) :: .ref (eA (vE a) k j) :: st) I L :=
  v_last X hdom hce (vp_in_nI hi hn) hd (by rw [nI_clamp (by omega)]; exact kk)
theorem v_aaldG_n (X : VOk a own cc rm nL) {i : Nat} (hi : i < 12) (hd : decode cc pc = .ok (.aaload, 1)) (kk : V a (pc + 1) lv (.ref (eA (vE a) 2 i) :: st) I L) : V a pc lv (.int (nI i) :: .ref (eA (vE a) 1 0) :: st) I L :=
  v_aaldG X (vp_in_nI hi (by decide)) hd (by rw [nI_clamp (by omega)]; exact kk)
theorem v_aaldW_n (X : VOk a own cc rm nL) {i : Nat} (hi : i < 4) (hd : decode cc pc = .ok (.aaload, 1)) (kk : V a (pc + 1) lv (.ref (eA (vE a) 5 i) :: st) I L) : V a pc lv (.int (nI i) :: .ref (eA (vE a) 4 0) :: st) I L :=
  v_aaldW X (vp_in_nI hi (by decide)) hd (by rw [nI_clamp (by omega)]; exact kk)
theorem v_min (X : VOk a own cc rm nL) {index : Nat} {x y : Int32} (h1 : Cond.methodLink own index Lib.Math.min.name ∈ WS) (h2 : Cond.static Lib.Math.min.name ∈ WS) (h3 : Cond.initialized "java/lang/Math" ∈ WS) (h4 : Cond.code Lib.Math.min.name Lib.Math.min.code 2 (some .int) ∈ WS) (hf : 1 ≤ rm.frames) (hlo : (st.map fun v => v.category).sum + 13 ≤ rm.locals) (hd : decode cc pc = .ok (.invokestatic index, 3)) (kk : V a (pc + 3) lv (.int (if y < x then y else x) :: st) I L) : V a pc lv (.int y :: .int x :: st) I L := by
  intro H locs ls hl hP hS
  exact va_mmin X.1 X.2.1 hl.1.symm X.2.2.2.1 (X.2.2.2.2.1 _ h1) (X.2.2.2.2.1 _ h2) (X.2.2.2.2.1 _ h3) (X.2.2.2.2.1 _ h4) (by rw [X.2.2.2.2.2.2.2.2.1]; exact hf) (by rw [X.2.2.2.2.2.2.2.2.1]; exact hlo) (by rw [X.2.2.2.2.2.2.2.2.1]; exact X.2.2.2.2.2.2.2.2.2.1) (by rw [X.2.2.2.2.2.2.2.2.1]; exact X.2.2.2.2.2.2.2.2.2.2) hd (kk H locs ls hl hP hS)
theorem v_lmax (X : VOk a own cc rm nL) {index : Nat} {x y : Int64} (h1 : Cond.methodLink own index Lib.MathLoose.max_long.x ∈ WS) (h2 : Cond.static Lib.MathLoose.max_long.x ∈ WS) (h3 : Cond.initialized "java/lang/Math" ∈ WS) (h4 : Cond.code Lib.MathLoose.max_long.x Lib.MathLoose.max_long.code 4 (some .long) ∈ WS) (hf : 1 ≤ rm.frames) (hlo : (st.map fun v => v.category).sum + 15 ≤ rm.locals) (hd : decode cc pc = .ok (.invokestatic index, 3)) (kk : V a (pc + 3) lv (.long (if y < x then x else y) :: st) I L) : V a pc lv (.long y :: .long x :: st) I L := by
  intro H locs ls hl hP hS
  exact va_mmax_long X.1 X.2.1 hl.1.symm X.2.2.2.1 (X.2.2.2.2.1 _ h1) (X.2.2.2.2.1 _ h2) (X.2.2.2.2.1 _ h3) (X.2.2.2.2.1 _ h4) (by rw [X.2.2.2.2.2.2.2.2.1]; exact hf) (by rw [X.2.2.2.2.2.2.2.2.1]; exact hlo) (by rw [X.2.2.2.2.2.2.2.2.1]; exact X.2.2.2.2.2.2.2.2.2.1) (by rw [X.2.2.2.2.2.2.2.2.1]; exact X.2.2.2.2.2.2.2.2.2.2) hd (kk H locs ls hl hP hS)
theorem v_labs (X : VOk a own cc rm nL) {index : Nat} {x : Int64} (h1 : Cond.methodLink own index Lib.MathLoose.abs_long.x ∈ WS) (h2 : Cond.static Lib.MathLoose.abs_long.x ∈ WS) (h3 : Cond.initialized "java/lang/Math" ∈ WS) (h4 : Cond.code Lib.MathLoose.abs_long.x Lib.MathLoose.abs_long.code 2 (some .long) ∈ WS) (hf : 1 ≤ rm.frames) (hlo : (st.map fun v => v.category).sum + 13 ≤ rm.locals) (hd : decode cc pc = .ok (.invokestatic index, 3)) (kk : V a (pc + 3) lv (.long (if 0 < x then x else -x) :: st) I L) : V a pc lv (.long x :: st) I L := by
  intro H locs ls hl hP hS
  exact va_mabs_long X.1 X.2.1 hl.1.symm X.2.2.2.1 (X.2.2.2.2.1 _ h1) (X.2.2.2.2.1 _ h2) (X.2.2.2.2.1 _ h3) (X.2.2.2.2.1 _ h4) (by rw [X.2.2.2.2.2.2.2.2.1]; exact hf) (by rw [X.2.2.2.2.2.2.2.2.1]; exact hlo) (by rw [X.2.2.2.2.2.2.2.2.1]; exact X.2.2.2.2.2.2.2.2.2.1) (by rw [X.2.2.2.2.2.2.2.2.1]; exact X.2.2.2.2.2.2.2.2.2.2) hd (kk H locs ls hl hP hS)
theorem v_copy9 (X : VOk a own cc rm nL) {index : Nat} {sp dp n : Int32} (h1 : Cond.methodLink own index arraycopyName ∈ WS) (h2 : Cond.native arraycopyName ∈ lw_tbl ∧ Cond.native arraycopyName ∈ WS) (h3 : Cond.static arraycopyName ∈ WS) (h4 : Cond.initialized "java/lang/System" ∈ WS) (hf : 1 ≤ rm.frames) (hlo : (st.map fun v => v.category).sum + (nativeFrameWords "java/lang/System" "arraycopy" 5 + 11) ≤ rm.locals)
    (g1 : ¬ sp < 0) (g2 : ¬ dp < 0) (g3 : ¬ n < 0) (g4 : sp.toNatClampNeg + n.toNatClampNeg ≤ 16) (g5 : dp.toNatClampNeg + n.toNatClampNeg ≤ 16) (hd : decode cc pc = .ok (.invokestatic index, 3))
    (kk : V a (pc + 3) lv st (rowI I 9 0 (va_cpy (I 9 0) (I 9 0) sp.toNatClampNeg dp.toNatClampNeg n.toNatClampNeg)) L) : V a pc lv (.int n :: .int dp :: .ref (eA (vE a) 9 0) :: .int sp :: .ref (eA (vE a) 9 0) :: st) I L := by
  intro H locs ls hl hP hS
  obtain ⟨q0, h0, he⟩ := wl_at dl_9
  have he := he (vE a) I L
  rw [cef_9] at he
  refine va_copyi X.1 X.2.1 hl.1.symm X.2.2.2.1 (X.2.2.2.2.1 _ h1) (X.2.2.2.2.1 _ h2.2) (X.2.2.2.2.1 _ h3) (X.2.2.2.2.1 _ h4) X.2.2.2.2.2.2.1 hP (X.2.2.2.2.2.2.2.1 I L) hS q0 q0 0 0 he he rfl rfl rfl g1 g2 g3 g4 g5 (fun _ _ => rfl) (by rw [X.2.2.2.2.2.2.2.2.1]; exact hf) (by rw [X.2.2.2.2.2.2.2.2.1]; exact hlo) hd (fun H1 locs1 hP1 _ hS1 => ?_)
  have e := wl_set (E := vE a) (L := L) (L' := L) h0 (fun k' j' h => rowI_off I 9 0 (va_cpy (I 9 0) (I 9 0) sp.toNatClampNeg dp.toNatClampNeg n.toNatClampNeg) h) (fun _ _ _ => rfl)
  rw [rowI_row, cef_9] at e
  rw [e] at hP1
  exact kk H1 locs1 ls hl hP1 hS1
end VM
/-! frames -/
theorem upI_k {I : TI} {k j x k' j' x' : Nat} {v : Int32} (h : k' ≠ k) : upI I k j x v k' j' x' = I k' j' x' := by
  unfold upI
  rw [if_neg (fun q => h q.1)]
theorem upI_j {I : TI} {k j x k' j' x' : Nat} {v : Int32} (h : j' ≠ j) : upI I k j x v k' j' x' = I k' j' x' := by
  unfold upI
  rw [if_neg (fun q => h q.2.1)]
theorem upI_x {I : TI} {k j x k' j' x' : Nat} {v : Int32} (h : x' ≠ x) : upI I k j x v k' j' x' = I k' j' x' := by
  unfold upI
  rw [if_neg (fun q => h q.2.2)]
theorem upI_eq {I : TI} {k j x : Nat} {v : Int32} : upI I k j x v k j x = v := by
  unfold upI
  rw [if_pos ⟨rfl, rfl, rfl⟩]
theorem upL_k {I : TL} {k j x k' j' x' : Nat} {v : Int64} (h : k' ≠ k) : upL I k j x v k' j' x' = I k' j' x' := by
  unfold upL
  rw [if_neg (fun q => h q.1)]
theorem upL_j {I : TL} {k j x k' j' x' : Nat} {v : Int64} (h : j' ≠ j) : upL I k j x v k' j' x' = I k' j' x' := by
  unfold upL
  rw [if_neg (fun q => h q.2.1)]
theorem upL_x {I : TL} {k j x k' j' x' : Nat} {v : Int64} (h : x' ≠ x) : upL I k j x v k' j' x' = I k' j' x' := by
  unfold upL
  rw [if_neg (fun q => h q.2.2)]
theorem upL_eq {I : TL} {k j x : Nat} {v : Int64} : upL I k j x v k j x = v := by
  unfold upL
  rw [if_pos ⟨rfl, rfl, rfl⟩]
def Fr (S : List (Nat × Nat)) (I I' : TI) : Prop := ∀ k j, (k, j) ∉ S → I' k j = I k j
def FL (S : List (Nat × Nat)) (L L' : TL) : Prop := ∀ k j, (k, j) ∉ S → L' k j = L k j
theorem Fr.rf {S : List (Nat × Nat)} {I : TI} : Fr S I I := fun _ _ _ => rfl
theorem FL.rf {S : List (Nat × Nat)} {I : TL} : FL S I I := fun _ _ _ => rfl
theorem Fr.tr {S : List (Nat × Nat)} {I J K : TI} (h : Fr S I J) (g : Fr S J K) : Fr S I K := fun k j n => (g k j n).trans (h k j n)
theorem FL.tr {S : List (Nat × Nat)} {I J K : TL} (h : FL S I J) (g : FL S J K) : FL S I K := fun k j n => (g k j n).trans (h k j n)
theorem Fr.mono {S S' : List (Nat × Nat)} {I J : TI} (h : Fr S I J) (hs : ∀ q ∈ S, q ∈ S') : Fr S' I J := fun k j n => h k j (fun q => n (hs _ q))
theorem FL.mono {S S' : List (Nat × Nat)} {I J : TL} (h : FL S I J) (hs : ∀ q ∈ S, q ∈ S') : FL S' I J := fun k j n => h k j (fun q => n (hs _ q))
theorem Fr.up {S : List (Nat × Nat)} {I J : TI} (h : Fr S I J) {k j x : Nat} {v : Int32} (hs : (k, j) ∈ S) : Fr S I (upI J k j x v) := fun k' j' n => (upI_off J k j x v (fun e => n (e ▸ hs))).trans (h k' j' n)
theorem FL.up {S : List (Nat × Nat)} {I J : TL} (h : FL S I J) {k j x : Nat} {v : Int64} (hs : (k, j) ∈ S) : FL S I (upL J k j x v) := fun k' j' n => (upL_off J k j x v (fun e => n (e ▸ hs))).trans (h k' j' n)
theorem Fr.at {S : List (Nat × Nat)} {I J : TI} (h : Fr S I J) {k j : Nat} (n : (k, j) ∉ S) (x : Nat) : J k j x = I k j x := congrFun (h k j n) x
theorem FL.at {S : List (Nat × Nat)} {I J : TL} (h : FL S I J) {k j : Nat} (n : (k, j) ∉ S) (x : Nat) : J k j x = I k j x := congrFun (h k j n) x
abbrev inR (n : Nat) (x : Int32) : Prop := 0 ≤ x ∧ x < nI n
theorem inR_n {n x : Nat} (hn : n < 2 ^ 31) (hx : x < 2 ^ 31) : inR n (nI x) ↔ x < n := ⟨fun h => (nI_ltI hx hn).mp h.2, fun h => ⟨nI_pos' hx, (nI_ltI hx hn).mpr h⟩⟩
theorem inR_of {n : Nat} {x : Int32} (hn : n < 2 ^ 31) (h : inR n x) : ∃ j, j < n ∧ x = nI j := ix_of h.1 h.2 hn
theorem inR_T {n : Nat} {x : Int32} (hn : n < 2 ^ 31) : inR n x ↔ isT n x := ⟨fun h => inR_of hn h, fun ⟨j, h1, h2⟩ => h2 ▸ (inR_n hn (by omega)).mpr h1⟩
theorem v_lv {a : VA} {pc : Nat} {lv lv' : List (Nat × Value)} {st : List Value} {I : TI} {L : TL} (h : lv = lv') (k : V a pc lv' st I L) : V a pc lv st I L := h ▸ k
theorem down_pos {m : Nat} (h : ¬ nI m - nI 1 < 0) : 0 < m := by
  rcases Nat.eq_zero_or_pos m with rfl | q
  · exact absurd (show nI 0 - nI 1 < 0 by decide) h
  · exact q
theorem down_zero {m : Nat} (hm : m < 2 ^ 31) (h : nI m - nI 1 < 0) : m = 0 := by
  rcases Nat.eq_zero_or_pos m with q | q
  · exact q
  · obtain ⟨k, rfl⟩ : ∃ k, m = k + 1 := ⟨m - 1, by omega⟩
    have e : nI (k + 1) - nI 1 = nI k := nI_pred k
    rw [e] at h
    exact absurd h (nI_pos (by omega))
theorem down_at (k : Nat) : nI (k + 1) - nI 1 = nI k := nI_pred k
theorem down_dec (k : Nat) : nI k + Int32.ofInt (-1) = nI k - nI 1 := by
  rw [Int32.sub_eq_add_neg]
  rfl
theorem pow32 {c : Nat} (h : c ≤ 5) : 2 ^ c ≤ 32 := Nat.pow_le_pow_right (by decide) h
end
section
abbrev rm_X0_init : Room := { frames := 1, cells := 0, slots := 0, locals := 20 }
abbrev rm_X0_begin : Room := { frames := 1, cells := 0, slots := 0, locals := 23 }
abbrev rm_X0_reaches : Room := { frames := 0, cells := 0, slots := 0, locals := 0 }
abbrev rm_X0_number : Room := { frames := 1, cells := 0, slots := 0, locals := 22 }
abbrev rm_X0_put : Room := { frames := 1, cells := 0, slots := 0, locals := 22 }
abbrev rm_X1_init : Room := { frames := 1, cells := 0, slots := 0, locals := 20 }
abbrev rm_X1_takeApart : Room := { frames := 5, cells := 0, slots := 0, locals := 137 }
abbrev rm_X1_begin : Room := { frames := 2, cells := 0, slots := 0, locals := 44 }
abbrev rm_X1_placeOf : Room := { frames := 0, cells := 0, slots := 0, locals := 0 }
abbrev rm_X1_clear : Room := { frames := 4, cells := 0, slots := 0, locals := 113 }
abbrev rm_X1_findShare : Room := { frames := 2, cells := 0, slots := 0, locals := 53 }
abbrev rm_X1_takeRowAbove : Room := { frames := 3, cells := 0, slots := 0, locals := 89 }
abbrev rm_X1_takeShare : Room := { frames := 2, cells := 0, slots := 0, locals := 53 }
abbrev rm_X1_standOnLine : Room := { frames := 1, cells := 0, slots := 0, locals := 26 }
abbrev rm_X1_note : Room := { frames := 0, cells := 0, slots := 0, locals := 0 }
abbrev rm_X1_commonOf : Room := { frames := 1, cells := 0, slots := 0, locals := 23 }
abbrev rm_X1_without : Room := { frames := 0, cells := 0, slots := 0, locals := 0 }
abbrev rm_X2_init : Room := { frames := 1, cells := 0, slots := 0, locals := 20 }
abbrev rm_X2_lead : Room := { frames := 3, cells := 0, slots := 0, locals := 76 }
abbrev rm_X2_fromStep : Room := { frames := 2, cells := 0, slots := 0, locals := 47 }
abbrev rm_X2_linesAhead : Room := { frames := 2, cells := 0, slots := 0, locals := 47 }
abbrev rm_X3_init : Room := { frames := 1, cells := 0, slots := 0, locals := 20 }
abbrev rm_X3_begin : Room := { frames := 0, cells := 0, slots := 0, locals := 0 }
abbrev rm_X3_takes : Room := { frames := 0, cells := 0, slots := 0, locals := 0 }
abbrev rm_X3_add : Room := { frames := 0, cells := 0, slots := 0, locals := 0 }
abbrev rm_X3_isWeighedOn : Room := { frames := 1, cells := 0, slots := 0, locals := 21 }
abbrev rm_X3_afterGoing : Room := { frames := 1, cells := 0, slots := 0, locals := 21 }
abbrev rm_X4_init : Room := { frames := 1, cells := 0, slots := 0, locals := 20 }
abbrev rm_X4_ofPart : Room := { frames := 4, cells := 0, slots := 0, locals := 97 }
abbrev rm_X4_firstLow : Room := { frames := 5, cells := 0, slots := 0, locals := 122 }
abbrev rm_X4_firstLowColumns : Room := { frames := 4, cells := 0, slots := 0, locals := 97 }
abbrev rm_X4_manyOf : Room := { frames := 4, cells := 0, slots := 0, locals := 97 }
abbrev rm_X4_looks : Room := { frames := 4, cells := 0, slots := 0, locals := 97 }
abbrev rm_X4_stretch : Room := { frames := 0, cells := 0, slots := 0, locals := 0 }
abbrev rm_X4_findAll : Room := { frames := 3, cells := 0, slots := 0, locals := 72 }
abbrev rm_X4_choose : Room := { frames := 1, cells := 0, slots := 0, locals := 21 }
abbrev rm_X4_alongLastRow : Room := { frames := 2, cells := 0, slots := 0, locals := 44 }
abbrev rm_X5_init : Room := { frames := 2, cells := 0, slots := 0, locals := 40 }
abbrev rm_X5_table : Room := { frames := 2, cells := 0, slots := 0, locals := 46 }
abbrev rm_X5_set : Room := { frames := 2, cells := 0, slots := 0, locals := 46 }
abbrev rm_X5_at : Room := { frames := 2, cells := 0, slots := 0, locals := 44 }
abbrev rm_X5_look : Room := { frames := 6, cells := 0, slots := 0, locals := 147 }
abbrev rm_X5_drop : Room := { frames := 1, cells := 0, slots := 0, locals := 21 }
abbrev rm_X5_worth : Room := { frames := 5, cells := 0, slots := 0, locals := 120 }
abbrev rm_X5_low : Room := { frames := 6, cells := 0, slots := 0, locals := 147 }
abbrev rm_X5_count : Room := { frames := 5, cells := 0, slots := 0, locals := 122 }
abbrev rm_X5_product : Room := { frames := 3, cells := 0, slots := 0, locals := 69 }
abbrev rm_X5_sum : Room := { frames := 2, cells := 0, slots := 0, locals := 46 }
abbrev rm_X5_part : Room := { frames := 3, cells := 0, slots := 0, locals := 72 }
abbrev rm_X5_turn : Room := { frames := 3, cells := 0, slots := 0, locals := 71 }
abbrev rm_X5_same : Room := { frames := 2, cells := 0, slots := 0, locals := 44 }
abbrev rm_X5_net : Room := { frames := 1, cells := 0, slots := 0, locals := 21 }
abbrev rm_X5_step : Room := { frames := 1, cells := 0, slots := 0, locals := 23 }
abbrev rm_X5_back : Room := { frames := 1, cells := 0, slots := 0, locals := 21 }
abbrev rm_X5_made : Room := { frames := 4, cells := 0, slots := 0, locals := 102 }
abbrev rm_X5_families : Room := { frames := 5, cells := 0, slots := 0, locals := 127 }
abbrev rm_X5_weight : Room := { frames := 5, cells := 0, slots := 0, locals := 127 }
abbrev rm_X5_family : Room := { frames := 5, cells := 0, slots := 0, locals := 127 }
abbrev rm_X5_unnet : Room := { frames := 1, cells := 0, slots := 0, locals := 21 }
abbrev rm_X5_tell : Room := { frames := 2, cells := 0, slots := 0, locals := 43 }
abbrev rm_X5_changes : Room := { frames := 2, cells := 0, slots := 0, locals := 46 }
abbrev rm_X5_band : Room := { frames := 2, cells := 0, slots := 0, locals := 46 }
abbrev rm_X5_make : Room := { frames := 6, cells := 0, slots := 0, locals := 159 }
abbrev rm_X5_making : Room := { frames := 2, cells := 0, slots := 0, locals := 42 }
abbrev rm_X5_lay : Room := { frames := 2, cells := 0, slots := 0, locals := 44 }
abbrev rm_X5_tear : Room := { frames := 0, cells := 0, slots := 0, locals := 0 }
abbrev rm_X5_row : Room := { frames := 2, cells := 0, slots := 0, locals := 42 }
abbrev rm_X5_copy : Room := { frames := 1, cells := 0, slots := 0, locals := 26 }
abbrev rm_X5_status : Room := { frames := 1, cells := 0, slots := 0, locals := 21 }
abbrev rm_X5_refused : Room := { frames := 0, cells := 0, slots := 0, locals := 0 }
abbrev rm_X5_nought : Room := { frames := 1, cells := 0, slots := 0, locals := 21 }
abbrev rm_X5_gridOf : Room := { frames := 0, cells := 0, slots := 0, locals := 0 }
abbrev rm_X5_webOf : Room := { frames := 0, cells := 0, slots := 0, locals := 0 }
abbrev rm_X5_freeGrid : Room := { frames := 0, cells := 0, slots := 0, locals := 0 }
abbrev rm_X5_come : Room := { frames := 1, cells := 0, slots := 0, locals := 21 }
abbrev rm_X5_leading : Room := { frames := 4, cells := 0, slots := 0, locals := 102 }
abbrev rm_X5_emptyTheRow : Room := { frames := 1, cells := 0, slots := 0, locals := 23 }
abbrev rm_X5_isSide : Room := { frames := 0, cells := 0, slots := 0, locals := 0 }
abbrev rm_X5_isNumber : Room := { frames := 0, cells := 0, slots := 0, locals := 0 }
abbrev rm_X5_areSome : Room := { frames := 0, cells := 0, slots := 0, locals := 0 }
abbrev rm_X5_areAsMany : Room := { frames := 1, cells := 0, slots := 0, locals := 20 }
abbrev rm_X5_holds : Room := { frames := 0, cells := 0, slots := 0, locals := 0 }
abbrev rm_X5_signOf : Room := { frames := 0, cells := 0, slots := 0, locals := 0 }
abbrev rm_X5_rowByColumn : Room := { frames := 2, cells := 0, slots := 0, locals := 44 }
abbrev rm_X5_takeRow : Room := { frames := 2, cells := 0, slots := 0, locals := 46 }
abbrev rm_X5_exchange : Room := { frames := 2, cells := 0, slots := 0, locals := 46 }
abbrev rm_X5_reverse : Room := { frames := 2, cells := 0, slots := 0, locals := 46 }
abbrev rm_X5_signChanges : Room := { frames := 1, cells := 0, slots := 0, locals := 21 }
abbrev rm_X6_init : Room := { frames := 1, cells := 0, slots := 0, locals := 20 }
abbrev rm_X6_isIn : Room := { frames := 0, cells := 0, slots := 0, locals := 0 }
abbrev rm_X6_no : Room := { frames := 0, cells := 0, slots := 0, locals := 0 }
abbrev rm_X6_none : Room := { frames := 1, cells := 0, slots := 0, locals := 21 }
abbrev rm_X6_isTable : Room := { frames := 0, cells := 0, slots := 0, locals := 0 }
abbrev rm_X6_bits : Room := { frames := 0, cells := 0, slots := 0, locals := 0 }
abbrev rm_X6_place : Room := { frames := 0, cells := 0, slots := 0, locals := 0 }
abbrev rm_X6_begins : Room := { frames := 1, cells := 0, slots := 0, locals := 21 }
abbrev rm_X6_table : Room := { frames := 2, cells := 0, slots := 0, locals := 45 }
abbrev rm_X6_isPlace : Room := { frames := 1, cells := 0, slots := 0, locals := 25 }
abbrev rm_X6_set : Room := { frames := 2, cells := 0, slots := 0, locals := 48 }
abbrev rm_X6_at : Room := { frames := 2, cells := 0, slots := 0, locals := 48 }
abbrev rm_X6_worthOf : Room := { frames := 1, cells := 0, slots := 0, locals := 22 }
abbrev rm_X6_isSome : Room := { frames := 0, cells := 0, slots := 0, locals := 0 }
abbrev rm_X6_worth : Room := { frames := 2, cells := 0, slots := 0, locals := 52 }
abbrev rm_X6_goesThrough : Room := { frames := 2, cells := 0, slots := 0, locals := 52 }
abbrev rm_X6_counts : Room := { frames := 0, cells := 0, slots := 0, locals := 0 }
abbrev rm_X6_span : Room := { frames := 0, cells := 0, slots := 0, locals := 0 }
abbrev rm_X6_looks : Room := { frames := 2, cells := 0, slots := 0, locals := 52 }
abbrev rm_X6_look : Room := { frames := 3, cells := 0, slots := 0, locals := 78 }
abbrev rm_X6_drop : Room := { frames := 1, cells := 0, slots := 0, locals := 21 }
abbrev rm_X6_low : Room := { frames := 3, cells := 0, slots := 0, locals := 76 }
abbrev rm_X6_count : Room := { frames := 3, cells := 0, slots := 0, locals := 76 }
abbrev rm_X6_comes : Room := { frames := 2, cells := 0, slots := 0, locals := 45 }
abbrev rm_X6_product : Room := { frames := 3, cells := 0, slots := 0, locals := 71 }
abbrev rm_X6_areAlike : Room := { frames := 0, cells := 0, slots := 0, locals := 0 }
abbrev rm_X6_sum : Room := { frames := 3, cells := 0, slots := 0, locals := 71 }
abbrev rm_X6_part : Room := { frames := 3, cells := 0, slots := 0, locals := 71 }
abbrev rm_X6_turn : Room := { frames := 3, cells := 0, slots := 0, locals := 71 }
abbrev rm_X6_same : Room := { frames := 1, cells := 0, slots := 0, locals := 22 }
abbrev rm_X6_isNet : Room := { frames := 0, cells := 0, slots := 0, locals := 0 }
abbrev rm_X6_net : Room := { frames := 1, cells := 0, slots := 0, locals := 25 }
abbrev rm_X6_step : Room := { frames := 1, cells := 0, slots := 0, locals := 25 }
abbrev rm_X6_back : Room := { frames := 1, cells := 0, slots := 0, locals := 21 }
abbrev rm_X6_made : Room := { frames := 3, cells := 0, slots := 0, locals := 71 }
abbrev rm_X6_over : Room := { frames := 0, cells := 0, slots := 0, locals := 0 }
abbrev rm_X6_finds : Room := { frames := 1, cells := 0, slots := 0, locals := 24 }
abbrev rm_X6_whyNot : Room := { frames := 1, cells := 0, slots := 0, locals := 22 }
abbrev rm_X6_families : Room := { frames := 2, cells := 0, slots := 0, locals := 53 }
abbrev rm_X6_weight : Room := { frames := 2, cells := 0, slots := 0, locals := 53 }
abbrev rm_X6_family : Room := { frames := 2, cells := 0, slots := 0, locals := 53 }
abbrev rm_X6_unnet : Room := { frames := 1, cells := 0, slots := 0, locals := 21 }
abbrev rm_X6_isTold : Room := { frames := 0, cells := 0, slots := 0, locals := 0 }
abbrev rm_X6_tell : Room := { frames := 1, cells := 0, slots := 0, locals := 25 }
abbrev rm_X6_meets : Room := { frames := 0, cells := 0, slots := 0, locals := 0 }
abbrev rm_X6_changes : Room := { frames := 1, cells := 0, slots := 0, locals := 23 }
abbrev rm_X6_band : Room := { frames := 3, cells := 0, slots := 0, locals := 71 }
abbrev rm_X6_divisor : Room := { frames := 0, cells := 0, slots := 0, locals := 0 }
abbrev rm_X6_fraction : Room := { frames := 1, cells := 0, slots := 0, locals := 29 }
abbrev rm_X6_times : Room := { frames := 2, cells := 0, slots := 0, locals := 55 }
abbrev rm_X6_shares : Room := { frames := 0, cells := 0, slots := 0, locals := 0 }
abbrev rm_X6_cell : Room := { frames := 0, cells := 0, slots := 0, locals := 0 }
abbrev rm_X6_clears : Room := { frames := 3, cells := 0, slots := 0, locals := 87 }
abbrev rm_X6_make : Room := { frames := 4, cells := 0, slots := 0, locals := 124 }
abbrev rm_X6_making : Room := { frames := 2, cells := 0, slots := 0, locals := 43 }
abbrev rm_X6_lay : Room := { frames := 1, cells := 0, slots := 0, locals := 25 }
abbrev rm_X6_tear : Room := { frames := 0, cells := 0, slots := 0, locals := 0 }
abbrev rm_X6_row : Room := { frames := 2, cells := 0, slots := 0, locals := 43 }
abbrev rm_X6_copy : Room := { frames := 1, cells := 0, slots := 0, locals := 21 }
abbrev rm_X6_status : Room := { frames := 1, cells := 0, slots := 0, locals := 25 }
abbrev rm_J6_bitCount_0f7a4 : Room := { frames := 0, cells := 0, slots := 0, locals := 0 }
abbrev rm_J9_abs_067f4 : Room := { frames := 0, cells := 0, slots := 0, locals := 0 }
abbrev rm_J9_max_f86c9 : Room := { frames := 0, cells := 0, slots := 0, locals := 0 }
abbrev rm_J9_min_7cf53 : Room := { frames := 0, cells := 0, slots := 0, locals := 0 }
abbrev rm_J7_fill_53178 : Room := { frames := 0, cells := 0, slots := 0, locals := 0 }
def pc5 (n : Nat) : Nat := n % 2 + n / 2 % 2 + n / 4 % 2 + n / 8 % 2 + n / 16 % 2
def sgn (v : Int64) : Int32 := if 0 < v then 1 else if v < 0 then -1 else 0
def isNum (v : Int64) : Prop := -1000 ≤ v ∧ v ≤ 1000
def rfI (I : TI) (w : Nat) : TI := upI I 11 0 w (I 11 0 w + 1)
def bc1 (x : Int32) : Int32 := x - ((x.toUInt32 >>> ((nI 1).toUInt32 &&& Int32.toUInt32 31)).toInt32 &&& (nI 1431655765))
def bc2 (x : Int32) : Int32 := (x &&& (nI 858993459)) + ((x.toUInt32 >>> ((nI 2).toUInt32 &&& Int32.toUInt32 31)).toInt32 &&& (nI 858993459))
def bc3 (x : Int32) : Int32 := (x + (x.toUInt32 >>> ((nI 4).toUInt32 &&& Int32.toUInt32 31)).toInt32) &&& (nI 252645135)
def bc4 (x : Int32) : Int32 := x + (x.toUInt32 >>> ((nI 8).toUInt32 &&& Int32.toUInt32 31)).toInt32
def bc5 (x : Int32) : Int32 := x + (x.toUInt32 >>> ((nI 16).toUInt32 &&& Int32.toUInt32 31)).toInt32
theorem bc_ok : ∀ n, n < 32 → bc5 (bc4 (bc3 (bc2 (bc1 (nI n))))) &&& nI 63 = nI (pc5 n) := by decide +kernel
theorem bit_ok {n k : Nat} : n / 2 ^ k &&& 1 = n / 2 ^ k % 2 := Nat.and_one_is_mod _
theorem neg_lo : ∀ w, w < 9 → 2 ≤ w → ¬ -nI w < (-8 : Int32) ∧ ¬ (-2 : Int32) < -nI w := by decide +kernel
theorem mw_X5_188 : Cond.methodLink RX5 188 Lib.MathLoose.max_long.x ∈ WS ∧ Cond.static Lib.MathLoose.max_long.x ∈ WS ∧ Cond.initialized "java/lang/Math" ∈ WS ∧ Cond.code Lib.MathLoose.max_long.x Lib.MathLoose.max_long.code 4 (some .long) ∈ WS := ⟨ws_of (i := 457) (by decide +kernel) (by decide +kernel), ws_of (i := 458) (by decide +kernel) (by decide +kernel), ws_of (i := 50) (by decide +kernel) (by decide +kernel), ws_of (i := 459) (by decide +kernel) (by decide +kernel)⟩
theorem mw_X1_52 : Cond.methodLink RX1 52 Lib.Math.min.name ∈ WS ∧ Cond.static Lib.Math.min.name ∈ WS ∧ Cond.initialized "java/lang/Math" ∈ WS ∧ Cond.code Lib.Math.min.name Lib.Math.min.code 2 (some .int) ∈ WS := ⟨ws_of (i := 506) (by decide +kernel) (by decide +kernel), ws_of (i := 293) (by decide +kernel) (by decide +kernel), ws_of (i := 50) (by decide +kernel) (by decide +kernel), ws_of (i := 294) (by decide +kernel) (by decide +kernel)⟩
theorem mw_X1_91 : Cond.methodLink RX1 91 Lib.MathLoose.abs_long.x ∈ WS ∧ Cond.static Lib.MathLoose.abs_long.x ∈ WS ∧ Cond.initialized "java/lang/Math" ∈ WS ∧ Cond.code Lib.MathLoose.abs_long.x Lib.MathLoose.abs_long.code 2 (some .long) ∈ WS := ⟨ws_of (i := 520) (by decide +kernel) (by decide +kernel), ws_of (i := 521) (by decide +kernel) (by decide +kernel), ws_of (i := 50) (by decide +kernel) (by decide +kernel), ws_of (i := 522) (by decide +kernel) (by decide +kernel)⟩
theorem mw_X4_32 : Cond.methodLink RX4 32 Lib.Math.min.name ∈ WS ∧ Cond.static Lib.Math.min.name ∈ WS ∧ Cond.initialized "java/lang/Math" ∈ WS ∧ Cond.code Lib.Math.min.name Lib.Math.min.code 2 (some .int) ∈ WS := ⟨ws_of (i := 292) (by decide +kernel) (by decide +kernel), ws_of (i := 293) (by decide +kernel) (by decide +kernel), ws_of (i := 50) (by decide +kernel) (by decide +kernel), ws_of (i := 294) (by decide +kernel) (by decide +kernel)⟩
theorem min_n {a b : Nat} (ha : a < 2 ^ 31) (hb : b < 2 ^ 31) : (if nI b < nI a then nI b else nI a) = nI (min a b) := by
  by_cases h : b < a
  · rw [if_pos ((nI_ltI hb ha).mpr h), Nat.min_eq_right (by omega)]
  · rw [if_neg (fun q => h ((nI_ltI hb ha).mp q)), Nat.min_eq_left (by omega)]
set_option maxHeartbeats 4000000 in
set_option maxRecDepth 100000 in
theorem c_J6_bitCount_0f7a4 (l : Launch) (E : VE) (hE : EOk E) (I : TI) (L : TL) (n : Nat) (hn : n < 32) : Ct l E yJ6_bitCount_0f7a4 cJ6_bitCount_0f7a4 1 (some .int) rm_J6_bitCount_0f7a4 [.int (nI n)] I L (fun r I' L' => r = some (.int (nI (pc5 n))) ∧ I' = I ∧ L' = L) := by
  refine ct_of (by decide +kernel) (Nat.le_of_ble_eq_true rfl) hE ?_
  intro a X Y hl hEE
  subst hl; subst hEE
  show V a 0 [(0, .int (nI n))] [] I L
  refine v_iload_n X 0 rfl dJ6_bitCount_0f7a4_0 ?_
  refine v_iload_n X 0 rfl dJ6_bitCount_0f7a4_1 ?_
  refine v_iconst X (v := (nI 1)) dJ6_bitCount_0f7a4_2 (by decide) ?_
  refine v_iushr X dJ6_bitCount_0f7a4_3 rfl ?_
  refine v_ldcw X (v := 1431655765) kc_J6_265 dJ6_bitCount_0f7a4_4 ?_
  refine v_eqi (y := (nI 1431655765)) (rfl) ?_
  refine v_iand X dJ6_bitCount_0f7a4_7 ?_
  refine v_isub X dJ6_bitCount_0f7a4_8 ?_
  refine v_topi (fun x1 e_x1 => ?_)
  refine v_istore_n X [0] (lv' := [(0, .int x1)]) (by decide) rfl dJ6_bitCount_0f7a4_9 ?_
  refine v_iload_n X 0 rfl dJ6_bitCount_0f7a4_10 ?_
  refine v_ldcw X (v := 858993459) kc_J6_266 dJ6_bitCount_0f7a4_11 ?_
  refine v_eqi (y := (nI 858993459)) (rfl) ?_
  refine v_iand X dJ6_bitCount_0f7a4_14 ?_
  refine v_iload_n X 0 rfl dJ6_bitCount_0f7a4_15 ?_
  refine v_iconst X (v := (nI 2)) dJ6_bitCount_0f7a4_16 (by decide) ?_
  refine v_iushr X dJ6_bitCount_0f7a4_17 rfl ?_
  refine v_ldcw X (v := 858993459) kc_J6_266 dJ6_bitCount_0f7a4_18 ?_
  refine v_eqi (y := (nI 858993459)) (rfl) ?_
  refine v_iand X dJ6_bitCount_0f7a4_21 ?_
  refine v_iadd X dJ6_bitCount_0f7a4_22 ?_
  refine v_topi (fun x2 e_x2 => ?_)
  refine v_istore_n X [0] (lv' := [(0, .int x2)]) (by decide) rfl dJ6_bitCount_0f7a4_23 ?_
  refine v_iload_n X 0 rfl dJ6_bitCount_0f7a4_24 ?_
  refine v_iload_n X 0 rfl dJ6_bitCount_0f7a4_25 ?_
  refine v_iconst X (v := (nI 4)) dJ6_bitCount_0f7a4_26 (by decide) ?_
  refine v_iushr X dJ6_bitCount_0f7a4_27 rfl ?_
  refine v_iadd X dJ6_bitCount_0f7a4_28 ?_
  refine v_ldcw X (v := 252645135) kc_J6_267 dJ6_bitCount_0f7a4_29 ?_
  refine v_eqi (y := (nI 252645135)) (rfl) ?_
  refine v_iand X dJ6_bitCount_0f7a4_32 ?_
  refine v_topi (fun x3 e_x3 => ?_)
  refine v_istore_n X [0] (lv' := [(0, .int x3)]) (by decide) rfl dJ6_bitCount_0f7a4_33 ?_
  refine v_iload_n X 0 rfl dJ6_bitCount_0f7a4_34 ?_
  refine v_iload_n X 0 rfl dJ6_bitCount_0f7a4_35 ?_
  refine v_bipush X (v := (nI 8)) dJ6_bitCount_0f7a4_36 (by decide) ?_
  refine v_iushr X dJ6_bitCount_0f7a4_38 rfl ?_
  refine v_iadd X dJ6_bitCount_0f7a4_39 ?_
  refine v_topi (fun x4 e_x4 => ?_)
  refine v_istore_n X [0] (lv' := [(0, .int x4)]) (by decide) rfl dJ6_bitCount_0f7a4_40 ?_
  refine v_iload_n X 0 rfl dJ6_bitCount_0f7a4_41 ?_
  refine v_iload_n X 0 rfl dJ6_bitCount_0f7a4_42 ?_
  refine v_bipush X (v := (nI 16)) dJ6_bitCount_0f7a4_43 (by decide) ?_
  refine v_iushr X dJ6_bitCount_0f7a4_45 rfl ?_
  refine v_iadd X dJ6_bitCount_0f7a4_46 ?_
  refine v_topi (fun x5 e_x5 => ?_)
  refine v_istore_n X [0] (lv' := [(0, .int x5)]) (by decide) rfl dJ6_bitCount_0f7a4_47 ?_
  refine v_iload_n X 0 rfl dJ6_bitCount_0f7a4_48 ?_
  refine v_bipush X (v := (nI 63)) dJ6_bitCount_0f7a4_49 (by decide) ?_
  refine v_iand X dJ6_bitCount_0f7a4_51 ?_
  exact v_iret X Y dJ6_bitCount_0f7a4_52 (⟨by rw [← bc_ok n hn, e_x5, e_x4, e_x3, e_x2, e_x1]; rfl, rfl, rfl⟩)
set_option maxHeartbeats 4000000 in
set_option maxRecDepth 100000 in
theorem c_X5_isSide (l : Launch) (E : VE) (hE : EOk E) (I : TI) (L : TL) (n : Int32) : Ct l E yX5_isSide cX5_isSide 1 (some .boolean) rm_X5_isSide [.int n] I L (fun r I' L' => r = some (.int (bI (nI 1 ≤ n ∧ n ≤ nI 5))) ∧ I' = I ∧ L' = L) := by
  refine ct_of (by decide +kernel) (Nat.le_of_ble_eq_true rfl) hE ?_
  intro a X Y hl hEE
  subst hl; subst hEE
  show V a 0 [(0, .int n)] [] I L
  refine v_iload_n X 0 rfl dX5_isSide_0 ?_
  refine v_iconst X (v := (nI 1)) dX5_isSide_1 (by decide) ?_
  refine v_icmp_lt X dX5_isSide_2 (tgt := 14) (by decide) (fun h2 => ?_) (fun h2 => ?_)
  · refine v_iconst X (v := (nI 0)) dX5_isSide_14 (by decide) ?_
    exact v_zret X Y (rfl) dX5_isSide_15 (⟨retF fun q => absurd q.1 (Int32.not_le.mpr h2), rfl, rfl⟩)
  · refine v_iload_n X 0 rfl dX5_isSide_5 ?_
    refine v_iconst X (v := (nI 5)) dX5_isSide_6 (by decide) ?_
    refine v_icmp_gt X dX5_isSide_7 (tgt := 14) (by decide) (fun h7 => ?_) (fun h7 => ?_)
    · refine v_iconst X (v := (nI 0)) dX5_isSide_14 (by decide) ?_
      exact v_zret X Y (rfl) dX5_isSide_15 (⟨retF fun q => absurd q.2 (Int32.not_le.mpr h7), rfl, rfl⟩)
    · refine v_iconst X (v := (nI 1)) dX5_isSide_10 (by decide) ?_
      refine v_goto X (tgt := 15) dX5_isSide_11 (by decide) ?_
      exact v_zret X Y (rfl) dX5_isSide_15 (⟨retT ⟨Int32.not_lt.mp h2, Int32.not_lt.mp h7⟩, rfl, rfl⟩)
set_option maxHeartbeats 4000000 in
set_option maxRecDepth 100000 in
theorem c_X5_isNumber (l : Launch) (E : VE) (hE : EOk E) (I : TI) (L : TL) (v : Int64) : Ct l E yX5_isNumber cX5_isNumber 2 (some .boolean) rm_X5_isNumber [.long v] I L (fun r I' L' => r = some (.int (bI (-1000 ≤ v ∧ v ≤ 1000))) ∧ I' = I ∧ L' = L) := by
  refine ct_of (by decide +kernel) (Nat.le_of_ble_eq_true rfl) hE ?_
  intro a X Y hl hEE
  subst hl; subst hEE
  show V a 0 [(0, .long v)] [] I L
  refine v_lload_n X 0 rfl dX5_isNumber_0 ?_
  refine v_ldc2 X kc_X5_241 dX5_isNumber_1 ?_
  refine v_lcmp_lt X dX5_isNumber_4 dX5_isNumber_5 (tgt := 20) (by decide) (fun h4 => ?_) (fun h4 => ?_)
  · refine v_iconst X (v := (nI 0)) dX5_isNumber_20 (by decide) ?_
    exact v_zret X Y (rfl) dX5_isNumber_21 (⟨retF fun q => absurd q.1 (Int64.not_le.mpr h4), rfl, rfl⟩)
  · refine v_lload_n X 0 rfl dX5_isNumber_8 ?_
    refine v_ldc2 X kc_X5_243 dX5_isNumber_9 ?_
    refine v_lcmp_gt X dX5_isNumber_12 dX5_isNumber_13 (tgt := 20) (by decide) (fun h12 => ?_) (fun h12 => ?_)
    · refine v_iconst X (v := (nI 0)) dX5_isNumber_20 (by decide) ?_
      exact v_zret X Y (rfl) dX5_isNumber_21 (⟨retF fun q => absurd q.2 (Int64.not_le.mpr h12), rfl, rfl⟩)
    · refine v_iconst X (v := (nI 1)) dX5_isNumber_16 (by decide) ?_
      refine v_goto X (tgt := 21) dX5_isNumber_17 (by decide) ?_
      exact v_zret X Y (rfl) dX5_isNumber_21 (⟨retT ⟨Int64.not_lt.mp h4, Int64.not_lt.mp h12⟩, rfl, rfl⟩)
set_option maxHeartbeats 4000000 in
set_option maxRecDepth 100000 in
theorem c_X5_areSome (l : Launch) (E : VE) (hE : EOk E) (I : TI) (L : TL) (b : Int32) (m : Nat) (hm : m < 31) : Ct l E yX5_areSome cX5_areSome 2 (some .boolean) rm_X5_areSome [.int b, .int (nI m)] I L (fun r I' L' => r = some (.int (bI (0 < b ∧ b < nI (2 ^ m)))) ∧ I' = I ∧ L' = L) := by
  refine ct_of (by decide +kernel) (Nat.le_of_ble_eq_true rfl) hE ?_
  intro a X Y hl hEE
  subst hl; subst hEE
  show V a 0 [(0, .int b), (1, .int (nI m))] [] I L
  refine v_iload_n X 0 rfl dX5_areSome_0 ?_
  refine v_if_le X dX5_areSome_1 (tgt := 15) (by decide) (fun h1 => ?_) (fun h1 => ?_)
  · refine v_iconst X (v := (nI 0)) dX5_areSome_15 (by decide) ?_
    exact v_zret X Y (rfl) dX5_areSome_16 (⟨retF fun q => absurd q.1 (Int32.not_lt.mpr h1), rfl, rfl⟩)
  · refine v_iload_n X 0 rfl dX5_areSome_4 ?_
    refine v_iconst X (v := (nI 1)) dX5_areSome_5 (by decide) ?_
    refine v_iload_n X 1 rfl dX5_areSome_6 ?_
    refine v_ishl X dX5_areSome_7 ?_
    refine v_eqi (y := (nI (2 ^ m))) (sh_one hm) ?_
    refine v_icmp_ge X dX5_areSome_8 (tgt := 15) (by decide) (fun h8 => ?_) (fun h8 => ?_)
    · refine v_iconst X (v := (nI 0)) dX5_areSome_15 (by decide) ?_
      exact v_zret X Y (rfl) dX5_areSome_16 (⟨retF fun q => absurd q.2 (Int32.not_lt.mpr h8), rfl, rfl⟩)
    · refine v_iconst X (v := (nI 1)) dX5_areSome_11 (by decide) ?_
      refine v_goto X (tgt := 16) dX5_areSome_12 (by decide) ?_
      exact v_zret X Y (rfl) dX5_areSome_16 (⟨retT ⟨Int32.not_le.mp h1, Int32.not_le.mp h8⟩, rfl, rfl⟩)
set_option maxHeartbeats 4000000 in
set_option maxRecDepth 100000 in
theorem c_X5_areAsMany (l : Launch) (E : VE) (hE : EOk E) (I : TI) (L : TL) (b o : Nat) (hb : b < 32) (ho : o < 32) : Ct l E yX5_areAsMany cX5_areAsMany 2 (some .boolean) rm_X5_areAsMany [.int (nI b), .int (nI o)] I L (fun r I' L' => r = some (.int (bI (pc5 b = pc5 o))) ∧ I' = I ∧ L' = L) := by
  refine ct_of (by decide +kernel) (Nat.le_of_ble_eq_true rfl) hE ?_
  intro a X Y hl hEE
  subst hl; subst hEE
  have hb5 : pc5 b < 6 := by unfold pc5; omega
  have ho5 : pc5 o < 6 := by unfold pc5; omega
  show V a 0 [(0, .int (nI b)), (1, .int (nI o))] [] I L
  refine v_iload_n X 0 rfl dX5_areAsMany_0 ?_
  refine v_callS X (c_J6_bitCount_0f7a4 _ _ hE _ _ b (by omega)) k_X5_138 ⟨rfl, rfl, Nat.le_of_ble_eq_true rfl, Nat.le_of_ble_eq_true rfl⟩ (As := [.int (nI b)]) (rest := []) rfl rfl (Nat.le_of_ble_eq_true rfl) dX5_areAsMany_1 (fun r1 I1 L1 hp1 => ?_)
  obtain ⟨rfl, e1, e2⟩ := hp1
  have e1 := e1.symm
  have e2 := e2.symm
  subst e1; subst e2
  refine v_st (st' := [.int (nI (pc5 b))]) rfl ?_
  refine v_iload_n X 1 rfl dX5_areAsMany_4 ?_
  refine v_callS X (c_J6_bitCount_0f7a4 _ _ hE _ _ o (by omega)) k_X5_138 ⟨rfl, rfl, Nat.le_of_ble_eq_true rfl, Nat.le_of_ble_eq_true rfl⟩ (As := [.int (nI o)]) (rest := [.int (nI (pc5 b))]) rfl rfl (Nat.le_of_ble_eq_true rfl) dX5_areAsMany_5 (fun r5 I5 L5 hp5 => ?_)
  obtain ⟨rfl, e1, e2⟩ := hp5
  have e1 := e1.symm
  have e2 := e2.symm
  subst e1; subst e2
  refine v_st (st' := [.int (nI (pc5 o)), .int (nI (pc5 b))]) rfl ?_
  refine v_icmp_ne_n X (by omega) (by omega) dX5_areAsMany_8 (tgt := 15) (by decide) (fun h8 => ?_) (fun h8 => ?_)
  · refine v_iconst X (v := (nI 0)) dX5_areAsMany_15 (by decide) ?_
    exact v_zret X Y (rfl) dX5_areAsMany_16 (⟨retF h8, rfl, rfl⟩)
  · refine v_iconst X (v := (nI 1)) dX5_areAsMany_11 (by decide) ?_
    refine v_goto X (tgt := 16) dX5_areAsMany_12 (by decide) ?_
    exact v_zret X Y (rfl) dX5_areAsMany_16 (⟨retT h8, rfl, rfl⟩)
set_option maxHeartbeats 4000000 in
set_option maxRecDepth 100000 in
theorem c_X5_holds (l : Launch) (E : VE) (hE : EOk E) (I : TI) (L : TL) (b i : Nat) (hb : b < 2 ^ 31) (hi : i < 32) : Ct l E yX5_holds cX5_holds 2 (some .boolean) rm_X5_holds [.int (nI b), .int (nI i)] I L (fun r I' L' => r = some (.int (bI (b / 2 ^ i % 2 = 1))) ∧ I' = I ∧ L' = L) := by
  refine ct_of (by decide +kernel) (Nat.le_of_ble_eq_true rfl) hE ?_
  intro a X Y hl hEE
  subst hl; subst hEE
  show V a 0 [(0, .int (nI b)), (1, .int (nI i))] [] I L
  refine v_iload_n X 0 rfl dX5_holds_0 ?_
  refine v_iload_n X 1 rfl dX5_holds_1 ?_
  refine v_ishr X dX5_holds_2 ?_
  refine v_eqi (y := (nI (b / 2 ^ i))) (sh_r (by omega) (by omega)) ?_
  refine v_iconst X (v := (nI 1)) dX5_holds_3 (by decide) ?_
  refine v_iand X dX5_holds_4 ?_
  refine v_eqi (y := (nI ((b / 2 ^ i) &&& 1))) (an_and _ _) ?_
  refine v_eqi (y := (nI (b / 2 ^ i % 2))) (congrArg nI (Nat.and_one_is_mod _)) ?_
  refine v_iconst X (v := (nI 1)) dX5_holds_5 (by decide) ?_
  refine v_icmp_ne_n X (by omega) (by omega) dX5_holds_6 (tgt := 13) (by decide) (fun h6 => ?_) (fun h6 => ?_)
  · refine v_iconst X (v := (nI 0)) dX5_holds_13 (by decide) ?_
    exact v_zret X Y (rfl) dX5_holds_14 (⟨retF h6, rfl, rfl⟩)
  · refine v_iconst X (v := (nI 1)) dX5_holds_9 (by decide) ?_
    refine v_goto X (tgt := 14) dX5_holds_10 (by decide) ?_
    exact v_zret X Y (rfl) dX5_holds_14 (⟨retT h6, rfl, rfl⟩)
set_option maxHeartbeats 4000000 in
set_option maxRecDepth 100000 in
theorem c_X5_signOf (l : Launch) (E : VE) (hE : EOk E) (I : TI) (L : TL) (v : Int64) : Ct l E yX5_signOf cX5_signOf 2 (some .int) rm_X5_signOf [.long v] I L (fun r I' L' => r = some (.int (sgn v)) ∧ I' = I ∧ L' = L) := by
  refine ct_of (by decide +kernel) (Nat.le_of_ble_eq_true rfl) hE ?_
  intro a X Y hl hEE
  subst hl; subst hEE
  show V a 0 [(0, .long v)] [] I L
  refine v_lload_n X 0 rfl dX5_signOf_0 ?_
  refine v_lconst X (v := 0) dX5_signOf_1 rfl ?_
  refine v_lcmp_le X dX5_signOf_2 dX5_signOf_3 (tgt := 10) (by decide) (fun h2 => ?_) (fun h2 => ?_)
  · refine v_lload_n X 0 rfl dX5_signOf_10 ?_
    refine v_lconst X (v := 0) dX5_signOf_11 rfl ?_
    refine v_lcmp_ge X dX5_signOf_12 dX5_signOf_13 (tgt := 20) (by decide) (fun h12 => ?_) (fun h12 => ?_)
    · refine v_iconst X (v := (nI 0)) dX5_signOf_20 (by decide) ?_
      exact v_iret X Y dX5_signOf_21 (⟨by unfold sgn; rw [if_neg (Int64.not_lt.mpr h2), if_neg (Int64.not_lt.mpr h12)]; rfl, rfl, rfl⟩)
    · refine v_iconst X (v := (-1)) dX5_signOf_16 (by decide) ?_
      refine v_goto X (tgt := 21) dX5_signOf_17 (by decide) ?_
      exact v_iret X Y dX5_signOf_21 (⟨by unfold sgn; rw [if_neg (Int64.not_lt.mpr h2), if_pos (Int64.not_le.mp h12)], rfl, rfl⟩)
  · refine v_iconst X (v := (nI 1)) dX5_signOf_6 (by decide) ?_
    refine v_goto X (tgt := 21) dX5_signOf_7 (by decide) ?_
    exact v_iret X Y dX5_signOf_21 (⟨by unfold sgn; rw [if_pos (Int64.not_le.mp h2)]; rfl, rfl, rfl⟩)
set_option maxHeartbeats 4000000 in
set_option maxRecDepth 100000 in
theorem c_X5_refused (l : Launch) (E : VE) (hE : EOk E) (I : TI) (L : TL) (w : Nat) (hw : 2 ≤ w) (hw9 : w < 9) : Ct l E yX5_refused cX5_refused 2 (some .int) rm_X5_refused [.ref (eA E 0 0), .int (-nI w)] I L (fun r I' L' => r = some (.int (-nI w)) ∧ I' = rfI I w ∧ L' = L) := by
  refine ct_of (by decide +kernel) (Nat.le_of_ble_eq_true rfl) hE ?_
  intro a X Y hl hEE
  subst hl; subst hEE
  show V a 0 [(0, .ref (eA (vE a) 0 0)), (1, .int (-nI w))] [] I L
  refine v_iload_n X 1 rfl dX5_refused_0 ?_
  refine v_bipush X (v := (-8)) dX5_refused_1 (by decide) ?_
  refine v_icmp_lt X dX5_refused_3 (tgt := 23) (by decide) (fun h3 => ?_) (fun h3 => ?_)
  · exact absurd h3 (neg_lo w hw9 hw).1
  · refine v_iload_n X 1 rfl dX5_refused_6 ?_
    refine v_bipush X (v := (-2)) dX5_refused_7 (by decide) ?_
    refine v_icmp_gt X dX5_refused_9 (tgt := 23) (by decide) (fun h9 => ?_) (fun h9 => ?_)
    · exact absurd h9 (neg_lo w hw9 hw).2
    · refine v_aload_n X 0 rfl dX5_refused_12 ?_
      refine gf_X5_28 X dX5_refused_13 ?_
      refine v_iload_n X 1 rfl dX5_refused_16 ?_
      refine v_ineg X dX5_refused_17 ?_
      refine v_eqi (y := (nI w)) (Int32.neg_neg) ?_
      refine v_dup2_11 X dX5_refused_18 rfl rfl ?_
      refine v_iald_n X dl_11 (fun _ _ => rfl) (n := 9) (by omega) (by decide) dX5_refused_19 ?_
      refine v_iconst X (v := (nI 1)) dX5_refused_20 (by decide) ?_
      refine v_iadd X dX5_refused_21 ?_
      refine v_iast_n X dl_11 (fun _ _ => rfl) (n := 9) (by omega) (by decide) dX5_refused_22 ?_
      refine v_iload_n X 1 rfl dX5_refused_23 ?_
      exact v_iret X Y dX5_refused_24 (⟨rfl, rfl, rfl⟩)
set_option maxHeartbeats 4000000 in
set_option maxRecDepth 100000 in
theorem c_X5_nought (l : Launch) (E : VE) (hE : EOk E) (I : TI) (L : TL) (w : Nat) (hw : 2 ≤ w) (hw9 : w < 9) : Ct l E yX5_nought cX5_nought 2 (some .int) rm_X5_nought [.ref (eA E 0 0), .int (-nI w)] I L (fun r I' L' => r = some (.int 0) ∧ I' = rfI I w ∧ L' = L) := by
  refine ct_of (by decide +kernel) (Nat.le_of_ble_eq_true rfl) hE ?_
  intro a X Y hl hEE
  subst hl; subst hEE
  show V a 0 [(0, .ref (eA (vE a) 0 0)), (1, .int (-nI w))] [] I L
  refine v_aload_n X 0 rfl dX5_nought_0 ?_
  refine v_iload_n X 1 rfl dX5_nought_1 ?_
  refine v_callV X (c_X5_refused _ _ hE _ _ w hw hw9) k_X5_58 dl_0 (cef_0 _ _ _ _) rfl ⟨rfl, rfl, Nat.le_of_ble_eq_true rfl, Nat.le_of_ble_eq_true rfl⟩ (As := [.int (-nI w)]) (rest := []) rfl rfl (Nat.le_of_ble_eq_true rfl) dX5_nought_2 (fun r2 I2 L2 hp2 => ?_)
  obtain ⟨rfl, e1, e2⟩ := hp2
  have e1 := e1.symm
  have e2 := e2.symm
  subst e1; subst e2
  refine v_st (st' := [.int (-nI w)]) rfl ?_
  refine v_pop X dX5_nought_5 rfl ?_
  refine v_iconst X (v := (nI 0)) dX5_nought_6 (by decide) ?_
  exact v_iret X Y dX5_nought_7 (⟨rfl, rfl, rfl⟩)
end
section
theorem fill_s {J : TI} {k j i : Nat} {v : Int32} (h : ∀ x, x < i → J k j x = v) : ∀ x, x < i + 1 → upI J k j i v k j x = v := fun x hx => by
  by_cases e : x = i
  · rw [e]; exact upI_eq
  · exact (upI_x e).trans (h x (by omega))
set_option maxHeartbeats 4000000 in
set_option maxRecDepth 100000 in
theorem c_J7_fill_3 (l : Launch) (E : VE) (hE : EOk E) (I : TI) (L : TL) (t : Nat) (ht : t < 12) (v : Int32) : Ct l E yJ7_fill_53178 cJ7_fill_53178 4 none rm_J7_fill_53178 [.ref (eA E 3 t), .int v] I L (fun r I' L' => r = none ∧ Fr [(3, t)] I I' ∧ (∀ x, x < 25 → I' 3 t x = v) ∧ L' = L) := by
  refine ct_of (by decide +kernel) (Nat.le_of_ble_eq_true rfl) hE ?_
  intro a X Y hl hEE
  subst hl; subst hEE
  show V a 0 [(0, .ref (eA (vE a) 3 t)), (1, .int v)] [] I L
  refine v_iconst X (v := (nI 0)) dJ7_fill_53178_0 (by decide) ?_
  refine v_istore_n X [1, 2, 0] (lv' := [(0, .ref (eA (vE a) 3 t)), (1, .int v), (2, .int (nI 0))]) (by decide) rfl dJ7_fill_53178_1 ?_
  refine v_aload_n X 0 rfl dJ7_fill_53178_2 ?_
  refine v_aleni X (dl_3 ht) (fun _ _ => rfl) (v := nI 25) rfl dJ7_fill_53178_3 ?_
  refine v_istore_n X [1, 2, 3, 0] (lv' := [(0, .ref (eA (vE a) 3 t)), (1, .int v), (2, .int (nI 0)), (3, .int (nI 25))]) (by decide) rfl dJ7_fill_53178_4 ?_
  have loop5 : ∀ (fu : Nat) (i : Nat) (I1 : TI), 25 - i < fu → (i ≤ 25) → (Fr [(3, t)] I I1) → (∀ x, x < i → I1 3 t x = v) → V a 5 [(0, .ref (eA (vE a) 3 t)), (1, .int v), (2, .int (nI i)), (3, .int (nI 25))] [] I1 L := by
    intro fu
    induction fu with
    | zero => intro i I1 hm _ _ _; exact absurd hm (Nat.not_lt_zero _)
    | succ fu ih5 =>
      intro i I1 hm5 hi hF hv
      refine v_iload_n X 2 rfl dJ7_fill_53178_5 ?_
      refine v_iload_n X 3 rfl dJ7_fill_53178_6 ?_
      refine v_icmp_ge_n X (by omega) (by omega) dJ7_fill_53178_7 (tgt := 20) (by decide) (fun h7 => ?_) (fun h7 => ?_)
      · exact v_vret X Y dJ7_fill_53178_20 (⟨rfl, hF, fun x hx => hv x (by omega), rfl⟩)
      · refine v_aload_n X 0 rfl dJ7_fill_53178_10 ?_
        refine v_iload_n X 2 rfl dJ7_fill_53178_11 ?_
        refine v_iload_n X 1 rfl dJ7_fill_53178_12 ?_
        refine v_iast_n X (dl_3 ht) (fun _ _ => rfl) (n := 25) (by omega) (by decide) dJ7_fill_53178_13 ?_
        refine v_iinc X [1, 2, 0, 3] 2 (nI (i + 1)) (lv' := [(0, .ref (eA (vE a) 3 t)), (1, .int v), (2, .int (nI (i + 1))), (3, .int (nI 25))]) rfl (nI_1 _) (by decide) rfl dJ7_fill_53178_14 ?_
        refine v_goto X (tgt := 5) dJ7_fill_53178_17 (by decide) ?_
        exact ih5 (i + 1) (upI I1 3 t i v) (by omega) (by omega) (hF.up (by simp)) (fill_s hv)
  exact loop5 _ 0 I (Nat.lt_succ_self _) (Nat.zero_le _) Fr.rf (fun x hx => absurd hx (Nat.not_lt_zero _))
set_option maxHeartbeats 4000000 in
set_option maxRecDepth 100000 in
theorem c_J7_fill_9 (l : Launch) (E : VE) (hE : EOk E) (I : TI) (L : TL) (v : Int32) : Ct l E yJ7_fill_53178 cJ7_fill_53178 4 none rm_J7_fill_53178 [.ref (eA E 9 0), .int v] I L (fun r I' L' => r = none ∧ Fr [(9, 0)] I I' ∧ (∀ x, x < 16 → I' 9 0 x = v) ∧ L' = L) := by
  refine ct_of (by decide +kernel) (Nat.le_of_ble_eq_true rfl) hE ?_
  intro a X Y hl hEE
  subst hl; subst hEE
  show V a 0 [(0, .ref (eA (vE a) 9 0)), (1, .int v)] [] I L
  refine v_iconst X (v := (nI 0)) dJ7_fill_53178_0 (by decide) ?_
  refine v_istore_n X [1, 2, 0] (lv' := [(0, .ref (eA (vE a) 9 0)), (1, .int v), (2, .int (nI 0))]) (by decide) rfl dJ7_fill_53178_1 ?_
  refine v_aload_n X 0 rfl dJ7_fill_53178_2 ?_
  refine v_aleni X dl_9 (fun _ _ => rfl) (v := nI 16) rfl dJ7_fill_53178_3 ?_
  refine v_istore_n X [1, 2, 3, 0] (lv' := [(0, .ref (eA (vE a) 9 0)), (1, .int v), (2, .int (nI 0)), (3, .int (nI 16))]) (by decide) rfl dJ7_fill_53178_4 ?_
  have loop5 : ∀ (fu : Nat) (i : Nat) (I1 : TI), 16 - i < fu → (i ≤ 16) → (Fr [(9, 0)] I I1) → (∀ x, x < i → I1 9 0 x = v) → V a 5 [(0, .ref (eA (vE a) 9 0)), (1, .int v), (2, .int (nI i)), (3, .int (nI 16))] [] I1 L := by
    intro fu
    induction fu with
    | zero => intro i I1 hm _ _ _; exact absurd hm (Nat.not_lt_zero _)
    | succ fu ih5 =>
      intro i I1 hm5 hi hF hv
      refine v_iload_n X 2 rfl dJ7_fill_53178_5 ?_
      refine v_iload_n X 3 rfl dJ7_fill_53178_6 ?_
      refine v_icmp_ge_n X (by omega) (by omega) dJ7_fill_53178_7 (tgt := 20) (by decide) (fun h7 => ?_) (fun h7 => ?_)
      · exact v_vret X Y dJ7_fill_53178_20 (⟨rfl, hF, fun x hx => hv x (by omega), rfl⟩)
      · refine v_aload_n X 0 rfl dJ7_fill_53178_10 ?_
        refine v_iload_n X 2 rfl dJ7_fill_53178_11 ?_
        refine v_iload_n X 1 rfl dJ7_fill_53178_12 ?_
        refine v_iast_n X dl_9 (fun _ _ => rfl) (n := 16) (by omega) (by decide) dJ7_fill_53178_13 ?_
        refine v_iinc X [1, 2, 0, 3] 2 (nI (i + 1)) (lv' := [(0, .ref (eA (vE a) 9 0)), (1, .int v), (2, .int (nI (i + 1))), (3, .int (nI 16))]) rfl (nI_1 _) (by decide) rfl dJ7_fill_53178_14 ?_
        refine v_goto X (tgt := 5) dJ7_fill_53178_17 (by decide) ?_
        exact ih5 (i + 1) (upI I1 9 0 i v) (by omega) (by omega) (hF.up (by simp)) (fill_s hv)
  exact loop5 _ 0 I (Nat.lt_succ_self _) (Nat.zero_le _) Fr.rf (fun x hx => absurd hx (Nat.not_lt_zero _))
set_option maxHeartbeats 4000000 in
set_option maxRecDepth 100000 in
theorem c_X0_begin (l : Launch) (E : VE) (hE : EOk E) (I : TI) (L : TL) (t : Nat) (ht : t < 12) (n m kd : Int32) : Ct l E yX0_begin cX0_begin 4 none rm_X0_begin [.ref (eA E 2 t), .int n, .int m, .int kd] I L (fun r I' L' => r = none ∧ Fr [(2, t), (3, t)] I I' ∧ I' 2 t 1 = n ∧ I' 2 t 2 = m ∧ I' 2 t 3 = kd ∧ I' 2 t 4 = -1 ∧ I' 2 t 5 = nI 1 ∧ (∀ x, x < 25 → I' 3 t x = nI 0) ∧ L' = L) := by
  refine ct_of (by decide +kernel) (Nat.le_of_ble_eq_true rfl) hE ?_
  intro a X Y hl hEE
  subst hl; subst hEE
  show V a 0 [(0, .ref (eA (vE a) 2 t)), (1, .int n), (2, .int m), (3, .int kd)] [] I L
  refine v_aload_n X 0 rfl dX0_begin_0 ?_
  refine v_iload_n X 1 rfl dX0_begin_1 ?_
  refine pf_X0_15 X ht dX0_begin_2 ?_
  refine v_aload_n X 0 rfl dX0_begin_5 ?_
  refine v_iload_n X 2 rfl dX0_begin_6 ?_
  refine pf_X0_19 X ht dX0_begin_7 ?_
  refine v_aload_n X 0 rfl dX0_begin_10 ?_
  refine v_iload_n X 3 rfl dX0_begin_11 ?_
  refine pf_X0_22 X ht dX0_begin_12 ?_
  refine v_aload_n X 0 rfl dX0_begin_15 ?_
  refine v_iconst X (v := (-1)) dX0_begin_16 (by decide) ?_
  refine pf_X0_25 X ht dX0_begin_17 ?_
  refine v_aload_n X 0 rfl dX0_begin_20 ?_
  refine v_iconst X (v := (nI 1)) dX0_begin_21 (by decide) ?_
  refine pf_X0_28 X ht rfl dX0_begin_22 ?_
  refine v_aload_n X 0 rfl dX0_begin_25 ?_
  refine gf_X0_9 X ht dX0_begin_26 ?_
  refine v_iconst X (v := (nI 0)) dX0_begin_29 (by decide) ?_
  refine v_callS X (c_J7_fill_3 _ _ hE _ _ t ht (nI 0)) k_X0_32 ⟨rfl, rfl, Nat.le_of_ble_eq_true rfl, Nat.le_of_ble_eq_true rfl⟩ (As := [.ref (eA (vE a) 3 t), .int (nI 0)]) (rest := []) rfl rfl (Nat.le_of_ble_eq_true rfl) dX0_begin_30 (fun r30 I30 L30 hp30 => ?_)
  obtain ⟨rfl, hF30, hv30, e2⟩ := hp30
  have e2 := e2.symm
  subst e2
  refine v_st (st' := []) rfl ?_
  exact v_vret X Y dX0_begin_33 (⟨rfl, Fr.tr ((((((Fr.rf.up (by simp)).up (by simp)).up (by simp)).up (by simp)).up (by simp))) (hF30.mono (by simp)), by rw [hF30.at (by simp)]; simp [upI], by rw [hF30.at (by simp)]; simp [upI], by rw [hF30.at (by simp)]; simp [upI], by rw [hF30.at (by simp)]; simp [upI], by rw [hF30.at (by simp)]; simp [upI], hv30, rfl⟩)
set_option maxHeartbeats 4000000 in
set_option maxRecDepth 100000 in
theorem c_X0_reaches (l : Launch) (E : VE) (hE : EOk E) (I : TI) (L : TL) (t : Nat) (ht : t < 12) (r c : Nat) (hr : I 2 t 1 = nI r) (hc : I 2 t 2 = nI c) (i j : Int32) : Ct l E yX0_reaches cX0_reaches 3 (some .boolean) rm_X0_reaches [.ref (eA E 2 t), .int i, .int j] I L (fun r9 I' L' => r9 = some (.int (bI (inR r i ∧ inR c j))) ∧ I' = I ∧ L' = L) := by
  refine ct_of (by decide +kernel) (Nat.le_of_ble_eq_true rfl) hE ?_
  intro a X Y hl hEE
  subst hl; subst hEE
  show V a 0 [(0, .ref (eA (vE a) 2 t)), (1, .int i), (2, .int j)] [] I L
  refine v_iload_n X 1 rfl dX0_reaches_0 ?_
  refine v_if_lt X dX0_reaches_1 (tgt := 28) (by decide) (fun h1 => ?_) (fun h1 => ?_)
  · refine v_iconst X (v := (nI 0)) dX0_reaches_28 (by decide) ?_
    exact v_zret X Y (rfl) dX0_reaches_29 (⟨retF fun q => absurd q.1.1 (Int32.not_le.mpr h1), rfl, rfl⟩)
  · refine v_iload_n X 1 rfl dX0_reaches_4 ?_
    refine v_aload_n X 0 rfl dX0_reaches_5 ?_
    refine gf_X0_15 X ht dX0_reaches_6 ?_
    refine v_eqi (y := (nI r)) (hr) ?_
    refine v_icmp_ge X dX0_reaches_9 (tgt := 28) (by decide) (fun h9 => ?_) (fun h9 => ?_)
    · refine v_iconst X (v := (nI 0)) dX0_reaches_28 (by decide) ?_
      exact v_zret X Y (rfl) dX0_reaches_29 (⟨retF fun q => absurd q.1.2 (Int32.not_lt.mpr h9), rfl, rfl⟩)
    · refine v_iload_n X 2 rfl dX0_reaches_12 ?_
      refine v_if_lt X dX0_reaches_13 (tgt := 28) (by decide) (fun h13 => ?_) (fun h13 => ?_)
      · refine v_iconst X (v := (nI 0)) dX0_reaches_28 (by decide) ?_
        exact v_zret X Y (rfl) dX0_reaches_29 (⟨retF fun q => absurd q.2.1 (Int32.not_le.mpr h13), rfl, rfl⟩)
      · refine v_iload_n X 2 rfl dX0_reaches_16 ?_
        refine v_aload_n X 0 rfl dX0_reaches_17 ?_
        refine gf_X0_19 X ht dX0_reaches_18 ?_
        refine v_eqi (y := (nI c)) (hc) ?_
        refine v_icmp_ge X dX0_reaches_21 (tgt := 28) (by decide) (fun h21 => ?_) (fun h21 => ?_)
        · refine v_iconst X (v := (nI 0)) dX0_reaches_28 (by decide) ?_
          exact v_zret X Y (rfl) dX0_reaches_29 (⟨retF fun q => absurd q.2.2 (Int32.not_lt.mpr h21), rfl, rfl⟩)
        · refine v_iconst X (v := (nI 1)) dX0_reaches_24 (by decide) ?_
          refine v_goto X (tgt := 29) dX0_reaches_25 (by decide) ?_
          exact v_zret X Y (rfl) dX0_reaches_29 (⟨retT ⟨⟨Int32.not_lt.mp h1, Int32.not_le.mp h9⟩, ⟨Int32.not_lt.mp h13, Int32.not_le.mp h21⟩⟩, rfl, rfl⟩)
set_option maxHeartbeats 4000000 in
set_option maxRecDepth 100000 in
theorem c_X0_number (l : Launch) (E : VE) (hE : EOk E) (I : TI) (L : TL) (t : Nat) (ht : t < 12) (r c : Nat) (hr : I 2 t 1 = nI r) (hc : I 2 t 2 = nI c) (hr5 : r ≤ 5) (hc5 : c ≤ 5) (i j : Nat) (hi : i < r) (hj : j < c) : Ct l E yX0_number cX0_number 3 (some .int) rm_X0_number [.ref (eA E 2 t), .int (nI i), .int (nI j)] I L (fun r9 I' L' => r9 = some (.int (I 3 t (5 * i + j))) ∧ I' = I ∧ L' = L) := by
  refine ct_of (by decide +kernel) (Nat.le_of_ble_eq_true rfl) hE ?_
  intro a X Y hl hEE
  subst hl; subst hEE
  show V a 0 [(0, .ref (eA (vE a) 2 t)), (1, .int (nI i)), (2, .int (nI j))] [] I L
  refine v_aload_n X 0 rfl dX0_number_0 ?_
  refine v_iload_n X 1 rfl dX0_number_1 ?_
  refine v_iload_n X 2 rfl dX0_number_2 ?_
  refine v_callV X (c_X0_reaches _ _ hE _ _ t ht r c (hr) (hc) (nI i) (nI j)) k_X0_38 (dl_2 ht) (cef_2 _ _ _ _) rfl ⟨rfl, rfl, Nat.le_of_ble_eq_true rfl, Nat.le_of_ble_eq_true rfl⟩ (As := [.int (nI i), .int (nI j)]) (rest := []) rfl rfl (Nat.le_of_ble_eq_true rfl) dX0_number_3 (fun r3 I3 L3 hp3 => ?_)
  obtain ⟨rfl, e1, e2⟩ := hp3
  have e1 := e1.symm
  have e2 := e2.symm
  subst e1; subst e2
  refine v_st (st' := [.int (bI (inR r (nI i) ∧ inR c (nI j)))]) rfl ?_
  refine v_ifb_eq X dX0_number_6 (tgt := 22) (by decide) (fun h6 => ?_) (fun h6 => ?_)
  · exact absurd ⟨(inR_n (by omega) (by omega)).mpr hi, (inR_n (by omega) (by omega)).mpr hj⟩ h6
  · refine v_aload_n X 0 rfl dX0_number_9 ?_
    refine gf_X0_9 X ht dX0_number_10 ?_
    refine v_iconst X (v := (nI 5)) dX0_number_13 (by decide) ?_
    refine v_iload_n X 1 rfl dX0_number_14 ?_
    refine v_imul X dX0_number_15 ?_
    refine v_eqi (y := (nI (5 * i))) (pk_mul _ _) ?_
    refine v_iload_n X 2 rfl dX0_number_16 ?_
    refine v_iadd X dX0_number_17 ?_
    refine v_eqi (y := (nI ((5 * i) + j))) (nI_add _ _) ?_
    refine v_iald_n X (dl_3 ht) (fun _ _ => rfl) (n := 25) (by omega) (by decide) dX0_number_18 ?_
    refine v_goto X (tgt := 23) dX0_number_19 (by decide) ?_
    exact v_iret X Y dX0_number_23 (⟨rfl, rfl, rfl⟩)
set_option maxHeartbeats 4000000 in
set_option maxRecDepth 100000 in
theorem c_X0_put (l : Launch) (E : VE) (hE : EOk E) (I : TI) (L : TL) (t : Nat) (ht : t < 12) (r c : Nat) (hr : I 2 t 1 = nI r) (hc : I 2 t 2 = nI c) (hr5 : r ≤ 5) (hc5 : c ≤ 5) (i j : Nat) (hi : i < r) (hj : j < c) (v : Int64) : Ct l E yX0_put cX0_put 5 none rm_X0_put [.ref (eA E 2 t), .int (nI i), .int (nI j), .long v] I L (fun r9 I' L' => r9 = none ∧ I' = (if -1000 ≤ v ∧ v ≤ 1000 then upI I 3 t (5 * i + j) v.toInt32 else upI I 2 t 5 (nI 0)) ∧ L' = L) := by
  refine ct_of (by decide +kernel) (Nat.le_of_ble_eq_true rfl) hE ?_
  intro a X Y hl hEE
  subst hl; subst hEE
  show V a 0 [(0, .ref (eA (vE a) 2 t)), (1, .int (nI i)), (2, .int (nI j)), (3, .long v)] [] I L
  refine v_lload_n X 3 rfl dX0_put_0 ?_
  refine v_callN X (c_X5_isNumber _ _ hE _ _ v) k_X0_42 ⟨rfl, rfl, Nat.le_of_ble_eq_true rfl, Nat.le_of_ble_eq_true rfl⟩ (As := [.long v]) (rest := []) rfl rfl (Nat.le_of_ble_eq_true rfl) dX0_put_1 (fun r1 I1 L1 hp1 => ?_)
  obtain ⟨rfl, e1, e2⟩ := hp1
  have e1 := e1.symm
  have e2 := e2.symm
  subst e1; subst e2
  refine v_st (st' := [.int (bI (-1000 ≤ v ∧ v ≤ 1000))]) rfl ?_
  refine v_ifb_ne X dX0_put_4 (tgt := 15) (by decide) (fun h4 => ?_) (fun h4 => ?_)
  · refine v_aload_n X 0 rfl dX0_put_15 ?_
    refine v_iload_n X 1 rfl dX0_put_16 ?_
    refine v_iload_n X 2 rfl dX0_put_17 ?_
    refine v_callV X (c_X0_reaches _ _ hE _ _ t ht r c (hr) (hc) (nI i) (nI j)) k_X0_38 (dl_2 ht) (cef_2 _ _ _ _) rfl ⟨rfl, rfl, Nat.le_of_ble_eq_true rfl, Nat.le_of_ble_eq_true rfl⟩ (As := [.int (nI i), .int (nI j)]) (rest := []) rfl rfl (Nat.le_of_ble_eq_true rfl) dX0_put_18 (fun r18 I18 L18 hp18 => ?_)
    obtain ⟨rfl, e1, e2⟩ := hp18
    have e1 := e1.symm
    have e2 := e2.symm
    subst e1; subst e2
    refine v_st (st' := [.int (bI (inR r (nI i) ∧ inR c (nI j)))]) rfl ?_
    refine v_ifb_eq X dX0_put_21 (tgt := 36) (by decide) (fun h21 => ?_) (fun h21 => ?_)
    · exact absurd ⟨(inR_n (by omega) (by omega)).mpr hi, (inR_n (by omega) (by omega)).mpr hj⟩ h21
    · refine v_aload_n X 0 rfl dX0_put_24 ?_
      refine gf_X0_9 X ht dX0_put_25 ?_
      refine v_iconst X (v := (nI 5)) dX0_put_28 (by decide) ?_
      refine v_iload_n X 1 rfl dX0_put_29 ?_
      refine v_imul X dX0_put_30 ?_
      refine v_eqi (y := (nI (5 * i))) (pk_mul _ _) ?_
      refine v_iload_n X 2 rfl dX0_put_31 ?_
      refine v_iadd X dX0_put_32 ?_
      refine v_eqi (y := (nI ((5 * i) + j))) (nI_add _ _) ?_
      refine v_lload_n X 3 rfl dX0_put_33 ?_
      refine v_l2i X dX0_put_34 rfl ?_
      refine v_iast_n X (dl_3 ht) (fun _ _ => rfl) (n := 25) (by omega) (by decide) dX0_put_35 ?_
      exact v_vret X Y dX0_put_36 (⟨rfl, by rw [if_pos h4], rfl⟩)
  · refine v_aload_n X 0 rfl dX0_put_7 ?_
    refine v_iconst X (v := (nI 0)) dX0_put_8 (by decide) ?_
    refine pf_X0_28 X ht rfl dX0_put_9 ?_
    refine v_goto X (tgt := 36) dX0_put_12 (by decide) ?_
    exact v_vret X Y dX0_put_36 (⟨rfl, by rw [if_neg h4], rfl⟩)
set_option maxHeartbeats 4000000 in
set_option maxRecDepth 100000 in
theorem c_X5_gridOf (l : Launch) (E : VE) (hE : EOk E) (I : TI) (L : TL) (c : Nat) (hc : I 0 0 1 = nI c) (hcn : c ≤ 12) (x : Int32) : Ct l E yX5_gridOf cX5_gridOf 2 (some (.object "WellTables$Grid")) rm_X5_gridOf [.ref (eA E 0 0), .int x] I L (fun r I' L' => ((∃ t, t < c ∧ x = nI t ∧ r = some (.ref (eA E 2 t))) ∨ (¬ isT c x ∧ r = some .null)) ∧ I' = I ∧ L' = L) := by
  refine ct_of (by decide +kernel) (Nat.le_of_ble_eq_true rfl) hE ?_
  intro a X Y hl hEE
  subst hl; subst hEE
  show V a 0 [(0, .ref (eA (vE a) 0 0)), (1, .int x)] [] I L
  refine v_iload_n X 1 rfl dX5_gridOf_0 ?_
  refine v_if_lt X dX5_gridOf_1 (tgt := 12) (by decide) (fun h1 => ?_) (fun h1 => ?_)
  · refine v_null X dX5_gridOf_12 ?_
    refine v_goto X (tgt := 22) dX5_gridOf_13 (by decide) ?_
    exact v_aret X Y (Or.inl rfl) dX5_gridOf_22 (⟨Or.inr ⟨isT_neg (by omega) h1, rfl⟩, rfl, rfl⟩)
  · refine v_iload_n X 1 rfl dX5_gridOf_4 ?_
    refine v_aload_n X 0 rfl dX5_gridOf_5 ?_
    refine gf_X5_117 X dX5_gridOf_6 ?_
    refine v_eqi (y := (nI c)) (hc) ?_
    refine v_icmp_lt X dX5_gridOf_9 (tgt := 16) (by decide) (fun h9 => ?_) (fun h9 => ?_)
    · obtain ⟨t, ht, rfl⟩ := ix_of (Int32.not_lt.mp h1) h9 (by omega)
      refine v_aload_n X 0 rfl dX5_gridOf_16 ?_
      refine gf_X5_11 X dX5_gridOf_17 ?_
      refine v_iload_n X 1 rfl dX5_gridOf_20 ?_
      refine v_aaldG_n X (by omega) dX5_gridOf_21 ?_
      exact v_aret X Y (Or.inr ⟨_, rfl⟩) dX5_gridOf_22 (⟨Or.inl ⟨t, ht, rfl, rfl⟩, rfl, rfl⟩)
    · refine v_null X dX5_gridOf_12 ?_
      refine v_goto X (tgt := 22) dX5_gridOf_13 (by decide) ?_
      exact v_aret X Y (Or.inl rfl) dX5_gridOf_22 (⟨Or.inr ⟨isT_big (by omega) (Int32.not_lt.mp h9), rfl⟩, rfl, rfl⟩)
set_option maxHeartbeats 4000000 in
set_option maxRecDepth 100000 in
theorem c_X5_webOf (l : Launch) (E : VE) (hE : EOk E) (I : TI) (L : TL) (c : Nat) (hc : I 0 0 3 = nI c) (hcn : c ≤ 4) (x : Int32) : Ct l E yX5_webOf cX5_webOf 2 (some (.object "WellTables$Web")) rm_X5_webOf [.ref (eA E 0 0), .int x] I L (fun r I' L' => ((∃ t, t < c ∧ x = nI t ∧ r = some (.ref (eA E 5 t))) ∨ (¬ isT c x ∧ r = some .null)) ∧ I' = I ∧ L' = L) := by
  refine ct_of (by decide +kernel) (Nat.le_of_ble_eq_true rfl) hE ?_
  intro a X Y hl hEE
  subst hl; subst hEE
  show V a 0 [(0, .ref (eA (vE a) 0 0)), (1, .int x)] [] I L
  refine v_iload_n X 1 rfl dX5_webOf_0 ?_
  refine v_if_lt X dX5_webOf_1 (tgt := 12) (by decide) (fun h1 => ?_) (fun h1 => ?_)
  · refine v_null X dX5_webOf_12 ?_
    refine v_goto X (tgt := 22) dX5_webOf_13 (by decide) ?_
    exact v_aret X Y (Or.inl rfl) dX5_webOf_22 (⟨Or.inr ⟨isT_neg (by omega) h1, rfl⟩, rfl, rfl⟩)
  · refine v_iload_n X 1 rfl dX5_webOf_4 ?_
    refine v_aload_n X 0 rfl dX5_webOf_5 ?_
    refine gf_X5_158 X dX5_webOf_6 ?_
    refine v_eqi (y := (nI c)) (hc) ?_
    refine v_icmp_lt X dX5_webOf_9 (tgt := 16) (by decide) (fun h9 => ?_) (fun h9 => ?_)
    · obtain ⟨t, ht, rfl⟩ := ix_of (Int32.not_lt.mp h1) h9 (by omega)
      refine v_aload_n X 0 rfl dX5_webOf_16 ?_
      refine gf_X5_17 X dX5_webOf_17 ?_
      refine v_iload_n X 1 rfl dX5_webOf_20 ?_
      refine v_aaldW_n X (by omega) dX5_webOf_21 ?_
      exact v_aret X Y (Or.inr ⟨_, rfl⟩) dX5_webOf_22 (⟨Or.inl ⟨t, ht, rfl, rfl⟩, rfl, rfl⟩)
    · refine v_null X dX5_webOf_12 ?_
      refine v_goto X (tgt := 22) dX5_webOf_13 (by decide) ?_
      exact v_aret X Y (Or.inl rfl) dX5_webOf_22 (⟨Or.inr ⟨isT_big (by omega) (Int32.not_lt.mp h9), rfl⟩, rfl, rfl⟩)
set_option maxHeartbeats 4000000 in
set_option maxRecDepth 100000 in
theorem c_X5_freeGrid (l : Launch) (E : VE) (hE : EOk E) (I : TI) (L : TL) (c : Nat) (hc : I 0 0 1 = nI c) (hcn : c ≤ 12) : Ct l E yX5_freeGrid cX5_freeGrid 1 (some (.object "WellTables$Grid")) rm_X5_freeGrid [.ref (eA E 0 0)] I L (fun r I' L' => ((c < 12 ∧ r = some (.ref (eA E 2 c))) ∨ (c = 12 ∧ r = some .null)) ∧ I' = I ∧ L' = L) := by
  refine ct_of (by decide +kernel) (Nat.le_of_ble_eq_true rfl) hE ?_
  intro a X Y hl hEE
  subst hl; subst hEE
  show V a 0 [(0, .ref (eA (vE a) 0 0))] [] I L
  refine v_aload_n X 0 rfl dX5_freeGrid_0 ?_
  refine gf_X5_117 X dX5_freeGrid_1 ?_
  refine v_eqi (y := (nI c)) (hc) ?_
  refine v_bipush X (v := (nI 12)) dX5_freeGrid_4 (by decide) ?_
  refine v_icmp_lt_n X (by omega) (by omega) dX5_freeGrid_6 (tgt := 13) (by decide) (fun h6 => ?_) (fun h6 => ?_)
  · refine v_aload_n X 0 rfl dX5_freeGrid_13 ?_
    refine gf_X5_11 X dX5_freeGrid_14 ?_
    refine v_aload_n X 0 rfl dX5_freeGrid_17 ?_
    refine gf_X5_117 X dX5_freeGrid_18 ?_
    refine v_eqi (y := (nI c)) (hc) ?_
    refine v_aaldG_n X (by omega) dX5_freeGrid_21 ?_
    exact v_aret X Y (Or.inr ⟨_, rfl⟩) dX5_freeGrid_22 (⟨Or.inl ⟨h6, rfl⟩, rfl, rfl⟩)
  · refine v_null X dX5_freeGrid_9 ?_
    refine v_goto X (tgt := 22) dX5_freeGrid_10 (by decide) ?_
    exact v_aret X Y (Or.inl rfl) dX5_freeGrid_22 (⟨Or.inr ⟨by omega, rfl⟩, rfl, rfl⟩)
set_option maxHeartbeats 4000000 in
set_option maxRecDepth 100000 in
theorem c_X5_come (l : Launch) (E : VE) (hE : EOk E) (I : TI) (L : TL) (c : Nat) (hc : I 0 0 1 = nI c) (hcn : c < 12) (f : Nat) (hf : I 2 c 5 = nI f) (hf1 : f < 2) : Ct l E yX5_come cX5_come 2 (some .int) rm_X5_come [.ref (eA E 0 0), .ref (eA E 2 c)] I L (fun r I' L' => ((f = 0 ∧ r = some (.int (-nI 8)) ∧ I' = rfI I 8) ∨ (f = 1 ∧ r = some (.int (nI c)) ∧ I' = upI I 0 0 1 (nI (c + 1)))) ∧ L' = L) := by
  refine ct_of (by decide +kernel) (Nat.le_of_ble_eq_true rfl) hE ?_
  intro a X Y hl hEE
  subst hl; subst hEE
  show V a 0 [(0, .ref (eA (vE a) 0 0)), (1, .ref (eA (vE a) 2 c))] [] I L
  refine v_aload_n X 1 rfl dX5_come_0 ?_
  refine gf_X5_232 X hcn dX5_come_1 ?_
  refine v_eqi (y := (nI f)) (hf) ?_
  refine v_if_ne_n X (by omega) dX5_come_4 (tgt := 14) (by decide) (fun h4 => ?_) (fun h4 => ?_)
  · refine v_aload_n X 0 rfl dX5_come_14 ?_
    refine v_dup X dX5_come_15 rfl ?_
    refine gf_X5_117 X dX5_come_16 ?_
    refine v_eqi (y := (nI c)) (hc) ?_
    refine v_iconst X (v := (nI 1)) dX5_come_19 (by decide) ?_
    refine v_iadd X dX5_come_20 ?_
    refine v_eqi (y := (nI (c + 1))) (nI_add _ _) ?_
    refine pf_X5_117 X dX5_come_21 ?_
    refine v_aload_n X 0 rfl dX5_come_24 ?_
    refine gf_X5_117 X dX5_come_25 ?_
    refine v_eqi (y := (nI (c + 1))) (upI_eq) ?_
    refine v_iconst X (v := (nI 1)) dX5_come_28 (by decide) ?_
    refine v_isub X dX5_come_29 ?_
    refine v_eqi (y := (nI ((c + 1) - 1))) (pk_sub (by omega)) ?_
    exact v_iret X Y dX5_come_30 (⟨Or.inr ⟨by omega, rfl, rfl⟩, rfl⟩)
  · refine v_aload_n X 0 rfl dX5_come_7 ?_
    refine v_bipush X (v := (-8)) dX5_come_8 (by decide) ?_
    refine v_callV X (c_X5_refused _ _ hE _ _ 8 (by decide) (by decide)) k_X5_58 dl_0 (cef_0 _ _ _ _) rfl ⟨rfl, rfl, Nat.le_of_ble_eq_true rfl, Nat.le_of_ble_eq_true rfl⟩ (As := [.int (-8)]) (rest := []) rfl rfl (Nat.le_of_ble_eq_true rfl) dX5_come_10 (fun r10 I10 L10 hp10 => ?_)
    obtain ⟨rfl, e1, e2⟩ := hp10
    have e1 := e1.symm
    have e2 := e2.symm
    subst e1; subst e2
    refine v_st (st' := [.int (-8)]) rfl ?_
    exact v_iret X Y dX5_come_13 (⟨Or.inl ⟨h4, rfl, rfl⟩, rfl⟩)
set_option maxHeartbeats 4000000 in
set_option maxRecDepth 100000 in
theorem c_X5_emptyTheRow (l : Launch) (E : VE) (hE : EOk E) (I : TI) (L : TL) : Ct l E yX5_emptyTheRow cX5_emptyTheRow 1 none rm_X5_emptyTheRow [.ref (eA E 0 0)] I L (fun r I' L' => r = none ∧ Fr [(9, 0), (0, 0)] I I' ∧ (∀ x, x < 16 → I' 9 0 x = nI 0) ∧ I' 0 0 5 = nI 1 ∧ (∀ x, x ≠ 5 → I' 0 0 x = I 0 0 x) ∧ L' = L) := by
  refine ct_of (by decide +kernel) (Nat.le_of_ble_eq_true rfl) hE ?_
  intro a X Y hl hEE
  subst hl; subst hEE
  show V a 0 [(0, .ref (eA (vE a) 0 0))] [] I L
  refine v_aload_n X 0 rfl dX5_emptyTheRow_0 ?_
  refine gf_X5_21 X dX5_emptyTheRow_1 ?_
  refine v_iconst X (v := (nI 0)) dX5_emptyTheRow_4 (by decide) ?_
  refine v_callS X (c_J7_fill_9 _ _ hE _ _ (nI 0)) k_X5_235 ⟨rfl, rfl, Nat.le_of_ble_eq_true rfl, Nat.le_of_ble_eq_true rfl⟩ (As := [.ref (eA (vE a) 9 0), .int (nI 0)]) (rest := []) rfl rfl (Nat.le_of_ble_eq_true rfl) dX5_emptyTheRow_5 (fun r5 I5 L5 hp5 => ?_)
  obtain ⟨rfl, hF5, hv5, e2⟩ := hp5
  have e2 := e2.symm
  subst e2
  refine v_st (st' := []) rfl ?_
  refine v_aload_n X 0 rfl dX5_emptyTheRow_8 ?_
  refine v_iconst X (v := (nI 1)) dX5_emptyTheRow_9 (by decide) ?_
  refine pf_X5_199 X rfl dX5_emptyTheRow_10 ?_
  exact v_vret X Y dX5_emptyTheRow_13 (⟨rfl, (hF5.mono (by simp)).up (by simp), fun x hx => (upI_k (by decide)).trans (hv5 x hx), upI_eq, fun x hx => (upI_x hx).trans (hF5.at (by simp) x), rfl⟩)
end
section
/-! sets of rows and columns as numbers; the worth of a part as a sum along its last row -/
abbrev bitN (C j : Nat) : Prop := C / 2 ^ j % 2 = 1
def sgm (C m : Nat) : Int64 := if pc5 (C / 2 ^ m) % 2 = 1 then -1 else 1
def rl (R i : Nat) : List Nat := (List.range i).filter (fun k => decide (bitN R k))
def rsel (R s : Nat) : Nat := (rl R 5).getD s 0
def alrT (f g : Nat → Int64) (C j : Nat) : Int64 := if bitN C j then sgm C (j + 1) * f j * g (C ^^^ 2 ^ j) else 0
def tsum (F : Nat → Int64) (m : Nat) : Int64 := (if m ≤ 4 then F 4 else 0) + (if m ≤ 3 then F 3 else 0) + (if m ≤ 2 then F 2 else 0) + (if m ≤ 1 then F 1 else 0) + (if m ≤ 0 then F 0 else 0)
def alr (f g : Nat → Int64) (C : Nat) : Int64 := tsum (alrT f g C) 0
def dN (a : Nat → Nat → Int64) (rw : Nat → Nat) : Nat → Nat → Int64
  | 0, _ => 1
  | s + 1, C => alr (a (rw s)) (fun C' => dN a rw s C') C
def ent (I : TI) (t : Nat) : Nat → Nat → Int64 := fun i j => (I 3 t (5 * i + j)).toInt64
theorem tsum_s (F : Nat → Int64) : ∀ q, q < 5 → tsum F q = tsum F (q + 1) + F q := by
  intro q hq
  rcases (show q = 0 ∨ q = 1 ∨ q = 2 ∨ q = 3 ∨ q = 4 by omega) with rfl | rfl | rfl | rfl | rfl <;> simp [tsum]
theorem tsum_5 (F : Nat → Int64) : tsum F 5 = 0 := by simp [tsum]
theorem tsum_z (F : Nat → Int64) : ∀ n c, c + n = 5 → (∀ j, c ≤ j → F j = 0) → tsum F c = 0 := by
  intro n
  induction n with
  | zero => intro c h _; rw [show c = 5 by omega]; exact tsum_5 F
  | succ n ih =>
    intro c h hF
    rw [tsum_s F c (by omega), ih (c + 1) (by omega) (fun j hj => hF j (by omega)), hF c (Nat.le_refl _)]
    rfl
theorem bit_hi {C c j : Nat} (h : C < 2 ^ c) (hj : c ≤ j) : ¬ bitN C j := by
  have h1 : C < 2 ^ j := Nat.lt_of_lt_of_le h (Nat.pow_le_pow_right (by decide) hj)
  show ¬ (C / 2 ^ j % 2 = 1)
  rw [Nat.div_eq_of_lt h1]
  decide
theorem sgm_top {C c : Nat} (h : C < 2 ^ c) : sgm C c = 1 := by
  unfold sgm
  rw [Nat.div_eq_of_lt h]
  rfl
theorem sgm_skip : ∀ C, C < 32 → ∀ q, q < 5 → ¬ bitN C q → sgm C q = sgm C (q + 1) := by decide +kernel
theorem sgm_flip : ∀ C, C < 32 → ∀ q, q < 5 → bitN C q → sgm C q = -sgm C (q + 1) := by decide +kernel
theorem xor_lt : ∀ C, C < 32 → ∀ q, q < 5 → C ^^^ 2 ^ q < 32 := by decide +kernel
theorem xor_dn : ∀ C, C < 32 → ∀ q, q < 5 → bitN C q → C ^^^ 2 ^ q < C ∧ pc5 (C ^^^ 2 ^ q) + 1 = pc5 C := by decide +kernel
theorem rl_len : ∀ R, R < 32 → (rl R 5).length = pc5 R := by decide +kernel
theorem rl_le (R i : Nat) : (rl R i).length ≤ i := by
  have := List.length_filter_le (fun k => decide (bitN R k)) (List.range i)
  rw [List.length_range] at this
  exact this
theorem rl_y {R i : Nat} (h : bitN R i) : rl R (i + 1) = rl R i ++ [i] := by
  unfold rl
  rw [List.range_succ, List.filter_append]
  simp
  exact h
theorem rl_n {R i : Nat} (h : ¬ bitN R i) : rl R (i + 1) = rl R i := by
  unfold rl
  rw [List.range_succ, List.filter_append]
  simp [h]
theorem rl_at (R i s : Nat) : (rl R i ++ [i]).getD s 0 = if s = (rl R i).length then i else (rl R i).getD s 0 := by
  simp only [List.getD_eq_getElem?_getD]
  by_cases h : s < (rl R i).length
  · rw [List.getElem?_append_left h, if_neg (by omega)]
  · rw [List.getElem?_append_right (by omega)]
    by_cases e : s = (rl R i).length
    · rw [if_pos e, e]
      simp
    · rw [if_neg e, List.getElem?_eq_none (by simp; omega), List.getElem?_eq_none (by omega)]
theorem rsel_lt : ∀ R, R < 32 → ∀ r, r < 6 → R < 2 ^ r → ∀ s, s < 5 → s < pc5 R → rsel R s < r := by decide +kernel
theorem pc5_le (R : Nat) : pc5 R ≤ 5 := by unfold pc5; omega
theorem pc5_pos : ∀ C, C < 32 → 0 < C → 0 < pc5 C := by decide +kernel
theorem pc5_0 : ∀ C, C < 32 → pc5 C = 0 → C = 0 := by decide +kernel
theorem alr_c {f g f' g' : Nat → Int64} {C : Nat} (hf : ∀ j, j < 5 → bitN C j → f j = f' j) (hg : ∀ j, j < 5 → bitN C j → g (C ^^^ 2 ^ j) = g' (C ^^^ 2 ^ j)) : alr f g C = alr f' g' C := by
  have e : ∀ j, j < 5 → alrT f g C j = alrT f' g' C j := by
    intro j hj
    unfold alrT
    by_cases h : bitN C j
    · rw [if_pos h, if_pos h, hf j hj h, hg j hj h]
    · rw [if_neg h, if_neg h]
  unfold alr tsum
  rw [e 0 (by decide), e 1 (by decide), e 2 (by decide), e 3 (by decide), e 4 (by decide)]
/-- the worth of the part (R, C) -/
def wrt (a : Nat → Nat → Int64) (R C : Nat) : Int64 := dN a (rsel R) (pc5 R) C
def lowV (b : Nat) (v : Int64) : Prop := if b = 0 then v < 0 else v ≤ 0
def qc (a : Nat → Nat → Int64) (b R D : Nat) : Prop := pc5 D = pc5 R ∧ lowV b (wrt a R D)
theorem ent_fr {S : List (Nat × Nat)} {I I1 : TI} {t : Nat} (h : Fr S I I1) (hs : (3, t) ∉ S) : ent I1 t = ent I t := by
  funext i j
  unfold ent
  rw [h 3 t hs]
theorem pc5_lt : ∀ r, r < 6 → ∀ R, R < 32 → R < 2 ^ r → pc5 R ≤ r := by decide +kernel
def sN : Nat → (Nat → Nat) → Nat
  | 0, _ => 0
  | n + 1, f => sN n f + f n
theorem sN_v {f : Nat → Nat} {n v : Nat} (h : f n = v) : sN (n + 1) f = sN n f + v := by
  unfold sN
  rw [h]
  cases n <;> rfl
theorem sN_c {f g : Nat → Nat} : ∀ {n : Nat}, (∀ k, k < n → f k = g k) → sN n f = sN n g
  | 0, _ => rfl
  | n + 1, h => by
    unfold sN
    rw [sN_c (fun k hk => h k (by omega)), h n (by omega)]
theorem sN_z {f : Nat → Nat} : ∀ {n : Nat}, (∀ k, k < n → f k = 0) → sN n f = 0
  | 0, _ => rfl
  | n + 1, h => by
    unfold sN
    rw [sN_z (fun k hk => h k (by omega)), h n (by omega)]
theorem sN_add (f g : Nat → Nat) : ∀ n, sN n (fun k => f k + g k) = sN n f + sN n g
  | 0 => rfl
  | n + 1 => by
    show sN n (fun k => f k + g k) + (f n + g n) = sN n f + f n + (sN n g + g n)
    rw [sN_add f g n]
    omega
theorem sN_swap (f : Nat → Nat → Nat) (m : Nat) : ∀ n, sN n (fun i => sN m (fun j => f i j)) = sN m (fun j => sN n (fun i => f i j))
  | 0 => (sN_z (fun _ _ => rfl)).symm
  | n + 1 => by
    show sN n _ + sN m (fun j => f n j) = sN m (fun j => sN n (fun i => f i j) + f n j)
    rw [sN_swap f m n, sN_add]
theorem sN_one {f : Nat → Nat} {a : Nat} : ∀ {n : Nat}, a < n → (∀ k, k ≠ a → f k = 0) → sN n f = f a
  | n + 1, h, hz => by
    unfold sN
    by_cases e : a = n
    · subst e
      rw [sN_z (fun k hk => hz k (by omega)), Nat.zero_add]
    · rw [sN_one (by omega) hz, hz n (fun q => e q.symm), Nat.add_zero]
def mS (a : Nat → Nat → Int64) (s : Int32) (R C : Nat) : Nat := if 1 ≤ R ∧ 1 ≤ C ∧ pc5 R = pc5 C ∧ sgn (wrt a R C) = s then 1 else 0
def manyS (a : Nat → Nat → Int64) (s : Int32) (r c : Nat) : Nat := sN (2 ^ r) (fun R => sN (2 ^ c) (fun C => mS a s R C))
def spn (i n : Nat) : Nat := (2 ^ n - 1) * 2 ^ i
def lkS (a : Nat → Nat → Int64) (b n i j : Nat) : Nat := if 1 ≤ n ∧ (i = 0 ∨ j = 0) ∧ (b = 0 ∨ 0 < wrt a (spn i n) (spn j n)) then 1 else 0
def looksS (a : Nat → Nat → Int64) (b r c : Nat) : Nat := sN (min r c + 1) (fun n => sN (r + 1 - n) (fun i => sN (c + 1 - n) (fun j => lkS a b n i j)))
theorem spn_ok' : ∀ r, r < 6 → ∀ n, n < 6 → ∀ i, i < 6 → (¬ (1 ≤ n ∧ i + n ≤ r) ∨ (spn i n < 2 ^ r ∧ pc5 (spn i n) = n ∧ spn i n < 32)) := by decide +kernel
theorem spn_ok {r n i : Nat} (hr : r ≤ 5) (h1 : 1 ≤ n) (h : i + n ≤ r) : spn i n < 2 ^ r ∧ pc5 (spn i n) = n ∧ spn i n < 32 := (spn_ok' r (by omega) n (by omega) i (by omega)).resolve_left (fun q => q ⟨h1, h⟩)
end
section
theorem alr_skip {F : Nat → Int64} {f g : Nat → Int64} {C q : Nat} (hC : C < 32) (hq : q < 5) (hb : ¬ bitN C q) (hF : F = alrT f g C) {all sg : Int64} (h1 : all = tsum F (q + 1)) (h2 : sg = sgm C (q + 1)) : all = tsum F q ∧ sg = sgm C q := by
  subst hF
  refine ⟨?_, h2.trans (sgm_skip C hC q hq hb).symm⟩
  rw [tsum_s _ q hq, h1, show alrT f g C q = 0 from if_neg hb, Int64.add_zero]
theorem alr_take {F : Nat → Int64} {f g : Nat → Int64} {C q : Nat} (hC : C < 32) (hq : q < 5) (hb : bitN C q) (hF : F = alrT f g C) {all sg : Int64} (h1 : all = tsum F (q + 1)) (h2 : sg = sgm C (q + 1)) : all + sg * f q * g (C ^^^ 2 ^ q) = tsum F q ∧ -sg = sgm C q := by
  subst hF
  refine ⟨?_, by rw [h2, sgm_flip C hC q hq hb]⟩
  rw [tsum_s _ q hq, h1, show alrT f g C q = _ from if_pos hb, h2]
theorem alr_end {f g : Nat → Int64} {C c : Nat} (hc : c ≤ 5) (hC : C < 2 ^ c) : (0 : Int64) = tsum (alrT f g C) c :=
  (tsum_z _ (5 - c) c (by omega) (fun j hj => if_neg (bit_hi hC hj))).symm
set_option maxHeartbeats 4000000 in
set_option maxRecDepth 100000 in
theorem c_X4_alongLastRow (l : Launch) (E : VE) (hE : EOk E) (I : TI) (L : TL) (t : Nat) (ht : t < 12) (r c : Nat) (hr : I 2 t 1 = nI r) (hc : I 2 t 2 = nI c) (hr5 : r ≤ 5) (hc5 : c ≤ 5) (row C : Nat) (hrow : row < r) (hC : C < 2 ^ c) : Ct l E yX4_alongLastRow cX4_alongLastRow 9 (some .long) rm_X4_alongLastRow [.ref (eA E 12 0), .ref (eA E 2 t), .int (nI row), .int (nI C)] I L (fun r9 I' L' => r9 = some (.long (alr (ent I t row) (L 13 0) C)) ∧ I' = I ∧ L' = L) := by
  refine ct_of (by decide +kernel) (Nat.le_of_ble_eq_true rfl) hE ?_
  intro a X Y hl hEE
  subst hl; subst hEE
  have hp := pow32 hc5
  have hC32 : C < 32 := by omega
  show V a 0 [(0, .ref (eA (vE a) 12 0)), (1, .ref (eA (vE a) 2 t)), (2, .int (nI row)), (3, .int (nI C))] [] I L
  refine v_lconst X (v := 0) dX4_alongLastRow_0 rfl ?_
  refine v_lstore X [1, 2, 3, 4, 0] (lv' := [(0, .ref (eA (vE a) 12 0)), (1, .ref (eA (vE a) 2 t)), (2, .int (nI row)), (3, .int (nI C)), (4, .long 0)]) (by decide) rfl dX4_alongLastRow_1 ?_
  refine v_lconst X (v := 1) dX4_alongLastRow_3 rfl ?_
  refine v_lstore X [1, 2, 3, 4, 5, 0] (lv' := [(0, .ref (eA (vE a) 12 0)), (1, .ref (eA (vE a) 2 t)), (2, .int (nI row)), (3, .int (nI C)), (4, .long 0), (6, .long 1)]) (by decide) rfl dX4_alongLastRow_4 ?_
  refine v_aload_n X 1 rfl dX4_alongLastRow_6 ?_
  refine gf_X4_29 X ht dX4_alongLastRow_7 ?_
  refine v_eqi (y := (nI c)) (hc) ?_
  refine v_iconst X (v := (nI 1)) dX4_alongLastRow_10 (by decide) ?_
  refine v_isub X dX4_alongLastRow_11 ?_
  refine v_istore X [1, 2, 3, 4, 5, 6, 0] (lv' := [(0, .ref (eA (vE a) 12 0)), (1, .ref (eA (vE a) 2 t)), (2, .int (nI row)), (3, .int (nI C)), (4, .long 0), (6, .long 1), (8, .int ((nI c) - (nI 1)))]) (by decide) rfl dX4_alongLastRow_12 ?_
  have loop14 : ∀ (fu : Nat) (m : Nat) (all : Int64) (sg : Int64), m < fu → (m ≤ c) → (all = tsum (alrT (ent I t row) (L 13 0) C) m) → (sg = sgm C m) → V a 14 [(0, .ref (eA (vE a) 12 0)), (1, .ref (eA (vE a) 2 t)), (2, .int (nI row)), (3, .int (nI C)), (4, .long all), (6, .long sg), (8, .int (nI m - nI 1))] [] I L := by
    intro fu
    induction fu with
    | zero => intro m all sg hm _ _ _; exact absurd hm (Nat.not_lt_zero _)
    | succ fu ih14 =>
      intro m all sg hm14 hm hall hsg
      refine v_iload X 6 rfl dX4_alongLastRow_14 ?_
      refine v_if_lt X dX4_alongLastRow_16 (tgt := 67) (by decide) (fun h16 => ?_) (fun h16 => ?_)
      · have hm0 : m = 0 := down_zero (by omega) h16
        subst hm0
        refine v_lload X 4 rfl dX4_alongLastRow_67 ?_
        exact v_lret X Y dX4_alongLastRow_69 (⟨by rw [hall]; rfl, rfl, rfl⟩)
      · obtain ⟨q, rfl⟩ : ∃ q, m = q + 1 := ⟨m - 1, by have := down_pos h16; omega⟩
        refine v_lv (lv' := [(0, .ref (eA (vE a) 12 0)), (1, .ref (eA (vE a) 2 t)), (2, .int (nI row)), (3, .int (nI C)), (4, .long all), (6, .long sg), (8, .int (nI q))]) (by rw [down_at]) ?_
        refine v_iload_n X 3 rfl dX4_alongLastRow_19 ?_
        refine v_iload X 6 rfl dX4_alongLastRow_20 ?_
        refine v_callN X (c_X5_holds _ _ hE _ _ C q (by omega) (by omega)) k_X4_66 ⟨rfl, rfl, Nat.le_of_ble_eq_true rfl, Nat.le_of_ble_eq_true rfl⟩ (As := [.int (nI C), .int (nI q)]) (rest := []) rfl rfl (Nat.le_of_ble_eq_true rfl) dX4_alongLastRow_22 (fun r22 I22 L22 hp22 => ?_)
        obtain ⟨rfl, e1, e2⟩ := hp22
        have e1 := e1.symm
        have e2 := e2.symm
        subst e1; subst e2
        refine v_st (st' := [.int (bI (C / 2 ^ q % 2 = 1))]) rfl ?_
        refine v_ifb_eq X dX4_alongLastRow_25 (tgt := 61) (by decide) (fun h25 => ?_) (fun h25 => ?_)
        · refine v_iinc X [1, 2, 3, 4, 5, 6, 0] 6 (nI q - nI 1) (lv' := [(0, .ref (eA (vE a) 12 0)), (1, .ref (eA (vE a) 2 t)), (2, .int (nI row)), (3, .int (nI C)), (4, .long all), (6, .long sg), (8, .int (nI q - nI 1))]) rfl (down_dec q) (by decide) rfl dX4_alongLastRow_61 ?_
          refine v_goto X (tgt := 14) dX4_alongLastRow_64 (by decide) ?_
          exact ih14 q all sg (by omega) (by omega) ((alr_skip hC32 (by omega) h25 rfl hall hsg).1) ((alr_skip hC32 (by omega) h25 rfl hall hsg).2)
        · refine v_lload X 4 rfl dX4_alongLastRow_28 ?_
          refine v_lload X 5 rfl dX4_alongLastRow_30 ?_
          refine v_aload_n X 1 rfl dX4_alongLastRow_32 ?_
          refine v_iload_n X 2 rfl dX4_alongLastRow_33 ?_
          refine v_iload X 6 rfl dX4_alongLastRow_34 ?_
          refine v_callV X (c_X0_number _ _ hE _ _ t ht r c (hr) (hc) hr5 hc5 row q (by omega) (by omega)) k_X4_69 (dl_2 ht) (cef_2 _ _ _ _) rfl ⟨rfl, rfl, Nat.le_of_ble_eq_true rfl, Nat.le_of_ble_eq_true rfl⟩ (As := [.int (nI row), .int (nI q)]) (rest := [.long sg, .long all]) rfl rfl (Nat.le_of_ble_eq_true rfl) dX4_alongLastRow_36 (fun r36 I36 L36 hp36 => ?_)
          obtain ⟨rfl, e1, e2⟩ := hp36
          have e1 := e1.symm
          have e2 := e2.symm
          subst e1; subst e2
          refine v_st (st' := [.int (I 3 t (5 * row + q)), .long sg, .long all]) rfl ?_
          refine v_i2l X dX4_alongLastRow_39 rfl ?_
          refine v_lmul X dX4_alongLastRow_40 ?_
          refine v_aload_n X 0 rfl dX4_alongLastRow_41 ?_
          refine gf_X4_9 X dX4_alongLastRow_42 ?_
          refine v_iload_n X 3 rfl dX4_alongLastRow_45 ?_
          refine v_iconst X (v := (nI 1)) dX4_alongLastRow_46 (by decide) ?_
          refine v_iload X 6 rfl dX4_alongLastRow_47 ?_
          refine v_ishl X dX4_alongLastRow_49 ?_
          refine v_eqi (y := (nI (2 ^ q))) (sh_one (by omega)) ?_
          refine v_ixor X dX4_alongLastRow_50 ?_
          refine v_eqi (y := (nI (C ^^^ (2 ^ q)))) (an_xor _ _) ?_
          refine v_lald_n X dl_13 (fun _ _ => rfl) (n := 32) (xor_lt C hC32 q (by omega)) (by decide) dX4_alongLastRow_51 ?_
          refine v_lmul X dX4_alongLastRow_52 ?_
          refine v_ladd X dX4_alongLastRow_53 ?_
          refine v_lstore X [1, 2, 3, 4, 0, 5, 6] (lv' := [(0, .ref (eA (vE a) 12 0)), (1, .ref (eA (vE a) 2 t)), (2, .int (nI row)), (3, .int (nI C)), (4, .long (all + ((sg * (I 3 t (5 * row + q)).toInt64) * (L 13 0 (C ^^^ (2 ^ q)))))), (6, .long sg), (8, .int (nI q))]) (by decide) rfl dX4_alongLastRow_54 ?_
          refine v_lload X 5 rfl dX4_alongLastRow_56 ?_
          refine v_lneg X dX4_alongLastRow_58 ?_
          refine v_lstore X [1, 2, 3, 4, 5, 0, 6] (lv' := [(0, .ref (eA (vE a) 12 0)), (1, .ref (eA (vE a) 2 t)), (2, .int (nI row)), (3, .int (nI C)), (4, .long (all + ((sg * (I 3 t (5 * row + q)).toInt64) * (L 13 0 (C ^^^ (2 ^ q)))))), (6, .long (-sg)), (8, .int (nI q))]) (by decide) rfl dX4_alongLastRow_59 ?_
          refine v_iinc X [1, 2, 3, 4, 5, 6, 0] 6 (nI q - nI 1) (lv' := [(0, .ref (eA (vE a) 12 0)), (1, .ref (eA (vE a) 2 t)), (2, .int (nI row)), (3, .int (nI C)), (4, .long (all + ((sg * (I 3 t (5 * row + q)).toInt64) * (L 13 0 (C ^^^ (2 ^ q)))))), (6, .long (-sg)), (8, .int (nI q - nI 1))]) rfl (down_dec q) (by decide) rfl dX4_alongLastRow_61 ?_
          refine v_goto X (tgt := 14) dX4_alongLastRow_64 (by decide) ?_
          exact ih14 q (all + ((sg * (I 3 t (5 * row + q)).toInt64) * (L 13 0 (C ^^^ (2 ^ q))))) (-sg) (by omega) (by omega) ((alr_take hC32 (by omega) h25 rfl hall hsg).1) ((alr_take hC32 (by omega) h25 rfl hall hsg).2)
  exact loop14 _ c 0 1 (Nat.lt_succ_self _) (Nat.le_refl _) (alr_end hc5 hC) ((sgm_top hC).symm)
set_option maxHeartbeats 4000000 in
set_option maxRecDepth 100000 in
theorem c_X4_choose (l : Launch) (E : VE) (hE : EOk E) (I : TI) (L : TL) (R : Nat) (hR : R < 32) : Ct l E yX4_choose cX4_choose 4 (some .int) rm_X4_choose [.ref (eA E 12 0), .int (nI R)] I L (fun r I' L' => r = some (.int (nI (pc5 R))) ∧ Fr [(14, 0)] I I' ∧ (∀ s, s < pc5 R → I' 14 0 s = nI (rsel R s)) ∧ L' = L) := by
  refine ct_of (by decide +kernel) (Nat.le_of_ble_eq_true rfl) hE ?_
  intro a X Y hl hEE
  subst hl; subst hEE
  show V a 0 [(0, .ref (eA (vE a) 12 0)), (1, .int (nI R))] [] I L
  refine v_iconst X (v := (nI 0)) dX4_choose_0 (by decide) ?_
  refine v_istore_n X [1, 2, 0] (lv' := [(0, .ref (eA (vE a) 12 0)), (1, .int (nI R)), (2, .int (nI 0))]) (by decide) rfl dX4_choose_1 ?_
  refine v_iconst X (v := (nI 0)) dX4_choose_2 (by decide) ?_
  refine v_istore_n X [1, 2, 3, 0] (lv' := [(0, .ref (eA (vE a) 12 0)), (1, .int (nI R)), (2, .int (nI 0)), (3, .int (nI 0))]) (by decide) rfl dX4_choose_3 ?_
  have loop4 : ∀ (fu : Nat) (i : Nat) (n9 : Nat) (I1 : TI), 5 - i < fu → (i ≤ 5) → (n9 = (rl R i).length) → (Fr [(14, 0)] I I1) → (∀ s, s < n9 → I1 14 0 s = nI ((rl R i).getD s 0)) → V a 4 [(0, .ref (eA (vE a) 12 0)), (1, .int (nI R)), (2, .int (nI n9)), (3, .int (nI i))] [] I1 L := by
    intro fu
    induction fu with
    | zero => intro i n9 I1 hm _ _ _ _; exact absurd hm (Nat.not_lt_zero _)
    | succ fu ih4 =>
      intro i n9 I1 hm4 hi hn hF hv
      refine v_iload_n X 3 rfl dX4_choose_4 ?_
      refine v_iconst X (v := (nI 5)) dX4_choose_5 (by decide) ?_
      refine v_icmp_ge_n X (by omega) (by omega) dX4_choose_6 (tgt := 33) (by decide) (fun h6 => ?_) (fun h6 => ?_)
      · have hi5 : i = 5 := by omega
        subst hi5
        have hn6 : n9 = pc5 R := hn.trans (rl_len R hR)
        subst hn6
        refine v_iload_n X 2 rfl dX4_choose_33 ?_
        exact v_iret X Y dX4_choose_34 (⟨rfl, hF, hv, rfl⟩)
      · have hn5 : n9 ≤ i := hn ▸ rl_le R i
        refine v_iload_n X 1 rfl dX4_choose_9 ?_
        refine v_iload_n X 3 rfl dX4_choose_10 ?_
        refine v_callN X (c_X5_holds _ _ hE _ _ R i (by omega) (by omega)) k_X4_66 ⟨rfl, rfl, Nat.le_of_ble_eq_true rfl, Nat.le_of_ble_eq_true rfl⟩ (As := [.int (nI R), .int (nI i)]) (rest := []) rfl rfl (Nat.le_of_ble_eq_true rfl) dX4_choose_11 (fun r11 I11 L11 hp11 => ?_)
        obtain ⟨rfl, e1, e2⟩ := hp11
        have e1 := e1.symm
        have e2 := e2.symm
        subst e1; subst e2
        refine v_st (st' := [.int (bI (R / 2 ^ i % 2 = 1))]) rfl ?_
        refine v_ifb_eq X dX4_choose_14 (tgt := 27) (by decide) (fun h14 => ?_) (fun h14 => ?_)
        · refine v_iinc X [1, 2, 3, 0] 3 (nI (i + 1)) (lv' := [(0, .ref (eA (vE a) 12 0)), (1, .int (nI R)), (2, .int (nI n9)), (3, .int (nI (i + 1)))]) rfl (nI_1 _) (by decide) rfl dX4_choose_27 ?_
          refine v_goto X (tgt := 4) dX4_choose_30 (by decide) ?_
          exact ih4 (i + 1) n9 I1 (by omega) (by omega) (by rw [rl_n h14]; exact hn) hF (by rw [rl_n h14]; exact hv)
        · refine v_aload_n X 0 rfl dX4_choose_17 ?_
          refine gf_X4_15 X dX4_choose_18 ?_
          refine v_iload_n X 2 rfl dX4_choose_21 ?_
          refine v_iload_n X 3 rfl dX4_choose_22 ?_
          refine v_iast_n X dl_14 (fun _ _ => rfl) (n := 5) (by omega) (by decide) dX4_choose_23 ?_
          refine v_iinc X [1, 2, 0, 3] 2 (nI (n9 + 1)) (lv' := [(0, .ref (eA (vE a) 12 0)), (1, .int (nI R)), (2, .int (nI (n9 + 1))), (3, .int (nI i))]) rfl (nI_1 _) (by decide) rfl dX4_choose_24 ?_
          refine v_iinc X [1, 2, 3, 0] 3 (nI (i + 1)) (lv' := [(0, .ref (eA (vE a) 12 0)), (1, .int (nI R)), (2, .int (nI (n9 + 1))), (3, .int (nI (i + 1)))]) rfl (nI_1 _) (by decide) rfl dX4_choose_27 ?_
          refine v_goto X (tgt := 4) dX4_choose_30 (by decide) ?_
          have hnew : ∀ s, s < n9 + 1 → upI I1 14 0 n9 (nI i) 14 0 s = nI ((rl R (i + 1)).getD s 0) := fun s hs => by
            rw [rl_y h14, rl_at, ← hn]
            by_cases e : s = n9
            · rw [if_pos e, e]; exact upI_eq
            · rw [if_neg e]; exact (upI_x e).trans (hv s (by omega))
          exact ih4 (i + 1) (n9 + 1) (upI I1 14 0 n9 (nI i)) (by omega) (by omega) (by rw [rl_y h14, List.length_append, ← hn]; rfl) (hF.up (by simp)) hnew
  exact loop4 _ 0 0 I (Nat.lt_succ_self _) (by decide) rfl Fr.rf (fun s hs => absurd hs (Nat.not_lt_zero _))
set_option maxHeartbeats 4000000 in
set_option maxRecDepth 100000 in
theorem c_X4_findAll (l : Launch) (E : VE) (hE : EOk E) (I : TI) (L : TL) (t : Nat) (ht : t < 12) (r c : Nat) (hr : I 2 t 1 = nI r) (hc : I 2 t 2 = nI c) (hr5 : r ≤ 5) (hc5 : c ≤ 5) (R : Nat) (hR : R < 2 ^ r) : Ct l E yX4_findAll cX4_findAll 6 none rm_X4_findAll [.ref (eA E 12 0), .ref (eA E 2 t), .int (nI R)] I L (fun r9 I' L' => r9 = none ∧ Fr [(14, 0)] I I' ∧ FL [(13, 0)] L L' ∧ ∀ C, C < 2 ^ c → pc5 C ≤ pc5 R → L' 13 0 C = dN (ent I t) (rsel R) (pc5 C) C) := by
  refine ct_of (by decide +kernel) (Nat.le_of_ble_eq_true rfl) hE ?_
  intro a X Y hl hEE
  subst hl; subst hEE
  have hp := pow32 hc5
  have hpr := pow32 hr5
  have hR32 : R < 32 := by omega
  have hR5 := pc5_le R
  show V a 0 [(0, .ref (eA (vE a) 12 0)), (1, .ref (eA (vE a) 2 t)), (2, .int (nI R))] [] I L
  refine v_aload_n X 0 rfl dX4_findAll_0 ?_
  refine v_iload_n X 2 rfl dX4_findAll_1 ?_
  refine v_callV X (c_X4_choose _ _ hE _ _ R (by omega)) k_X4_59 dl_12 (cef_12 _ _ _ _) rfl ⟨rfl, rfl, Nat.le_of_ble_eq_true rfl, Nat.le_of_ble_eq_true rfl⟩ (As := [.int (nI R)]) (rest := []) rfl rfl (Nat.le_of_ble_eq_true rfl) dX4_findAll_2 (fun r2 I2 L2 hp2 => ?_)
  obtain ⟨rfl, hF2, hch2, e2⟩ := hp2
  have e2 := e2.symm
  subst e2
  refine v_st (st' := [.int (nI (pc5 R))]) rfl ?_
  refine v_istore_n X [1, 2, 3, 0] (lv' := [(0, .ref (eA (vE a) 12 0)), (1, .ref (eA (vE a) 2 t)), (2, .int (nI R)), (3, .int (nI (pc5 R)))]) (by decide) rfl dX4_findAll_5 ?_
  refine v_aload_n X 0 rfl dX4_findAll_6 ?_
  refine gf_X4_9 X dX4_findAll_7 ?_
  refine v_iconst X (v := (nI 0)) dX4_findAll_10 (by decide) ?_
  refine v_lconst X (v := 1) dX4_findAll_11 rfl ?_
  refine v_last_n X dl_13 (fun _ _ => rfl) (n := 32) (by omega) (by decide) dX4_findAll_12 ?_
  refine v_iconst X (v := (nI 1)) dX4_findAll_13 (by decide) ?_
  refine v_istore X [1, 2, 3, 4, 0] (lv' := [(0, .ref (eA (vE a) 12 0)), (1, .ref (eA (vE a) 2 t)), (2, .int (nI R)), (3, .int (nI (pc5 R))), (4, .int (nI 1))]) (by decide) rfl dX4_findAll_14 ?_
  have loop16 : ∀ (fu : Nat) (C : Nat) (L1 : TL), 33 - C < fu → (1 ≤ C) → (C ≤ 2 ^ c) → (FL [(13, 0)] L L1) → (∀ D, D < C → pc5 D ≤ pc5 R → L1 13 0 D = dN (ent I t) (rsel R) (pc5 D) D) → V a 16 [(0, .ref (eA (vE a) 12 0)), (1, .ref (eA (vE a) 2 t)), (2, .int (nI R)), (3, .int (nI (pc5 R))), (4, .int (nI C))] [] I2 L1 := by
    intro fu
    induction fu with
    | zero => intro C L1 hm _ _ _ _; exact absurd hm (Nat.not_lt_zero _)
    | succ fu ih16 =>
      intro C L1 hm16 hC1 hCp hFL hv
      refine v_iload X 4 rfl dX4_findAll_16 ?_
      refine v_iconst X (v := (nI 1)) dX4_findAll_18 (by decide) ?_
      refine v_aload_n X 1 rfl dX4_findAll_19 ?_
      refine gf_X4_29 X ht dX4_findAll_20 ?_
      refine v_eqi (y := (nI c)) ((Fr.at hF2 (by simp) _).trans (hc)) ?_
      refine v_ishl X dX4_findAll_23 ?_
      refine v_eqi (y := (nI (2 ^ c))) (sh_one (by omega)) ?_
      refine v_icmp_ge_n X (by omega) (by omega) dX4_findAll_24 (tgt := 69) (by decide) (fun h24 => ?_) (fun h24 => ?_)
      · exact v_vret X Y dX4_findAll_69 (⟨rfl, hF2, hFL, fun D hD hs => hv D (by omega) hs⟩)
      · have hCc : C < 2 ^ c := by omega
        have hC5 := pc5_le C
        have hCpos := pc5_pos C (by omega) (by omega)
        refine v_iload X 4 rfl dX4_findAll_27 ?_
        refine v_callS X (c_J6_bitCount_0f7a4 _ _ hE _ _ C (by omega)) k_X4_38 ⟨rfl, rfl, Nat.le_of_ble_eq_true rfl, Nat.le_of_ble_eq_true rfl⟩ (As := [.int (nI C)]) (rest := []) rfl rfl (Nat.le_of_ble_eq_true rfl) dX4_findAll_29 (fun r29 I29 L29 hp29 => ?_)
        obtain ⟨rfl, e1, e2⟩ := hp29
        have e1 := e1.symm
        have e2 := e2.symm
        subst e1; subst e2
        refine v_st (st' := [.int (nI (pc5 C))]) rfl ?_
        refine v_istore X [1, 2, 3, 4, 5, 0] (lv' := [(0, .ref (eA (vE a) 12 0)), (1, .ref (eA (vE a) 2 t)), (2, .int (nI R)), (3, .int (nI (pc5 R))), (4, .int (nI C)), (5, .int (nI (pc5 C)))]) (by decide) rfl dX4_findAll_32 ?_
        refine v_iload X 5 rfl dX4_findAll_34 ?_
        refine v_iload_n X 3 rfl dX4_findAll_36 ?_
        refine v_icmp_gt_n X (by omega) (by omega) dX4_findAll_37 (tgt := 63) (by decide) (fun h37 => ?_) (fun h37 => ?_)
        · refine v_iinc X [1, 2, 3, 4, 0, 5] 4 (nI (C + 1)) (lv' := [(0, .ref (eA (vE a) 12 0)), (1, .ref (eA (vE a) 2 t)), (2, .int (nI R)), (3, .int (nI (pc5 R))), (4, .int (nI (C + 1))), (5, .int (nI (pc5 C)))]) rfl (nI_1 _) (by decide) rfl dX4_findAll_63 ?_
          refine v_goto X (tgt := 16) dX4_findAll_66 (by decide) ?_
          refine v_sub [0, 1, 2, 3, 4] (lv' := [(0, .ref (eA (vE a) 12 0)), (1, .ref (eA (vE a) 2 t)), (2, .int (nI R)), (3, .int (nI (pc5 R))), (4, .int (nI (C + 1)))]) rfl ?_
          have hnew : ∀ D, D < C + 1 → pc5 D ≤ pc5 R → L1 13 0 D = dN (ent I t) (rsel R) (pc5 D) D := fun D hD hs => by
            rcases Nat.lt_or_ge D C with q | q
            · exact hv D q hs
            · have e : D = C := by omega
              subst e; omega
          exact ih16 (C + 1) L1 (by omega) (by omega) (by omega) hFL hnew
        · refine v_aload_n X 0 rfl dX4_findAll_40 ?_
          refine gf_X4_9 X dX4_findAll_41 ?_
          refine v_iload X 4 rfl dX4_findAll_44 ?_
          have hsz : pc5 C - 1 < pc5 R := by omega
          have hrow : rsel R (pc5 C - 1) < r := rsel_lt R hR32 r (by omega) hR _ (by omega) hsz
          refine v_aload_n X 0 rfl dX4_findAll_46 ?_
          refine v_aload_n X 1 rfl dX4_findAll_47 ?_
          refine v_aload_n X 0 rfl dX4_findAll_48 ?_
          refine gf_X4_15 X dX4_findAll_49 ?_
          refine v_iload X 5 rfl dX4_findAll_52 ?_
          refine v_iconst X (v := (nI 1)) dX4_findAll_54 (by decide) ?_
          refine v_isub X dX4_findAll_55 ?_
          refine v_eqi (y := (nI ((pc5 C) - 1))) (pk_sub (by omega)) ?_
          refine v_iald_n X dl_14 (fun _ _ => rfl) (n := 5) (by omega) (by decide) dX4_findAll_56 ?_
          refine v_eqi (y := (nI (rsel R (pc5 C - 1)))) (hch2 _ hsz) ?_
          refine v_iload X 4 rfl dX4_findAll_57 ?_
          refine v_callV X (c_X4_alongLastRow _ _ hE _ _ t ht r c ((Fr.at hF2 (by simp) _).trans (hr)) ((Fr.at hF2 (by simp) _).trans (hc)) hr5 hc5 (rsel R (pc5 C - 1)) C (hrow) (hCc)) k_X4_62 dl_12 (cef_12 _ _ _ _) rfl ⟨rfl, rfl, Nat.le_of_ble_eq_true rfl, Nat.le_of_ble_eq_true rfl⟩ (As := [.ref (eA (vE a) 2 t), .int (nI (rsel R (pc5 C - 1))), .int (nI C)]) (rest := [.int (nI C), .ref (eA (vE a) 13 0)]) rfl rfl (Nat.le_of_ble_eq_true rfl) dX4_findAll_59 (fun r59 I59 L59 hp59 => ?_)
          obtain ⟨rfl, e1, e2⟩ := hp59
          have e1 := e1.symm
          have e2 := e2.symm
          subst e1; subst e2
          refine v_st (st' := [.long (alr (ent I2 t (rsel R (pc5 C - 1))) (L1 13 0) C), .int (nI C), .ref (eA (vE a) 13 0)]) rfl ?_
          refine v_last_n X dl_13 (fun _ _ => rfl) (n := 32) (by omega) (by decide) dX4_findAll_62 ?_
          have hal : alr (ent I2 t (rsel R (pc5 C - 1))) (L1 13 0) C = dN (ent I t) (rsel R) (pc5 C) C := by
            obtain ⟨s, hs⟩ : ∃ s, pc5 C = s + 1 := ⟨pc5 C - 1, by omega⟩
            rw [hs]
            refine alr_c (fun j _ _ => ?_) (fun j hj hb => ?_)
            · show (I2 3 t _).toInt64 = (I 3 t _).toInt64
              rw [hF2.at (by simp)]
              rfl
            · have q := xor_dn C (by omega) j hj hb
              rw [hv _ q.1 (by omega), show pc5 (C ^^^ 2 ^ j) = s by omega]
          have hnew : ∀ D, D < C + 1 → pc5 D ≤ pc5 R → upL L1 13 0 C (alr (ent I2 t (rsel R (pc5 C - 1))) (L1 13 0) C) 13 0 D = dN (ent I t) (rsel R) (pc5 D) D := fun D hD hs => by
            by_cases e : D = C
            · rw [e, upL_eq, hal]
            · rw [upL_x e]
              exact hv D (by omega) hs
          refine v_iinc X [1, 2, 3, 4, 0, 5] 4 (nI (C + 1)) (lv' := [(0, .ref (eA (vE a) 12 0)), (1, .ref (eA (vE a) 2 t)), (2, .int (nI R)), (3, .int (nI (pc5 R))), (4, .int (nI (C + 1))), (5, .int (nI (pc5 C)))]) rfl (nI_1 _) (by decide) rfl dX4_findAll_63 ?_
          refine v_goto X (tgt := 16) dX4_findAll_66 (by decide) ?_
          refine v_sub [0, 1, 2, 3, 4] (lv' := [(0, .ref (eA (vE a) 12 0)), (1, .ref (eA (vE a) 2 t)), (2, .int (nI R)), (3, .int (nI (pc5 R))), (4, .int (nI (C + 1)))]) rfl ?_
          exact ih16 (C + 1) (upL L1 13 0 C (alr (ent I2 t (rsel R (pc5 C - 1))) (L1 13 0) C)) (by omega) (by omega) (by omega) (hFL.up (by simp)) hnew
  have h0 : ∀ D, D < 1 → pc5 D ≤ pc5 R → upL L 13 0 0 1 13 0 D = dN (ent I t) (rsel R) (pc5 D) D := fun D hD _ => by
    have e : D = 0 := by omega
    subst e
    exact upL_eq
  exact loop16 _ 1 (upL L 13 0 0 1) (Nat.lt_succ_self _) (by decide) (Nat.one_le_two_pow) (FL.rf.up (by simp)) h0
end
section
theorem qc_no {a : Nat → Nat → Int64} {b R C : Nat} {v : Int64} (hv : pc5 C ≤ pc5 R → v = dN a (rsel R) (pc5 C) C) (h : ¬ lowV b v ∨ pc5 R ≠ pc5 C) : ¬ qc a b R C := fun q => by
  rcases h with h | h
  · apply h
    rw [hv (by rw [q.1]; exact Nat.le_refl _), q.1]
    exact q.2
  · exact h q.1.symm
theorem qc_yes {a : Nat → Nat → Int64} {b R C : Nat} {v : Int64} (hv : pc5 C ≤ pc5 R → v = dN a (rsel R) (pc5 C) C) (h : lowV b v) (e : pc5 R = pc5 C) : qc a b R C := by
  refine ⟨e.symm, ?_⟩
  have e2 := hv (by rw [e]; exact Nat.le_refl _)
  rw [← e] at e2
  unfold wrt
  rw [← e2]
  exact h
theorem low_0t {v : Int64} {b : Nat} (hb : b = 0) (h : ¬ 0 ≤ v) : lowV b v := by unfold lowV; rw [if_pos hb]; exact Int64.not_le.mp h
theorem low_0f {v : Int64} {b : Nat} (hb : b = 0) (h : 0 ≤ v) : ¬ lowV b v := by unfold lowV; rw [if_pos hb]; exact Int64.not_lt.mpr h
theorem low_1t {v : Int64} {b : Nat} (hb : 0 < b) (h : ¬ 0 < v) : lowV b v := by unfold lowV; rw [if_neg (by omega)]; exact Int64.not_lt.mp h
theorem low_1f {v : Int64} {b : Nat} (hb : 0 < b) (h : 0 < v) : ¬ lowV b v := by unfold lowV; rw [if_neg (by omega)]; exact Int64.not_le.mpr h
set_option maxHeartbeats 4000000 in
set_option maxRecDepth 100000 in
theorem c_X4_ofPart (l : Launch) (E : VE) (hE : EOk E) (I : TI) (L : TL) (t : Nat) (ht : t < 12) (r c : Nat) (hr : I 2 t 1 = nI r) (hc : I 2 t 2 = nI c) (hr5 : r ≤ 5) (hc5 : c ≤ 5) (R : Nat) (hR : R < 2 ^ r) (C : Nat) (hC : C < 2 ^ c) (hRC : pc5 C = pc5 R) : Ct l E yX4_ofPart cX4_ofPart 4 (some .long) rm_X4_ofPart [.ref (eA E 12 0), .ref (eA E 2 t), .int (nI R), .int (nI C)] I L (fun r9 I' L' => r9 = some (.long (wrt (ent I t) R C)) ∧ Fr [(14, 0)] I I' ∧ FL [(13, 0)] L L') := by
  refine ct_of (by decide +kernel) (Nat.le_of_ble_eq_true rfl) hE ?_
  intro a X Y hl hEE
  subst hl; subst hEE
  have hp := pow32 hc5
  have hpr := pow32 hr5
  have hR32 : R < 32 := by omega
  show V a 0 [(0, .ref (eA (vE a) 12 0)), (1, .ref (eA (vE a) 2 t)), (2, .int (nI R)), (3, .int (nI C))] [] I L
  refine v_aload_n X 0 rfl dX4_ofPart_0 ?_
  refine v_aload_n X 1 rfl dX4_ofPart_1 ?_
  refine v_iload_n X 2 rfl dX4_ofPart_2 ?_
  refine v_callV X (c_X4_findAll _ _ hE _ _ t ht r c (hr) (hc) hr5 hc5 R (hR)) k_X4_19 dl_12 (cef_12 _ _ _ _) rfl ⟨rfl, rfl, Nat.le_of_ble_eq_true rfl, Nat.le_of_ble_eq_true rfl⟩ (As := [.ref (eA (vE a) 2 t), .int (nI R)]) (rest := []) rfl rfl (Nat.le_of_ble_eq_true rfl) dX4_ofPart_3 (fun r3 I3 L3 hp3 => ?_)
  obtain ⟨rfl, hF3, hL3, hf3⟩ := hp3
  refine v_st (st' := []) rfl ?_
  refine v_iload_n X 3 rfl dX4_ofPart_6 ?_
  refine v_if_lt_n X (by omega) dX4_ofPart_7 (tgt := 25) (by decide) ?_
  refine v_iload_n X 3 rfl dX4_ofPart_10 ?_
  refine v_bipush X (v := (nI 32)) dX4_ofPart_11 (by decide) ?_
  refine v_icmp_ge_n X (by omega) (by omega) dX4_ofPart_13 (tgt := 25) (by decide) (fun h13 => ?_) (fun h13 => ?_)
  · exact absurd h13 (by omega)
  · refine v_aload_n X 0 rfl dX4_ofPart_16 ?_
    refine gf_X4_9 X dX4_ofPart_17 ?_
    refine v_iload_n X 3 rfl dX4_ofPart_20 ?_
    refine v_lald_n X dl_13 (fun _ _ => rfl) (n := 32) (by omega) (by decide) dX4_ofPart_21 ?_
    refine v_goto X (tgt := 26) dX4_ofPart_22 (by decide) ?_
    exact v_lret X Y dX4_ofPart_26 (⟨by rw [hf3 C hC (by omega), hRC]; rfl, hF3, hL3⟩)
set_option maxHeartbeats 4000000 in
set_option maxRecDepth 100000 in
theorem c_X4_firstLowColumns (l : Launch) (E : VE) (hE : EOk E) (I : TI) (L : TL) (t : Nat) (ht : t < 12) (r c : Nat) (hr : I 2 t 1 = nI r) (hc : I 2 t 2 = nI c) (hr5 : r ≤ 5) (hc5 : c ≤ 5) (R : Nat) (hR : R < 2 ^ r) (b : Nat) (hb : b < 2) : Ct l E yX4_firstLowColumns cX4_firstLowColumns 6 (some .int) rm_X4_firstLowColumns [.ref (eA E 12 0), .ref (eA E 2 t), .int (nI R), .int (nI b)] I L (fun r9 I' L' => Fr [(14, 0)] I I' ∧ FL [(13, 0)] L L' ∧ ((∃ C, 1 ≤ C ∧ C < 2 ^ c ∧ qc (ent I t) b R C ∧ (∀ D, 1 ≤ D → D < C → ¬ qc (ent I t) b R D) ∧ r9 = some (.int (nI C))) ∨ ((∀ D, 1 ≤ D → D < 2 ^ c → ¬ qc (ent I t) b R D) ∧ r9 = some (.int (-1))))) := by
  refine ct_of (by decide +kernel) (Nat.le_of_ble_eq_true rfl) hE ?_
  intro a X Y hl hEE
  subst hl; subst hEE
  have hp := pow32 hc5
  have hpr := pow32 hr5
  have hR32 : R < 32 := by omega
  show V a 0 [(0, .ref (eA (vE a) 12 0)), (1, .ref (eA (vE a) 2 t)), (2, .int (nI R)), (3, .int (nI b))] [] I L
  refine v_aload_n X 0 rfl dX4_firstLowColumns_0 ?_
  refine v_aload_n X 1 rfl dX4_firstLowColumns_1 ?_
  refine v_iload_n X 2 rfl dX4_firstLowColumns_2 ?_
  refine v_callV X (c_X4_findAll _ _ hE _ _ t ht r c (hr) (hc) hr5 hc5 R (hR)) k_X4_19 dl_12 (cef_12 _ _ _ _) rfl ⟨rfl, rfl, Nat.le_of_ble_eq_true rfl, Nat.le_of_ble_eq_true rfl⟩ (As := [.ref (eA (vE a) 2 t), .int (nI R)]) (rest := []) rfl rfl (Nat.le_of_ble_eq_true rfl) dX4_firstLowColumns_3 (fun r3 I3 L3 hp3 => ?_)
  obtain ⟨rfl, hF3, hL3, hf3⟩ := hp3
  refine v_st (st' := []) rfl ?_
  refine v_iconst X (v := (nI 1)) dX4_firstLowColumns_6 (by decide) ?_
  refine v_istore X [1, 2, 3, 4, 0] (lv' := [(0, .ref (eA (vE a) 12 0)), (1, .ref (eA (vE a) 2 t)), (2, .int (nI R)), (3, .int (nI b)), (4, .int (nI 1))]) (by decide) rfl dX4_firstLowColumns_7 ?_
  have loop9 : ∀ (fu : Nat) (C : Nat), 33 - C < fu → (1 ≤ C) → (C ≤ 2 ^ c) → (∀ D, 1 ≤ D → D < C → ¬ qc (ent I t) b R D) → V a 9 [(0, .ref (eA (vE a) 12 0)), (1, .ref (eA (vE a) 2 t)), (2, .int (nI R)), (3, .int (nI b)), (4, .int (nI C))] [] I3 L3 := by
    intro fu
    induction fu with
    | zero => intro C hm _ _ _; exact absurd hm (Nat.not_lt_zero _)
    | succ fu ih9 =>
      intro C hm9 hC1 hCp hv
      refine v_iload X 4 rfl dX4_firstLowColumns_9 ?_
      refine v_iconst X (v := (nI 1)) dX4_firstLowColumns_11 (by decide) ?_
      refine v_aload_n X 1 rfl dX4_firstLowColumns_12 ?_
      refine gf_X4_29 X ht dX4_firstLowColumns_13 ?_
      refine v_eqi (y := (nI c)) ((Fr.at hF3 (by simp) _).trans (hc)) ?_
      refine v_ishl X dX4_firstLowColumns_16 ?_
      refine v_eqi (y := (nI (2 ^ c))) (sh_one (by omega)) ?_
      refine v_icmp_ge_n X (by omega) (by omega) dX4_firstLowColumns_17 (tgt := 86) (by decide) (fun h17 => ?_) (fun h17 => ?_)
      · refine v_iconst X (v := (-1)) dX4_firstLowColumns_86 (by decide) ?_
        exact v_iret X Y dX4_firstLowColumns_87 (⟨hF3, hL3, Or.inr ⟨fun D h1 h2 => hv D h1 (by omega), rfl⟩⟩)
      · have hCc : C < 2 ^ c := by omega
        refine v_iload_n X 3 rfl dX4_firstLowColumns_20 ?_
        refine v_if_eq_n X (by omega) dX4_firstLowColumns_21 (tgt := 44) (by decide) (fun h21 => ?_) (fun h21 => ?_)
        · refine v_aload_n X 0 rfl dX4_firstLowColumns_44 ?_
          refine gf_X4_9 X dX4_firstLowColumns_45 ?_
          refine v_iload X 4 rfl dX4_firstLowColumns_48 ?_
          refine v_lald_n X dl_13 (fun _ _ => rfl) (n := 32) (by omega) (by decide) dX4_firstLowColumns_50 ?_
          refine v_lconst X (v := 0) dX4_firstLowColumns_51 rfl ?_
          refine v_lcmp_ge X dX4_firstLowColumns_52 dX4_firstLowColumns_53 (tgt := 60) (by decide) (fun h52 => ?_) (fun h52 => ?_)
          · refine v_iconst X (v := (nI 0)) dX4_firstLowColumns_60 (by decide) ?_
            refine v_istore X [1, 2, 3, 4, 5, 0] (lv' := [(0, .ref (eA (vE a) 12 0)), (1, .ref (eA (vE a) 2 t)), (2, .int (nI R)), (3, .int (nI b)), (4, .int (nI C)), (5, .int (nI 0))]) (by decide) rfl dX4_firstLowColumns_61 ?_
            refine v_iload X 5 rfl dX4_firstLowColumns_63 ?_
            refine v_if_eq_n X (by omega) dX4_firstLowColumns_65 (tgt := 80) (by decide) (fun h65 => ?_) (fun h65 => ?_)
            · refine v_iinc X [1, 2, 3, 4, 0, 5] 4 (nI (C + 1)) (lv' := [(0, .ref (eA (vE a) 12 0)), (1, .ref (eA (vE a) 2 t)), (2, .int (nI R)), (3, .int (nI b)), (4, .int (nI (C + 1))), (5, .int (nI 0))]) rfl (nI_1 _) (by decide) rfl dX4_firstLowColumns_80 ?_
              refine v_goto X (tgt := 9) dX4_firstLowColumns_83 (by decide) ?_
              refine v_sub [0, 1, 2, 3, 4] (lv' := [(0, .ref (eA (vE a) 12 0)), (1, .ref (eA (vE a) 2 t)), (2, .int (nI R)), (3, .int (nI b)), (4, .int (nI (C + 1)))]) rfl ?_
              have hno : ¬ qc (ent I t) b R C := qc_no (hf3 C hCc) (Or.inl (low_0f h21 h52))
              have hnew : ∀ D, 1 ≤ D → D < C + 1 → ¬ qc (ent I t) b R D := fun D h1 h2 => by
                rcases Nat.lt_or_ge D C with q | q
                · exact hv D h1 q
                · have e : D = C := by omega
                  rw [e]; exact hno
              exact ih9 (C + 1) (by omega) (by omega) (by omega) hnew
            · exact absurd h65 (by decide)
          · refine v_iconst X (v := (nI 1)) dX4_firstLowColumns_56 (by decide) ?_
            refine v_goto X (tgt := 61) dX4_firstLowColumns_57 (by decide) ?_
            refine v_istore X [1, 2, 3, 4, 5, 0] (lv' := [(0, .ref (eA (vE a) 12 0)), (1, .ref (eA (vE a) 2 t)), (2, .int (nI R)), (3, .int (nI b)), (4, .int (nI C)), (5, .int (nI 1))]) (by decide) rfl dX4_firstLowColumns_61 ?_
            refine v_iload X 5 rfl dX4_firstLowColumns_63 ?_
            refine v_if_eq_n X (by omega) dX4_firstLowColumns_65 (tgt := 80) (by decide) (fun h65 => ?_) (fun h65 => ?_)
            · exact absurd h65 (by decide)
            · refine v_iload_n X 2 rfl dX4_firstLowColumns_68 ?_
              refine v_iload X 4 rfl dX4_firstLowColumns_69 ?_
              refine v_callN X (c_X5_areAsMany _ _ hE _ _ R C (by omega) (by omega)) k_X4_48 ⟨rfl, rfl, Nat.le_of_ble_eq_true rfl, Nat.le_of_ble_eq_true rfl⟩ (As := [.int (nI R), .int (nI C)]) (rest := []) rfl rfl (Nat.le_of_ble_eq_true rfl) dX4_firstLowColumns_71 (fun r71 I71 L71 hp71 => ?_)
              obtain ⟨rfl, e1, e2⟩ := hp71
              have e1 := e1.symm
              have e2 := e2.symm
              subst e1; subst e2
              refine v_st (st' := [.int (bI (pc5 R = pc5 C))]) rfl ?_
              refine v_ifb_eq X dX4_firstLowColumns_74 (tgt := 80) (by decide) (fun h74 => ?_) (fun h74 => ?_)
              · refine v_iinc X [1, 2, 3, 4, 0, 5] 4 (nI (C + 1)) (lv' := [(0, .ref (eA (vE a) 12 0)), (1, .ref (eA (vE a) 2 t)), (2, .int (nI R)), (3, .int (nI b)), (4, .int (nI (C + 1))), (5, .int (nI 1))]) rfl (nI_1 _) (by decide) rfl dX4_firstLowColumns_80 ?_
                refine v_goto X (tgt := 9) dX4_firstLowColumns_83 (by decide) ?_
                refine v_sub [0, 1, 2, 3, 4] (lv' := [(0, .ref (eA (vE a) 12 0)), (1, .ref (eA (vE a) 2 t)), (2, .int (nI R)), (3, .int (nI b)), (4, .int (nI (C + 1)))]) rfl ?_
                have hno : ¬ qc (ent I t) b R C := qc_no (hf3 C hCc) (Or.inr h74)
                have hnew : ∀ D, 1 ≤ D → D < C + 1 → ¬ qc (ent I t) b R D := fun D h1 h2 => by
                  rcases Nat.lt_or_ge D C with q | q
                  · exact hv D h1 q
                  · have e : D = C := by omega
                    rw [e]; exact hno
                exact ih9 (C + 1) (by omega) (by omega) (by omega) hnew
              · refine v_iload X 4 rfl dX4_firstLowColumns_77 ?_
                exact v_iret X Y dX4_firstLowColumns_79 (⟨hF3, hL3, Or.inl ⟨C, hC1, hCc, qc_yes (hf3 C hCc) (low_0t h21 h52) h74, hv, rfl⟩⟩)
        · refine v_aload_n X 0 rfl dX4_firstLowColumns_24 ?_
          refine gf_X4_9 X dX4_firstLowColumns_25 ?_
          refine v_iload X 4 rfl dX4_firstLowColumns_28 ?_
          refine v_lald_n X dl_13 (fun _ _ => rfl) (n := 32) (by omega) (by decide) dX4_firstLowColumns_30 ?_
          refine v_lconst X (v := 0) dX4_firstLowColumns_31 rfl ?_
          refine v_lcmp_gt X dX4_firstLowColumns_32 dX4_firstLowColumns_33 (tgt := 40) (by decide) (fun h32 => ?_) (fun h32 => ?_)
          · refine v_iconst X (v := (nI 0)) dX4_firstLowColumns_40 (by decide) ?_
            refine v_goto X (tgt := 61) dX4_firstLowColumns_41 (by decide) ?_
            refine v_istore X [1, 2, 3, 4, 5, 0] (lv' := [(0, .ref (eA (vE a) 12 0)), (1, .ref (eA (vE a) 2 t)), (2, .int (nI R)), (3, .int (nI b)), (4, .int (nI C)), (5, .int (nI 0))]) (by decide) rfl dX4_firstLowColumns_61 ?_
            refine v_iload X 5 rfl dX4_firstLowColumns_63 ?_
            refine v_if_eq_n X (by omega) dX4_firstLowColumns_65 (tgt := 80) (by decide) (fun h65 => ?_) (fun h65 => ?_)
            · refine v_iinc X [1, 2, 3, 4, 0, 5] 4 (nI (C + 1)) (lv' := [(0, .ref (eA (vE a) 12 0)), (1, .ref (eA (vE a) 2 t)), (2, .int (nI R)), (3, .int (nI b)), (4, .int (nI (C + 1))), (5, .int (nI 0))]) rfl (nI_1 _) (by decide) rfl dX4_firstLowColumns_80 ?_
              refine v_goto X (tgt := 9) dX4_firstLowColumns_83 (by decide) ?_
              refine v_sub [0, 1, 2, 3, 4] (lv' := [(0, .ref (eA (vE a) 12 0)), (1, .ref (eA (vE a) 2 t)), (2, .int (nI R)), (3, .int (nI b)), (4, .int (nI (C + 1)))]) rfl ?_
              have hno : ¬ qc (ent I t) b R C := qc_no (hf3 C hCc) (Or.inl (low_1f h21 h32))
              have hnew : ∀ D, 1 ≤ D → D < C + 1 → ¬ qc (ent I t) b R D := fun D h1 h2 => by
                rcases Nat.lt_or_ge D C with q | q
                · exact hv D h1 q
                · have e : D = C := by omega
                  rw [e]; exact hno
              exact ih9 (C + 1) (by omega) (by omega) (by omega) hnew
            · exact absurd h65 (by decide)
          · refine v_iconst X (v := (nI 1)) dX4_firstLowColumns_36 (by decide) ?_
            refine v_goto X (tgt := 61) dX4_firstLowColumns_37 (by decide) ?_
            refine v_istore X [1, 2, 3, 4, 5, 0] (lv' := [(0, .ref (eA (vE a) 12 0)), (1, .ref (eA (vE a) 2 t)), (2, .int (nI R)), (3, .int (nI b)), (4, .int (nI C)), (5, .int (nI 1))]) (by decide) rfl dX4_firstLowColumns_61 ?_
            refine v_iload X 5 rfl dX4_firstLowColumns_63 ?_
            refine v_if_eq_n X (by omega) dX4_firstLowColumns_65 (tgt := 80) (by decide) (fun h65 => ?_) (fun h65 => ?_)
            · exact absurd h65 (by decide)
            · refine v_iload_n X 2 rfl dX4_firstLowColumns_68 ?_
              refine v_iload X 4 rfl dX4_firstLowColumns_69 ?_
              refine v_callN X (c_X5_areAsMany _ _ hE _ _ R C (by omega) (by omega)) k_X4_48 ⟨rfl, rfl, Nat.le_of_ble_eq_true rfl, Nat.le_of_ble_eq_true rfl⟩ (As := [.int (nI R), .int (nI C)]) (rest := []) rfl rfl (Nat.le_of_ble_eq_true rfl) dX4_firstLowColumns_71 (fun r71 I71 L71 hp71 => ?_)
              obtain ⟨rfl, e1, e2⟩ := hp71
              have e1 := e1.symm
              have e2 := e2.symm
              subst e1; subst e2
              refine v_st (st' := [.int (bI (pc5 R = pc5 C))]) rfl ?_
              refine v_ifb_eq X dX4_firstLowColumns_74 (tgt := 80) (by decide) (fun h74 => ?_) (fun h74 => ?_)
              · refine v_iinc X [1, 2, 3, 4, 0, 5] 4 (nI (C + 1)) (lv' := [(0, .ref (eA (vE a) 12 0)), (1, .ref (eA (vE a) 2 t)), (2, .int (nI R)), (3, .int (nI b)), (4, .int (nI (C + 1))), (5, .int (nI 1))]) rfl (nI_1 _) (by decide) rfl dX4_firstLowColumns_80 ?_
                refine v_goto X (tgt := 9) dX4_firstLowColumns_83 (by decide) ?_
                refine v_sub [0, 1, 2, 3, 4] (lv' := [(0, .ref (eA (vE a) 12 0)), (1, .ref (eA (vE a) 2 t)), (2, .int (nI R)), (3, .int (nI b)), (4, .int (nI (C + 1)))]) rfl ?_
                have hno : ¬ qc (ent I t) b R C := qc_no (hf3 C hCc) (Or.inr h74)
                have hnew : ∀ D, 1 ≤ D → D < C + 1 → ¬ qc (ent I t) b R D := fun D h1 h2 => by
                  rcases Nat.lt_or_ge D C with q | q
                  · exact hv D h1 q
                  · have e : D = C := by omega
                    rw [e]; exact hno
                exact ih9 (C + 1) (by omega) (by omega) (by omega) hnew
              · refine v_iload X 4 rfl dX4_firstLowColumns_77 ?_
                exact v_iret X Y dX4_firstLowColumns_79 (⟨hF3, hL3, Or.inl ⟨C, hC1, hCc, qc_yes (hf3 C hCc) (low_1t h21 h32) h74, hv, rfl⟩⟩)
  exact loop9 _ 1 (Nat.lt_succ_self _) (by decide) Nat.one_le_two_pow (fun D h1 h2 => absurd h2 (by omega))
end
section
/-- the first low part of all, in the document's order -/
def flP (a : Nat → Nat → Int64) (b r c R C : Nat) : Prop := 1 ≤ R ∧ R < 2 ^ r ∧ 1 ≤ C ∧ C < 2 ^ c ∧ qc a b R C
def flB (R C R' C' : Nat) : Prop := pc5 R < pc5 R' ∨ (pc5 R = pc5 R' ∧ (R < R' ∨ (R = R' ∧ C ≤ C')))
def flRes (a : Nat → Nat → Int64) (b r c : Nat) (x : Int32) : Prop := (∃ R C, flP a b r c R C ∧ (∀ R' C', flP a b r c R' C' → flB R C R' C') ∧ x = nI (32 * R + C)) ∨ ((∀ R C, ¬ flP a b r c R C) ∧ x = -1)
theorem fl_end {a : Nat → Nat → Int64} {b r c n : Nat} (hr : r ≤ 5) (hc : c ≤ 5) (hn : min r c < n) (h : ∀ R C, pc5 R < n → ¬ flP a b r c R C) : ∀ R C, ¬ flP a b r c R C := fun R C q => by
  have h1 := pc5_lt r (by omega) R (by have := pow32 hr; have := q.2.1; omega) q.2.1
  have h2 := pc5_lt c (by omega) C (by have := pow32 hc; have := q.2.2.2.1; omega) q.2.2.2.1
  have e := q.2.2.2.2.1
  exact h R C (by omega) q
theorem mS_r0 (a : Nat → Nat → Int64) (s : Int32) (c : Nat) : sN c (fun C => mS a s 0 C) = 0 := sN_z (fun k _ => if_neg (fun q => absurd q.1 (by decide)))
theorem mS_c0 (a : Nat → Nat → Int64) (s : Int32) (R : Nat) : mS a s R 0 = 0 := if_neg (fun q => absurd q.2.1 (by decide))
theorem nI_ne_m1 : ∀ C, C < 2 ^ 31 → nI C ≠ (-1 : Int32) := fun C h e => by
  have h1 := nI_toInt h
  rw [e] at h1
  have h2 : ((-1 : Int32)).toInt = -1 := by decide
  omega
set_option maxHeartbeats 4000000 in
set_option maxRecDepth 100000 in
theorem c_X4_firstLow (l : Launch) (E : VE) (hE : EOk E) (I : TI) (L : TL) (t : Nat) (ht : t < 12) (r c : Nat) (hr : I 2 t 1 = nI r) (hc : I 2 t 2 = nI c) (hr5 : r ≤ 5) (hc5 : c ≤ 5) (b : Nat) (hb : b < 2) : Ct l E yX4_firstLow cX4_firstLow 6 (some .int) rm_X4_firstLow [.ref (eA E 12 0), .ref (eA E 2 t), .int (nI b)] I L (fun r9 I' L' => Fr [(14, 0)] I I' ∧ FL [(13, 0)] L L' ∧ ∃ x, r9 = some (.int x) ∧ flRes (ent I t) b r c x) := by
  refine ct_of (by decide +kernel) (Nat.le_of_ble_eq_true rfl) hE ?_
  intro a X Y hl hEE
  subst hl; subst hEE
  have hp := pow32 hc5
  have hpr := pow32 hr5
  show V a 0 [(0, .ref (eA (vE a) 12 0)), (1, .ref (eA (vE a) 2 t)), (2, .int (nI b))] [] I L
  refine v_iconst X (v := (nI 1)) dX4_firstLow_0 (by decide) ?_
  refine v_istore_n X [1, 2, 3, 0] (lv' := [(0, .ref (eA (vE a) 12 0)), (1, .ref (eA (vE a) 2 t)), (2, .int (nI b)), (3, .int (nI 1))]) (by decide) rfl dX4_firstLow_1 ?_
  have loop2 : ∀ (fu : Nat) (n : Nat) (I1 : TI) (L1 : TL), 6 - n < fu → (1 ≤ n) → (n ≤ 6) → (Fr [(14, 0)] I I1) → (FL [(13, 0)] L L1) → (∀ R C, pc5 R < n → ¬ flP (ent I t) b r c R C) → V a 2 [(0, .ref (eA (vE a) 12 0)), (1, .ref (eA (vE a) 2 t)), (2, .int (nI b)), (3, .int (nI n))] [] I1 L1 := by
    intro fu
    induction fu with
    | zero => intro n I1 L1 hm _ _ _ _ _; exact absurd hm (Nat.not_lt_zero _)
    | succ fu ih2 =>
      intro n I1 L1 hm2 hn hn6 hF hFL hv
      refine v_iload_n X 3 rfl dX4_firstLow_2 ?_
      refine v_aload_n X 1 rfl dX4_firstLow_3 ?_
      refine gf_X4_23 X ht dX4_firstLow_4 ?_
      refine v_eqi (y := (nI r)) ((Fr.at hF (by simp) _).trans (hr)) ?_
      refine v_aload_n X 1 rfl dX4_firstLow_7 ?_
      refine gf_X4_29 X ht dX4_firstLow_8 ?_
      refine v_eqi (y := (nI c)) ((Fr.at hF (by simp) _).trans (hc)) ?_
      refine v_min X mw_X4_32.1 mw_X4_32.2.1 mw_X4_32.2.2.1 mw_X4_32.2.2.2 (Nat.le_of_ble_eq_true rfl) (Nat.le_of_ble_eq_true rfl) dX4_firstLow_11 ?_
      refine v_eqi (y := (nI (min r c))) (min_n (by omega) (by omega)) ?_
      refine v_icmp_gt_n X (by omega) (by omega) dX4_firstLow_14 (tgt := 77) (by decide) (fun h14 => ?_) (fun h14 => ?_)
      · refine v_iconst X (v := (-1)) dX4_firstLow_77 (by decide) ?_
        exact v_iret X Y dX4_firstLow_78 (⟨hF, hFL, _, rfl, Or.inr ⟨fl_end hr5 hc5 h14 hv, rfl⟩⟩)
      · refine v_iconst X (v := (nI 1)) dX4_firstLow_17 (by decide) ?_
        refine v_istore X [1, 2, 3, 4, 0] (lv' := [(0, .ref (eA (vE a) 12 0)), (1, .ref (eA (vE a) 2 t)), (2, .int (nI b)), (3, .int (nI n)), (4, .int (nI 1))]) (by decide) rfl dX4_firstLow_18 ?_
        have loop20 : ∀ (fu : Nat) (R : Nat) (I1 : TI) (L1 : TL), 33 - R < fu → (1 ≤ R) → (R ≤ 2 ^ r) → (Fr [(14, 0)] I I1) → (FL [(13, 0)] L L1) → (∀ R' C', (pc5 R' < n ∨ (pc5 R' = n ∧ R' < R)) → ¬ flP (ent I t) b r c R' C') → V a 20 [(0, .ref (eA (vE a) 12 0)), (1, .ref (eA (vE a) 2 t)), (2, .int (nI b)), (3, .int (nI n)), (4, .int (nI R))] [] I1 L1 := by
          intro fu
          induction fu with
          | zero => intro R I1 L1 hm _ _ _ _ _; exact absurd hm (Nat.not_lt_zero _)
          | succ fu ih20 =>
            intro R I1 L1 hm20 hR1 hRp2 hF hFL hv
            refine v_iload X 4 rfl dX4_firstLow_20 ?_
            refine v_iconst X (v := (nI 1)) dX4_firstLow_22 (by decide) ?_
            refine v_aload_n X 1 rfl dX4_firstLow_23 ?_
            refine gf_X4_23 X ht dX4_firstLow_24 ?_
            refine v_eqi (y := (nI r)) ((Fr.at hF (by simp) _).trans (hr)) ?_
            refine v_ishl X dX4_firstLow_27 ?_
            refine v_eqi (y := (nI (2 ^ r))) (sh_one (by omega)) ?_
            refine v_icmp_ge_n X (by omega) (by omega) dX4_firstLow_28 (tgt := 71) (by decide) (fun h28 => ?_) (fun h28 => ?_)
            · refine v_iinc X [1, 2, 3, 0, 4] 3 (nI (n + 1)) (lv' := [(0, .ref (eA (vE a) 12 0)), (1, .ref (eA (vE a) 2 t)), (2, .int (nI b)), (3, .int (nI (n + 1))), (4, .int (nI R))]) rfl (nI_1 _) (by decide) rfl dX4_firstLow_71 ?_
              refine v_goto X (tgt := 2) dX4_firstLow_74 (by decide) ?_
              refine v_sub [0, 1, 2, 3] (lv' := [(0, .ref (eA (vE a) 12 0)), (1, .ref (eA (vE a) 2 t)), (2, .int (nI b)), (3, .int (nI (n + 1)))]) rfl ?_
              have hnew : ∀ R C, pc5 R < n + 1 → ¬ flP (ent I t) b r c R C := fun R C h q => hv R C (by have := q.2.1; omega) q
              exact ih2 (n + 1) I1 L1 (by omega) (by omega) (by omega) hF hFL hnew
            · have hRr : R < 2 ^ r := by omega
              have hRp := pc5_le R
              refine v_iload X 4 rfl dX4_firstLow_31 ?_
              refine v_callS X (c_J6_bitCount_0f7a4 _ _ hE _ _ R (by omega)) k_X4_38 ⟨rfl, rfl, Nat.le_of_ble_eq_true rfl, Nat.le_of_ble_eq_true rfl⟩ (As := [.int (nI R)]) (rest := []) rfl rfl (Nat.le_of_ble_eq_true rfl) dX4_firstLow_33 (fun r33 I33 L33 hp33 => ?_)
              obtain ⟨rfl, e1, e2⟩ := hp33
              have e1 := e1.symm
              have e2 := e2.symm
              subst e1; subst e2
              refine v_st (st' := [.int (nI (pc5 R))]) rfl ?_
              refine v_iload_n X 3 rfl dX4_firstLow_36 ?_
              refine v_icmp_ne_n X (by omega) (by omega) dX4_firstLow_37 (tgt := 65) (by decide) (fun h37 => ?_) (fun h37 => ?_)
              · refine v_iinc X [1, 2, 3, 4, 0] 4 (nI (R + 1)) (lv' := [(0, .ref (eA (vE a) 12 0)), (1, .ref (eA (vE a) 2 t)), (2, .int (nI b)), (3, .int (nI n)), (4, .int (nI (R + 1)))]) rfl (nI_1 _) (by decide) rfl dX4_firstLow_65 ?_
                refine v_goto X (tgt := 20) dX4_firstLow_68 (by decide) ?_
                have hnew : ∀ R' C', (pc5 R' < n ∨ (pc5 R' = n ∧ R' < R + 1)) → ¬ flP (ent I t) b r c R' C' := fun R' C' h q => by
                  refine hv R' C' ?_ q
                  rcases h with h | ⟨h, h2⟩
                  · exact Or.inl h
                  · rcases Nat.lt_or_ge R' R with z | z
                    · exact Or.inr ⟨h, z⟩
                    · have e : R' = R := by omega
                      rw [e] at h
                      exact absurd h h37
                exact ih20 (R + 1) I1 L1 (by omega) (by omega) (by omega) hF hFL hnew
              · refine v_aload_n X 0 rfl dX4_firstLow_40 ?_
                refine v_aload_n X 1 rfl dX4_firstLow_41 ?_
                refine v_iload X 4 rfl dX4_firstLow_42 ?_
                refine v_iload_n X 2 rfl dX4_firstLow_44 ?_
                refine v_callV X (c_X4_firstLowColumns _ _ hE _ _ t ht r c ((Fr.at hF (by simp) _).trans (hr)) ((Fr.at hF (by simp) _).trans (hc)) hr5 hc5 R hRr b hb) k_X4_44 dl_12 (cef_12 _ _ _ _) rfl ⟨rfl, rfl, Nat.le_of_ble_eq_true rfl, Nat.le_of_ble_eq_true rfl⟩ (As := [.ref (eA (vE a) 2 t), .int (nI R), .int (nI b)]) (rest := []) rfl rfl (Nat.le_of_ble_eq_true rfl) dX4_firstLow_45 (fun r45 I45 L45 hp45 => ?_)
                obtain ⟨hF45, hL45, ho45⟩ := hp45
                have he45 : ent I1 t = ent I t := ent_fr hF (by simp)
                rw [he45] at ho45
                rcases ho45 with ⟨C, hC1, hCc, hq, hmin, rfl⟩ | ⟨hno, rfl⟩
                · refine v_st (st' := [.int (nI C)]) rfl ?_
                  refine v_istore X [1, 2, 3, 4, 5, 0] (lv' := [(0, .ref (eA (vE a) 12 0)), (1, .ref (eA (vE a) 2 t)), (2, .int (nI b)), (3, .int (nI n)), (4, .int (nI R)), (5, .int (nI C))]) (by decide) rfl dX4_firstLow_48 ?_
                  refine v_iload X 5 rfl dX4_firstLow_50 ?_
                  refine v_iconst X (v := (-1)) dX4_firstLow_52 (by decide) ?_
                  refine v_icmp_eq X dX4_firstLow_53 (tgt := 65) (by decide) (fun h53 => ?_) (fun h53 => ?_)
                  · exact absurd h53 (nI_ne_m1 C (by omega))
                  · refine v_bipush X (v := (nI 32)) dX4_firstLow_56 (by decide) ?_
                    refine v_iload X 4 rfl dX4_firstLow_58 ?_
                    refine v_imul X dX4_firstLow_60 ?_
                    refine v_eqi (y := (nI (32 * R))) (pk_mul _ _) ?_
                    refine v_iload X 5 rfl dX4_firstLow_61 ?_
                    refine v_iadd X dX4_firstLow_63 ?_
                    refine v_eqi (y := (nI ((32 * R) + C))) (nI_add _ _) ?_
                    exact v_iret X Y dX4_firstLow_64 (⟨hF.tr hF45, hFL.tr hL45, _, rfl, Or.inl ⟨R, C, ⟨hR1, hRr, hC1, hCc, hq⟩, fun R' C' q => by
                            rcases Nat.lt_trichotomy (pc5 R') (pc5 R) with z | z | z
                            · exact absurd q (hv R' C' (Or.inl (by omega)))
                            · refine Or.inr ⟨z.symm, ?_⟩
                              rcases Nat.lt_trichotomy R' R with y | y | y
                              · exact absurd q (hv R' C' (Or.inr ⟨by omega, y⟩))
                              · subst y
                                refine Or.inr ⟨rfl, ?_⟩
                                rcases Nat.lt_or_ge C' C with x | x
                                · exact absurd q.2.2.2.2 (hmin C' q.2.2.1 x)
                                · exact x
                              · exact Or.inl y
                            · exact Or.inl z, rfl⟩⟩)
                · refine v_st (st' := [.int (-1)]) rfl ?_
                  refine v_istore X [1, 2, 3, 4, 5, 0] (lv' := [(0, .ref (eA (vE a) 12 0)), (1, .ref (eA (vE a) 2 t)), (2, .int (nI b)), (3, .int (nI n)), (4, .int (nI R)), (5, .int (-1))]) (by decide) rfl dX4_firstLow_48 ?_
                  refine v_iload X 5 rfl dX4_firstLow_50 ?_
                  refine v_iconst X (v := (-1)) dX4_firstLow_52 (by decide) ?_
                  refine v_icmp_eq X dX4_firstLow_53 (tgt := 65) (by decide) (fun h53 => ?_) (fun h53 => ?_)
                  · refine v_iinc X [1, 2, 3, 4, 0, 5] 4 (nI (R + 1)) (lv' := [(0, .ref (eA (vE a) 12 0)), (1, .ref (eA (vE a) 2 t)), (2, .int (nI b)), (3, .int (nI n)), (4, .int (nI (R + 1))), (5, .int (-1))]) rfl (nI_1 _) (by decide) rfl dX4_firstLow_65 ?_
                    refine v_goto X (tgt := 20) dX4_firstLow_68 (by decide) ?_
                    refine v_sub [0, 1, 2, 3, 4] (lv' := [(0, .ref (eA (vE a) 12 0)), (1, .ref (eA (vE a) 2 t)), (2, .int (nI b)), (3, .int (nI n)), (4, .int (nI (R + 1)))]) rfl ?_
                    have hnew : ∀ R' C', (pc5 R' < n ∨ (pc5 R' = n ∧ R' < R + 1)) → ¬ flP (ent I t) b r c R' C' := fun R' C' h q => by
                      rcases h with h | ⟨h, h2⟩
                      · exact hv R' C' (Or.inl h) q
                      · rcases Nat.lt_or_ge R' R with z | z
                        · exact hv R' C' (Or.inr ⟨h, z⟩) q
                        · have e : R' = R := by omega
                          subst e
                          exact hno C' q.2.2.1 q.2.2.2.1 q.2.2.2.2
                    exact ih20 (R + 1) I45 L45 (by omega) (by omega) (by omega) (hF.tr hF45) (hFL.tr hL45) hnew
                  · exact absurd rfl h53
        exact loop20 _ 1 I1 L1 (Nat.lt_succ_self _) (by decide) Nat.one_le_two_pow hF hFL (fun R' C' h q => by rcases h with h | ⟨h, h2⟩ <;> first | exact hv R' C' h q | exact absurd q.1 (by omega))
  exact loop2 _ 1 I L (Nat.lt_succ_self _) (by decide) (by decide) Fr.rf FL.rf (fun R C h q => absurd (pc5_pos R (by have := q.2.1; omega) q.1) (by omega))
set_option maxHeartbeats 4000000 in
set_option maxRecDepth 100000 in
theorem c_X4_manyOf (l : Launch) (E : VE) (hE : EOk E) (I : TI) (L : TL) (t : Nat) (ht : t < 12) (r c : Nat) (hr : I 2 t 1 = nI r) (hc : I 2 t 2 = nI c) (hr5 : r ≤ 5) (hc5 : c ≤ 5) (s : Int32) : Ct l E yX4_manyOf cX4_manyOf 6 (some .int) rm_X4_manyOf [.ref (eA E 12 0), .ref (eA E 2 t), .int s] I L (fun r9 I' L' => Fr [(14, 0)] I I' ∧ FL [(13, 0)] L L' ∧ r9 = some (.int (nI (manyS (ent I t) s r c)))) := by
  refine ct_of (by decide +kernel) (Nat.le_of_ble_eq_true rfl) hE ?_
  intro a X Y hl hEE
  subst hl; subst hEE
  have hp := pow32 hc5
  have hpr := pow32 hr5
  show V a 0 [(0, .ref (eA (vE a) 12 0)), (1, .ref (eA (vE a) 2 t)), (2, .int s)] [] I L
  refine v_iconst X (v := (nI 0)) dX4_manyOf_0 (by decide) ?_
  refine v_istore_n X [1, 2, 3, 0] (lv' := [(0, .ref (eA (vE a) 12 0)), (1, .ref (eA (vE a) 2 t)), (2, .int s), (3, .int (nI 0))]) (by decide) rfl dX4_manyOf_1 ?_
  refine v_iconst X (v := (nI 1)) dX4_manyOf_2 (by decide) ?_
  refine v_istore X [1, 2, 3, 4, 0] (lv' := [(0, .ref (eA (vE a) 12 0)), (1, .ref (eA (vE a) 2 t)), (2, .int s), (3, .int (nI 0)), (4, .int (nI 1))]) (by decide) rfl dX4_manyOf_3 ?_
  have loop5 : ∀ (fu : Nat) (R : Nat) (k : Nat) (I1 : TI) (L1 : TL), 33 - R < fu → (1 ≤ R) → (R ≤ 2 ^ r) → (Fr [(14, 0)] I I1) → (FL [(13, 0)] L L1) → (k = sN R (fun R => sN (2 ^ c) (fun C => mS (ent I t) s R C))) → V a 5 [(0, .ref (eA (vE a) 12 0)), (1, .ref (eA (vE a) 2 t)), (2, .int s), (3, .int (nI k)), (4, .int (nI R))] [] I1 L1 := by
    intro fu
    induction fu with
    | zero => intro R k I1 L1 hm _ _ _ _ _; exact absurd hm (Nat.not_lt_zero _)
    | succ fu ih5 =>
      intro R k I1 L1 hm5 hR1 hRp2 hF hFL hk
      refine v_iload X 4 rfl dX4_manyOf_5 ?_
      refine v_iconst X (v := (nI 1)) dX4_manyOf_7 (by decide) ?_
      refine v_aload_n X 1 rfl dX4_manyOf_8 ?_
      refine gf_X4_23 X ht dX4_manyOf_9 ?_
      refine v_eqi (y := (nI r)) ((Fr.at hF (by simp) _).trans (hr)) ?_
      refine v_ishl X dX4_manyOf_12 ?_
      refine v_eqi (y := (nI (2 ^ r))) (sh_one (by omega)) ?_
      refine v_icmp_ge_n X (by omega) (by omega) dX4_manyOf_13 (tgt := 76) (by decide) (fun h13 => ?_) (fun h13 => ?_)
      · refine v_iload_n X 3 rfl dX4_manyOf_76 ?_
        exact v_iret X Y dX4_manyOf_77 (⟨hF, hFL, by rw [hk, show R = 2 ^ r by omega]; rfl⟩)
      · refine v_aload_n X 0 rfl dX4_manyOf_16 ?_
        refine v_aload_n X 1 rfl dX4_manyOf_17 ?_
        have hRr : R < 2 ^ r := by omega
        refine v_iload X 4 rfl dX4_manyOf_18 ?_
        refine v_callV X (c_X4_findAll _ _ hE _ _ t ht r c ((Fr.at hF (by simp) _).trans (hr)) ((Fr.at hF (by simp) _).trans (hc)) hr5 hc5 R (hRr)) k_X4_19 dl_12 (cef_12 _ _ _ _) rfl ⟨rfl, rfl, Nat.le_of_ble_eq_true rfl, Nat.le_of_ble_eq_true rfl⟩ (As := [.ref (eA (vE a) 2 t), .int (nI R)]) (rest := []) rfl rfl (Nat.le_of_ble_eq_true rfl) dX4_manyOf_20 (fun r20 I20 L20 hp20 => ?_)
        obtain ⟨rfl, hF20, hL20, hf20⟩ := hp20
        refine v_st (st' := []) rfl ?_
        refine v_iconst X (v := (nI 1)) dX4_manyOf_23 (by decide) ?_
        refine v_istore X [1, 2, 3, 4, 5, 0] (lv' := [(0, .ref (eA (vE a) 12 0)), (1, .ref (eA (vE a) 2 t)), (2, .int s), (3, .int (nI k)), (4, .int (nI R)), (5, .int (nI 1))]) (by decide) rfl dX4_manyOf_24 ?_
        have loop26 : ∀ (fu : Nat) (C : Nat) (j : Nat), 33 - C < fu → (1 ≤ C) → (C ≤ 2 ^ c) → (j = k + sN C (fun C => mS (ent I t) s R C)) → V a 26 [(0, .ref (eA (vE a) 12 0)), (1, .ref (eA (vE a) 2 t)), (2, .int s), (3, .int (nI j)), (4, .int (nI R)), (5, .int (nI C))] [] I20 L20 := by
          intro fu
          induction fu with
          | zero => intro C j hm _ _ _; exact absurd hm (Nat.not_lt_zero _)
          | succ fu ih26 =>
            intro C j hm26 hC1 hCp hj
            refine v_iload X 5 rfl dX4_manyOf_26 ?_
            refine v_iconst X (v := (nI 1)) dX4_manyOf_28 (by decide) ?_
            refine v_aload_n X 1 rfl dX4_manyOf_29 ?_
            refine gf_X4_29 X ht dX4_manyOf_30 ?_
            refine v_eqi (y := (nI c)) ((Fr.at hF20 (by simp) _).trans ((Fr.at hF (by simp) _).trans (hc))) ?_
            refine v_ishl X dX4_manyOf_33 ?_
            refine v_eqi (y := (nI (2 ^ c))) (sh_one (by omega)) ?_
            refine v_icmp_ge_n X (by omega) (by omega) dX4_manyOf_34 (tgt := 70) (by decide) (fun h34 => ?_) (fun h34 => ?_)
            · refine v_iinc X [1, 2, 3, 4, 0, 5] 4 (nI (R + 1)) (lv' := [(0, .ref (eA (vE a) 12 0)), (1, .ref (eA (vE a) 2 t)), (2, .int s), (3, .int (nI j)), (4, .int (nI (R + 1))), (5, .int (nI C))]) rfl (nI_1 _) (by decide) rfl dX4_manyOf_70 ?_
              refine v_goto X (tgt := 5) dX4_manyOf_73 (by decide) ?_
              refine v_sub [0, 1, 2, 3, 4] (lv' := [(0, .ref (eA (vE a) 12 0)), (1, .ref (eA (vE a) 2 t)), (2, .int s), (3, .int (nI j)), (4, .int (nI (R + 1)))]) rfl ?_
              exact ih5 (R + 1) j I20 L20 (by omega) (by omega) (by omega) (hF.tr hF20) (hFL.tr hL20) (by rw [hj, show C = 2 ^ c by omega, hk]; rfl)
            · have hCc : C < 2 ^ c := by omega
              refine v_iload X 4 rfl dX4_manyOf_37 ?_
              refine v_iload X 5 rfl dX4_manyOf_39 ?_
              refine v_callN X (c_X5_areAsMany _ _ hE _ _ R C (by omega) (by omega)) k_X4_48 ⟨rfl, rfl, Nat.le_of_ble_eq_true rfl, Nat.le_of_ble_eq_true rfl⟩ (As := [.int (nI R), .int (nI C)]) (rest := []) rfl rfl (Nat.le_of_ble_eq_true rfl) dX4_manyOf_41 (fun r41 I41 L41 hp41 => ?_)
              obtain ⟨rfl, e1, e2⟩ := hp41
              have e1 := e1.symm
              have e2 := e2.symm
              subst e1; subst e2
              refine v_st (st' := [.int (bI (pc5 R = pc5 C))]) rfl ?_
              refine v_ifb_eq X dX4_manyOf_44 (tgt := 64) (by decide) (fun h44 => ?_) (fun h44 => ?_)
              · refine v_iinc X [1, 2, 3, 4, 5, 0] 5 (nI (C + 1)) (lv' := [(0, .ref (eA (vE a) 12 0)), (1, .ref (eA (vE a) 2 t)), (2, .int s), (3, .int (nI j)), (4, .int (nI R)), (5, .int (nI (C + 1)))]) rfl (nI_1 _) (by decide) rfl dX4_manyOf_64 ?_
                refine v_goto X (tgt := 26) dX4_manyOf_67 (by decide) ?_
                have hone : mS (ent I t) s R C = 0 := if_neg (fun q => h44 q.2.2.1)
                exact ih26 (C + 1) j (by omega) (by omega) (by omega) (by rw [sN_v (f := fun C => mS (ent I t) s R C) hone, hj]; rfl)
              · refine v_aload_n X 0 rfl dX4_manyOf_47 ?_
                refine gf_X4_9 X dX4_manyOf_48 ?_
                refine v_iload X 5 rfl dX4_manyOf_51 ?_
                refine v_lald_n X dl_13 (fun _ _ => rfl) (n := 32) (by omega) (by decide) dX4_manyOf_53 ?_
                refine v_callN X (c_X5_signOf _ _ hE _ _ (L20 13 0 C)) k_X4_52 ⟨rfl, rfl, Nat.le_of_ble_eq_true rfl, Nat.le_of_ble_eq_true rfl⟩ (As := [.long (L20 13 0 C)]) (rest := []) rfl rfl (Nat.le_of_ble_eq_true rfl) dX4_manyOf_54 (fun r54 I54 L54 hp54 => ?_)
                obtain ⟨rfl, e1, e2⟩ := hp54
                have e1 := e1.symm
                have e2 := e2.symm
                subst e1; subst e2
                refine v_st (st' := [.int (sgn (L20 13 0 C))]) rfl ?_
                have hval : L20 13 0 C = wrt (ent I t) R C := by
                  rw [hf20 C hCc (by omega), ← h44, ent_fr hF (by simp)]
                  rfl
                refine v_iload_n X 2 rfl dX4_manyOf_57 ?_
                refine v_icmp_ne X dX4_manyOf_58 (tgt := 64) (by decide) (fun h58 => ?_) (fun h58 => ?_)
                · refine v_iinc X [1, 2, 3, 4, 5, 0] 5 (nI (C + 1)) (lv' := [(0, .ref (eA (vE a) 12 0)), (1, .ref (eA (vE a) 2 t)), (2, .int s), (3, .int (nI j)), (4, .int (nI R)), (5, .int (nI (C + 1)))]) rfl (nI_1 _) (by decide) rfl dX4_manyOf_64 ?_
                  refine v_goto X (tgt := 26) dX4_manyOf_67 (by decide) ?_
                  have hone : mS (ent I t) s R C = 0 := if_neg (fun q => h58 (by rw [hval]; exact q.2.2.2))
                  exact ih26 (C + 1) j (by omega) (by omega) (by omega) (by rw [sN_v (f := fun C => mS (ent I t) s R C) hone, hj]; rfl)
                · refine v_iinc X [1, 2, 3, 0, 4, 5] 3 (nI (j + 1)) (lv' := [(0, .ref (eA (vE a) 12 0)), (1, .ref (eA (vE a) 2 t)), (2, .int s), (3, .int (nI (j + 1))), (4, .int (nI R)), (5, .int (nI C))]) rfl (nI_1 _) (by decide) rfl dX4_manyOf_61 ?_
                  refine v_iinc X [1, 2, 3, 4, 5, 0] 5 (nI (C + 1)) (lv' := [(0, .ref (eA (vE a) 12 0)), (1, .ref (eA (vE a) 2 t)), (2, .int s), (3, .int (nI (j + 1))), (4, .int (nI R)), (5, .int (nI (C + 1)))]) rfl (nI_1 _) (by decide) rfl dX4_manyOf_64 ?_
                  refine v_goto X (tgt := 26) dX4_manyOf_67 (by decide) ?_
                  have hone : mS (ent I t) s R C = 1 := if_pos ⟨hR1, hC1, h44, by rw [← hval]; exact h58⟩
                  exact ih26 (C + 1) (j + 1) (by omega) (by omega) (by omega) (by rw [sN_v (f := fun C => mS (ent I t) s R C) hone, hj]; rfl)
        exact loop26 _ 1 k (Nat.lt_succ_self _) (by decide) Nat.one_le_two_pow (by rw [sN_v (f := fun C => mS (ent I t) s R C) (mS_c0 _ _ _)]; rfl)
  exact loop5 _ 1 0 I L (Nat.lt_succ_self _) (by decide) Nat.one_le_two_pow Fr.rf FL.rf (by rw [sN_v (f := fun R => sN (2 ^ c) (fun C => mS (ent I t) s R C)) (mS_r0 _ _ _)]; rfl)
theorem st_lt : ∀ n, n < 6 → ∀ i, i < 6 → (2 ^ n - 1) * 2 ^ i < 2 ^ 31 := by decide +kernel
set_option maxHeartbeats 4000000 in
set_option maxRecDepth 100000 in
theorem c_X4_stretch (l : Launch) (E : VE) (hE : EOk E) (I : TI) (L : TL) (i n : Nat) (hi : i < 6) (hn : n < 6) : Ct l E yX4_stretch cX4_stretch 2 (some .int) rm_X4_stretch [.int (nI i), .int (nI n)] I L (fun r9 I' L' => r9 = some (.int (nI (spn i n))) ∧ I' = I ∧ L' = L) := by
  refine ct_of (by decide +kernel) (Nat.le_of_ble_eq_true rfl) hE ?_
  intro a X Y hl hEE
  subst hl; subst hEE
  have hpn : 1 ≤ 2 ^ n := Nat.one_le_two_pow
  show V a 0 [(0, .int (nI i)), (1, .int (nI n))] [] I L
  refine v_iconst X (v := (nI 1)) dX4_stretch_0 (by decide) ?_
  refine v_iload_n X 1 rfl dX4_stretch_1 ?_
  refine v_ishl X dX4_stretch_2 ?_
  refine v_eqi (y := (nI (2 ^ n))) (sh_one (by omega)) ?_
  refine v_iconst X (v := (nI 1)) dX4_stretch_3 (by decide) ?_
  refine v_isub X dX4_stretch_4 ?_
  refine v_eqi (y := (nI ((2 ^ n) - 1))) (pk_sub (by omega)) ?_
  refine v_iload_n X 0 rfl dX4_stretch_5 ?_
  refine v_ishl X dX4_stretch_6 ?_
  refine v_eqi (y := (nI (((2 ^ n) - 1) * 2 ^ i))) (sh_l (by omega) (st_lt n hn i hi)) ?_
  exact v_iret X Y dX4_stretch_7 (⟨rfl, rfl, rfl⟩)
theorem lkS_0 (a : Nat → Nat → Int64) (b r c : Nat) : sN (r + 1 - 0) (fun i => sN (c + 1 - 0) (fun j => lkS a b 0 i j)) = 0 := sN_z (fun _ _ => sN_z (fun _ _ => if_neg (fun q => absurd q.1 (by decide))))
set_option maxHeartbeats 4000000 in
set_option maxRecDepth 100000 in
theorem c_X4_looks (l : Launch) (E : VE) (hE : EOk E) (I : TI) (L : TL) (t : Nat) (ht : t < 12) (r c : Nat) (hr : I 2 t 1 = nI r) (hc : I 2 t 2 = nI c) (hr5 : r ≤ 5) (hc5 : c ≤ 5) (b : Nat) (hb : b < 2) : Ct l E yX4_looks cX4_looks 8 (some .int) rm_X4_looks [.ref (eA E 12 0), .ref (eA E 2 t), .int (nI b)] I L (fun r9 I' L' => Fr [(14, 0)] I I' ∧ FL [(13, 0)] L L' ∧ r9 = some (.int (nI (looksS (ent I t) b r c)))) := by
  refine ct_of (by decide +kernel) (Nat.le_of_ble_eq_true rfl) hE ?_
  intro a X Y hl hEE
  subst hl; subst hEE
  have hp := pow32 hc5
  have hpr := pow32 hr5
  show V a 0 [(0, .ref (eA (vE a) 12 0)), (1, .ref (eA (vE a) 2 t)), (2, .int (nI b))] [] I L
  refine v_iconst X (v := (nI 0)) dX4_looks_0 (by decide) ?_
  refine v_istore_n X [1, 2, 3, 0] (lv' := [(0, .ref (eA (vE a) 12 0)), (1, .ref (eA (vE a) 2 t)), (2, .int (nI b)), (3, .int (nI 0))]) (by decide) rfl dX4_looks_1 ?_
  refine v_iconst X (v := (nI 1)) dX4_looks_2 (by decide) ?_
  refine v_istore X [1, 2, 3, 4, 0] (lv' := [(0, .ref (eA (vE a) 12 0)), (1, .ref (eA (vE a) 2 t)), (2, .int (nI b)), (3, .int (nI 0)), (4, .int (nI 1))]) (by decide) rfl dX4_looks_3 ?_
  have loop5 : ∀ (fu : Nat) (n : Nat) (k : Nat) (I1 : TI) (L1 : TL), 6 - n < fu → (1 ≤ n) → (n ≤ min r c + 1) → (Fr [(14, 0)] I I1) → (FL [(13, 0)] L L1) → (k = sN n (fun n => sN (r + 1 - n) (fun i => sN (c + 1 - n) (fun j => lkS (ent I t) b n i j)))) → V a 5 [(0, .ref (eA (vE a) 12 0)), (1, .ref (eA (vE a) 2 t)), (2, .int (nI b)), (3, .int (nI k)), (4, .int (nI n))] [] I1 L1 := by
    intro fu
    induction fu with
    | zero => intro n k I1 L1 hm _ _ _ _ _; exact absurd hm (Nat.not_lt_zero _)
    | succ fu ih5 =>
      intro n k I1 L1 hm5 hn hnm hF hFL hk
      refine v_iload X 4 rfl dX4_looks_5 ?_
      refine v_aload_n X 1 rfl dX4_looks_7 ?_
      refine gf_X4_23 X ht dX4_looks_8 ?_
      refine v_eqi (y := (nI r)) ((Fr.at hF (by simp) _).trans (hr)) ?_
      refine v_aload_n X 1 rfl dX4_looks_11 ?_
      refine gf_X4_29 X ht dX4_looks_12 ?_
      refine v_eqi (y := (nI c)) ((Fr.at hF (by simp) _).trans (hc)) ?_
      refine v_min X mw_X4_32.1 mw_X4_32.2.1 mw_X4_32.2.2.1 mw_X4_32.2.2.2 (Nat.le_of_ble_eq_true rfl) (Nat.le_of_ble_eq_true rfl) dX4_looks_15 ?_
      refine v_eqi (y := (nI (min r c))) (min_n (by omega) (by omega)) ?_
      refine v_icmp_gt_n X (by omega) (by omega) dX4_looks_18 (tgt := 127) (by decide) (fun h18 => ?_) (fun h18 => ?_)
      · refine v_iload_n X 3 rfl dX4_looks_127 ?_
        exact v_iret X Y dX4_looks_128 (⟨hF, hFL, by rw [hk, show n = min r c + 1 by omega]; rfl⟩)
      · refine v_iconst X (v := (nI 0)) dX4_looks_21 (by decide) ?_
        refine v_istore X [1, 2, 3, 4, 5, 0] (lv' := [(0, .ref (eA (vE a) 12 0)), (1, .ref (eA (vE a) 2 t)), (2, .int (nI b)), (3, .int (nI k)), (4, .int (nI n)), (5, .int (nI 0))]) (by decide) rfl dX4_looks_22 ?_
        have loop24 : ∀ (fu : Nat) (i : Nat) (k1 : Nat) (I1 : TI) (L1 : TL), 6 - i < fu → (i ≤ r + 1 - n) → (Fr [(14, 0)] I I1) → (FL [(13, 0)] L L1) → (k1 = k + sN i (fun i => sN (c + 1 - n) (fun j => lkS (ent I t) b n i j))) → V a 24 [(0, .ref (eA (vE a) 12 0)), (1, .ref (eA (vE a) 2 t)), (2, .int (nI b)), (3, .int (nI k1)), (4, .int (nI n)), (5, .int (nI i))] [] I1 L1 := by
          intro fu
          induction fu with
          | zero => intro i k1 I1 L1 hm _ _ _ _; exact absurd hm (Nat.not_lt_zero _)
          | succ fu ih24 =>
            intro i k1 I1 L1 hm24 hi hF hFL hki
            refine v_iload X 5 rfl dX4_looks_24 ?_
            refine v_iload X 4 rfl dX4_looks_26 ?_
            refine v_iadd X dX4_looks_28 ?_
            refine v_eqi (y := (nI (i + n))) (nI_add _ _) ?_
            refine v_aload_n X 1 rfl dX4_looks_29 ?_
            refine gf_X4_23 X ht dX4_looks_30 ?_
            refine v_eqi (y := (nI r)) ((Fr.at hF (by simp) _).trans (hr)) ?_
            refine v_icmp_gt_n X (by omega) (by omega) dX4_looks_33 (tgt := 121) (by decide) (fun h33 => ?_) (fun h33 => ?_)
            · refine v_iinc X [1, 2, 3, 4, 0, 5] 4 (nI (n + 1)) (lv' := [(0, .ref (eA (vE a) 12 0)), (1, .ref (eA (vE a) 2 t)), (2, .int (nI b)), (3, .int (nI k1)), (4, .int (nI (n + 1))), (5, .int (nI i))]) rfl (nI_1 _) (by decide) rfl dX4_looks_121 ?_
              refine v_goto X (tgt := 5) dX4_looks_124 (by decide) ?_
              refine v_sub [0, 1, 2, 3, 4] (lv' := [(0, .ref (eA (vE a) 12 0)), (1, .ref (eA (vE a) 2 t)), (2, .int (nI b)), (3, .int (nI k1)), (4, .int (nI (n + 1)))]) rfl ?_
              exact ih5 (n + 1) k1 I1 L1 (by omega) (by omega) (by omega) hF hFL (by rw [hki, show i = r + 1 - n by omega, hk]; rfl)
            · refine v_aload_n X 0 rfl dX4_looks_36 ?_
              refine v_aload_n X 1 rfl dX4_looks_37 ?_
              refine v_iload X 5 rfl dX4_looks_38 ?_
              refine v_iload X 4 rfl dX4_looks_40 ?_
              refine v_callS X (c_X4_stretch _ _ hE _ _ i n (by omega) (by omega)) k_X4_56 ⟨rfl, rfl, Nat.le_of_ble_eq_true rfl, Nat.le_of_ble_eq_true rfl⟩ (As := [.int (nI i), .int (nI n)]) (rest := [.ref (eA (vE a) 2 t), .ref (eA (vE a) 12 0)]) rfl rfl (Nat.le_of_ble_eq_true rfl) dX4_looks_42 (fun r42 I42 L42 hp42 => ?_)
              obtain ⟨rfl, e1, e2⟩ := hp42
              have e1 := e1.symm
              have e2 := e2.symm
              subst e1; subst e2
              refine v_st (st' := [.int (nI (spn i n)), .ref (eA (vE a) 2 t), .ref (eA (vE a) 12 0)]) rfl ?_
              have hso := spn_ok hr5 hn (show i + n ≤ r by omega)
              refine v_callV X (c_X4_findAll _ _ hE _ _ t ht r c ((Fr.at hF (by simp) _).trans (hr)) ((Fr.at hF (by simp) _).trans (hc)) hr5 hc5 (spn i n) (hso.1)) k_X4_19 dl_12 (cef_12 _ _ _ _) rfl ⟨rfl, rfl, Nat.le_of_ble_eq_true rfl, Nat.le_of_ble_eq_true rfl⟩ (As := [.ref (eA (vE a) 2 t), .int (nI (spn i n))]) (rest := []) rfl rfl (Nat.le_of_ble_eq_true rfl) dX4_looks_45 (fun r45 I45 L45 hp45 => ?_)
              obtain ⟨rfl, hF45, hL45, hf45⟩ := hp45
              refine v_st (st' := []) rfl ?_
              refine v_iconst X (v := (nI 0)) dX4_looks_48 (by decide) ?_
              refine v_istore X [1, 2, 3, 4, 5, 6, 0] (lv' := [(0, .ref (eA (vE a) 12 0)), (1, .ref (eA (vE a) 2 t)), (2, .int (nI b)), (3, .int (nI k1)), (4, .int (nI n)), (5, .int (nI i)), (6, .int (nI 0))]) (by decide) rfl dX4_looks_49 ?_
              have loop51 : ∀ (fu : Nat) (j : Nat) (k2 : Nat), 6 - j < fu → (j ≤ c + 1 - n) → (k2 = k1 + sN j (fun j => lkS (ent I t) b n i j)) → V a 51 [(0, .ref (eA (vE a) 12 0)), (1, .ref (eA (vE a) 2 t)), (2, .int (nI b)), (3, .int (nI k2)), (4, .int (nI n)), (5, .int (nI i)), (6, .int (nI j))] [] I45 L45 := by
                intro fu
                induction fu with
                | zero => intro j k2 hm _ _; exact absurd hm (Nat.not_lt_zero _)
                | succ fu ih51 =>
                  intro j k2 hm51 hj hkj
                  refine v_iload X 6 rfl dX4_looks_51 ?_
                  refine v_iload X 4 rfl dX4_looks_53 ?_
                  refine v_iadd X dX4_looks_55 ?_
                  refine v_eqi (y := (nI (j + n))) (nI_add _ _) ?_
                  refine v_aload_n X 1 rfl dX4_looks_56 ?_
                  refine gf_X4_29 X ht dX4_looks_57 ?_
                  refine v_eqi (y := (nI c)) ((Fr.at hF45 (by simp) _).trans ((Fr.at hF (by simp) _).trans (hc))) ?_
                  refine v_icmp_gt_n X (by omega) (by omega) dX4_looks_60 (tgt := 115) (by decide) (fun h60 => ?_) (fun h60 => ?_)
                  · refine v_iinc X [1, 2, 3, 4, 5, 0, 6] 5 (nI (i + 1)) (lv' := [(0, .ref (eA (vE a) 12 0)), (1, .ref (eA (vE a) 2 t)), (2, .int (nI b)), (3, .int (nI k2)), (4, .int (nI n)), (5, .int (nI (i + 1))), (6, .int (nI j))]) rfl (nI_1 _) (by decide) rfl dX4_looks_115 ?_
                    refine v_goto X (tgt := 24) dX4_looks_118 (by decide) ?_
                    refine v_sub [0, 1, 2, 3, 4, 5] (lv' := [(0, .ref (eA (vE a) 12 0)), (1, .ref (eA (vE a) 2 t)), (2, .int (nI b)), (3, .int (nI k2)), (4, .int (nI n)), (5, .int (nI (i + 1)))]) rfl ?_
                    exact ih24 (i + 1) k2 I45 L45 (by omega) (by omega) (hF.tr hF45) (hFL.tr hL45) (by rw [sN_v (f := fun i => sN (c + 1 - n) (fun j => lkS (ent I t) b n i j)) rfl, hkj, show j = c + 1 - n by omega, hki]; exact Nat.add_assoc _ _ _)
                  · refine v_iload X 5 rfl dX4_looks_63 ?_
                    refine v_if_eq_n X (by omega) dX4_looks_65 (tgt := 73) (by decide) (fun h65 => ?_) (fun h65 => ?_)
                    · refine v_iconst X (v := (nI 1)) dX4_looks_73 (by decide) ?_
                      refine v_goto X (tgt := 78) dX4_looks_74 (by decide) ?_
                      refine v_istore X [1, 2, 3, 4, 5, 6, 7, 0] (lv' := [(0, .ref (eA (vE a) 12 0)), (1, .ref (eA (vE a) 2 t)), (2, .int (nI b)), (3, .int (nI k2)), (4, .int (nI n)), (5, .int (nI i)), (6, .int (nI j)), (7, .int (nI 1))]) (by decide) rfl dX4_looks_78 ?_
                      refine v_iload X 7 rfl dX4_looks_80 ?_
                      refine v_if_eq_n X (by omega) dX4_looks_82 (tgt := 109) (by decide) (fun h82 => ?_) (fun h82 => ?_)
                      · exact absurd h82 (by decide)
                      · refine v_iload_n X 2 rfl dX4_looks_85 ?_
                        refine v_if_eq_n X (by omega) dX4_looks_86 (tgt := 106) (by decide) (fun h86 => ?_) (fun h86 => ?_)
                        · refine v_iinc X [1, 2, 3, 0, 4, 5, 6, 7] 3 (nI (k2 + 1)) (lv' := [(0, .ref (eA (vE a) 12 0)), (1, .ref (eA (vE a) 2 t)), (2, .int (nI b)), (3, .int (nI (k2 + 1))), (4, .int (nI n)), (5, .int (nI i)), (6, .int (nI j)), (7, .int (nI 1))]) rfl (nI_1 _) (by decide) rfl dX4_looks_106 ?_
                          refine v_iinc X [1, 2, 3, 4, 5, 6, 0, 7] 6 (nI (j + 1)) (lv' := [(0, .ref (eA (vE a) 12 0)), (1, .ref (eA (vE a) 2 t)), (2, .int (nI b)), (3, .int (nI (k2 + 1))), (4, .int (nI n)), (5, .int (nI i)), (6, .int (nI (j + 1))), (7, .int (nI 1))]) rfl (nI_1 _) (by decide) rfl dX4_looks_109 ?_
                          refine v_goto X (tgt := 51) dX4_looks_112 (by decide) ?_
                          refine v_sub [0, 1, 2, 3, 4, 5, 6] (lv' := [(0, .ref (eA (vE a) 12 0)), (1, .ref (eA (vE a) 2 t)), (2, .int (nI b)), (3, .int (nI (k2 + 1))), (4, .int (nI n)), (5, .int (nI i)), (6, .int (nI (j + 1)))]) rfl ?_
                          have hone : lkS (ent I t) b n i j = 1 := if_pos ⟨hn, by omega, Or.inl h86⟩
                          exact ih51 (j + 1) (k2 + 1) (by omega) (by omega) (by rw [sN_v (f := fun j => lkS (ent I t) b n i j) hone, hkj]; rfl)
                        · refine v_aload_n X 0 rfl dX4_looks_89 ?_
                          refine gf_X4_9 X dX4_looks_90 ?_
                          refine v_iload X 6 rfl dX4_looks_93 ?_
                          refine v_iload X 4 rfl dX4_looks_95 ?_
                          refine v_callS X (c_X4_stretch _ _ hE _ _ j n (by omega) (by omega)) k_X4_56 ⟨rfl, rfl, Nat.le_of_ble_eq_true rfl, Nat.le_of_ble_eq_true rfl⟩ (As := [.int (nI j), .int (nI n)]) (rest := [.ref (eA (vE a) 13 0)]) rfl rfl (Nat.le_of_ble_eq_true rfl) dX4_looks_97 (fun r97 I97 L97 hp97 => ?_)
                          obtain ⟨rfl, e1, e2⟩ := hp97
                          have e1 := e1.symm
                          have e2 := e2.symm
                          subst e1; subst e2
                          refine v_st (st' := [.int (nI (spn j n)), .ref (eA (vE a) 13 0)]) rfl ?_
                          have hsj := spn_ok hc5 hn (show j + n ≤ c by omega)
                          have hval : L45 13 0 (spn j n) = wrt (ent I t) (spn i n) (spn j n) := by
                            rw [hf45 _ hsj.1 (by omega), ent_fr hF (by simp), hsj.2.1]
                            unfold wrt
                            rw [hso.2.1]
                          refine v_lald_n X dl_13 (fun _ _ => rfl) (n := 32) (by have := hsj.2.2; omega) (by decide) dX4_looks_100 ?_
                          refine v_lconst X (v := 0) dX4_looks_101 rfl ?_
                          refine v_lcmp_le X dX4_looks_102 dX4_looks_103 (tgt := 109) (by decide) (fun h102 => ?_) (fun h102 => ?_)
                          · refine v_iinc X [1, 2, 3, 4, 5, 6, 0, 7] 6 (nI (j + 1)) (lv' := [(0, .ref (eA (vE a) 12 0)), (1, .ref (eA (vE a) 2 t)), (2, .int (nI b)), (3, .int (nI k2)), (4, .int (nI n)), (5, .int (nI i)), (6, .int (nI (j + 1))), (7, .int (nI 1))]) rfl (nI_1 _) (by decide) rfl dX4_looks_109 ?_
                            refine v_goto X (tgt := 51) dX4_looks_112 (by decide) ?_
                            refine v_sub [0, 1, 2, 3, 4, 5, 6] (lv' := [(0, .ref (eA (vE a) 12 0)), (1, .ref (eA (vE a) 2 t)), (2, .int (nI b)), (3, .int (nI k2)), (4, .int (nI n)), (5, .int (nI i)), (6, .int (nI (j + 1)))]) rfl ?_
                            have hone : lkS (ent I t) b n i j = 0 := if_neg (fun q => q.2.2.elim (fun z => by omega) (fun z => absurd z (Int64.not_lt.mpr (by rw [← hval]; exact h102))))
                            exact ih51 (j + 1) k2 (by omega) (by omega) (by rw [sN_v (f := fun j => lkS (ent I t) b n i j) hone, hkj]; rfl)
                          · refine v_iinc X [1, 2, 3, 0, 4, 5, 6, 7] 3 (nI (k2 + 1)) (lv' := [(0, .ref (eA (vE a) 12 0)), (1, .ref (eA (vE a) 2 t)), (2, .int (nI b)), (3, .int (nI (k2 + 1))), (4, .int (nI n)), (5, .int (nI i)), (6, .int (nI j)), (7, .int (nI 1))]) rfl (nI_1 _) (by decide) rfl dX4_looks_106 ?_
                            refine v_iinc X [1, 2, 3, 4, 5, 6, 0, 7] 6 (nI (j + 1)) (lv' := [(0, .ref (eA (vE a) 12 0)), (1, .ref (eA (vE a) 2 t)), (2, .int (nI b)), (3, .int (nI (k2 + 1))), (4, .int (nI n)), (5, .int (nI i)), (6, .int (nI (j + 1))), (7, .int (nI 1))]) rfl (nI_1 _) (by decide) rfl dX4_looks_109 ?_
                            refine v_goto X (tgt := 51) dX4_looks_112 (by decide) ?_
                            refine v_sub [0, 1, 2, 3, 4, 5, 6] (lv' := [(0, .ref (eA (vE a) 12 0)), (1, .ref (eA (vE a) 2 t)), (2, .int (nI b)), (3, .int (nI (k2 + 1))), (4, .int (nI n)), (5, .int (nI i)), (6, .int (nI (j + 1)))]) rfl ?_
                            have hone : lkS (ent I t) b n i j = 1 := if_pos ⟨hn, by omega, Or.inr (by rw [← hval]; exact Int64.not_le.mp h102)⟩
                            exact ih51 (j + 1) (k2 + 1) (by omega) (by omega) (by rw [sN_v (f := fun j => lkS (ent I t) b n i j) hone, hkj]; rfl)
                    · refine v_iload X 6 rfl dX4_looks_68 ?_
                      refine v_if_ne_n X (by omega) dX4_looks_70 (tgt := 77) (by decide) (fun h70 => ?_) (fun h70 => ?_)
                      · refine v_iconst X (v := (nI 0)) dX4_looks_77 (by decide) ?_
                        refine v_istore X [1, 2, 3, 4, 5, 6, 7, 0] (lv' := [(0, .ref (eA (vE a) 12 0)), (1, .ref (eA (vE a) 2 t)), (2, .int (nI b)), (3, .int (nI k2)), (4, .int (nI n)), (5, .int (nI i)), (6, .int (nI j)), (7, .int (nI 0))]) (by decide) rfl dX4_looks_78 ?_
                        refine v_iload X 7 rfl dX4_looks_80 ?_
                        refine v_if_eq_n X (by omega) dX4_looks_82 (tgt := 109) (by decide) (fun h82 => ?_) (fun h82 => ?_)
                        · refine v_iinc X [1, 2, 3, 4, 5, 6, 0, 7] 6 (nI (j + 1)) (lv' := [(0, .ref (eA (vE a) 12 0)), (1, .ref (eA (vE a) 2 t)), (2, .int (nI b)), (3, .int (nI k2)), (4, .int (nI n)), (5, .int (nI i)), (6, .int (nI (j + 1))), (7, .int (nI 0))]) rfl (nI_1 _) (by decide) rfl dX4_looks_109 ?_
                          refine v_goto X (tgt := 51) dX4_looks_112 (by decide) ?_
                          refine v_sub [0, 1, 2, 3, 4, 5, 6] (lv' := [(0, .ref (eA (vE a) 12 0)), (1, .ref (eA (vE a) 2 t)), (2, .int (nI b)), (3, .int (nI k2)), (4, .int (nI n)), (5, .int (nI i)), (6, .int (nI (j + 1)))]) rfl ?_
                          have hone : lkS (ent I t) b n i j = 0 := if_neg (fun q => by have := q.2.1; omega)
                          exact ih51 (j + 1) k2 (by omega) (by omega) (by rw [sN_v (f := fun j => lkS (ent I t) b n i j) hone, hkj]; rfl)
                        · exact absurd h82 (by decide)
                      · refine v_iconst X (v := (nI 1)) dX4_looks_73 (by decide) ?_
                        refine v_goto X (tgt := 78) dX4_looks_74 (by decide) ?_
                        refine v_istore X [1, 2, 3, 4, 5, 6, 7, 0] (lv' := [(0, .ref (eA (vE a) 12 0)), (1, .ref (eA (vE a) 2 t)), (2, .int (nI b)), (3, .int (nI k2)), (4, .int (nI n)), (5, .int (nI i)), (6, .int (nI j)), (7, .int (nI 1))]) (by decide) rfl dX4_looks_78 ?_
                        refine v_iload X 7 rfl dX4_looks_80 ?_
                        refine v_if_eq_n X (by omega) dX4_looks_82 (tgt := 109) (by decide) (fun h82 => ?_) (fun h82 => ?_)
                        · exact absurd h82 (by decide)
                        · refine v_iload_n X 2 rfl dX4_looks_85 ?_
                          refine v_if_eq_n X (by omega) dX4_looks_86 (tgt := 106) (by decide) (fun h86 => ?_) (fun h86 => ?_)
                          · refine v_iinc X [1, 2, 3, 0, 4, 5, 6, 7] 3 (nI (k2 + 1)) (lv' := [(0, .ref (eA (vE a) 12 0)), (1, .ref (eA (vE a) 2 t)), (2, .int (nI b)), (3, .int (nI (k2 + 1))), (4, .int (nI n)), (5, .int (nI i)), (6, .int (nI j)), (7, .int (nI 1))]) rfl (nI_1 _) (by decide) rfl dX4_looks_106 ?_
                            refine v_iinc X [1, 2, 3, 4, 5, 6, 0, 7] 6 (nI (j + 1)) (lv' := [(0, .ref (eA (vE a) 12 0)), (1, .ref (eA (vE a) 2 t)), (2, .int (nI b)), (3, .int (nI (k2 + 1))), (4, .int (nI n)), (5, .int (nI i)), (6, .int (nI (j + 1))), (7, .int (nI 1))]) rfl (nI_1 _) (by decide) rfl dX4_looks_109 ?_
                            refine v_goto X (tgt := 51) dX4_looks_112 (by decide) ?_
                            refine v_sub [0, 1, 2, 3, 4, 5, 6] (lv' := [(0, .ref (eA (vE a) 12 0)), (1, .ref (eA (vE a) 2 t)), (2, .int (nI b)), (3, .int (nI (k2 + 1))), (4, .int (nI n)), (5, .int (nI i)), (6, .int (nI (j + 1)))]) rfl ?_
                            have hone : lkS (ent I t) b n i j = 1 := if_pos ⟨hn, by omega, Or.inl h86⟩
                            exact ih51 (j + 1) (k2 + 1) (by omega) (by omega) (by rw [sN_v (f := fun j => lkS (ent I t) b n i j) hone, hkj]; rfl)
                          · refine v_aload_n X 0 rfl dX4_looks_89 ?_
                            refine gf_X4_9 X dX4_looks_90 ?_
                            refine v_iload X 6 rfl dX4_looks_93 ?_
                            refine v_iload X 4 rfl dX4_looks_95 ?_
                            refine v_callS X (c_X4_stretch _ _ hE _ _ j n (by omega) (by omega)) k_X4_56 ⟨rfl, rfl, Nat.le_of_ble_eq_true rfl, Nat.le_of_ble_eq_true rfl⟩ (As := [.int (nI j), .int (nI n)]) (rest := [.ref (eA (vE a) 13 0)]) rfl rfl (Nat.le_of_ble_eq_true rfl) dX4_looks_97 (fun r97 I97 L97 hp97 => ?_)
                            obtain ⟨rfl, e1, e2⟩ := hp97
                            have e1 := e1.symm
                            have e2 := e2.symm
                            subst e1; subst e2
                            refine v_st (st' := [.int (nI (spn j n)), .ref (eA (vE a) 13 0)]) rfl ?_
                            have hsj := spn_ok hc5 hn (show j + n ≤ c by omega)
                            have hval : L45 13 0 (spn j n) = wrt (ent I t) (spn i n) (spn j n) := by
                              rw [hf45 _ hsj.1 (by omega), ent_fr hF (by simp), hsj.2.1]
                              unfold wrt
                              rw [hso.2.1]
                            refine v_lald_n X dl_13 (fun _ _ => rfl) (n := 32) (by have := hsj.2.2; omega) (by decide) dX4_looks_100 ?_
                            refine v_lconst X (v := 0) dX4_looks_101 rfl ?_
                            refine v_lcmp_le X dX4_looks_102 dX4_looks_103 (tgt := 109) (by decide) (fun h102 => ?_) (fun h102 => ?_)
                            · refine v_iinc X [1, 2, 3, 4, 5, 6, 0, 7] 6 (nI (j + 1)) (lv' := [(0, .ref (eA (vE a) 12 0)), (1, .ref (eA (vE a) 2 t)), (2, .int (nI b)), (3, .int (nI k2)), (4, .int (nI n)), (5, .int (nI i)), (6, .int (nI (j + 1))), (7, .int (nI 1))]) rfl (nI_1 _) (by decide) rfl dX4_looks_109 ?_
                              refine v_goto X (tgt := 51) dX4_looks_112 (by decide) ?_
                              refine v_sub [0, 1, 2, 3, 4, 5, 6] (lv' := [(0, .ref (eA (vE a) 12 0)), (1, .ref (eA (vE a) 2 t)), (2, .int (nI b)), (3, .int (nI k2)), (4, .int (nI n)), (5, .int (nI i)), (6, .int (nI (j + 1)))]) rfl ?_
                              have hone : lkS (ent I t) b n i j = 0 := if_neg (fun q => q.2.2.elim (fun z => by omega) (fun z => absurd z (Int64.not_lt.mpr (by rw [← hval]; exact h102))))
                              exact ih51 (j + 1) k2 (by omega) (by omega) (by rw [sN_v (f := fun j => lkS (ent I t) b n i j) hone, hkj]; rfl)
                            · refine v_iinc X [1, 2, 3, 0, 4, 5, 6, 7] 3 (nI (k2 + 1)) (lv' := [(0, .ref (eA (vE a) 12 0)), (1, .ref (eA (vE a) 2 t)), (2, .int (nI b)), (3, .int (nI (k2 + 1))), (4, .int (nI n)), (5, .int (nI i)), (6, .int (nI j)), (7, .int (nI 1))]) rfl (nI_1 _) (by decide) rfl dX4_looks_106 ?_
                              refine v_iinc X [1, 2, 3, 4, 5, 6, 0, 7] 6 (nI (j + 1)) (lv' := [(0, .ref (eA (vE a) 12 0)), (1, .ref (eA (vE a) 2 t)), (2, .int (nI b)), (3, .int (nI (k2 + 1))), (4, .int (nI n)), (5, .int (nI i)), (6, .int (nI (j + 1))), (7, .int (nI 1))]) rfl (nI_1 _) (by decide) rfl dX4_looks_109 ?_
                              refine v_goto X (tgt := 51) dX4_looks_112 (by decide) ?_
                              refine v_sub [0, 1, 2, 3, 4, 5, 6] (lv' := [(0, .ref (eA (vE a) 12 0)), (1, .ref (eA (vE a) 2 t)), (2, .int (nI b)), (3, .int (nI (k2 + 1))), (4, .int (nI n)), (5, .int (nI i)), (6, .int (nI (j + 1)))]) rfl ?_
                              have hone : lkS (ent I t) b n i j = 1 := if_pos ⟨hn, by omega, Or.inr (by rw [← hval]; exact Int64.not_le.mp h102)⟩
                              exact ih51 (j + 1) (k2 + 1) (by omega) (by omega) (by rw [sN_v (f := fun j => lkS (ent I t) b n i j) hone, hkj]; rfl)
              exact loop51 _ 0 k1 (Nat.lt_succ_self _) (Nat.zero_le _) rfl
        exact loop24 _ 0 k I1 L1 (Nat.lt_succ_self _) (Nat.zero_le _) hF hFL rfl
  exact loop5 _ 1 0 I L (Nat.lt_succ_self _) (by decide) (by omega) Fr.rf FL.rf (by rw [sN_v (f := fun n => sN (r + 1 - n) (fun i => sN (c + 1 - n) (fun j => lkS (ent I t) b n i j))) (lkS_0 _ _ _ _)]; rfl)
end
