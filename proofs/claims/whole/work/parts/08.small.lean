abbrev rm_X0_init : Room := { frames := 1, cells := 0, slots := 0, locals := 20 }
abbrev rm_X0_begin : Room := { frames := 1, cells := 0, slots := 0, locals := 23 }
abbrev rm_X0_reaches : Room := { frames := 0, cells := 0, slots := 0, locals := 0 }
abbrev rm_X0_number : Room := { frames := 1, cells := 0, slots := 0, locals := 22 }
abbrev rm_X0_put : Room := { frames := 1, cells := 0, slots := 0, locals := 22 }
abbrev rm_X1_init : Room := { frames := 1, cells := 0, slots := 0, locals := 20 }
abbrev rm_X1_takeApart : Room := { frames := 5, cells := 0, slots := 0, locals := 137 }
abbrev rm_X1_begin : Room := { frames := 2, cells := 0, slots := 0, locals := 44 }
abbrev rm_X1_placeOf : Room := { frames := 0, cells := 0, slots := 0, locals := 0 }
abbrev rm_X1_clear : Room := { frames := 4, cells := 0, slots := 0, locals := 113 }
abbrev rm_X1_findShare : Room := { frames := 2, cells := 0, slots := 0, locals := 53 }
abbrev rm_X1_takeRowAbove : Room := { frames := 3, cells := 0, slots := 0, locals := 89 }
abbrev rm_X1_takeShare : Room := { frames := 2, cells := 0, slots := 0, locals := 53 }
abbrev rm_X1_standOnLine : Room := { frames := 1, cells := 0, slots := 0, locals := 26 }
abbrev rm_X1_note : Room := { frames := 0, cells := 0, slots := 0, locals := 0 }
abbrev rm_X1_commonOf : Room := { frames := 1, cells := 0, slots := 0, locals := 23 }
abbrev rm_X1_without : Room := { frames := 0, cells := 0, slots := 0, locals := 0 }
abbrev rm_X2_init : Room := { frames := 1, cells := 0, slots := 0, locals := 20 }
abbrev rm_X2_lead : Room := { frames := 3, cells := 0, slots := 0, locals := 76 }
abbrev rm_X2_fromStep : Room := { frames := 2, cells := 0, slots := 0, locals := 47 }
abbrev rm_X2_linesAhead : Room := { frames := 2, cells := 0, slots := 0, locals := 47 }
abbrev rm_X3_init : Room := { frames := 1, cells := 0, slots := 0, locals := 20 }
abbrev rm_X3_begin : Room := { frames := 0, cells := 0, slots := 0, locals := 0 }
abbrev rm_X3_takes : Room := { frames := 0, cells := 0, slots := 0, locals := 0 }
abbrev rm_X3_add : Room := { frames := 0, cells := 0, slots := 0, locals := 0 }
abbrev rm_X3_isWeighedOn : Room := { frames := 1, cells := 0, slots := 0, locals := 21 }
abbrev rm_X3_afterGoing : Room := { frames := 1, cells := 0, slots := 0, locals := 21 }
abbrev rm_X4_init : Room := { frames := 1, cells := 0, slots := 0, locals := 20 }
abbrev rm_X4_ofPart : Room := { frames := 4, cells := 0, slots := 0, locals := 97 }
abbrev rm_X4_firstLow : Room := { frames := 5, cells := 0, slots := 0, locals := 122 }
abbrev rm_X4_firstLowColumns : Room := { frames := 4, cells := 0, slots := 0, locals := 97 }
abbrev rm_X4_manyOf : Room := { frames := 4, cells := 0, slots := 0, locals := 97 }
abbrev rm_X4_looks : Room := { frames := 4, cells := 0, slots := 0, locals := 97 }
abbrev rm_X4_stretch : Room := { frames := 0, cells := 0, slots := 0, locals := 0 }
abbrev rm_X4_findAll : Room := { frames := 3, cells := 0, slots := 0, locals := 72 }
abbrev rm_X4_choose : Room := { frames := 1, cells := 0, slots := 0, locals := 21 }
abbrev rm_X4_alongLastRow : Room := { frames := 2, cells := 0, slots := 0, locals := 44 }
abbrev rm_X5_init : Room := { frames := 2, cells := 0, slots := 0, locals := 40 }
abbrev rm_X5_table : Room := { frames := 2, cells := 0, slots := 0, locals := 46 }
abbrev rm_X5_set : Room := { frames := 2, cells := 0, slots := 0, locals := 46 }
abbrev rm_X5_at : Room := { frames := 2, cells := 0, slots := 0, locals := 44 }
abbrev rm_X5_look : Room := { frames := 6, cells := 0, slots := 0, locals := 147 }
abbrev rm_X5_drop : Room := { frames := 1, cells := 0, slots := 0, locals := 21 }
abbrev rm_X5_worth : Room := { frames := 5, cells := 0, slots := 0, locals := 120 }
abbrev rm_X5_low : Room := { frames := 6, cells := 0, slots := 0, locals := 147 }
abbrev rm_X5_count : Room := { frames := 5, cells := 0, slots := 0, locals := 122 }
abbrev rm_X5_product : Room := { frames := 3, cells := 0, slots := 0, locals := 69 }
abbrev rm_X5_sum : Room := { frames := 2, cells := 0, slots := 0, locals := 46 }
abbrev rm_X5_part : Room := { frames := 3, cells := 0, slots := 0, locals := 72 }
abbrev rm_X5_turn : Room := { frames := 3, cells := 0, slots := 0, locals := 71 }
abbrev rm_X5_same : Room := { frames := 2, cells := 0, slots := 0, locals := 44 }
abbrev rm_X5_net : Room := { frames := 1, cells := 0, slots := 0, locals := 21 }
abbrev rm_X5_step : Room := { frames := 1, cells := 0, slots := 0, locals := 23 }
abbrev rm_X5_back : Room := { frames := 1, cells := 0, slots := 0, locals := 21 }
abbrev rm_X5_made : Room := { frames := 4, cells := 0, slots := 0, locals := 102 }
abbrev rm_X5_families : Room := { frames := 5, cells := 0, slots := 0, locals := 127 }
abbrev rm_X5_weight : Room := { frames := 5, cells := 0, slots := 0, locals := 127 }
abbrev rm_X5_family : Room := { frames := 5, cells := 0, slots := 0, locals := 127 }
abbrev rm_X5_unnet : Room := { frames := 1, cells := 0, slots := 0, locals := 21 }
abbrev rm_X5_tell : Room := { frames := 2, cells := 0, slots := 0, locals := 43 }
abbrev rm_X5_changes : Room := { frames := 2, cells := 0, slots := 0, locals := 46 }
abbrev rm_X5_band : Room := { frames := 2, cells := 0, slots := 0, locals := 46 }
abbrev rm_X5_make : Room := { frames := 6, cells := 0, slots := 0, locals := 159 }
abbrev rm_X5_making : Room := { frames := 2, cells := 0, slots := 0, locals := 42 }
abbrev rm_X5_lay : Room := { frames := 2, cells := 0, slots := 0, locals := 44 }
abbrev rm_X5_tear : Room := { frames := 0, cells := 0, slots := 0, locals := 0 }
abbrev rm_X5_row : Room := { frames := 2, cells := 0, slots := 0, locals := 42 }
abbrev rm_X5_copy : Room := { frames := 1, cells := 0, slots := 0, locals := 26 }
abbrev rm_X5_status : Room := { frames := 1, cells := 0, slots := 0, locals := 21 }
abbrev rm_X5_refused : Room := { frames := 0, cells := 0, slots := 0, locals := 0 }
abbrev rm_X5_nought : Room := { frames := 1, cells := 0, slots := 0, locals := 21 }
abbrev rm_X5_gridOf : Room := { frames := 0, cells := 0, slots := 0, locals := 0 }
abbrev rm_X5_webOf : Room := { frames := 0, cells := 0, slots := 0, locals := 0 }
abbrev rm_X5_freeGrid : Room := { frames := 0, cells := 0, slots := 0, locals := 0 }
abbrev rm_X5_come : Room := { frames := 1, cells := 0, slots := 0, locals := 21 }
abbrev rm_X5_leading : Room := { frames := 4, cells := 0, slots := 0, locals := 102 }
abbrev rm_X5_emptyTheRow : Room := { frames := 1, cells := 0, slots := 0, locals := 23 }
abbrev rm_X5_isSide : Room := { frames := 0, cells := 0, slots := 0, locals := 0 }
abbrev rm_X5_isNumber : Room := { frames := 0, cells := 0, slots := 0, locals := 0 }
abbrev rm_X5_areSome : Room := { frames := 0, cells := 0, slots := 0, locals := 0 }
abbrev rm_X5_areAsMany : Room := { frames := 1, cells := 0, slots := 0, locals := 20 }
abbrev rm_X5_holds : Room := { frames := 0, cells := 0, slots := 0, locals := 0 }
abbrev rm_X5_signOf : Room := { frames := 0, cells := 0, slots := 0, locals := 0 }
abbrev rm_X5_rowByColumn : Room := { frames := 2, cells := 0, slots := 0, locals := 44 }
abbrev rm_X5_takeRow : Room := { frames := 2, cells := 0, slots := 0, locals := 46 }
abbrev rm_X5_exchange : Room := { frames := 2, cells := 0, slots := 0, locals := 46 }
abbrev rm_X5_reverse : Room := { frames := 2, cells := 0, slots := 0, locals := 46 }
abbrev rm_X5_signChanges : Room := { frames := 1, cells := 0, slots := 0, locals := 21 }
abbrev rm_X6_init : Room := { frames := 1, cells := 0, slots := 0, locals := 20 }
abbrev rm_X6_isIn : Room := { frames := 0, cells := 0, slots := 0, locals := 0 }
abbrev rm_X6_no : Room := { frames := 0, cells := 0, slots := 0, locals := 0 }
abbrev rm_X6_none : Room := { frames := 1, cells := 0, slots := 0, locals := 21 }
abbrev rm_X6_isTable : Room := { frames := 0, cells := 0, slots := 0, locals := 0 }
abbrev rm_X6_bits : Room := { frames := 0, cells := 0, slots := 0, locals := 0 }
abbrev rm_X6_place : Room := { frames := 0, cells := 0, slots := 0, locals := 0 }
abbrev rm_X6_begins : Room := { frames := 1, cells := 0, slots := 0, locals := 21 }
abbrev rm_X6_table : Room := { frames := 2, cells := 0, slots := 0, locals := 45 }
abbrev rm_X6_isPlace : Room := { frames := 1, cells := 0, slots := 0, locals := 25 }
abbrev rm_X6_set : Room := { frames := 2, cells := 0, slots := 0, locals := 48 }
abbrev rm_X6_at : Room := { frames := 2, cells := 0, slots := 0, locals := 48 }
abbrev rm_X6_worthOf : Room := { frames := 1, cells := 0, slots := 0, locals := 22 }
abbrev rm_X6_isSome : Room := { frames := 0, cells := 0, slots := 0, locals := 0 }
abbrev rm_X6_worth : Room := { frames := 2, cells := 0, slots := 0, locals := 52 }
abbrev rm_X6_goesThrough : Room := { frames := 2, cells := 0, slots := 0, locals := 52 }
abbrev rm_X6_counts : Room := { frames := 0, cells := 0, slots := 0, locals := 0 }
abbrev rm_X6_span : Room := { frames := 0, cells := 0, slots := 0, locals := 0 }
abbrev rm_X6_looks : Room := { frames := 2, cells := 0, slots := 0, locals := 52 }
abbrev rm_X6_look : Room := { frames := 3, cells := 0, slots := 0, locals := 78 }
abbrev rm_X6_drop : Room := { frames := 1, cells := 0, slots := 0, locals := 21 }
abbrev rm_X6_low : Room := { frames := 3, cells := 0, slots := 0, locals := 76 }
abbrev rm_X6_count : Room := { frames := 3, cells := 0, slots := 0, locals := 76 }
abbrev rm_X6_comes : Room := { frames := 2, cells := 0, slots := 0, locals := 45 }
abbrev rm_X6_product : Room := { frames := 3, cells := 0, slots := 0, locals := 71 }
abbrev rm_X6_areAlike : Room := { frames := 0, cells := 0, slots := 0, locals := 0 }
abbrev rm_X6_sum : Room := { frames := 3, cells := 0, slots := 0, locals := 71 }
abbrev rm_X6_part : Room := { frames := 3, cells := 0, slots := 0, locals := 71 }
abbrev rm_X6_turn : Room := { frames := 3, cells := 0, slots := 0, locals := 71 }
abbrev rm_X6_same : Room := { frames := 1, cells := 0, slots := 0, locals := 22 }
abbrev rm_X6_isNet : Room := { frames := 0, cells := 0, slots := 0, locals := 0 }
abbrev rm_X6_net : Room := { frames := 1, cells := 0, slots := 0, locals := 25 }
abbrev rm_X6_step : Room := { frames := 1, cells := 0, slots := 0, locals := 25 }
abbrev rm_X6_back : Room := { frames := 1, cells := 0, slots := 0, locals := 21 }
abbrev rm_X6_made : Room := { frames := 3, cells := 0, slots := 0, locals := 71 }
abbrev rm_X6_over : Room := { frames := 0, cells := 0, slots := 0, locals := 0 }
abbrev rm_X6_finds : Room := { frames := 1, cells := 0, slots := 0, locals := 24 }
abbrev rm_X6_whyNot : Room := { frames := 1, cells := 0, slots := 0, locals := 22 }
abbrev rm_X6_families : Room := { frames := 2, cells := 0, slots := 0, locals := 53 }
abbrev rm_X6_weight : Room := { frames := 2, cells := 0, slots := 0, locals := 53 }
abbrev rm_X6_family : Room := { frames := 2, cells := 0, slots := 0, locals := 53 }
abbrev rm_X6_unnet : Room := { frames := 1, cells := 0, slots := 0, locals := 21 }
abbrev rm_X6_isTold : Room := { frames := 0, cells := 0, slots := 0, locals := 0 }
abbrev rm_X6_tell : Room := { frames := 1, cells := 0, slots := 0, locals := 25 }
abbrev rm_X6_meets : Room := { frames := 0, cells := 0, slots := 0, locals := 0 }
abbrev rm_X6_changes : Room := { frames := 1, cells := 0, slots := 0, locals := 23 }
abbrev rm_X6_band : Room := { frames := 3, cells := 0, slots := 0, locals := 71 }
abbrev rm_X6_divisor : Room := { frames := 0, cells := 0, slots := 0, locals := 0 }
abbrev rm_X6_fraction : Room := { frames := 1, cells := 0, slots := 0, locals := 29 }
abbrev rm_X6_times : Room := { frames := 2, cells := 0, slots := 0, locals := 55 }
abbrev rm_X6_shares : Room := { frames := 0, cells := 0, slots := 0, locals := 0 }
abbrev rm_X6_cell : Room := { frames := 0, cells := 0, slots := 0, locals := 0 }
abbrev rm_X6_clears : Room := { frames := 3, cells := 0, slots := 0, locals := 87 }
abbrev rm_X6_make : Room := { frames := 4, cells := 0, slots := 0, locals := 124 }
abbrev rm_X6_making : Room := { frames := 2, cells := 0, slots := 0, locals := 43 }
abbrev rm_X6_lay : Room := { frames := 1, cells := 0, slots := 0, locals := 25 }
abbrev rm_X6_tear : Room := { frames := 0, cells := 0, slots := 0, locals := 0 }
abbrev rm_X6_row : Room := { frames := 2, cells := 0, slots := 0, locals := 43 }
abbrev rm_X6_copy : Room := { frames := 1, cells := 0, slots := 0, locals := 21 }
abbrev rm_X6_status : Room := { frames := 1, cells := 0, slots := 0, locals := 25 }
abbrev rm_J6_bitCount_0f7a4 : Room := { frames := 0, cells := 0, slots := 0, locals := 0 }
abbrev rm_J9_abs_067f4 : Room := { frames := 0, cells := 0, slots := 0, locals := 0 }
abbrev rm_J9_max_f86c9 : Room := { frames := 0, cells := 0, slots := 0, locals := 0 }
abbrev rm_J9_min_7cf53 : Room := { frames := 0, cells := 0, slots := 0, locals := 0 }
abbrev rm_J7_fill_53178 : Room := { frames := 0, cells := 0, slots := 0, locals := 0 }
def pc5 (n : Nat) : Nat := n % 2 + n / 2 % 2 + n / 4 % 2 + n / 8 % 2 + n / 16 % 2
def sgn (v : Int64) : Int32 := if 0 < v then 1 else if v < 0 then -1 else 0
def isNum (v : Int64) : Prop := -1000 ≤ v ∧ v ≤ 1000
def rfI (I : TI) (w : Nat) : TI := upI I 11 0 w (I 11 0 w + 1)
def bc1 (x : Int32) : Int32 := x - ((x.toUInt32 >>> ((nI 1).toUInt32 &&& Int32.toUInt32 31)).toInt32 &&& (nI 1431655765))
def bc2 (x : Int32) : Int32 := (x &&& (nI 858993459)) + ((x.toUInt32 >>> ((nI 2).toUInt32 &&& Int32.toUInt32 31)).toInt32 &&& (nI 858993459))
def bc3 (x : Int32) : Int32 := (x + (x.toUInt32 >>> ((nI 4).toUInt32 &&& Int32.toUInt32 31)).toInt32) &&& (nI 252645135)
def bc4 (x : Int32) : Int32 := x + (x.toUInt32 >>> ((nI 8).toUInt32 &&& Int32.toUInt32 31)).toInt32
def bc5 (x : Int32) : Int32 := x + (x.toUInt32 >>> ((nI 16).toUInt32 &&& Int32.toUInt32 31)).toInt32
theorem bc_ok : ∀ n, n < 32 → bc5 (bc4 (bc3 (bc2 (bc1 (nI n))))) &&& nI 63 = nI (pc5 n) := by decide +kernel
theorem bit_ok {n k : Nat} : n / 2 ^ k &&& 1 = n / 2 ^ k % 2 := Nat.and_one_is_mod _
theorem neg_lo : ∀ w, w < 9 → 2 ≤ w → ¬ -nI w < (-8 : Int32) ∧ ¬ (-2 : Int32) < -nI w := by decide +kernel
theorem mw_X5_188 : Cond.methodLink RX5 188 Lib.MathLoose.max_long.x ∈ WS ∧ Cond.static Lib.MathLoose.max_long.x ∈ WS ∧ Cond.initialized "java/lang/Math" ∈ WS ∧ Cond.code Lib.MathLoose.max_long.x Lib.MathLoose.max_long.code 4 (some .long) ∈ WS := ⟨ws_of (i := 457) (by decide +kernel) (by decide +kernel), ws_of (i := 458) (by decide +kernel) (by decide +kernel), ws_of (i := 50) (by decide +kernel) (by decide +kernel), ws_of (i := 459) (by decide +kernel) (by decide +kernel)⟩
theorem mw_X1_52 : Cond.methodLink RX1 52 Lib.Math.min.name ∈ WS ∧ Cond.static Lib.Math.min.name ∈ WS ∧ Cond.initialized "java/lang/Math" ∈ WS ∧ Cond.code Lib.Math.min.name Lib.Math.min.code 2 (some .int) ∈ WS := ⟨ws_of (i := 506) (by decide +kernel) (by decide +kernel), ws_of (i := 293) (by decide +kernel) (by decide +kernel), ws_of (i := 50) (by decide +kernel) (by decide +kernel), ws_of (i := 294) (by decide +kernel) (by decide +kernel)⟩
theorem mw_X1_91 : Cond.methodLink RX1 91 Lib.MathLoose.abs_long.x ∈ WS ∧ Cond.static Lib.MathLoose.abs_long.x ∈ WS ∧ Cond.initialized "java/lang/Math" ∈ WS ∧ Cond.code Lib.MathLoose.abs_long.x Lib.MathLoose.abs_long.code 2 (some .long) ∈ WS := ⟨ws_of (i := 520) (by decide +kernel) (by decide +kernel), ws_of (i := 521) (by decide +kernel) (by decide +kernel), ws_of (i := 50) (by decide +kernel) (by decide +kernel), ws_of (i := 522) (by decide +kernel) (by decide +kernel)⟩
theorem mw_X4_32 : Cond.methodLink RX4 32 Lib.Math.min.name ∈ WS ∧ Cond.static Lib.Math.min.name ∈ WS ∧ Cond.initialized "java/lang/Math" ∈ WS ∧ Cond.code Lib.Math.min.name Lib.Math.min.code 2 (some .int) ∈ WS := ⟨ws_of (i := 292) (by decide +kernel) (by decide +kernel), ws_of (i := 293) (by decide +kernel) (by decide +kernel), ws_of (i := 50) (by decide +kernel) (by decide +kernel), ws_of (i := 294) (by decide +kernel) (by decide +kernel)⟩
theorem min_n {a b : Nat} (ha : a < 2 ^ 31) (hb : b < 2 ^ 31) : (if nI b < nI a then nI b else nI a) = nI (min a b) := by
  by_cases h : b < a
  · rw [if_pos ((nI_ltI hb ha).mpr h), Nat.min_eq_right (by omega)]
  · rw [if_neg (fun q => h ((nI_ltI hb ha).mp q)), Nat.min_eq_left (by omega)]
set_option maxHeartbeats 4000000 in
set_option maxRecDepth 100000 in
theorem c_J6_bitCount_0f7a4 (l : Launch) (E : VE) (hE : EOk E) (I : TI) (L : TL) (n : Nat) (hn : n < 32) : Ct l E yJ6_bitCount_0f7a4 cJ6_bitCount_0f7a4 1 (some .int) rm_J6_bitCount_0f7a4 [.int (nI n)] I L (fun r I' L' => r = some (.int (nI (pc5 n))) ∧ I' = I ∧ L' = L) := by
  refine ct_of (by decide +kernel) (Nat.le_of_ble_eq_true rfl) hE ?_
  intro a X Y hl hEE
  subst hl; subst hEE
  show V a 0 [(0, .int (nI n))] [] I L
  refine v_iload_n X 0 rfl dJ6_bitCount_0f7a4_0 ?_
  refine v_iload_n X 0 rfl dJ6_bitCount_0f7a4_1 ?_
  refine v_iconst X (v := (nI 1)) dJ6_bitCount_0f7a4_2 (by decide) ?_
  refine v_iushr X dJ6_bitCount_0f7a4_3 rfl ?_
  refine v_ldcw X (v := 1431655765) kc_J6_265 dJ6_bitCount_0f7a4_4 ?_
  refine v_eqi (y := (nI 1431655765)) (rfl) ?_
  refine v_iand X dJ6_bitCount_0f7a4_7 ?_
  refine v_isub X dJ6_bitCount_0f7a4_8 ?_
  refine v_topi (fun x1 e_x1 => ?_)
  refine v_istore_n X [0] (lv' := [(0, .int x1)]) (by decide) rfl dJ6_bitCount_0f7a4_9 ?_
  refine v_iload_n X 0 rfl dJ6_bitCount_0f7a4_10 ?_
  refine v_ldcw X (v := 858993459) kc_J6_266 dJ6_bitCount_0f7a4_11 ?_
  refine v_eqi (y := (nI 858993459)) (rfl) ?_
  refine v_iand X dJ6_bitCount_0f7a4_14 ?_
  refine v_iload_n X 0 rfl dJ6_bitCount_0f7a4_15 ?_
  refine v_iconst X (v := (nI 2)) dJ6_bitCount_0f7a4_16 (by decide) ?_
  refine v_iushr X dJ6_bitCount_0f7a4_17 rfl ?_
  refine v_ldcw X (v := 858993459) kc_J6_266 dJ6_bitCount_0f7a4_18 ?_
  refine v_eqi (y := (nI 858993459)) (rfl) ?_
  refine v_iand X dJ6_bitCount_0f7a4_21 ?_
  refine v_iadd X dJ6_bitCount_0f7a4_22 ?_
  refine v_topi (fun x2 e_x2 => ?_)
  refine v_istore_n X [0] (lv' := [(0, .int x2)]) (by decide) rfl dJ6_bitCount_0f7a4_23 ?_
  refine v_iload_n X 0 rfl dJ6_bitCount_0f7a4_24 ?_
  refine v_iload_n X 0 rfl dJ6_bitCount_0f7a4_25 ?_
  refine v_iconst X (v := (nI 4)) dJ6_bitCount_0f7a4_26 (by decide) ?_
  refine v_iushr X dJ6_bitCount_0f7a4_27 rfl ?_
  refine v_iadd X dJ6_bitCount_0f7a4_28 ?_
  refine v_ldcw X (v := 252645135) kc_J6_267 dJ6_bitCount_0f7a4_29 ?_
  refine v_eqi (y := (nI 252645135)) (rfl) ?_
  refine v_iand X dJ6_bitCount_0f7a4_32 ?_
  refine v_topi (fun x3 e_x3 => ?_)
  refine v_istore_n X [0] (lv' := [(0, .int x3)]) (by decide) rfl dJ6_bitCount_0f7a4_33 ?_
  refine v_iload_n X 0 rfl dJ6_bitCount_0f7a4_34 ?_
  refine v_iload_n X 0 rfl dJ6_bitCount_0f7a4_35 ?_
  refine v_bipush X (v := (nI 8)) dJ6_bitCount_0f7a4_36 (by decide) ?_
  refine v_iushr X dJ6_bitCount_0f7a4_38 rfl ?_
  refine v_iadd X dJ6_bitCount_0f7a4_39 ?_
  refine v_topi (fun x4 e_x4 => ?_)
  refine v_istore_n X [0] (lv' := [(0, .int x4)]) (by decide) rfl dJ6_bitCount_0f7a4_40 ?_
  refine v_iload_n X 0 rfl dJ6_bitCount_0f7a4_41 ?_
  refine v_iload_n X 0 rfl dJ6_bitCount_0f7a4_42 ?_
  refine v_bipush X (v := (nI 16)) dJ6_bitCount_0f7a4_43 (by decide) ?_
  refine v_iushr X dJ6_bitCount_0f7a4_45 rfl ?_
  refine v_iadd X dJ6_bitCount_0f7a4_46 ?_
  refine v_topi (fun x5 e_x5 => ?_)
  refine v_istore_n X [0] (lv' := [(0, .int x5)]) (by decide) rfl dJ6_bitCount_0f7a4_47 ?_
  refine v_iload_n X 0 rfl dJ6_bitCount_0f7a4_48 ?_
  refine v_bipush X (v := (nI 63)) dJ6_bitCount_0f7a4_49 (by decide) ?_
  refine v_iand X dJ6_bitCount_0f7a4_51 ?_
  exact v_iret X Y dJ6_bitCount_0f7a4_52 (⟨by rw [← bc_ok n hn, e_x5, e_x4, e_x3, e_x2, e_x1]; rfl, rfl, rfl⟩)
set_option maxHeartbeats 4000000 in
set_option maxRecDepth 100000 in
theorem c_X5_isSide (l : Launch) (E : VE) (hE : EOk E) (I : TI) (L : TL) (n : Int32) : Ct l E yX5_isSide cX5_isSide 1 (some .boolean) rm_X5_isSide [.int n] I L (fun r I' L' => r = some (.int (bI (nI 1 ≤ n ∧ n ≤ nI 5))) ∧ I' = I ∧ L' = L) := by
  refine ct_of (by decide +kernel) (Nat.le_of_ble_eq_true rfl) hE ?_
  intro a X Y hl hEE
  subst hl; subst hEE
  show V a 0 [(0, .int n)] [] I L
  refine v_iload_n X 0 rfl dX5_isSide_0 ?_
  refine v_iconst X (v := (nI 1)) dX5_isSide_1 (by decide) ?_
  refine v_icmp_lt X dX5_isSide_2 (tgt := 14) (by decide) (fun h2 => ?_) (fun h2 => ?_)
  · refine v_iconst X (v := (nI 0)) dX5_isSide_14 (by decide) ?_
    exact v_zret X Y (rfl) dX5_isSide_15 (⟨retF fun q => absurd q.1 (Int32.not_le.mpr h2), rfl, rfl⟩)
  · refine v_iload_n X 0 rfl dX5_isSide_5 ?_
    refine v_iconst X (v := (nI 5)) dX5_isSide_6 (by decide) ?_
    refine v_icmp_gt X dX5_isSide_7 (tgt := 14) (by decide) (fun h7 => ?_) (fun h7 => ?_)
    · refine v_iconst X (v := (nI 0)) dX5_isSide_14 (by decide) ?_
      exact v_zret X Y (rfl) dX5_isSide_15 (⟨retF fun q => absurd q.2 (Int32.not_le.mpr h7), rfl, rfl⟩)
    · refine v_iconst X (v := (nI 1)) dX5_isSide_10 (by decide) ?_
      refine v_goto X (tgt := 15) dX5_isSide_11 (by decide) ?_
      exact v_zret X Y (rfl) dX5_isSide_15 (⟨retT ⟨Int32.not_lt.mp h2, Int32.not_lt.mp h7⟩, rfl, rfl⟩)
set_option maxHeartbeats 4000000 in
set_option maxRecDepth 100000 in
theorem c_X5_isNumber (l : Launch) (E : VE) (hE : EOk E) (I : TI) (L : TL) (v : Int64) : Ct l E yX5_isNumber cX5_isNumber 2 (some .boolean) rm_X5_isNumber [.long v] I L (fun r I' L' => r = some (.int (bI (-1000 ≤ v ∧ v ≤ 1000))) ∧ I' = I ∧ L' = L) := by
  refine ct_of (by decide +kernel) (Nat.le_of_ble_eq_true rfl) hE ?_
  intro a X Y hl hEE
  subst hl; subst hEE
  show V a 0 [(0, .long v)] [] I L
  refine v_lload_n X 0 rfl dX5_isNumber_0 ?_
  refine v_ldc2 X kc_X5_241 dX5_isNumber_1 ?_
  refine v_lcmp_lt X dX5_isNumber_4 dX5_isNumber_5 (tgt := 20) (by decide) (fun h4 => ?_) (fun h4 => ?_)
  · refine v_iconst X (v := (nI 0)) dX5_isNumber_20 (by decide) ?_
    exact v_zret X Y (rfl) dX5_isNumber_21 (⟨retF fun q => absurd q.1 (Int64.not_le.mpr h4), rfl, rfl⟩)
  · refine v_lload_n X 0 rfl dX5_isNumber_8 ?_
    refine v_ldc2 X kc_X5_243 dX5_isNumber_9 ?_
    refine v_lcmp_gt X dX5_isNumber_12 dX5_isNumber_13 (tgt := 20) (by decide) (fun h12 => ?_) (fun h12 => ?_)
    · refine v_iconst X (v := (nI 0)) dX5_isNumber_20 (by decide) ?_
      exact v_zret X Y (rfl) dX5_isNumber_21 (⟨retF fun q => absurd q.2 (Int64.not_le.mpr h12), rfl, rfl⟩)
    · refine v_iconst X (v := (nI 1)) dX5_isNumber_16 (by decide) ?_
      refine v_goto X (tgt := 21) dX5_isNumber_17 (by decide) ?_
      exact v_zret X Y (rfl) dX5_isNumber_21 (⟨retT ⟨Int64.not_lt.mp h4, Int64.not_lt.mp h12⟩, rfl, rfl⟩)
set_option maxHeartbeats 4000000 in
set_option maxRecDepth 100000 in
theorem c_X5_areSome (l : Launch) (E : VE) (hE : EOk E) (I : TI) (L : TL) (b : Int32) (m : Nat) (hm : m < 31) : Ct l E yX5_areSome cX5_areSome 2 (some .boolean) rm_X5_areSome [.int b, .int (nI m)] I L (fun r I' L' => r = some (.int (bI (0 < b ∧ b < nI (2 ^ m)))) ∧ I' = I ∧ L' = L) := by
  refine ct_of (by decide +kernel) (Nat.le_of_ble_eq_true rfl) hE ?_
  intro a X Y hl hEE
  subst hl; subst hEE
  show V a 0 [(0, .int b), (1, .int (nI m))] [] I L
  refine v_iload_n X 0 rfl dX5_areSome_0 ?_
  refine v_if_le X dX5_areSome_1 (tgt := 15) (by decide) (fun h1 => ?_) (fun h1 => ?_)
  · refine v_iconst X (v := (nI 0)) dX5_areSome_15 (by decide) ?_
    exact v_zret X Y (rfl) dX5_areSome_16 (⟨retF fun q => absurd q.1 (Int32.not_lt.mpr h1), rfl, rfl⟩)
  · refine v_iload_n X 0 rfl dX5_areSome_4 ?_
    refine v_iconst X (v := (nI 1)) dX5_areSome_5 (by decide) ?_
    refine v_iload_n X 1 rfl dX5_areSome_6 ?_
    refine v_ishl X dX5_areSome_7 ?_
    refine v_eqi (y := (nI (2 ^ m))) (sh_one hm) ?_
    refine v_icmp_ge X dX5_areSome_8 (tgt := 15) (by decide) (fun h8 => ?_) (fun h8 => ?_)
    · refine v_iconst X (v := (nI 0)) dX5_areSome_15 (by decide) ?_
      exact v_zret X Y (rfl) dX5_areSome_16 (⟨retF fun q => absurd q.2 (Int32.not_lt.mpr h8), rfl, rfl⟩)
    · refine v_iconst X (v := (nI 1)) dX5_areSome_11 (by decide) ?_
      refine v_goto X (tgt := 16) dX5_areSome_12 (by decide) ?_
      exact v_zret X Y (rfl) dX5_areSome_16 (⟨retT ⟨Int32.not_le.mp h1, Int32.not_le.mp h8⟩, rfl, rfl⟩)
set_option maxHeartbeats 4000000 in
set_option maxRecDepth 100000 in
theorem c_X5_areAsMany (l : Launch) (E : VE) (hE : EOk E) (I : TI) (L : TL) (b o : Nat) (hb : b < 32) (ho : o < 32) : Ct l E yX5_areAsMany cX5_areAsMany 2 (some .boolean) rm_X5_areAsMany [.int (nI b), .int (nI o)] I L (fun r I' L' => r = some (.int (bI (pc5 b = pc5 o))) ∧ I' = I ∧ L' = L) := by
  refine ct_of (by decide +kernel) (Nat.le_of_ble_eq_true rfl) hE ?_
  intro a X Y hl hEE
  subst hl; subst hEE
  have hb5 : pc5 b < 6 := by unfold pc5; omega
  have ho5 : pc5 o < 6 := by unfold pc5; omega
  show V a 0 [(0, .int (nI b)), (1, .int (nI o))] [] I L
  refine v_iload_n X 0 rfl dX5_areAsMany_0 ?_
  refine v_callS X (c_J6_bitCount_0f7a4 _ _ hE _ _ b (by omega)) k_X5_138 ⟨rfl, rfl, Nat.le_of_ble_eq_true rfl, Nat.le_of_ble_eq_true rfl⟩ (As := [.int (nI b)]) (rest := []) rfl rfl (Nat.le_of_ble_eq_true rfl) dX5_areAsMany_1 (fun r1 I1 L1 hp1 => ?_)
  obtain ⟨rfl, e1, e2⟩ := hp1
  have e1 := e1.symm
  have e2 := e2.symm
  subst e1; subst e2
  refine v_st (st' := [.int (nI (pc5 b))]) rfl ?_
  refine v_iload_n X 1 rfl dX5_areAsMany_4 ?_
  refine v_callS X (c_J6_bitCount_0f7a4 _ _ hE _ _ o (by omega)) k_X5_138 ⟨rfl, rfl, Nat.le_of_ble_eq_true rfl, Nat.le_of_ble_eq_true rfl⟩ (As := [.int (nI o)]) (rest := [.int (nI (pc5 b))]) rfl rfl (Nat.le_of_ble_eq_true rfl) dX5_areAsMany_5 (fun r5 I5 L5 hp5 => ?_)
  obtain ⟨rfl, e1, e2⟩ := hp5
  have e1 := e1.symm
  have e2 := e2.symm
  subst e1; subst e2
  refine v_st (st' := [.int (nI (pc5 o)), .int (nI (pc5 b))]) rfl ?_
  refine v_icmp_ne_n X (by omega) (by omega) dX5_areAsMany_8 (tgt := 15) (by decide) (fun h8 => ?_) (fun h8 => ?_)
  · refine v_iconst X (v := (nI 0)) dX5_areAsMany_15 (by decide) ?_
    exact v_zret X Y (rfl) dX5_areAsMany_16 (⟨retF h8, rfl, rfl⟩)
  · refine v_iconst X (v := (nI 1)) dX5_areAsMany_11 (by decide) ?_
    refine v_goto X (tgt := 16) dX5_areAsMany_12 (by decide) ?_
    exact v_zret X Y (rfl) dX5_areAsMany_16 (⟨retT h8, rfl, rfl⟩)
set_option maxHeartbeats 4000000 in
set_option maxRecDepth 100000 in
theorem c_X5_holds (l : Launch) (E : VE) (hE : EOk E) (I : TI) (L : TL) (b i : Nat) (hb : b < 2 ^ 31) (hi : i < 32) : Ct l E yX5_holds cX5_holds 2 (some .boolean) rm_X5_holds [.int (nI b), .int (nI i)] I L (fun r I' L' => r = some (.int (bI (b / 2 ^ i % 2 = 1))) ∧ I' = I ∧ L' = L) := by
  refine ct_of (by decide +kernel) (Nat.le_of_ble_eq_true rfl) hE ?_
  intro a X Y hl hEE
  subst hl; subst hEE
  show V a 0 [(0, .int (nI b)), (1, .int (nI i))] [] I L
  refine v_iload_n X 0 rfl dX5_holds_0 ?_
  refine v_iload_n X 1 rfl dX5_holds_1 ?_
  refine v_ishr X dX5_holds_2 ?_
  refine v_eqi (y := (nI (b / 2 ^ i))) (sh_r (by omega) (by omega)) ?_
  refine v_iconst X (v := (nI 1)) dX5_holds_3 (by decide) ?_
  refine v_iand X dX5_holds_4 ?_
  refine v_eqi (y := (nI ((b / 2 ^ i) &&& 1))) (an_and _ _) ?_
  refine v_eqi (y := (nI (b / 2 ^ i % 2))) (congrArg nI (Nat.and_one_is_mod _)) ?_
  refine v_iconst X (v := (nI 1)) dX5_holds_5 (by decide) ?_
  refine v_icmp_ne_n X (by omega) (by omega) dX5_holds_6 (tgt := 13) (by decide) (fun h6 => ?_) (fun h6 => ?_)
  · refine v_iconst X (v := (nI 0)) dX5_holds_13 (by decide) ?_
    exact v_zret X Y (rfl) dX5_holds_14 (⟨retF h6, rfl, rfl⟩)
  · refine v_iconst X (v := (nI 1)) dX5_holds_9 (by decide) ?_
    refine v_goto X (tgt := 14) dX5_holds_10 (by decide) ?_
    exact v_zret X Y (rfl) dX5_holds_14 (⟨retT h6, rfl, rfl⟩)
set_option maxHeartbeats 4000000 in
set_option maxRecDepth 100000 in
theorem c_X5_signOf (l : Launch) (E : VE) (hE : EOk E) (I : TI) (L : TL) (v : Int64) : Ct l E yX5_signOf cX5_signOf 2 (some .int) rm_X5_signOf [.long v] I L (fun r I' L' => r = some (.int (sgn v)) ∧ I' = I ∧ L' = L) := by
  refine ct_of (by decide +kernel) (Nat.le_of_ble_eq_true rfl) hE ?_
  intro a X Y hl hEE
  subst hl; subst hEE
  show V a 0 [(0, .long v)] [] I L
  refine v_lload_n X 0 rfl dX5_signOf_0 ?_
  refine v_lconst X (v := 0) dX5_signOf_1 rfl ?_
  refine v_lcmp_le X dX5_signOf_2 dX5_signOf_3 (tgt := 10) (by decide) (fun h2 => ?_) (fun h2 => ?_)
  · refine v_lload_n X 0 rfl dX5_signOf_10 ?_
    refine v_lconst X (v := 0) dX5_signOf_11 rfl ?_
    refine v_lcmp_ge X dX5_signOf_12 dX5_signOf_13 (tgt := 20) (by decide) (fun h12 => ?_) (fun h12 => ?_)
    · refine v_iconst X (v := (nI 0)) dX5_signOf_20 (by decide) ?_
      exact v_iret X Y dX5_signOf_21 (⟨by unfold sgn; rw [if_neg (Int64.not_lt.mpr h2), if_neg (Int64.not_lt.mpr h12)]; rfl, rfl, rfl⟩)
    · refine v_iconst X (v := (-1)) dX5_signOf_16 (by decide) ?_
      refine v_goto X (tgt := 21) dX5_signOf_17 (by decide) ?_
      exact v_iret X Y dX5_signOf_21 (⟨by unfold sgn; rw [if_neg (Int64.not_lt.mpr h2), if_pos (Int64.not_le.mp h12)], rfl, rfl⟩)
  · refine v_iconst X (v := (nI 1)) dX5_signOf_6 (by decide) ?_
    refine v_goto X (tgt := 21) dX5_signOf_7 (by decide) ?_
    exact v_iret X Y dX5_signOf_21 (⟨by unfold sgn; rw [if_pos (Int64.not_le.mp h2)]; rfl, rfl, rfl⟩)
set_option maxHeartbeats 4000000 in
set_option maxRecDepth 100000 in
theorem c_X5_refused (l : Launch) (E : VE) (hE : EOk E) (I : TI) (L : TL) (w : Nat) (hw : 2 ≤ w) (hw9 : w < 9) : Ct l E yX5_refused cX5_refused 2 (some .int) rm_X5_refused [.ref (eA E 0 0), .int (-nI w)] I L (fun r I' L' => r = some (.int (-nI w)) ∧ I' = rfI I w ∧ L' = L) := by
  refine ct_of (by decide +kernel) (Nat.le_of_ble_eq_true rfl) hE ?_
  intro a X Y hl hEE
  subst hl; subst hEE
  show V a 0 [(0, .ref (eA (vE a) 0 0)), (1, .int (-nI w))] [] I L
  refine v_iload_n X 1 rfl dX5_refused_0 ?_
  refine v_bipush X (v := (-8)) dX5_refused_1 (by decide) ?_
  refine v_icmp_lt X dX5_refused_3 (tgt := 23) (by decide) (fun h3 => ?_) (fun h3 => ?_)
  · exact absurd h3 (neg_lo w hw9 hw).1
  · refine v_iload_n X 1 rfl dX5_refused_6 ?_
    refine v_bipush X (v := (-2)) dX5_refused_7 (by decide) ?_
    refine v_icmp_gt X dX5_refused_9 (tgt := 23) (by decide) (fun h9 => ?_) (fun h9 => ?_)
    · exact absurd h9 (neg_lo w hw9 hw).2
    · refine v_aload_n X 0 rfl dX5_refused_12 ?_
      refine gf_X5_28 X dX5_refused_13 ?_
      refine v_iload_n X 1 rfl dX5_refused_16 ?_
      refine v_ineg X dX5_refused_17 ?_
      refine v_eqi (y := (nI w)) (Int32.neg_neg) ?_
      refine v_dup2_11 X dX5_refused_18 rfl rfl ?_
      refine v_iald_n X dl_11 (fun _ _ => rfl) (n := 9) (by omega) (by decide) dX5_refused_19 ?_
      refine v_iconst X (v := (nI 1)) dX5_refused_20 (by decide) ?_
      refine v_iadd X dX5_refused_21 ?_
      refine v_iast_n X dl_11 (fun _ _ => rfl) (n := 9) (by omega) (by decide) dX5_refused_22 ?_
      refine v_iload_n X 1 rfl dX5_refused_23 ?_
      exact v_iret X Y dX5_refused_24 (⟨rfl, rfl, rfl⟩)
set_option maxHeartbeats 4000000 in
set_option maxRecDepth 100000 in
theorem c_X5_nought (l : Launch) (E : VE) (hE : EOk E) (I : TI) (L : TL) (w : Nat) (hw : 2 ≤ w) (hw9 : w < 9) : Ct l E yX5_nought cX5_nought 2 (some .int) rm_X5_nought [.ref (eA E 0 0), .int (-nI w)] I L (fun r I' L' => r = some (.int 0) ∧ I' = rfI I w ∧ L' = L) := by
  refine ct_of (by decide +kernel) (Nat.le_of_ble_eq_true rfl) hE ?_
  intro a X Y hl hEE
  subst hl; subst hEE
  show V a 0 [(0, .ref (eA (vE a) 0 0)), (1, .int (-nI w))] [] I L
  refine v_aload_n X 0 rfl dX5_nought_0 ?_
  refine v_iload_n X 1 rfl dX5_nought_1 ?_
  refine v_callV X (c_X5_refused _ _ hE _ _ w hw hw9) k_X5_58 dl_0 (cef_0 _ _ _ _) rfl ⟨rfl, rfl, Nat.le_of_ble_eq_true rfl, Nat.le_of_ble_eq_true rfl⟩ (As := [.int (-nI w)]) (rest := []) rfl rfl (Nat.le_of_ble_eq_true rfl) dX5_nought_2 (fun r2 I2 L2 hp2 => ?_)
  obtain ⟨rfl, e1, e2⟩ := hp2
  have e1 := e1.symm
  have e2 := e2.symm
  subst e1; subst e2
  refine v_st (st' := [.int (-nI w)]) rfl ?_
  refine v_pop X dX5_nought_5 rfl ?_
  refine v_iconst X (v := (nI 0)) dX5_nought_6 (by decide) ?_
  exact v_iret X Y dX5_nought_7 (⟨rfl, rfl, rfl⟩)
