/-! the constructors -/
theorem w_oi : Cond.instanceMethod Lib.objectInit ∈ WS := ws_of (i := 59) (by decide +kernel) (by decide +kernel)
theorem w_oc : Cond.code Lib.objectInit ⟨#[0xb1]⟩ 1 none ∈ WS := ws_of (i := 60) (by decide +kernel) (by decide +kernel)
theorem w_ai : Cond.arrayClass .int ∈ WS := ws_of (i := 78) (by decide +kernel) (by decide +kernel)
theorem w_aj : Cond.arrayClass .long ∈ WS := ws_of (i := 79) (by decide +kernel) (by decide +kernel)
theorem ble {m n : Nat} (h : Nat.ble m n = true) : m ≤ n := Nat.le_of_ble_eq_true h
abbrev rmN0 : Room := { frames := 1, cells := 1, slots := 25, locals := 20 }
def fs0_0 : List Value := [.null, .int 0, .int 0, .int 0, .int 0, .int 0]
def Sh0 (E : VE) (h : Nat) (ws1 : va_W) : Prop := ∃ q1 : Nat, ws1 = [(h, .inr (0, [.ref q1, .int 0, .int 0, .int 0, .int 0, .int 0])), (q1, .inl (eC E 0, 25, .inl (fun _ => 0)))]
theorem ct_X0_init {l : Launch} {E : VE} : CtN l E yX0_init cX0_init 1 rmN0 0 fs0_0 1 25 (Sh0 E) := by
  refine ctn_of (by decide) rfl (ble rfl) ?_
  intro a A h X Y hl hE
  subst hl
  subst hE
  refine g_ws (ws' := [(h, .inr (0, [.null, .int 0, .int 0, .int 0, .int 0, .int 0]))]) rfl ?_
  refine g_aload_n X 0 rfl dX0_init_0 ?_
  refine g_objInit X (idx := 3) (ws_of (i := 136) (by decide +kernel) (by decide +kernel)) w_oi w_oc (ble rfl) (ble rfl) dX0_init_1 ?_
  refine g_aload_n X 0 rfl dX0_init_4 ?_
  refine g_bipush X (v := nI 25) dX0_init_5 (by decide) ?_
  refine g_newI X w_ai (N := 25) (by decide) (ble rfl) (ble rfl) dX0_init_7 ?_
  intro q1
  refine g_putF X Y.2.2.1 (ci := 0) 0 0 rfl rfl inW0 tyX0 tyX0_ok nmX0 (by decide) fl_X0_9 rfl rfl (tyX0_ok 0 (by decide)) rfl rfl (ble rfl) dX0_init_9 ?_
  refine g_ws (ws' := [(h, .inr (0, [.ref q1, .int 0, .int 0, .int 0, .int 0, .int 0])), (q1, .inl (eC (vE a) 0, 25, .inl (fun _ => 0)))]) rfl ?_
  exact g_vret X Y dX0_init_12 ⟨q1, rfl⟩ rfl rfl
abbrev rmN1 : Room := { frames := 1, cells := 6, slots := 54, locals := 20 }
def fs0_1 : List Value := [.null, .null, .null, .null, .int 0, .int 0, .null, .null, .long 0, .long 0]
def Sh1 (E : VE) (h : Nat) (ws1 : va_W) : Prop := ∃ q1 q2 q3 q4 q5 q6 : Nat, ws1 = [(h, .inr (1, [.ref q1, .ref q2, .ref q3, .ref q4, .int 0, .int 0, .ref q5, .ref q6, .long 0, .long 0])), (q1, .inl (eC E 0, 9, .inl (fun _ => 0))), (q2, .inl (eC E 0, 9, .inl (fun _ => 0))), (q3, .inl (eC E 1, 9, .inr (.inl (fun _ => 0)))), (q4, .inl (eC E 1, 9, .inr (.inl (fun _ => 0)))), (q5, .inl (eC E 1, 9, .inr (.inl (fun _ => 0)))), (q6, .inl (eC E 1, 9, .inr (.inl (fun _ => 0))))]
theorem ct_X1_init {l : Launch} {E : VE} : CtN l E yX1_init cX1_init 1 rmN1 1 fs0_1 6 54 (Sh1 E) := by
  refine ctn_of (by decide) rfl (ble rfl) ?_
  intro a A h X Y hl hE
  subst hl
  subst hE
  refine g_ws (ws' := [(h, .inr (1, [.null, .null, .null, .null, .int 0, .int 0, .null, .null, .long 0, .long 0]))]) rfl ?_
  refine g_aload_n X 0 rfl dX1_init_0 ?_
  refine g_objInit X (idx := 3) (ws_of (i := 95) (by decide +kernel) (by decide +kernel)) w_oi w_oc (ble rfl) (ble rfl) dX1_init_1 ?_
  refine g_aload_n X 0 rfl dX1_init_4 ?_
  refine g_bipush X (v := nI 9) dX1_init_5 (by decide) ?_
  refine g_newI X w_ai (N := 9) (by decide) (ble rfl) (ble rfl) dX1_init_7 ?_
  intro q1
  refine g_putF X Y.2.2.1 (ci := 1) 0 0 rfl rfl inW1 tyX1 tyX1_ok nmX1 (by decide) fl_X1_9 rfl rfl (tyX1_ok 0 (by decide)) rfl rfl (ble rfl) dX1_init_9 ?_
  refine g_ws (ws' := [(h, .inr (1, [.ref q1, .null, .null, .null, .int 0, .int 0, .null, .null, .long 0, .long 0])), (q1, .inl (eC (vE a) 0, 9, .inl (fun _ => 0)))]) rfl ?_
  refine g_aload_n X 0 rfl dX1_init_12 ?_
  refine g_bipush X (v := nI 9) dX1_init_13 (by decide) ?_
  refine g_newI X w_ai (N := 9) (by decide) (ble rfl) (ble rfl) dX1_init_15 ?_
  intro q2
  refine g_putF X Y.2.2.1 (ci := 1) 0 1 rfl rfl inW1 tyX1 tyX1_ok nmX1 (by decide) fl_X1_15 rfl rfl (tyX1_ok 1 (by decide)) rfl rfl (ble rfl) dX1_init_17 ?_
  refine g_ws (ws' := [(h, .inr (1, [.ref q1, .ref q2, .null, .null, .int 0, .int 0, .null, .null, .long 0, .long 0])), (q1, .inl (eC (vE a) 0, 9, .inl (fun _ => 0))), (q2, .inl (eC (vE a) 0, 9, .inl (fun _ => 0)))]) rfl ?_
  refine g_aload_n X 0 rfl dX1_init_20 ?_
  refine g_bipush X (v := nI 9) dX1_init_21 (by decide) ?_
  refine g_newJ X w_aj (N := 9) (by decide) (ble rfl) (ble rfl) dX1_init_23 ?_
  intro q3
  refine g_putF X Y.2.2.1 (ci := 1) 0 2 rfl rfl inW1 tyX1 tyX1_ok nmX1 (by decide) fl_X1_18 rfl rfl (tyX1_ok 2 (by decide)) rfl rfl (ble rfl) dX1_init_25 ?_
  refine g_ws (ws' := [(h, .inr (1, [.ref q1, .ref q2, .ref q3, .null, .int 0, .int 0, .null, .null, .long 0, .long 0])), (q1, .inl (eC (vE a) 0, 9, .inl (fun _ => 0))), (q2, .inl (eC (vE a) 0, 9, .inl (fun _ => 0))), (q3, .inl (eC (vE a) 1, 9, .inr (.inl (fun _ => 0))))]) rfl ?_
  refine g_aload_n X 0 rfl dX1_init_28 ?_
  refine g_bipush X (v := nI 9) dX1_init_29 (by decide) ?_
  refine g_newJ X w_aj (N := 9) (by decide) (ble rfl) (ble rfl) dX1_init_31 ?_
  intro q4
  refine g_putF X Y.2.2.1 (ci := 1) 0 3 rfl rfl inW1 tyX1 tyX1_ok nmX1 (by decide) fl_X1_22 rfl rfl (tyX1_ok 3 (by decide)) rfl rfl (ble rfl) dX1_init_33 ?_
  refine g_ws (ws' := [(h, .inr (1, [.ref q1, .ref q2, .ref q3, .ref q4, .int 0, .int 0, .null, .null, .long 0, .long 0])), (q1, .inl (eC (vE a) 0, 9, .inl (fun _ => 0))), (q2, .inl (eC (vE a) 0, 9, .inl (fun _ => 0))), (q3, .inl (eC (vE a) 1, 9, .inr (.inl (fun _ => 0)))), (q4, .inl (eC (vE a) 1, 9, .inr (.inl (fun _ => 0))))]) rfl ?_
  refine g_aload_n X 0 rfl dX1_init_36 ?_
  refine g_bipush X (v := nI 9) dX1_init_37 (by decide) ?_
  refine g_newJ X w_aj (N := 9) (by decide) (ble rfl) (ble rfl) dX1_init_39 ?_
  intro q5
  refine g_putF X Y.2.2.1 (ci := 1) 0 6 rfl rfl inW1 tyX1 tyX1_ok nmX1 (by decide) fl_X1_25 rfl rfl (tyX1_ok 6 (by decide)) rfl rfl (ble rfl) dX1_init_41 ?_
  refine g_ws (ws' := [(h, .inr (1, [.ref q1, .ref q2, .ref q3, .ref q4, .int 0, .int 0, .ref q5, .null, .long 0, .long 0])), (q1, .inl (eC (vE a) 0, 9, .inl (fun _ => 0))), (q2, .inl (eC (vE a) 0, 9, .inl (fun _ => 0))), (q3, .inl (eC (vE a) 1, 9, .inr (.inl (fun _ => 0)))), (q4, .inl (eC (vE a) 1, 9, .inr (.inl (fun _ => 0)))), (q5, .inl (eC (vE a) 1, 9, .inr (.inl (fun _ => 0))))]) rfl ?_
  refine g_aload_n X 0 rfl dX1_init_44 ?_
  refine g_bipush X (v := nI 9) dX1_init_45 (by decide) ?_
  refine g_newJ X w_aj (N := 9) (by decide) (ble rfl) (ble rfl) dX1_init_47 ?_
  intro q6
  refine g_putF X Y.2.2.1 (ci := 1) 0 7 rfl rfl inW1 tyX1 tyX1_ok nmX1 (by decide) fl_X1_28 rfl rfl (tyX1_ok 7 (by decide)) rfl rfl (ble rfl) dX1_init_49 ?_
  refine g_ws (ws' := [(h, .inr (1, [.ref q1, .ref q2, .ref q3, .ref q4, .int 0, .int 0, .ref q5, .ref q6, .long 0, .long 0])), (q1, .inl (eC (vE a) 0, 9, .inl (fun _ => 0))), (q2, .inl (eC (vE a) 0, 9, .inl (fun _ => 0))), (q3, .inl (eC (vE a) 1, 9, .inr (.inl (fun _ => 0)))), (q4, .inl (eC (vE a) 1, 9, .inr (.inl (fun _ => 0)))), (q5, .inl (eC (vE a) 1, 9, .inr (.inl (fun _ => 0)))), (q6, .inl (eC (vE a) 1, 9, .inr (.inl (fun _ => 0))))]) rfl ?_
  exact g_vret X Y dX1_init_52 ⟨q1, q2, q3, q4, q5, q6, rfl⟩ rfl rfl
abbrev rmN2 : Room := { frames := 1, cells := 1, slots := 544, locals := 20 }
def fs0_2 : List Value := [.null]
def Sh2 (E : VE) (h : Nat) (ws1 : va_W) : Prop := ∃ q1 : Nat, ws1 = [(h, .inr (2, [.ref q1])), (q1, .inl (eC E 1, 544, .inr (.inl (fun _ => 0))))]
theorem ct_X2_init {l : Launch} {E : VE} : CtN l E yX2_init cX2_init 1 rmN2 2 fs0_2 1 544 (Sh2 E) := by
  refine ctn_of (by decide) rfl (ble rfl) ?_
  intro a A h X Y hl hE
  subst hl
  subst hE
  refine g_ws (ws' := [(h, .inr (2, [.null]))]) rfl ?_
  refine g_aload_n X 0 rfl dX2_init_0 ?_
  refine g_objInit X (idx := 3) (ws_of (i := 85) (by decide +kernel) (by decide +kernel)) w_oi w_oc (ble rfl) (ble rfl) dX2_init_1 ?_
  refine g_aload_n X 0 rfl dX2_init_4 ?_
  refine g_sipush X (v := nI 544) dX2_init_5 (by decide) ?_
  refine g_newJ X w_aj (N := 544) (by decide) (ble rfl) (ble rfl) dX2_init_8 ?_
  intro q1
  refine g_putF X Y.2.2.1 (ci := 2) 0 0 rfl rfl inW2 tyX2 tyX2_ok nmX2 (by decide) fl_X2_9 rfl rfl (tyX2_ok 0 (by decide)) rfl rfl (ble rfl) dX2_init_10 ?_
  refine g_ws (ws' := [(h, .inr (2, [.ref q1])), (q1, .inl (eC (vE a) 1, 544, .inr (.inl (fun _ => 0))))]) rfl ?_
  exact g_vret X Y dX2_init_13 ⟨q1, rfl⟩ rfl rfl
abbrev rmN3 : Room := { frames := 1, cells := 3, slots := 48, locals := 20 }
def fs0_3 : List Value := [.null, .null, .null, .int 0, .int 0]
def Sh3 (E : VE) (h : Nat) (ws1 : va_W) : Prop := ∃ q1 q2 q3 : Nat, ws1 = [(h, .inr (3, [.ref q1, .ref q2, .ref q3, .int 0, .int 0])), (q1, .inl (eC E 0, 16, .inl (fun _ => 0))), (q2, .inl (eC E 0, 16, .inl (fun _ => 0))), (q3, .inl (eC E 0, 16, .inl (fun _ => 0)))]
theorem ct_X3_init {l : Launch} {E : VE} : CtN l E yX3_init cX3_init 1 rmN3 3 fs0_3 3 48 (Sh3 E) := by
  refine ctn_of (by decide) rfl (ble rfl) ?_
  intro a A h X Y hl hE
  subst hl
  subst hE
  refine g_ws (ws' := [(h, .inr (3, [.null, .null, .null, .int 0, .int 0]))]) rfl ?_
  refine g_aload_n X 0 rfl dX3_init_0 ?_
  refine g_objInit X (idx := 3) (ws_of (i := 168) (by decide +kernel) (by decide +kernel)) w_oi w_oc (ble rfl) (ble rfl) dX3_init_1 ?_
  refine g_aload_n X 0 rfl dX3_init_4 ?_
  refine g_bipush X (v := nI 16) dX3_init_5 (by decide) ?_
  refine g_newI X w_ai (N := 16) (by decide) (ble rfl) (ble rfl) dX3_init_7 ?_
  intro q1
  refine g_putF X Y.2.2.1 (ci := 3) 0 0 rfl rfl inW3 tyX3 tyX3_ok nmX3 (by decide) fl_X3_9 rfl rfl (tyX3_ok 0 (by decide)) rfl rfl (ble rfl) dX3_init_9 ?_
  refine g_ws (ws' := [(h, .inr (3, [.ref q1, .null, .null, .int 0, .int 0])), (q1, .inl (eC (vE a) 0, 16, .inl (fun _ => 0)))]) rfl ?_
  refine g_aload_n X 0 rfl dX3_init_12 ?_
  refine g_bipush X (v := nI 16) dX3_init_13 (by decide) ?_
  refine g_newI X w_ai (N := 16) (by decide) (ble rfl) (ble rfl) dX3_init_15 ?_
  intro q2
  refine g_putF X Y.2.2.1 (ci := 3) 0 1 rfl rfl inW3 tyX3 tyX3_ok nmX3 (by decide) fl_X3_15 rfl rfl (tyX3_ok 1 (by decide)) rfl rfl (ble rfl) dX3_init_17 ?_
  refine g_ws (ws' := [(h, .inr (3, [.ref q1, .ref q2, .null, .int 0, .int 0])), (q1, .inl (eC (vE a) 0, 16, .inl (fun _ => 0))), (q2, .inl (eC (vE a) 0, 16, .inl (fun _ => 0)))]) rfl ?_
  refine g_aload_n X 0 rfl dX3_init_20 ?_
  refine g_bipush X (v := nI 16) dX3_init_21 (by decide) ?_
  refine g_newI X w_ai (N := 16) (by decide) (ble rfl) (ble rfl) dX3_init_23 ?_
  intro q3
  refine g_putF X Y.2.2.1 (ci := 3) 0 2 rfl rfl inW3 tyX3 tyX3_ok nmX3 (by decide) fl_X3_18 rfl rfl (tyX3_ok 2 (by decide)) rfl rfl (ble rfl) dX3_init_25 ?_
  refine g_ws (ws' := [(h, .inr (3, [.ref q1, .ref q2, .ref q3, .int 0, .int 0])), (q1, .inl (eC (vE a) 0, 16, .inl (fun _ => 0))), (q2, .inl (eC (vE a) 0, 16, .inl (fun _ => 0))), (q3, .inl (eC (vE a) 0, 16, .inl (fun _ => 0)))]) rfl ?_
  exact g_vret X Y dX3_init_28 ⟨q1, q2, q3, rfl⟩ rfl rfl
abbrev rmN4 : Room := { frames := 1, cells := 2, slots := 37, locals := 20 }
def fs0_4 : List Value := [.null, .null]
def Sh4 (E : VE) (h : Nat) (ws1 : va_W) : Prop := ∃ q1 q2 : Nat, ws1 = [(h, .inr (4, [.ref q1, .ref q2])), (q1, .inl (eC E 1, 32, .inr (.inl (fun _ => 0)))), (q2, .inl (eC E 0, 5, .inl (fun _ => 0)))]
theorem ct_X4_init {l : Launch} {E : VE} : CtN l E yX4_init cX4_init 1 rmN4 4 fs0_4 2 37 (Sh4 E) := by
  refine ctn_of (by decide) rfl (ble rfl) ?_
  intro a A h X Y hl hE
  subst hl
  subst hE
  refine g_ws (ws' := [(h, .inr (4, [.null, .null]))]) rfl ?_
  refine g_aload_n X 0 rfl dX4_init_0 ?_
  refine g_objInit X (idx := 3) (ws_of (i := 70) (by decide +kernel) (by decide +kernel)) w_oi w_oc (ble rfl) (ble rfl) dX4_init_1 ?_
  refine g_aload_n X 0 rfl dX4_init_4 ?_
  refine g_bipush X (v := nI 32) dX4_init_5 (by decide) ?_
  refine g_newJ X w_aj (N := 32) (by decide) (ble rfl) (ble rfl) dX4_init_7 ?_
  intro q1
  refine g_putF X Y.2.2.1 (ci := 4) 0 0 rfl rfl inW4 tyX4 tyX4_ok nmX4 (by decide) fl_X4_9 rfl rfl (tyX4_ok 0 (by decide)) rfl rfl (ble rfl) dX4_init_9 ?_
  refine g_ws (ws' := [(h, .inr (4, [.ref q1, .null])), (q1, .inl (eC (vE a) 1, 32, .inr (.inl (fun _ => 0))))]) rfl ?_
  refine g_aload_n X 0 rfl dX4_init_12 ?_
  refine g_iconst X (v := nI 5) dX4_init_13 (by decide) ?_
  refine g_newI X w_ai (N := 5) (by decide) (ble rfl) (ble rfl) dX4_init_14 ?_
  intro q2
  refine g_putF X Y.2.2.1 (ci := 4) 0 1 rfl rfl inW4 tyX4 tyX4_ok nmX4 (by decide) fl_X4_15 rfl rfl (tyX4_ok 1 (by decide)) rfl rfl (ble rfl) dX4_init_16 ?_
  refine g_ws (ws' := [(h, .inr (4, [.ref q1, .ref q2])), (q1, .inl (eC (vE a) 1, 32, .inr (.inl (fun _ => 0)))), (q2, .inl (eC (vE a) 0, 5, .inl (fun _ => 0)))]) rfl ?_
  exact g_vret X Y dX4_init_19 ⟨q1, q2, rfl⟩ rfl rfl
abbrev rmN6 : Room := { frames := 1, cells := 23, slots := 1800, locals := 20 }
def fs0_6 : List Value := [.null, .null, .null, .null, .null, .int 0, .null, .null, .null, .null, .null, .int 0, .null, .null, .int 0, .int 0, .int 0, .int 0, .int 0, .null, .null, .null, .null, .null, .int 0, .int 0, .int 0, .null, .null, .null, .null, .null, .null, .int 0, .int 0, .long 0, .long 0]
def Sh6 (E : VE) (h : Nat) (ws1 : va_W) : Prop := ∃ q1 q2 q3 q4 q5 q6 q7 q8 q9 q10 q11 q12 q13 q14 q15 q16 q17 q18 q19 q20 q21 q22 q23 : Nat, ws1 = [(h, .inr (6, [.ref q1, .ref q2, .ref q3, .ref q4, .ref q5, .int 0, .ref q6, .ref q7, .ref q8, .ref q9, .ref q10, .int 0, .ref q11, .ref q12, .int 0, .int 0, .int 0, .int 0, .int 0, .ref q13, .ref q14, .ref q15, .ref q16, .ref q17, .int 0, .int 0, .int 0, .ref q18, .ref q19, .ref q20, .ref q21, .ref q22, .ref q23, .int 0, .int 0, .long 0, .long 0])), (q1, .inl (eC E 0, 300, .inl (fun _ => 0))), (q2, .inl (eC E 0, 12, .inl (fun _ => 0))), (q3, .inl (eC E 0, 12, .inl (fun _ => 0))), (q4, .inl (eC E 0, 12, .inl (fun _ => 0))), (q5, .inl (eC E 0, 12, .inl (fun _ => 0))), (q6, .inl (eC E 0, 4, .inl (fun _ => 0))), (q7, .inl (eC E 0, 4, .inl (fun _ => 0))), (q8, .inl (eC E 0, 64, .inl (fun _ => 0))), (q9, .inl (eC E 0, 64, .inl (fun _ => 0))), (q10, .inl (eC E 0, 64, .inl (fun _ => 0))), (q11, .inl (eC E 0, 9, .inl (fun _ => 0))), (q12, .inl (eC E 1, 32, .inr (.inl (fun _ => 0)))), (q13, .inl (eC E 1, 25, .inr (.inl (fun _ => 0)))), (q14, .inl (eC E 0, 544, .inl (fun _ => 0))), (q15, .inl (eC E 1, 544, .inr (.inl (fun _ => 0)))), (q16, .inl (eC E 0, 16, .inl (fun _ => 0))), (q17, .inl (eC E 0, 16, .inl (fun _ => 0))), (q18, .inl (eC E 1, 9, .inr (.inl (fun _ => 0)))), (q19, .inl (eC E 1, 9, .inr (.inl (fun _ => 0)))), (q20, .inl (eC E 1, 12, .inr (.inl (fun _ => 0)))), (q21, .inl (eC E 1, 12, .inr (.inl (fun _ => 0)))), (q22, .inl (eC E 0, 12, .inl (fun _ => 0))), (q23, .inl (eC E 0, 12, .inl (fun _ => 0)))]
theorem ct_X6_init {l : Launch} {E : VE} : CtN l E yX6_init cX6_init 1 rmN6 6 fs0_6 23 1800 (Sh6 E) := by
  refine ctn_of (by decide) rfl (ble rfl) ?_
  intro a A h X Y hl hE
  subst hl
  subst hE
  refine g_ws (ws' := [(h, .inr (6, [.null, .null, .null, .null, .null, .int 0, .null, .null, .null, .null, .null, .int 0, .null, .null, .int 0, .int 0, .int 0, .int 0, .int 0, .null, .null, .null, .null, .null, .int 0, .int 0, .int 0, .null, .null, .null, .null, .null, .null, .int 0, .int 0, .long 0, .long 0]))]) rfl ?_
  refine g_aload_n X 0 rfl dX6_init_0 ?_
  refine g_objInit X (idx := 1) (ws_of (i := 577) (by decide +kernel) (by decide +kernel)) w_oi w_oc (ble rfl) (ble rfl) dX6_init_1 ?_
  refine g_aload_n X 0 rfl dX6_init_4 ?_
  refine g_sipush X (v := nI 300) dX6_init_5 (by decide) ?_
  refine g_newI X w_ai (N := 300) (by decide) (ble rfl) (ble rfl) dX6_init_8 ?_
  intro q1
  refine g_putF X Y.2.2.1 (ci := 6) 0 0 rfl rfl inW6 tyX6 tyX6_ok nmX6 (by decide) fl_X6_7 rfl rfl (tyX6_ok 0 (by decide)) rfl rfl (ble rfl) dX6_init_10 ?_
  refine g_ws (ws' := [(h, .inr (6, [.ref q1, .null, .null, .null, .null, .int 0, .null, .null, .null, .null, .null, .int 0, .null, .null, .int 0, .int 0, .int 0, .int 0, .int 0, .null, .null, .null, .null, .null, .int 0, .int 0, .int 0, .null, .null, .null, .null, .null, .null, .int 0, .int 0, .long 0, .long 0])), (q1, .inl (eC (vE a) 0, 300, .inl (fun _ => 0)))]) rfl ?_
  refine g_aload_n X 0 rfl dX6_init_13 ?_
  refine g_bipush X (v := nI 12) dX6_init_14 (by decide) ?_
  refine g_newI X w_ai (N := 12) (by decide) (ble rfl) (ble rfl) dX6_init_16 ?_
  intro q2
  refine g_putF X Y.2.2.1 (ci := 6) 0 1 rfl rfl inW6 tyX6 tyX6_ok nmX6 (by decide) fl_X6_13 rfl rfl (tyX6_ok 1 (by decide)) rfl rfl (ble rfl) dX6_init_18 ?_
  refine g_ws (ws' := [(h, .inr (6, [.ref q1, .ref q2, .null, .null, .null, .int 0, .null, .null, .null, .null, .null, .int 0, .null, .null, .int 0, .int 0, .int 0, .int 0, .int 0, .null, .null, .null, .null, .null, .int 0, .int 0, .int 0, .null, .null, .null, .null, .null, .null, .int 0, .int 0, .long 0, .long 0])), (q1, .inl (eC (vE a) 0, 300, .inl (fun _ => 0))), (q2, .inl (eC (vE a) 0, 12, .inl (fun _ => 0)))]) rfl ?_
  refine g_aload_n X 0 rfl dX6_init_21 ?_
  refine g_bipush X (v := nI 12) dX6_init_22 (by decide) ?_
  refine g_newI X w_ai (N := 12) (by decide) (ble rfl) (ble rfl) dX6_init_24 ?_
  intro q3
  refine g_putF X Y.2.2.1 (ci := 6) 0 2 rfl rfl inW6 tyX6 tyX6_ok nmX6 (by decide) fl_X6_16 rfl rfl (tyX6_ok 2 (by decide)) rfl rfl (ble rfl) dX6_init_26 ?_
  refine g_ws (ws' := [(h, .inr (6, [.ref q1, .ref q2, .ref q3, .null, .null, .int 0, .null, .null, .null, .null, .null, .int 0, .null, .null, .int 0, .int 0, .int 0, .int 0, .int 0, .null, .null, .null, .null, .null, .int 0, .int 0, .int 0, .null, .null, .null, .null, .null, .null, .int 0, .int 0, .long 0, .long 0])), (q1, .inl (eC (vE a) 0, 300, .inl (fun _ => 0))), (q2, .inl (eC (vE a) 0, 12, .inl (fun _ => 0))), (q3, .inl (eC (vE a) 0, 12, .inl (fun _ => 0)))]) rfl ?_
  refine g_aload_n X 0 rfl dX6_init_29 ?_
  refine g_bipush X (v := nI 12) dX6_init_30 (by decide) ?_
  refine g_newI X w_ai (N := 12) (by decide) (ble rfl) (ble rfl) dX6_init_32 ?_
  intro q4
  refine g_putF X Y.2.2.1 (ci := 6) 0 3 rfl rfl inW6 tyX6 tyX6_ok nmX6 (by decide) fl_X6_19 rfl rfl (tyX6_ok 3 (by decide)) rfl rfl (ble rfl) dX6_init_34 ?_
  refine g_ws (ws' := [(h, .inr (6, [.ref q1, .ref q2, .ref q3, .ref q4, .null, .int 0, .null, .null, .null, .null, .null, .int 0, .null, .null, .int 0, .int 0, .int 0, .int 0, .int 0, .null, .null, .null, .null, .null, .int 0, .int 0, .int 0, .null, .null, .null, .null, .null, .null, .int 0, .int 0, .long 0, .long 0])), (q1, .inl (eC (vE a) 0, 300, .inl (fun _ => 0))), (q2, .inl (eC (vE a) 0, 12, .inl (fun _ => 0))), (q3, .inl (eC (vE a) 0, 12, .inl (fun _ => 0))), (q4, .inl (eC (vE a) 0, 12, .inl (fun _ => 0)))]) rfl ?_
  refine g_aload_n X 0 rfl dX6_init_37 ?_
  refine g_bipush X (v := nI 12) dX6_init_38 (by decide) ?_
  refine g_newI X w_ai (N := 12) (by decide) (ble rfl) (ble rfl) dX6_init_40 ?_
  intro q5
  refine g_putF X Y.2.2.1 (ci := 6) 0 4 rfl rfl inW6 tyX6 tyX6_ok nmX6 (by decide) fl_X6_22 rfl rfl (tyX6_ok 4 (by decide)) rfl rfl (ble rfl) dX6_init_42 ?_
  refine g_ws (ws' := [(h, .inr (6, [.ref q1, .ref q2, .ref q3, .ref q4, .ref q5, .int 0, .null, .null, .null, .null, .null, .int 0, .null, .null, .int 0, .int 0, .int 0, .int 0, .int 0, .null, .null, .null, .null, .null, .int 0, .int 0, .int 0, .null, .null, .null, .null, .null, .null, .int 0, .int 0, .long 0, .long 0])), (q1, .inl (eC (vE a) 0, 300, .inl (fun _ => 0))), (q2, .inl (eC (vE a) 0, 12, .inl (fun _ => 0))), (q3, .inl (eC (vE a) 0, 12, .inl (fun _ => 0))), (q4, .inl (eC (vE a) 0, 12, .inl (fun _ => 0))), (q5, .inl (eC (vE a) 0, 12, .inl (fun _ => 0)))]) rfl ?_
  refine g_aload_n X 0 rfl dX6_init_45 ?_
  refine g_iconst X (v := nI 4) dX6_init_46 (by decide) ?_
  refine g_newI X w_ai (N := 4) (by decide) (ble rfl) (ble rfl) dX6_init_47 ?_
  intro q6
  refine g_putF X Y.2.2.1 (ci := 6) 0 6 rfl rfl inW6 tyX6 tyX6_ok nmX6 (by decide) fl_X6_25 rfl rfl (tyX6_ok 6 (by decide)) rfl rfl (ble rfl) dX6_init_49 ?_
  refine g_ws (ws' := [(h, .inr (6, [.ref q1, .ref q2, .ref q3, .ref q4, .ref q5, .int 0, .ref q6, .null, .null, .null, .null, .int 0, .null, .null, .int 0, .int 0, .int 0, .int 0, .int 0, .null, .null, .null, .null, .null, .int 0, .int 0, .int 0, .null, .null, .null, .null, .null, .null, .int 0, .int 0, .long 0, .long 0])), (q1, .inl (eC (vE a) 0, 300, .inl (fun _ => 0))), (q2, .inl (eC (vE a) 0, 12, .inl (fun _ => 0))), (q3, .inl (eC (vE a) 0, 12, .inl (fun _ => 0))), (q4, .inl (eC (vE a) 0, 12, .inl (fun _ => 0))), (q5, .inl (eC (vE a) 0, 12, .inl (fun _ => 0))), (q6, .inl (eC (vE a) 0, 4, .inl (fun _ => 0)))]) rfl ?_
  refine g_aload_n X 0 rfl dX6_init_52 ?_
  refine g_iconst X (v := nI 4) dX6_init_53 (by decide) ?_
  refine g_newI X w_ai (N := 4) (by decide) (ble rfl) (ble rfl) dX6_init_54 ?_
  intro q7
  refine g_putF X Y.2.2.1 (ci := 6) 0 7 rfl rfl inW6 tyX6 tyX6_ok nmX6 (by decide) fl_X6_28 rfl rfl (tyX6_ok 7 (by decide)) rfl rfl (ble rfl) dX6_init_56 ?_
  refine g_ws (ws' := [(h, .inr (6, [.ref q1, .ref q2, .ref q3, .ref q4, .ref q5, .int 0, .ref q6, .ref q7, .null, .null, .null, .int 0, .null, .null, .int 0, .int 0, .int 0, .int 0, .int 0, .null, .null, .null, .null, .null, .int 0, .int 0, .int 0, .null, .null, .null, .null, .null, .null, .int 0, .int 0, .long 0, .long 0])), (q1, .inl (eC (vE a) 0, 300, .inl (fun _ => 0))), (q2, .inl (eC (vE a) 0, 12, .inl (fun _ => 0))), (q3, .inl (eC (vE a) 0, 12, .inl (fun _ => 0))), (q4, .inl (eC (vE a) 0, 12, .inl (fun _ => 0))), (q5, .inl (eC (vE a) 0, 12, .inl (fun _ => 0))), (q6, .inl (eC (vE a) 0, 4, .inl (fun _ => 0))), (q7, .inl (eC (vE a) 0, 4, .inl (fun _ => 0)))]) rfl ?_
  refine g_aload_n X 0 rfl dX6_init_59 ?_
  refine g_bipush X (v := nI 64) dX6_init_60 (by decide) ?_
  refine g_newI X w_ai (N := 64) (by decide) (ble rfl) (ble rfl) dX6_init_62 ?_
  intro q8
  refine g_putF X Y.2.2.1 (ci := 6) 0 8 rfl rfl inW6 tyX6 tyX6_ok nmX6 (by decide) fl_X6_31 rfl rfl (tyX6_ok 8 (by decide)) rfl rfl (ble rfl) dX6_init_64 ?_
  refine g_ws (ws' := [(h, .inr (6, [.ref q1, .ref q2, .ref q3, .ref q4, .ref q5, .int 0, .ref q6, .ref q7, .ref q8, .null, .null, .int 0, .null, .null, .int 0, .int 0, .int 0, .int 0, .int 0, .null, .null, .null, .null, .null, .int 0, .int 0, .int 0, .null, .null, .null, .null, .null, .null, .int 0, .int 0, .long 0, .long 0])), (q1, .inl (eC (vE a) 0, 300, .inl (fun _ => 0))), (q2, .inl (eC (vE a) 0, 12, .inl (fun _ => 0))), (q3, .inl (eC (vE a) 0, 12, .inl (fun _ => 0))), (q4, .inl (eC (vE a) 0, 12, .inl (fun _ => 0))), (q5, .inl (eC (vE a) 0, 12, .inl (fun _ => 0))), (q6, .inl (eC (vE a) 0, 4, .inl (fun _ => 0))), (q7, .inl (eC (vE a) 0, 4, .inl (fun _ => 0))), (q8, .inl (eC (vE a) 0, 64, .inl (fun _ => 0)))]) rfl ?_
  refine g_aload_n X 0 rfl dX6_init_67 ?_
  refine g_bipush X (v := nI 64) dX6_init_68 (by decide) ?_
  refine g_newI X w_ai (N := 64) (by decide) (ble rfl) (ble rfl) dX6_init_70 ?_
  intro q9
  refine g_putF X Y.2.2.1 (ci := 6) 0 9 rfl rfl inW6 tyX6 tyX6_ok nmX6 (by decide) fl_X6_34 rfl rfl (tyX6_ok 9 (by decide)) rfl rfl (ble rfl) dX6_init_72 ?_
  refine g_ws (ws' := [(h, .inr (6, [.ref q1, .ref q2, .ref q3, .ref q4, .ref q5, .int 0, .ref q6, .ref q7, .ref q8, .ref q9, .null, .int 0, .null, .null, .int 0, .int 0, .int 0, .int 0, .int 0, .null, .null, .null, .null, .null, .int 0, .int 0, .int 0, .null, .null, .null, .null, .null, .null, .int 0, .int 0, .long 0, .long 0])), (q1, .inl (eC (vE a) 0, 300, .inl (fun _ => 0))), (q2, .inl (eC (vE a) 0, 12, .inl (fun _ => 0))), (q3, .inl (eC (vE a) 0, 12, .inl (fun _ => 0))), (q4, .inl (eC (vE a) 0, 12, .inl (fun _ => 0))), (q5, .inl (eC (vE a) 0, 12, .inl (fun _ => 0))), (q6, .inl (eC (vE a) 0, 4, .inl (fun _ => 0))), (q7, .inl (eC (vE a) 0, 4, .inl (fun _ => 0))), (q8, .inl (eC (vE a) 0, 64, .inl (fun _ => 0))), (q9, .inl (eC (vE a) 0, 64, .inl (fun _ => 0)))]) rfl ?_
  refine g_aload_n X 0 rfl dX6_init_75 ?_
  refine g_bipush X (v := nI 64) dX6_init_76 (by decide) ?_
  refine g_newI X w_ai (N := 64) (by decide) (ble rfl) (ble rfl) dX6_init_78 ?_
  intro q10
  refine g_putF X Y.2.2.1 (ci := 6) 0 10 rfl rfl inW6 tyX6 tyX6_ok nmX6 (by decide) fl_X6_37 rfl rfl (tyX6_ok 10 (by decide)) rfl rfl (ble rfl) dX6_init_80 ?_
  refine g_ws (ws' := [(h, .inr (6, [.ref q1, .ref q2, .ref q3, .ref q4, .ref q5, .int 0, .ref q6, .ref q7, .ref q8, .ref q9, .ref q10, .int 0, .null, .null, .int 0, .int 0, .int 0, .int 0, .int 0, .null, .null, .null, .null, .null, .int 0, .int 0, .int 0, .null, .null, .null, .null, .null, .null, .int 0, .int 0, .long 0, .long 0])), (q1, .inl (eC (vE a) 0, 300, .inl (fun _ => 0))), (q2, .inl (eC (vE a) 0, 12, .inl (fun _ => 0))), (q3, .inl (eC (vE a) 0, 12, .inl (fun _ => 0))), (q4, .inl (eC (vE a) 0, 12, .inl (fun _ => 0))), (q5, .inl (eC (vE a) 0, 12, .inl (fun _ => 0))), (q6, .inl (eC (vE a) 0, 4, .inl (fun _ => 0))), (q7, .inl (eC (vE a) 0, 4, .inl (fun _ => 0))), (q8, .inl (eC (vE a) 0, 64, .inl (fun _ => 0))), (q9, .inl (eC (vE a) 0, 64, .inl (fun _ => 0))), (q10, .inl (eC (vE a) 0, 64, .inl (fun _ => 0)))]) rfl ?_
  refine g_aload_n X 0 rfl dX6_init_83 ?_
  refine g_bipush X (v := nI 9) dX6_init_84 (by decide) ?_
  refine g_newI X w_ai (N := 9) (by decide) (ble rfl) (ble rfl) dX6_init_86 ?_
  intro q11
  refine g_putF X Y.2.2.1 (ci := 6) 0 12 rfl rfl inW6 tyX6 tyX6_ok nmX6 (by decide) fl_X6_40 rfl rfl (tyX6_ok 12 (by decide)) rfl rfl (ble rfl) dX6_init_88 ?_
  refine g_ws (ws' := [(h, .inr (6, [.ref q1, .ref q2, .ref q3, .ref q4, .ref q5, .int 0, .ref q6, .ref q7, .ref q8, .ref q9, .ref q10, .int 0, .ref q11, .null, .int 0, .int 0, .int 0, .int 0, .int 0, .null, .null, .null, .null, .null, .int 0, .int 0, .int 0, .null, .null, .null, .null, .null, .null, .int 0, .int 0, .long 0, .long 0])), (q1, .inl (eC (vE a) 0, 300, .inl (fun _ => 0))), (q2, .inl (eC (vE a) 0, 12, .inl (fun _ => 0))), (q3, .inl (eC (vE a) 0, 12, .inl (fun _ => 0))), (q4, .inl (eC (vE a) 0, 12, .inl (fun _ => 0))), (q5, .inl (eC (vE a) 0, 12, .inl (fun _ => 0))), (q6, .inl (eC (vE a) 0, 4, .inl (fun _ => 0))), (q7, .inl (eC (vE a) 0, 4, .inl (fun _ => 0))), (q8, .inl (eC (vE a) 0, 64, .inl (fun _ => 0))), (q9, .inl (eC (vE a) 0, 64, .inl (fun _ => 0))), (q10, .inl (eC (vE a) 0, 64, .inl (fun _ => 0))), (q11, .inl (eC (vE a) 0, 9, .inl (fun _ => 0)))]) rfl ?_
  refine g_aload_n X 0 rfl dX6_init_91 ?_
  refine g_bipush X (v := nI 32) dX6_init_92 (by decide) ?_
  refine g_newJ X w_aj (N := 32) (by decide) (ble rfl) (ble rfl) dX6_init_94 ?_
  intro q12
  refine g_putF X Y.2.2.1 (ci := 6) 0 13 rfl rfl inW6 tyX6 tyX6_ok nmX6 (by decide) fl_X6_43 rfl rfl (tyX6_ok 13 (by decide)) rfl rfl (ble rfl) dX6_init_96 ?_
  refine g_ws (ws' := [(h, .inr (6, [.ref q1, .ref q2, .ref q3, .ref q4, .ref q5, .int 0, .ref q6, .ref q7, .ref q8, .ref q9, .ref q10, .int 0, .ref q11, .ref q12, .int 0, .int 0, .int 0, .int 0, .int 0, .null, .null, .null, .null, .null, .int 0, .int 0, .int 0, .null, .null, .null, .null, .null, .null, .int 0, .int 0, .long 0, .long 0])), (q1, .inl (eC (vE a) 0, 300, .inl (fun _ => 0))), (q2, .inl (eC (vE a) 0, 12, .inl (fun _ => 0))), (q3, .inl (eC (vE a) 0, 12, .inl (fun _ => 0))), (q4, .inl (eC (vE a) 0, 12, .inl (fun _ => 0))), (q5, .inl (eC (vE a) 0, 12, .inl (fun _ => 0))), (q6, .inl (eC (vE a) 0, 4, .inl (fun _ => 0))), (q7, .inl (eC (vE a) 0, 4, .inl (fun _ => 0))), (q8, .inl (eC (vE a) 0, 64, .inl (fun _ => 0))), (q9, .inl (eC (vE a) 0, 64, .inl (fun _ => 0))), (q10, .inl (eC (vE a) 0, 64, .inl (fun _ => 0))), (q11, .inl (eC (vE a) 0, 9, .inl (fun _ => 0))), (q12, .inl (eC (vE a) 1, 32, .inr (.inl (fun _ => 0))))]) rfl ?_
  refine g_aload_n X 0 rfl dX6_init_99 ?_
  refine g_bipush X (v := nI 25) dX6_init_100 (by decide) ?_
  refine g_newJ X w_aj (N := 25) (by decide) (ble rfl) (ble rfl) dX6_init_102 ?_
  intro q13
  refine g_putF X Y.2.2.1 (ci := 6) 0 19 rfl rfl inW6 tyX6 tyX6_ok nmX6 (by decide) fl_X6_47 rfl rfl (tyX6_ok 19 (by decide)) rfl rfl (ble rfl) dX6_init_104 ?_
  refine g_ws (ws' := [(h, .inr (6, [.ref q1, .ref q2, .ref q3, .ref q4, .ref q5, .int 0, .ref q6, .ref q7, .ref q8, .ref q9, .ref q10, .int 0, .ref q11, .ref q12, .int 0, .int 0, .int 0, .int 0, .int 0, .ref q13, .null, .null, .null, .null, .int 0, .int 0, .int 0, .null, .null, .null, .null, .null, .null, .int 0, .int 0, .long 0, .long 0])), (q1, .inl (eC (vE a) 0, 300, .inl (fun _ => 0))), (q2, .inl (eC (vE a) 0, 12, .inl (fun _ => 0))), (q3, .inl (eC (vE a) 0, 12, .inl (fun _ => 0))), (q4, .inl (eC (vE a) 0, 12, .inl (fun _ => 0))), (q5, .inl (eC (vE a) 0, 12, .inl (fun _ => 0))), (q6, .inl (eC (vE a) 0, 4, .inl (fun _ => 0))), (q7, .inl (eC (vE a) 0, 4, .inl (fun _ => 0))), (q8, .inl (eC (vE a) 0, 64, .inl (fun _ => 0))), (q9, .inl (eC (vE a) 0, 64, .inl (fun _ => 0))), (q10, .inl (eC (vE a) 0, 64, .inl (fun _ => 0))), (q11, .inl (eC (vE a) 0, 9, .inl (fun _ => 0))), (q12, .inl (eC (vE a) 1, 32, .inr (.inl (fun _ => 0)))), (q13, .inl (eC (vE a) 1, 25, .inr (.inl (fun _ => 0))))]) rfl ?_
  refine g_aload_n X 0 rfl dX6_init_107 ?_
  refine g_sipush X (v := nI 544) dX6_init_108 (by decide) ?_
  refine g_newI X w_ai (N := 544) (by decide) (ble rfl) (ble rfl) dX6_init_111 ?_
  intro q14
  refine g_putF X Y.2.2.1 (ci := 6) 0 20 rfl rfl inW6 tyX6 tyX6_ok nmX6 (by decide) fl_X6_50 rfl rfl (tyX6_ok 20 (by decide)) rfl rfl (ble rfl) dX6_init_113 ?_
  refine g_ws (ws' := [(h, .inr (6, [.ref q1, .ref q2, .ref q3, .ref q4, .ref q5, .int 0, .ref q6, .ref q7, .ref q8, .ref q9, .ref q10, .int 0, .ref q11, .ref q12, .int 0, .int 0, .int 0, .int 0, .int 0, .ref q13, .ref q14, .null, .null, .null, .int 0, .int 0, .int 0, .null, .null, .null, .null, .null, .null, .int 0, .int 0, .long 0, .long 0])), (q1, .inl (eC (vE a) 0, 300, .inl (fun _ => 0))), (q2, .inl (eC (vE a) 0, 12, .inl (fun _ => 0))), (q3, .inl (eC (vE a) 0, 12, .inl (fun _ => 0))), (q4, .inl (eC (vE a) 0, 12, .inl (fun _ => 0))), (q5, .inl (eC (vE a) 0, 12, .inl (fun _ => 0))), (q6, .inl (eC (vE a) 0, 4, .inl (fun _ => 0))), (q7, .inl (eC (vE a) 0, 4, .inl (fun _ => 0))), (q8, .inl (eC (vE a) 0, 64, .inl (fun _ => 0))), (q9, .inl (eC (vE a) 0, 64, .inl (fun _ => 0))), (q10, .inl (eC (vE a) 0, 64, .inl (fun _ => 0))), (q11, .inl (eC (vE a) 0, 9, .inl (fun _ => 0))), (q12, .inl (eC (vE a) 1, 32, .inr (.inl (fun _ => 0)))), (q13, .inl (eC (vE a) 1, 25, .inr (.inl (fun _ => 0)))), (q14, .inl (eC (vE a) 0, 544, .inl (fun _ => 0)))]) rfl ?_
  refine g_aload_n X 0 rfl dX6_init_116 ?_
  refine g_sipush X (v := nI 544) dX6_init_117 (by decide) ?_
  refine g_newJ X w_aj (N := 544) (by decide) (ble rfl) (ble rfl) dX6_init_120 ?_
  intro q15
  refine g_putF X Y.2.2.1 (ci := 6) 0 21 rfl rfl inW6 tyX6 tyX6_ok nmX6 (by decide) fl_X6_53 rfl rfl (tyX6_ok 21 (by decide)) rfl rfl (ble rfl) dX6_init_122 ?_
  refine g_ws (ws' := [(h, .inr (6, [.ref q1, .ref q2, .ref q3, .ref q4, .ref q5, .int 0, .ref q6, .ref q7, .ref q8, .ref q9, .ref q10, .int 0, .ref q11, .ref q12, .int 0, .int 0, .int 0, .int 0, .int 0, .ref q13, .ref q14, .ref q15, .null, .null, .int 0, .int 0, .int 0, .null, .null, .null, .null, .null, .null, .int 0, .int 0, .long 0, .long 0])), (q1, .inl (eC (vE a) 0, 300, .inl (fun _ => 0))), (q2, .inl (eC (vE a) 0, 12, .inl (fun _ => 0))), (q3, .inl (eC (vE a) 0, 12, .inl (fun _ => 0))), (q4, .inl (eC (vE a) 0, 12, .inl (fun _ => 0))), (q5, .inl (eC (vE a) 0, 12, .inl (fun _ => 0))), (q6, .inl (eC (vE a) 0, 4, .inl (fun _ => 0))), (q7, .inl (eC (vE a) 0, 4, .inl (fun _ => 0))), (q8, .inl (eC (vE a) 0, 64, .inl (fun _ => 0))), (q9, .inl (eC (vE a) 0, 64, .inl (fun _ => 0))), (q10, .inl (eC (vE a) 0, 64, .inl (fun _ => 0))), (q11, .inl (eC (vE a) 0, 9, .inl (fun _ => 0))), (q12, .inl (eC (vE a) 1, 32, .inr (.inl (fun _ => 0)))), (q13, .inl (eC (vE a) 1, 25, .inr (.inl (fun _ => 0)))), (q14, .inl (eC (vE a) 0, 544, .inl (fun _ => 0))), (q15, .inl (eC (vE a) 1, 544, .inr (.inl (fun _ => 0))))]) rfl ?_
  refine g_aload_n X 0 rfl dX6_init_125 ?_
  refine g_bipush X (v := nI 16) dX6_init_126 (by decide) ?_
  refine g_newI X w_ai (N := 16) (by decide) (ble rfl) (ble rfl) dX6_init_128 ?_
  intro q16
  refine g_putF X Y.2.2.1 (ci := 6) 0 22 rfl rfl inW6 tyX6 tyX6_ok nmX6 (by decide) fl_X6_56 rfl rfl (tyX6_ok 22 (by decide)) rfl rfl (ble rfl) dX6_init_130 ?_
  refine g_ws (ws' := [(h, .inr (6, [.ref q1, .ref q2, .ref q3, .ref q4, .ref q5, .int 0, .ref q6, .ref q7, .ref q8, .ref q9, .ref q10, .int 0, .ref q11, .ref q12, .int 0, .int 0, .int 0, .int 0, .int 0, .ref q13, .ref q14, .ref q15, .ref q16, .null, .int 0, .int 0, .int 0, .null, .null, .null, .null, .null, .null, .int 0, .int 0, .long 0, .long 0])), (q1, .inl (eC (vE a) 0, 300, .inl (fun _ => 0))), (q2, .inl (eC (vE a) 0, 12, .inl (fun _ => 0))), (q3, .inl (eC (vE a) 0, 12, .inl (fun _ => 0))), (q4, .inl (eC (vE a) 0, 12, .inl (fun _ => 0))), (q5, .inl (eC (vE a) 0, 12, .inl (fun _ => 0))), (q6, .inl (eC (vE a) 0, 4, .inl (fun _ => 0))), (q7, .inl (eC (vE a) 0, 4, .inl (fun _ => 0))), (q8, .inl (eC (vE a) 0, 64, .inl (fun _ => 0))), (q9, .inl (eC (vE a) 0, 64, .inl (fun _ => 0))), (q10, .inl (eC (vE a) 0, 64, .inl (fun _ => 0))), (q11, .inl (eC (vE a) 0, 9, .inl (fun _ => 0))), (q12, .inl (eC (vE a) 1, 32, .inr (.inl (fun _ => 0)))), (q13, .inl (eC (vE a) 1, 25, .inr (.inl (fun _ => 0)))), (q14, .inl (eC (vE a) 0, 544, .inl (fun _ => 0))), (q15, .inl (eC (vE a) 1, 544, .inr (.inl (fun _ => 0)))), (q16, .inl (eC (vE a) 0, 16, .inl (fun _ => 0)))]) rfl ?_
  refine g_aload_n X 0 rfl dX6_init_133 ?_
  refine g_bipush X (v := nI 16) dX6_init_134 (by decide) ?_
  refine g_newI X w_ai (N := 16) (by decide) (ble rfl) (ble rfl) dX6_init_136 ?_
  intro q17
  refine g_putF X Y.2.2.1 (ci := 6) 0 23 rfl rfl inW6 tyX6 tyX6_ok nmX6 (by decide) fl_X6_59 rfl rfl (tyX6_ok 23 (by decide)) rfl rfl (ble rfl) dX6_init_138 ?_
  refine g_ws (ws' := [(h, .inr (6, [.ref q1, .ref q2, .ref q3, .ref q4, .ref q5, .int 0, .ref q6, .ref q7, .ref q8, .ref q9, .ref q10, .int 0, .ref q11, .ref q12, .int 0, .int 0, .int 0, .int 0, .int 0, .ref q13, .ref q14, .ref q15, .ref q16, .ref q17, .int 0, .int 0, .int 0, .null, .null, .null, .null, .null, .null, .int 0, .int 0, .long 0, .long 0])), (q1, .inl (eC (vE a) 0, 300, .inl (fun _ => 0))), (q2, .inl (eC (vE a) 0, 12, .inl (fun _ => 0))), (q3, .inl (eC (vE a) 0, 12, .inl (fun _ => 0))), (q4, .inl (eC (vE a) 0, 12, .inl (fun _ => 0))), (q5, .inl (eC (vE a) 0, 12, .inl (fun _ => 0))), (q6, .inl (eC (vE a) 0, 4, .inl (fun _ => 0))), (q7, .inl (eC (vE a) 0, 4, .inl (fun _ => 0))), (q8, .inl (eC (vE a) 0, 64, .inl (fun _ => 0))), (q9, .inl (eC (vE a) 0, 64, .inl (fun _ => 0))), (q10, .inl (eC (vE a) 0, 64, .inl (fun _ => 0))), (q11, .inl (eC (vE a) 0, 9, .inl (fun _ => 0))), (q12, .inl (eC (vE a) 1, 32, .inr (.inl (fun _ => 0)))), (q13, .inl (eC (vE a) 1, 25, .inr (.inl (fun _ => 0)))), (q14, .inl (eC (vE a) 0, 544, .inl (fun _ => 0))), (q15, .inl (eC (vE a) 1, 544, .inr (.inl (fun _ => 0)))), (q16, .inl (eC (vE a) 0, 16, .inl (fun _ => 0))), (q17, .inl (eC (vE a) 0, 16, .inl (fun _ => 0)))]) rfl ?_
  refine g_aload_n X 0 rfl dX6_init_141 ?_
  refine g_bipush X (v := nI 9) dX6_init_142 (by decide) ?_
  refine g_newJ X w_aj (N := 9) (by decide) (ble rfl) (ble rfl) dX6_init_144 ?_
  intro q18
  refine g_putF X Y.2.2.1 (ci := 6) 0 27 rfl rfl inW6 tyX6 tyX6_ok nmX6 (by decide) fl_X6_62 rfl rfl (tyX6_ok 27 (by decide)) rfl rfl (ble rfl) dX6_init_146 ?_
  refine g_ws (ws' := [(h, .inr (6, [.ref q1, .ref q2, .ref q3, .ref q4, .ref q5, .int 0, .ref q6, .ref q7, .ref q8, .ref q9, .ref q10, .int 0, .ref q11, .ref q12, .int 0, .int 0, .int 0, .int 0, .int 0, .ref q13, .ref q14, .ref q15, .ref q16, .ref q17, .int 0, .int 0, .int 0, .ref q18, .null, .null, .null, .null, .null, .int 0, .int 0, .long 0, .long 0])), (q1, .inl (eC (vE a) 0, 300, .inl (fun _ => 0))), (q2, .inl (eC (vE a) 0, 12, .inl (fun _ => 0))), (q3, .inl (eC (vE a) 0, 12, .inl (fun _ => 0))), (q4, .inl (eC (vE a) 0, 12, .inl (fun _ => 0))), (q5, .inl (eC (vE a) 0, 12, .inl (fun _ => 0))), (q6, .inl (eC (vE a) 0, 4, .inl (fun _ => 0))), (q7, .inl (eC (vE a) 0, 4, .inl (fun _ => 0))), (q8, .inl (eC (vE a) 0, 64, .inl (fun _ => 0))), (q9, .inl (eC (vE a) 0, 64, .inl (fun _ => 0))), (q10, .inl (eC (vE a) 0, 64, .inl (fun _ => 0))), (q11, .inl (eC (vE a) 0, 9, .inl (fun _ => 0))), (q12, .inl (eC (vE a) 1, 32, .inr (.inl (fun _ => 0)))), (q13, .inl (eC (vE a) 1, 25, .inr (.inl (fun _ => 0)))), (q14, .inl (eC (vE a) 0, 544, .inl (fun _ => 0))), (q15, .inl (eC (vE a) 1, 544, .inr (.inl (fun _ => 0)))), (q16, .inl (eC (vE a) 0, 16, .inl (fun _ => 0))), (q17, .inl (eC (vE a) 0, 16, .inl (fun _ => 0))), (q18, .inl (eC (vE a) 1, 9, .inr (.inl (fun _ => 0))))]) rfl ?_
  refine g_aload_n X 0 rfl dX6_init_149 ?_
  refine g_bipush X (v := nI 9) dX6_init_150 (by decide) ?_
  refine g_newJ X w_aj (N := 9) (by decide) (ble rfl) (ble rfl) dX6_init_152 ?_
  intro q19
  refine g_putF X Y.2.2.1 (ci := 6) 0 28 rfl rfl inW6 tyX6 tyX6_ok nmX6 (by decide) fl_X6_65 rfl rfl (tyX6_ok 28 (by decide)) rfl rfl (ble rfl) dX6_init_154 ?_
  refine g_ws (ws' := [(h, .inr (6, [.ref q1, .ref q2, .ref q3, .ref q4, .ref q5, .int 0, .ref q6, .ref q7, .ref q8, .ref q9, .ref q10, .int 0, .ref q11, .ref q12, .int 0, .int 0, .int 0, .int 0, .int 0, .ref q13, .ref q14, .ref q15, .ref q16, .ref q17, .int 0, .int 0, .int 0, .ref q18, .ref q19, .null, .null, .null, .null, .int 0, .int 0, .long 0, .long 0])), (q1, .inl (eC (vE a) 0, 300, .inl (fun _ => 0))), (q2, .inl (eC (vE a) 0, 12, .inl (fun _ => 0))), (q3, .inl (eC (vE a) 0, 12, .inl (fun _ => 0))), (q4, .inl (eC (vE a) 0, 12, .inl (fun _ => 0))), (q5, .inl (eC (vE a) 0, 12, .inl (fun _ => 0))), (q6, .inl (eC (vE a) 0, 4, .inl (fun _ => 0))), (q7, .inl (eC (vE a) 0, 4, .inl (fun _ => 0))), (q8, .inl (eC (vE a) 0, 64, .inl (fun _ => 0))), (q9, .inl (eC (vE a) 0, 64, .inl (fun _ => 0))), (q10, .inl (eC (vE a) 0, 64, .inl (fun _ => 0))), (q11, .inl (eC (vE a) 0, 9, .inl (fun _ => 0))), (q12, .inl (eC (vE a) 1, 32, .inr (.inl (fun _ => 0)))), (q13, .inl (eC (vE a) 1, 25, .inr (.inl (fun _ => 0)))), (q14, .inl (eC (vE a) 0, 544, .inl (fun _ => 0))), (q15, .inl (eC (vE a) 1, 544, .inr (.inl (fun _ => 0)))), (q16, .inl (eC (vE a) 0, 16, .inl (fun _ => 0))), (q17, .inl (eC (vE a) 0, 16, .inl (fun _ => 0))), (q18, .inl (eC (vE a) 1, 9, .inr (.inl (fun _ => 0)))), (q19, .inl (eC (vE a) 1, 9, .inr (.inl (fun _ => 0))))]) rfl ?_
  refine g_aload_n X 0 rfl dX6_init_157 ?_
  refine g_bipush X (v := nI 12) dX6_init_158 (by decide) ?_
  refine g_newJ X w_aj (N := 12) (by decide) (ble rfl) (ble rfl) dX6_init_160 ?_
  intro q20
  refine g_putF X Y.2.2.1 (ci := 6) 0 29 rfl rfl inW6 tyX6 tyX6_ok nmX6 (by decide) fl_X6_68 rfl rfl (tyX6_ok 29 (by decide)) rfl rfl (ble rfl) dX6_init_162 ?_
  refine g_ws (ws' := [(h, .inr (6, [.ref q1, .ref q2, .ref q3, .ref q4, .ref q5, .int 0, .ref q6, .ref q7, .ref q8, .ref q9, .ref q10, .int 0, .ref q11, .ref q12, .int 0, .int 0, .int 0, .int 0, .int 0, .ref q13, .ref q14, .ref q15, .ref q16, .ref q17, .int 0, .int 0, .int 0, .ref q18, .ref q19, .ref q20, .null, .null, .null, .int 0, .int 0, .long 0, .long 0])), (q1, .inl (eC (vE a) 0, 300, .inl (fun _ => 0))), (q2, .inl (eC (vE a) 0, 12, .inl (fun _ => 0))), (q3, .inl (eC (vE a) 0, 12, .inl (fun _ => 0))), (q4, .inl (eC (vE a) 0, 12, .inl (fun _ => 0))), (q5, .inl (eC (vE a) 0, 12, .inl (fun _ => 0))), (q6, .inl (eC (vE a) 0, 4, .inl (fun _ => 0))), (q7, .inl (eC (vE a) 0, 4, .inl (fun _ => 0))), (q8, .inl (eC (vE a) 0, 64, .inl (fun _ => 0))), (q9, .inl (eC (vE a) 0, 64, .inl (fun _ => 0))), (q10, .inl (eC (vE a) 0, 64, .inl (fun _ => 0))), (q11, .inl (eC (vE a) 0, 9, .inl (fun _ => 0))), (q12, .inl (eC (vE a) 1, 32, .inr (.inl (fun _ => 0)))), (q13, .inl (eC (vE a) 1, 25, .inr (.inl (fun _ => 0)))), (q14, .inl (eC (vE a) 0, 544, .inl (fun _ => 0))), (q15, .inl (eC (vE a) 1, 544, .inr (.inl (fun _ => 0)))), (q16, .inl (eC (vE a) 0, 16, .inl (fun _ => 0))), (q17, .inl (eC (vE a) 0, 16, .inl (fun _ => 0))), (q18, .inl (eC (vE a) 1, 9, .inr (.inl (fun _ => 0)))), (q19, .inl (eC (vE a) 1, 9, .inr (.inl (fun _ => 0)))), (q20, .inl (eC (vE a) 1, 12, .inr (.inl (fun _ => 0))))]) rfl ?_
  refine g_aload_n X 0 rfl dX6_init_165 ?_
  refine g_bipush X (v := nI 12) dX6_init_166 (by decide) ?_
  refine g_newJ X w_aj (N := 12) (by decide) (ble rfl) (ble rfl) dX6_init_168 ?_
  intro q21
  refine g_putF X Y.2.2.1 (ci := 6) 0 30 rfl rfl inW6 tyX6 tyX6_ok nmX6 (by decide) fl_X6_71 rfl rfl (tyX6_ok 30 (by decide)) rfl rfl (ble rfl) dX6_init_170 ?_
  refine g_ws (ws' := [(h, .inr (6, [.ref q1, .ref q2, .ref q3, .ref q4, .ref q5, .int 0, .ref q6, .ref q7, .ref q8, .ref q9, .ref q10, .int 0, .ref q11, .ref q12, .int 0, .int 0, .int 0, .int 0, .int 0, .ref q13, .ref q14, .ref q15, .ref q16, .ref q17, .int 0, .int 0, .int 0, .ref q18, .ref q19, .ref q20, .ref q21, .null, .null, .int 0, .int 0, .long 0, .long 0])), (q1, .inl (eC (vE a) 0, 300, .inl (fun _ => 0))), (q2, .inl (eC (vE a) 0, 12, .inl (fun _ => 0))), (q3, .inl (eC (vE a) 0, 12, .inl (fun _ => 0))), (q4, .inl (eC (vE a) 0, 12, .inl (fun _ => 0))), (q5, .inl (eC (vE a) 0, 12, .inl (fun _ => 0))), (q6, .inl (eC (vE a) 0, 4, .inl (fun _ => 0))), (q7, .inl (eC (vE a) 0, 4, .inl (fun _ => 0))), (q8, .inl (eC (vE a) 0, 64, .inl (fun _ => 0))), (q9, .inl (eC (vE a) 0, 64, .inl (fun _ => 0))), (q10, .inl (eC (vE a) 0, 64, .inl (fun _ => 0))), (q11, .inl (eC (vE a) 0, 9, .inl (fun _ => 0))), (q12, .inl (eC (vE a) 1, 32, .inr (.inl (fun _ => 0)))), (q13, .inl (eC (vE a) 1, 25, .inr (.inl (fun _ => 0)))), (q14, .inl (eC (vE a) 0, 544, .inl (fun _ => 0))), (q15, .inl (eC (vE a) 1, 544, .inr (.inl (fun _ => 0)))), (q16, .inl (eC (vE a) 0, 16, .inl (fun _ => 0))), (q17, .inl (eC (vE a) 0, 16, .inl (fun _ => 0))), (q18, .inl (eC (vE a) 1, 9, .inr (.inl (fun _ => 0)))), (q19, .inl (eC (vE a) 1, 9, .inr (.inl (fun _ => 0)))), (q20, .inl (eC (vE a) 1, 12, .inr (.inl (fun _ => 0)))), (q21, .inl (eC (vE a) 1, 12, .inr (.inl (fun _ => 0))))]) rfl ?_
  refine g_aload_n X 0 rfl dX6_init_173 ?_
  refine g_bipush X (v := nI 12) dX6_init_174 (by decide) ?_
  refine g_newI X w_ai (N := 12) (by decide) (ble rfl) (ble rfl) dX6_init_176 ?_
  intro q22
  refine g_putF X Y.2.2.1 (ci := 6) 0 31 rfl rfl inW6 tyX6 tyX6_ok nmX6 (by decide) fl_X6_74 rfl rfl (tyX6_ok 31 (by decide)) rfl rfl (ble rfl) dX6_init_178 ?_
  refine g_ws (ws' := [(h, .inr (6, [.ref q1, .ref q2, .ref q3, .ref q4, .ref q5, .int 0, .ref q6, .ref q7, .ref q8, .ref q9, .ref q10, .int 0, .ref q11, .ref q12, .int 0, .int 0, .int 0, .int 0, .int 0, .ref q13, .ref q14, .ref q15, .ref q16, .ref q17, .int 0, .int 0, .int 0, .ref q18, .ref q19, .ref q20, .ref q21, .ref q22, .null, .int 0, .int 0, .long 0, .long 0])), (q1, .inl (eC (vE a) 0, 300, .inl (fun _ => 0))), (q2, .inl (eC (vE a) 0, 12, .inl (fun _ => 0))), (q3, .inl (eC (vE a) 0, 12, .inl (fun _ => 0))), (q4, .inl (eC (vE a) 0, 12, .inl (fun _ => 0))), (q5, .inl (eC (vE a) 0, 12, .inl (fun _ => 0))), (q6, .inl (eC (vE a) 0, 4, .inl (fun _ => 0))), (q7, .inl (eC (vE a) 0, 4, .inl (fun _ => 0))), (q8, .inl (eC (vE a) 0, 64, .inl (fun _ => 0))), (q9, .inl (eC (vE a) 0, 64, .inl (fun _ => 0))), (q10, .inl (eC (vE a) 0, 64, .inl (fun _ => 0))), (q11, .inl (eC (vE a) 0, 9, .inl (fun _ => 0))), (q12, .inl (eC (vE a) 1, 32, .inr (.inl (fun _ => 0)))), (q13, .inl (eC (vE a) 1, 25, .inr (.inl (fun _ => 0)))), (q14, .inl (eC (vE a) 0, 544, .inl (fun _ => 0))), (q15, .inl (eC (vE a) 1, 544, .inr (.inl (fun _ => 0)))), (q16, .inl (eC (vE a) 0, 16, .inl (fun _ => 0))), (q17, .inl (eC (vE a) 0, 16, .inl (fun _ => 0))), (q18, .inl (eC (vE a) 1, 9, .inr (.inl (fun _ => 0)))), (q19, .inl (eC (vE a) 1, 9, .inr (.inl (fun _ => 0)))), (q20, .inl (eC (vE a) 1, 12, .inr (.inl (fun _ => 0)))), (q21, .inl (eC (vE a) 1, 12, .inr (.inl (fun _ => 0)))), (q22, .inl (eC (vE a) 0, 12, .inl (fun _ => 0)))]) rfl ?_
  refine g_aload_n X 0 rfl dX6_init_181 ?_
  refine g_bipush X (v := nI 12) dX6_init_182 (by decide) ?_
  refine g_newI X w_ai (N := 12) (by decide) (ble rfl) (ble rfl) dX6_init_184 ?_
  intro q23
  refine g_putF X Y.2.2.1 (ci := 6) 0 32 rfl rfl inW6 tyX6 tyX6_ok nmX6 (by decide) fl_X6_77 rfl rfl (tyX6_ok 32 (by decide)) rfl rfl (ble rfl) dX6_init_186 ?_
  refine g_ws (ws' := [(h, .inr (6, [.ref q1, .ref q2, .ref q3, .ref q4, .ref q5, .int 0, .ref q6, .ref q7, .ref q8, .ref q9, .ref q10, .int 0, .ref q11, .ref q12, .int 0, .int 0, .int 0, .int 0, .int 0, .ref q13, .ref q14, .ref q15, .ref q16, .ref q17, .int 0, .int 0, .int 0, .ref q18, .ref q19, .ref q20, .ref q21, .ref q22, .ref q23, .int 0, .int 0, .long 0, .long 0])), (q1, .inl (eC (vE a) 0, 300, .inl (fun _ => 0))), (q2, .inl (eC (vE a) 0, 12, .inl (fun _ => 0))), (q3, .inl (eC (vE a) 0, 12, .inl (fun _ => 0))), (q4, .inl (eC (vE a) 0, 12, .inl (fun _ => 0))), (q5, .inl (eC (vE a) 0, 12, .inl (fun _ => 0))), (q6, .inl (eC (vE a) 0, 4, .inl (fun _ => 0))), (q7, .inl (eC (vE a) 0, 4, .inl (fun _ => 0))), (q8, .inl (eC (vE a) 0, 64, .inl (fun _ => 0))), (q9, .inl (eC (vE a) 0, 64, .inl (fun _ => 0))), (q10, .inl (eC (vE a) 0, 64, .inl (fun _ => 0))), (q11, .inl (eC (vE a) 0, 9, .inl (fun _ => 0))), (q12, .inl (eC (vE a) 1, 32, .inr (.inl (fun _ => 0)))), (q13, .inl (eC (vE a) 1, 25, .inr (.inl (fun _ => 0)))), (q14, .inl (eC (vE a) 0, 544, .inl (fun _ => 0))), (q15, .inl (eC (vE a) 1, 544, .inr (.inl (fun _ => 0)))), (q16, .inl (eC (vE a) 0, 16, .inl (fun _ => 0))), (q17, .inl (eC (vE a) 0, 16, .inl (fun _ => 0))), (q18, .inl (eC (vE a) 1, 9, .inr (.inl (fun _ => 0)))), (q19, .inl (eC (vE a) 1, 9, .inr (.inl (fun _ => 0)))), (q20, .inl (eC (vE a) 1, 12, .inr (.inl (fun _ => 0)))), (q21, .inl (eC (vE a) 1, 12, .inr (.inl (fun _ => 0)))), (q22, .inl (eC (vE a) 0, 12, .inl (fun _ => 0))), (q23, .inl (eC (vE a) 0, 12, .inl (fun _ => 0)))]) rfl ?_
  exact g_vret X Y dX6_init_189 ⟨q1, q2, q3, q4, q5, q6, q7, q8, q9, q10, q11, q12, q13, q14, q15, q16, q17, q18, q19, q20, q21, q22, q23, rfl⟩ rfl rfl
