theorem fill_s {J : TI} {k j i : Nat} {v : Int32} (h : ∀ x, x < i → J k j x = v) : ∀ x, x < i + 1 → upI J k j i v k j x = v := fun x hx => by
  by_cases e : x = i
  · rw [e]; exact upI_eq
  · exact (upI_x e).trans (h x (by omega))
set_option maxHeartbeats 4000000 in
set_option maxRecDepth 100000 in
theorem c_J7_fill_3 (l : Launch) (E : VE) (hE : EOk E) (I : TI) (L : TL) (t : Nat) (ht : t < 12) (v : Int32) : Ct l E yJ7_fill_53178 cJ7_fill_53178 4 none rm_J7_fill_53178 [.ref (eA E 3 t), .int v] I L (fun r I' L' => r = none ∧ Fr [(3, t)] I I' ∧ (∀ x, x < 25 → I' 3 t x = v) ∧ L' = L) := by
  refine ct_of (by decide +kernel) (Nat.le_of_ble_eq_true rfl) hE ?_
  intro a X Y hl hEE
  subst hl; subst hEE
  show V a 0 [(0, .ref (eA (vE a) 3 t)), (1, .int v)] [] I L
  refine v_iconst X (v := (nI 0)) dJ7_fill_53178_0 (by decide) ?_
  refine v_istore_n X [1, 2, 0] (lv' := [(0, .ref (eA (vE a) 3 t)), (1, .int v), (2, .int (nI 0))]) (by decide) rfl dJ7_fill_53178_1 ?_
  refine v_aload_n X 0 rfl dJ7_fill_53178_2 ?_
  refine v_aleni X (dl_3 ht) (fun _ _ => rfl) (v := nI 25) rfl dJ7_fill_53178_3 ?_
  refine v_istore_n X [1, 2, 3, 0] (lv' := [(0, .ref (eA (vE a) 3 t)), (1, .int v), (2, .int (nI 0)), (3, .int (nI 25))]) (by decide) rfl dJ7_fill_53178_4 ?_
  have loop5 : ∀ (fu : Nat) (i : Nat) (I1 : TI), 25 - i < fu → (i ≤ 25) → (Fr [(3, t)] I I1) → (∀ x, x < i → I1 3 t x = v) → V a 5 [(0, .ref (eA (vE a) 3 t)), (1, .int v), (2, .int (nI i)), (3, .int (nI 25))] [] I1 L := by
    intro fu
    induction fu with
    | zero => intro i I1 hm _ _ _; exact absurd hm (Nat.not_lt_zero _)
    | succ fu ih5 =>
      intro i I1 hm5 hi hF hv
      refine v_iload_n X 2 rfl dJ7_fill_53178_5 ?_
      refine v_iload_n X 3 rfl dJ7_fill_53178_6 ?_
      refine v_icmp_ge_n X (by omega) (by omega) dJ7_fill_53178_7 (tgt := 20) (by decide) (fun h7 => ?_) (fun h7 => ?_)
      · exact v_vret X Y dJ7_fill_53178_20 (⟨rfl, hF, fun x hx => hv x (by omega), rfl⟩)
      · refine v_aload_n X 0 rfl dJ7_fill_53178_10 ?_
        refine v_iload_n X 2 rfl dJ7_fill_53178_11 ?_
        refine v_iload_n X 1 rfl dJ7_fill_53178_12 ?_
        refine v_iast_n X (dl_3 ht) (fun _ _ => rfl) (n := 25) (by omega) (by decide) dJ7_fill_53178_13 ?_
        refine v_iinc X [1, 2, 0, 3] 2 (nI (i + 1)) (lv' := [(0, .ref (eA (vE a) 3 t)), (1, .int v), (2, .int (nI (i + 1))), (3, .int (nI 25))]) rfl (nI_1 _) (by decide) rfl dJ7_fill_53178_14 ?_
        refine v_goto X (tgt := 5) dJ7_fill_53178_17 (by decide) ?_
        exact ih5 (i + 1) (upI I1 3 t i v) (by omega) (by omega) (hF.up (by simp)) (fill_s hv)
  exact loop5 _ 0 I (Nat.lt_succ_self _) (Nat.zero_le _) Fr.rf (fun x hx => absurd hx (Nat.not_lt_zero _))
set_option maxHeartbeats 4000000 in
set_option maxRecDepth 100000 in
theorem c_J7_fill_9 (l : Launch) (E : VE) (hE : EOk E) (I : TI) (L : TL) (v : Int32) : Ct l E yJ7_fill_53178 cJ7_fill_53178 4 none rm_J7_fill_53178 [.ref (eA E 9 0), .int v] I L (fun r I' L' => r = none ∧ Fr [(9, 0)] I I' ∧ (∀ x, x < 16 → I' 9 0 x = v) ∧ L' = L) := by
  refine ct_of (by decide +kernel) (Nat.le_of_ble_eq_true rfl) hE ?_
  intro a X Y hl hEE
  subst hl; subst hEE
  show V a 0 [(0, .ref (eA (vE a) 9 0)), (1, .int v)] [] I L
  refine v_iconst X (v := (nI 0)) dJ7_fill_53178_0 (by decide) ?_
  refine v_istore_n X [1, 2, 0] (lv' := [(0, .ref (eA (vE a) 9 0)), (1, .int v), (2, .int (nI 0))]) (by decide) rfl dJ7_fill_53178_1 ?_
  refine v_aload_n X 0 rfl dJ7_fill_53178_2 ?_
  refine v_aleni X dl_9 (fun _ _ => rfl) (v := nI 16) rfl dJ7_fill_53178_3 ?_
  refine v_istore_n X [1, 2, 3, 0] (lv' := [(0, .ref (eA (vE a) 9 0)), (1, .int v), (2, .int (nI 0)), (3, .int (nI 16))]) (by decide) rfl dJ7_fill_53178_4 ?_
  have loop5 : ∀ (fu : Nat) (i : Nat) (I1 : TI), 16 - i < fu → (i ≤ 16) → (Fr [(9, 0)] I I1) → (∀ x, x < i → I1 9 0 x = v) → V a 5 [(0, .ref (eA (vE a) 9 0)), (1, .int v), (2, .int (nI i)), (3, .int (nI 16))] [] I1 L := by
    intro fu
    induction fu with
    | zero => intro i I1 hm _ _ _; exact absurd hm (Nat.not_lt_zero _)
    | succ fu ih5 =>
      intro i I1 hm5 hi hF hv
      refine v_iload_n X 2 rfl dJ7_fill_53178_5 ?_
      refine v_iload_n X 3 rfl dJ7_fill_53178_6 ?_
      refine v_icmp_ge_n X (by omega) (by omega) dJ7_fill_53178_7 (tgt := 20) (by decide) (fun h7 => ?_) (fun h7 => ?_)
      · exact v_vret X Y dJ7_fill_53178_20 (⟨rfl, hF, fun x hx => hv x (by omega), rfl⟩)
      · refine v_aload_n X 0 rfl dJ7_fill_53178_10 ?_
        refine v_iload_n X 2 rfl dJ7_fill_53178_11 ?_
        refine v_iload_n X 1 rfl dJ7_fill_53178_12 ?_
        refine v_iast_n X dl_9 (fun _ _ => rfl) (n := 16) (by omega) (by decide) dJ7_fill_53178_13 ?_
        refine v_iinc X [1, 2, 0, 3] 2 (nI (i + 1)) (lv' := [(0, .ref (eA (vE a) 9 0)), (1, .int v), (2, .int (nI (i + 1))), (3, .int (nI 16))]) rfl (nI_1 _) (by decide) rfl dJ7_fill_53178_14 ?_
        refine v_goto X (tgt := 5) dJ7_fill_53178_17 (by decide) ?_
        exact ih5 (i + 1) (upI I1 9 0 i v) (by omega) (by omega) (hF.up (by simp)) (fill_s hv)
  exact loop5 _ 0 I (Nat.lt_succ_self _) (Nat.zero_le _) Fr.rf (fun x hx => absurd hx (Nat.not_lt_zero _))
set_option maxHeartbeats 4000000 in
set_option maxRecDepth 100000 in
theorem c_X0_begin (l : Launch) (E : VE) (hE : EOk E) (I : TI) (L : TL) (t : Nat) (ht : t < 12) (n m kd : Int32) : Ct l E yX0_begin cX0_begin 4 none rm_X0_begin [.ref (eA E 2 t), .int n, .int m, .int kd] I L (fun r I' L' => r = none ∧ Fr [(2, t), (3, t)] I I' ∧ I' 2 t 1 = n ∧ I' 2 t 2 = m ∧ I' 2 t 3 = kd ∧ I' 2 t 4 = -1 ∧ I' 2 t 5 = nI 1 ∧ (∀ x, x < 25 → I' 3 t x = nI 0) ∧ L' = L) := by
  refine ct_of (by decide +kernel) (Nat.le_of_ble_eq_true rfl) hE ?_
  intro a X Y hl hEE
  subst hl; subst hEE
  show V a 0 [(0, .ref (eA (vE a) 2 t)), (1, .int n), (2, .int m), (3, .int kd)] [] I L
  refine v_aload_n X 0 rfl dX0_begin_0 ?_
  refine v_iload_n X 1 rfl dX0_begin_1 ?_
  refine pf_X0_15 X ht dX0_begin_2 ?_
  refine v_aload_n X 0 rfl dX0_begin_5 ?_
  refine v_iload_n X 2 rfl dX0_begin_6 ?_
  refine pf_X0_19 X ht dX0_begin_7 ?_
  refine v_aload_n X 0 rfl dX0_begin_10 ?_
  refine v_iload_n X 3 rfl dX0_begin_11 ?_
  refine pf_X0_22 X ht dX0_begin_12 ?_
  refine v_aload_n X 0 rfl dX0_begin_15 ?_
  refine v_iconst X (v := (-1)) dX0_begin_16 (by decide) ?_
  refine pf_X0_25 X ht dX0_begin_17 ?_
  refine v_aload_n X 0 rfl dX0_begin_20 ?_
  refine v_iconst X (v := (nI 1)) dX0_begin_21 (by decide) ?_
  refine pf_X0_28 X ht rfl dX0_begin_22 ?_
  refine v_aload_n X 0 rfl dX0_begin_25 ?_
  refine gf_X0_9 X ht dX0_begin_26 ?_
  refine v_iconst X (v := (nI 0)) dX0_begin_29 (by decide) ?_
  refine v_callS X (c_J7_fill_3 _ _ hE _ _ t ht (nI 0)) k_X0_32 ⟨rfl, rfl, Nat.le_of_ble_eq_true rfl, Nat.le_of_ble_eq_true rfl⟩ (As := [.ref (eA (vE a) 3 t), .int (nI 0)]) (rest := []) rfl rfl (Nat.le_of_ble_eq_true rfl) dX0_begin_30 (fun r30 I30 L30 hp30 => ?_)
  obtain ⟨rfl, hF30, hv30, e2⟩ := hp30
  have e2 := e2.symm
  subst e2
  refine v_st (st' := []) rfl ?_
  exact v_vret X Y dX0_begin_33 (⟨rfl, Fr.tr ((((((Fr.rf.up (by simp)).up (by simp)).up (by simp)).up (by simp)).up (by simp))) (hF30.mono (by simp)), by rw [hF30.at (by simp)]; simp [upI], by rw [hF30.at (by simp)]; simp [upI], by rw [hF30.at (by simp)]; simp [upI], by rw [hF30.at (by simp)]; simp [upI], by rw [hF30.at (by simp)]; simp [upI], hv30, rfl⟩)
set_option maxHeartbeats 4000000 in
set_option maxRecDepth 100000 in
theorem c_X0_reaches (l : Launch) (E : VE) (hE : EOk E) (I : TI) (L : TL) (t : Nat) (ht : t < 12) (r c : Nat) (hr : I 2 t 1 = nI r) (hc : I 2 t 2 = nI c) (i j : Int32) : Ct l E yX0_reaches cX0_reaches 3 (some .boolean) rm_X0_reaches [.ref (eA E 2 t), .int i, .int j] I L (fun r9 I' L' => r9 = some (.int (bI (inR r i ∧ inR c j))) ∧ I' = I ∧ L' = L) := by
  refine ct_of (by decide +kernel) (Nat.le_of_ble_eq_true rfl) hE ?_
  intro a X Y hl hEE
  subst hl; subst hEE
  show V a 0 [(0, .ref (eA (vE a) 2 t)), (1, .int i), (2, .int j)] [] I L
  refine v_iload_n X 1 rfl dX0_reaches_0 ?_
  refine v_if_lt X dX0_reaches_1 (tgt := 28) (by decide) (fun h1 => ?_) (fun h1 => ?_)
  · refine v_iconst X (v := (nI 0)) dX0_reaches_28 (by decide) ?_
    exact v_zret X Y (rfl) dX0_reaches_29 (⟨retF fun q => absurd q.1.1 (Int32.not_le.mpr h1), rfl, rfl⟩)
  · refine v_iload_n X 1 rfl dX0_reaches_4 ?_
    refine v_aload_n X 0 rfl dX0_reaches_5 ?_
    refine gf_X0_15 X ht dX0_reaches_6 ?_
    refine v_eqi (y := (nI r)) (hr) ?_
    refine v_icmp_ge X dX0_reaches_9 (tgt := 28) (by decide) (fun h9 => ?_) (fun h9 => ?_)
    · refine v_iconst X (v := (nI 0)) dX0_reaches_28 (by decide) ?_
      exact v_zret X Y (rfl) dX0_reaches_29 (⟨retF fun q => absurd q.1.2 (Int32.not_lt.mpr h9), rfl, rfl⟩)
    · refine v_iload_n X 2 rfl dX0_reaches_12 ?_
      refine v_if_lt X dX0_reaches_13 (tgt := 28) (by decide) (fun h13 => ?_) (fun h13 => ?_)
      · refine v_iconst X (v := (nI 0)) dX0_reaches_28 (by decide) ?_
        exact v_zret X Y (rfl) dX0_reaches_29 (⟨retF fun q => absurd q.2.1 (Int32.not_le.mpr h13), rfl, rfl⟩)
      · refine v_iload_n X 2 rfl dX0_reaches_16 ?_
        refine v_aload_n X 0 rfl dX0_reaches_17 ?_
        refine gf_X0_19 X ht dX0_reaches_18 ?_
        refine v_eqi (y := (nI c)) (hc) ?_
        refine v_icmp_ge X dX0_reaches_21 (tgt := 28) (by decide) (fun h21 => ?_) (fun h21 => ?_)
        · refine v_iconst X (v := (nI 0)) dX0_reaches_28 (by decide) ?_
          exact v_zret X Y (rfl) dX0_reaches_29 (⟨retF fun q => absurd q.2.2 (Int32.not_lt.mpr h21), rfl, rfl⟩)
        · refine v_iconst X (v := (nI 1)) dX0_reaches_24 (by decide) ?_
          refine v_goto X (tgt := 29) dX0_reaches_25 (by decide) ?_
          exact v_zret X Y (rfl) dX0_reaches_29 (⟨retT ⟨⟨Int32.not_lt.mp h1, Int32.not_le.mp h9⟩, ⟨Int32.not_lt.mp h13, Int32.not_le.mp h21⟩⟩, rfl, rfl⟩)
set_option maxHeartbeats 4000000 in
set_option maxRecDepth 100000 in
theorem c_X0_number (l : Launch) (E : VE) (hE : EOk E) (I : TI) (L : TL) (t : Nat) (ht : t < 12) (r c : Nat) (hr : I 2 t 1 = nI r) (hc : I 2 t 2 = nI c) (hr5 : r ≤ 5) (hc5 : c ≤ 5) (i j : Nat) (hi : i < r) (hj : j < c) : Ct l E yX0_number cX0_number 3 (some .int) rm_X0_number [.ref (eA E 2 t), .int (nI i), .int (nI j)] I L (fun r9 I' L' => r9 = some (.int (I 3 t (5 * i + j))) ∧ I' = I ∧ L' = L) := by
  refine ct_of (by decide +kernel) (Nat.le_of_ble_eq_true rfl) hE ?_
  intro a X Y hl hEE
  subst hl; subst hEE
  show V a 0 [(0, .ref (eA (vE a) 2 t)), (1, .int (nI i)), (2, .int (nI j))] [] I L
  refine v_aload_n X 0 rfl dX0_number_0 ?_
  refine v_iload_n X 1 rfl dX0_number_1 ?_
  refine v_iload_n X 2 rfl dX0_number_2 ?_
  refine v_callV X (c_X0_reaches _ _ hE _ _ t ht r c (hr) (hc) (nI i) (nI j)) k_X0_38 (dl_2 ht) (cef_2 _ _ _ _) rfl ⟨rfl, rfl, Nat.le_of_ble_eq_true rfl, Nat.le_of_ble_eq_true rfl⟩ (As := [.int (nI i), .int (nI j)]) (rest := []) rfl rfl (Nat.le_of_ble_eq_true rfl) dX0_number_3 (fun r3 I3 L3 hp3 => ?_)
  obtain ⟨rfl, e1, e2⟩ := hp3
  have e1 := e1.symm
  have e2 := e2.symm
  subst e1; subst e2
  refine v_st (st' := [.int (bI (inR r (nI i) ∧ inR c (nI j)))]) rfl ?_
  refine v_ifb_eq X dX0_number_6 (tgt := 22) (by decide) (fun h6 => ?_) (fun h6 => ?_)
  · exact absurd ⟨(inR_n (by omega) (by omega)).mpr hi, (inR_n (by omega) (by omega)).mpr hj⟩ h6
  · refine v_aload_n X 0 rfl dX0_number_9 ?_
    refine gf_X0_9 X ht dX0_number_10 ?_
    refine v_iconst X (v := (nI 5)) dX0_number_13 (by decide) ?_
    refine v_iload_n X 1 rfl dX0_number_14 ?_
    refine v_imul X dX0_number_15 ?_
    refine v_eqi (y := (nI (5 * i))) (pk_mul _ _) ?_
    refine v_iload_n X 2 rfl dX0_number_16 ?_
    refine v_iadd X dX0_number_17 ?_
    refine v_eqi (y := (nI ((5 * i) + j))) (nI_add _ _) ?_
    refine v_iald_n X (dl_3 ht) (fun _ _ => rfl) (n := 25) (by omega) (by decide) dX0_number_18 ?_
    refine v_goto X (tgt := 23) dX0_number_19 (by decide) ?_
    exact v_iret X Y dX0_number_23 (⟨rfl, rfl, rfl⟩)
set_option maxHeartbeats 4000000 in
set_option maxRecDepth 100000 in
theorem c_X0_put (l : Launch) (E : VE) (hE : EOk E) (I : TI) (L : TL) (t : Nat) (ht : t < 12) (r c : Nat) (hr : I 2 t 1 = nI r) (hc : I 2 t 2 = nI c) (hr5 : r ≤ 5) (hc5 : c ≤ 5) (i j : Nat) (hi : i < r) (hj : j < c) (v : Int64) : Ct l E yX0_put cX0_put 5 none rm_X0_put [.ref (eA E 2 t), .int (nI i), .int (nI j), .long v] I L (fun r9 I' L' => r9 = none ∧ I' = (if -1000 ≤ v ∧ v ≤ 1000 then upI I 3 t (5 * i + j) v.toInt32 else upI I 2 t 5 (nI 0)) ∧ L' = L) := by
  refine ct_of (by decide +kernel) (Nat.le_of_ble_eq_true rfl) hE ?_
  intro a X Y hl hEE
  subst hl; subst hEE
  show V a 0 [(0, .ref (eA (vE a) 2 t)), (1, .int (nI i)), (2, .int (nI j)), (3, .long v)] [] I L
  refine v_lload_n X 3 rfl dX0_put_0 ?_
  refine v_callN X (c_X5_isNumber _ _ hE _ _ v) k_X0_42 ⟨rfl, rfl, Nat.le_of_ble_eq_true rfl, Nat.le_of_ble_eq_true rfl⟩ (As := [.long v]) (rest := []) rfl rfl (Nat.le_of_ble_eq_true rfl) dX0_put_1 (fun r1 I1 L1 hp1 => ?_)
  obtain ⟨rfl, e1, e2⟩ := hp1
  have e1 := e1.symm
  have e2 := e2.symm
  subst e1; subst e2
  refine v_st (st' := [.int (bI (-1000 ≤ v ∧ v ≤ 1000))]) rfl ?_
  refine v_ifb_ne X dX0_put_4 (tgt := 15) (by decide) (fun h4 => ?_) (fun h4 => ?_)
  · refine v_aload_n X 0 rfl dX0_put_15 ?_
    refine v_iload_n X 1 rfl dX0_put_16 ?_
    refine v_iload_n X 2 rfl dX0_put_17 ?_
    refine v_callV X (c_X0_reaches _ _ hE _ _ t ht r c (hr) (hc) (nI i) (nI j)) k_X0_38 (dl_2 ht) (cef_2 _ _ _ _) rfl ⟨rfl, rfl, Nat.le_of_ble_eq_true rfl, Nat.le_of_ble_eq_true rfl⟩ (As := [.int (nI i), .int (nI j)]) (rest := []) rfl rfl (Nat.le_of_ble_eq_true rfl) dX0_put_18 (fun r18 I18 L18 hp18 => ?_)
    obtain ⟨rfl, e1, e2⟩ := hp18
    have e1 := e1.symm
    have e2 := e2.symm
    subst e1; subst e2
    refine v_st (st' := [.int (bI (inR r (nI i) ∧ inR c (nI j)))]) rfl ?_
    refine v_ifb_eq X dX0_put_21 (tgt := 36) (by decide) (fun h21 => ?_) (fun h21 => ?_)
    · exact absurd ⟨(inR_n (by omega) (by omega)).mpr hi, (inR_n (by omega) (by omega)).mpr hj⟩ h21
    · refine v_aload_n X 0 rfl dX0_put_24 ?_
      refine gf_X0_9 X ht dX0_put_25 ?_
      refine v_iconst X (v := (nI 5)) dX0_put_28 (by decide) ?_
      refine v_iload_n X 1 rfl dX0_put_29 ?_
      refine v_imul X dX0_put_30 ?_
      refine v_eqi (y := (nI (5 * i))) (pk_mul _ _) ?_
      refine v_iload_n X 2 rfl dX0_put_31 ?_
      refine v_iadd X dX0_put_32 ?_
      refine v_eqi (y := (nI ((5 * i) + j))) (nI_add _ _) ?_
      refine v_lload_n X 3 rfl dX0_put_33 ?_
      refine v_l2i X dX0_put_34 rfl ?_
      refine v_iast_n X (dl_3 ht) (fun _ _ => rfl) (n := 25) (by omega) (by decide) dX0_put_35 ?_
      exact v_vret X Y dX0_put_36 (⟨rfl, by rw [if_pos h4], rfl⟩)
  · refine v_aload_n X 0 rfl dX0_put_7 ?_
    refine v_iconst X (v := (nI 0)) dX0_put_8 (by decide) ?_
    refine pf_X0_28 X ht rfl dX0_put_9 ?_
    refine v_goto X (tgt := 36) dX0_put_12 (by decide) ?_
    exact v_vret X Y dX0_put_36 (⟨rfl, by rw [if_neg h4], rfl⟩)
set_option maxHeartbeats 4000000 in
set_option maxRecDepth 100000 in
theorem c_X5_gridOf (l : Launch) (E : VE) (hE : EOk E) (I : TI) (L : TL) (c : Nat) (hc : I 0 0 1 = nI c) (hcn : c ≤ 12) (x : Int32) : Ct l E yX5_gridOf cX5_gridOf 2 (some (.object "WellTables$Grid")) rm_X5_gridOf [.ref (eA E 0 0), .int x] I L (fun r I' L' => ((∃ t, t < c ∧ x = nI t ∧ r = some (.ref (eA E 2 t))) ∨ (¬ isT c x ∧ r = some .null)) ∧ I' = I ∧ L' = L) := by
  refine ct_of (by decide +kernel) (Nat.le_of_ble_eq_true rfl) hE ?_
  intro a X Y hl hEE
  subst hl; subst hEE
  show V a 0 [(0, .ref (eA (vE a) 0 0)), (1, .int x)] [] I L
  refine v_iload_n X 1 rfl dX5_gridOf_0 ?_
  refine v_if_lt X dX5_gridOf_1 (tgt := 12) (by decide) (fun h1 => ?_) (fun h1 => ?_)
  · refine v_null X dX5_gridOf_12 ?_
    refine v_goto X (tgt := 22) dX5_gridOf_13 (by decide) ?_
    exact v_aret X Y (Or.inl rfl) dX5_gridOf_22 (⟨Or.inr ⟨isT_neg (by omega) h1, rfl⟩, rfl, rfl⟩)
  · refine v_iload_n X 1 rfl dX5_gridOf_4 ?_
    refine v_aload_n X 0 rfl dX5_gridOf_5 ?_
    refine gf_X5_117 X dX5_gridOf_6 ?_
    refine v_eqi (y := (nI c)) (hc) ?_
    refine v_icmp_lt X dX5_gridOf_9 (tgt := 16) (by decide) (fun h9 => ?_) (fun h9 => ?_)
    · obtain ⟨t, ht, rfl⟩ := ix_of (Int32.not_lt.mp h1) h9 (by omega)
      refine v_aload_n X 0 rfl dX5_gridOf_16 ?_
      refine gf_X5_11 X dX5_gridOf_17 ?_
      refine v_iload_n X 1 rfl dX5_gridOf_20 ?_
      refine v_aaldG_n X (by omega) dX5_gridOf_21 ?_
      exact v_aret X Y (Or.inr ⟨_, rfl⟩) dX5_gridOf_22 (⟨Or.inl ⟨t, ht, rfl, rfl⟩, rfl, rfl⟩)
    · refine v_null X dX5_gridOf_12 ?_
      refine v_goto X (tgt := 22) dX5_gridOf_13 (by decide) ?_
      exact v_aret X Y (Or.inl rfl) dX5_gridOf_22 (⟨Or.inr ⟨isT_big (by omega) (Int32.not_lt.mp h9), rfl⟩, rfl, rfl⟩)
set_option maxHeartbeats 4000000 in
set_option maxRecDepth 100000 in
theorem c_X5_webOf (l : Launch) (E : VE) (hE : EOk E) (I : TI) (L : TL) (c : Nat) (hc : I 0 0 3 = nI c) (hcn : c ≤ 4) (x : Int32) : Ct l E yX5_webOf cX5_webOf 2 (some (.object "WellTables$Web")) rm_X5_webOf [.ref (eA E 0 0), .int x] I L (fun r I' L' => ((∃ t, t < c ∧ x = nI t ∧ r = some (.ref (eA E 5 t))) ∨ (¬ isT c x ∧ r = some .null)) ∧ I' = I ∧ L' = L) := by
  refine ct_of (by decide +kernel) (Nat.le_of_ble_eq_true rfl) hE ?_
  intro a X Y hl hEE
  subst hl; subst hEE
  show V a 0 [(0, .ref (eA (vE a) 0 0)), (1, .int x)] [] I L
  refine v_iload_n X 1 rfl dX5_webOf_0 ?_
  refine v_if_lt X dX5_webOf_1 (tgt := 12) (by decide) (fun h1 => ?_) (fun h1 => ?_)
  · refine v_null X dX5_webOf_12 ?_
    refine v_goto X (tgt := 22) dX5_webOf_13 (by decide) ?_
    exact v_aret X Y (Or.inl rfl) dX5_webOf_22 (⟨Or.inr ⟨isT_neg (by omega) h1, rfl⟩, rfl, rfl⟩)
  · refine v_iload_n X 1 rfl dX5_webOf_4 ?_
    refine v_aload_n X 0 rfl dX5_webOf_5 ?_
    refine gf_X5_158 X dX5_webOf_6 ?_
    refine v_eqi (y := (nI c)) (hc) ?_
    refine v_icmp_lt X dX5_webOf_9 (tgt := 16) (by decide) (fun h9 => ?_) (fun h9 => ?_)
    · obtain ⟨t, ht, rfl⟩ := ix_of (Int32.not_lt.mp h1) h9 (by omega)
      refine v_aload_n X 0 rfl dX5_webOf_16 ?_
      refine gf_X5_17 X dX5_webOf_17 ?_
      refine v_iload_n X 1 rfl dX5_webOf_20 ?_
      refine v_aaldW_n X (by omega) dX5_webOf_21 ?_
      exact v_aret X Y (Or.inr ⟨_, rfl⟩) dX5_webOf_22 (⟨Or.inl ⟨t, ht, rfl, rfl⟩, rfl, rfl⟩)
    · refine v_null X dX5_webOf_12 ?_
      refine v_goto X (tgt := 22) dX5_webOf_13 (by decide) ?_
      exact v_aret X Y (Or.inl rfl) dX5_webOf_22 (⟨Or.inr ⟨isT_big (by omega) (Int32.not_lt.mp h9), rfl⟩, rfl, rfl⟩)
set_option maxHeartbeats 4000000 in
set_option maxRecDepth 100000 in
theorem c_X5_freeGrid (l : Launch) (E : VE) (hE : EOk E) (I : TI) (L : TL) (c : Nat) (hc : I 0 0 1 = nI c) (hcn : c ≤ 12) : Ct l E yX5_freeGrid cX5_freeGrid 1 (some (.object "WellTables$Grid")) rm_X5_freeGrid [.ref (eA E 0 0)] I L (fun r I' L' => ((c < 12 ∧ r = some (.ref (eA E 2 c))) ∨ (c = 12 ∧ r = some .null)) ∧ I' = I ∧ L' = L) := by
  refine ct_of (by decide +kernel) (Nat.le_of_ble_eq_true rfl) hE ?_
  intro a X Y hl hEE
  subst hl; subst hEE
  show V a 0 [(0, .ref (eA (vE a) 0 0))] [] I L
  refine v_aload_n X 0 rfl dX5_freeGrid_0 ?_
  refine gf_X5_117 X dX5_freeGrid_1 ?_
  refine v_eqi (y := (nI c)) (hc) ?_
  refine v_bipush X (v := (nI 12)) dX5_freeGrid_4 (by decide) ?_
  refine v_icmp_lt_n X (by omega) (by omega) dX5_freeGrid_6 (tgt := 13) (by decide) (fun h6 => ?_) (fun h6 => ?_)
  · refine v_aload_n X 0 rfl dX5_freeGrid_13 ?_
    refine gf_X5_11 X dX5_freeGrid_14 ?_
    refine v_aload_n X 0 rfl dX5_freeGrid_17 ?_
    refine gf_X5_117 X dX5_freeGrid_18 ?_
    refine v_eqi (y := (nI c)) (hc) ?_
    refine v_aaldG_n X (by omega) dX5_freeGrid_21 ?_
    exact v_aret X Y (Or.inr ⟨_, rfl⟩) dX5_freeGrid_22 (⟨Or.inl ⟨h6, rfl⟩, rfl, rfl⟩)
  · refine v_null X dX5_freeGrid_9 ?_
    refine v_goto X (tgt := 22) dX5_freeGrid_10 (by decide) ?_
    exact v_aret X Y (Or.inl rfl) dX5_freeGrid_22 (⟨Or.inr ⟨by omega, rfl⟩, rfl, rfl⟩)
set_option maxHeartbeats 4000000 in
set_option maxRecDepth 100000 in
theorem c_X5_come (l : Launch) (E : VE) (hE : EOk E) (I : TI) (L : TL) (c : Nat) (hc : I 0 0 1 = nI c) (hcn : c < 12) (f : Nat) (hf : I 2 c 5 = nI f) (hf1 : f < 2) : Ct l E yX5_come cX5_come 2 (some .int) rm_X5_come [.ref (eA E 0 0), .ref (eA E 2 c)] I L (fun r I' L' => ((f = 0 ∧ r = some (.int (-nI 8)) ∧ I' = rfI I 8) ∨ (f = 1 ∧ r = some (.int (nI c)) ∧ I' = upI I 0 0 1 (nI (c + 1)))) ∧ L' = L) := by
  refine ct_of (by decide +kernel) (Nat.le_of_ble_eq_true rfl) hE ?_
  intro a X Y hl hEE
  subst hl; subst hEE
  show V a 0 [(0, .ref (eA (vE a) 0 0)), (1, .ref (eA (vE a) 2 c))] [] I L
  refine v_aload_n X 1 rfl dX5_come_0 ?_
  refine gf_X5_232 X hcn dX5_come_1 ?_
  refine v_eqi (y := (nI f)) (hf) ?_
  refine v_if_ne_n X (by omega) dX5_come_4 (tgt := 14) (by decide) (fun h4 => ?_) (fun h4 => ?_)
  · refine v_aload_n X 0 rfl dX5_come_14 ?_
    refine v_dup X dX5_come_15 rfl ?_
    refine gf_X5_117 X dX5_come_16 ?_
    refine v_eqi (y := (nI c)) (hc) ?_
    refine v_iconst X (v := (nI 1)) dX5_come_19 (by decide) ?_
    refine v_iadd X dX5_come_20 ?_
    refine v_eqi (y := (nI (c + 1))) (nI_add _ _) ?_
    refine pf_X5_117 X dX5_come_21 ?_
    refine v_aload_n X 0 rfl dX5_come_24 ?_
    refine gf_X5_117 X dX5_come_25 ?_
    refine v_eqi (y := (nI (c + 1))) (upI_eq) ?_
    refine v_iconst X (v := (nI 1)) dX5_come_28 (by decide) ?_
    refine v_isub X dX5_come_29 ?_
    refine v_eqi (y := (nI ((c + 1) - 1))) (pk_sub (by omega)) ?_
    exact v_iret X Y dX5_come_30 (⟨Or.inr ⟨by omega, rfl, rfl⟩, rfl⟩)
  · refine v_aload_n X 0 rfl dX5_come_7 ?_
    refine v_bipush X (v := (-8)) dX5_come_8 (by decide) ?_
    refine v_callV X (c_X5_refused _ _ hE _ _ 8 (by decide) (by decide)) k_X5_58 dl_0 (cef_0 _ _ _ _) rfl ⟨rfl, rfl, Nat.le_of_ble_eq_true rfl, Nat.le_of_ble_eq_true rfl⟩ (As := [.int (-8)]) (rest := []) rfl rfl (Nat.le_of_ble_eq_true rfl) dX5_come_10 (fun r10 I10 L10 hp10 => ?_)
    obtain ⟨rfl, e1, e2⟩ := hp10
    have e1 := e1.symm
    have e2 := e2.symm
    subst e1; subst e2
    refine v_st (st' := [.int (-8)]) rfl ?_
    exact v_iret X Y dX5_come_13 (⟨Or.inl ⟨h4, rfl, rfl⟩, rfl⟩)
set_option maxHeartbeats 4000000 in
set_option maxRecDepth 100000 in
theorem c_X5_emptyTheRow (l : Launch) (E : VE) (hE : EOk E) (I : TI) (L : TL) : Ct l E yX5_emptyTheRow cX5_emptyTheRow 1 none rm_X5_emptyTheRow [.ref (eA E 0 0)] I L (fun r I' L' => r = none ∧ Fr [(9, 0), (0, 0)] I I' ∧ (∀ x, x < 16 → I' 9 0 x = nI 0) ∧ I' 0 0 5 = nI 1 ∧ (∀ x, x ≠ 5 → I' 0 0 x = I 0 0 x) ∧ L' = L) := by
  refine ct_of (by decide +kernel) (Nat.le_of_ble_eq_true rfl) hE ?_
  intro a X Y hl hEE
  subst hl; subst hEE
  show V a 0 [(0, .ref (eA (vE a) 0 0))] [] I L
  refine v_aload_n X 0 rfl dX5_emptyTheRow_0 ?_
  refine gf_X5_21 X dX5_emptyTheRow_1 ?_
  refine v_iconst X (v := (nI 0)) dX5_emptyTheRow_4 (by decide) ?_
  refine v_callS X (c_J7_fill_9 _ _ hE _ _ (nI 0)) k_X5_235 ⟨rfl, rfl, Nat.le_of_ble_eq_true rfl, Nat.le_of_ble_eq_true rfl⟩ (As := [.ref (eA (vE a) 9 0), .int (nI 0)]) (rest := []) rfl rfl (Nat.le_of_ble_eq_true rfl) dX5_emptyTheRow_5 (fun r5 I5 L5 hp5 => ?_)
  obtain ⟨rfl, hF5, hv5, e2⟩ := hp5
  have e2 := e2.symm
  subst e2
  refine v_st (st' := []) rfl ?_
  refine v_aload_n X 0 rfl dX5_emptyTheRow_8 ?_
  refine v_iconst X (v := (nI 1)) dX5_emptyTheRow_9 (by decide) ?_
  refine pf_X5_199 X rfl dX5_emptyTheRow_10 ?_
  exact v_vret X Y dX5_emptyTheRow_13 (⟨rfl, (hF5.mono (by simp)).up (by simp), fun x hx => (upI_k (by decide)).trans (hv5 x hx), upI_eq, fun x hx => (upI_x hx).trans (hF5.at (by simp) x), rfl⟩)
