/-! the model's row -/
def chgL (f : Nat → Int64) : Nat → Nat × Int32
  | 0 => (0, 0)
  | k + 1 => (if sgn (f k) = -(chgL f k).2 ∧ ¬ sgn (f k) = 0 then (chgL f k).1 + 1 else (chgL f k).1, if sgn (f k) = 0 then (chgL f k).2 else sgn (f k))
theorem chgL_c {f g : Nat → Int64} : ∀ n, (∀ k, k < n → f k = g k) → chgL f n = chgL g n
  | 0, _ => rfl
  | n + 1, h => by
    unfold chgL
    rw [chgL_c n (fun k hk => h k (by omega)), h n (by omega)]
theorem chg_L (f : Nat → Int32) : ∀ n, chg f n = chgL (fun k => (f k).toInt64) n
  | 0 => rfl
  | n + 1 => by
    unfold chg chgL
    rw [chg_L f n]
def CHS (I I1 : TI) (n9 : Nat) (last : Int32) : Prop := Fr [(30, 0)] I I1 ∧ (∀ x, x ≠ 25 → x ≠ 26 → I1 30 0 x = I 30 0 x) ∧ I1 30 0 25 = nI n9 ∧ I1 30 0 26 = last
theorem CHS.up {I I1 : TI} {n9 : Nat} {last : Int32} (h : CHS I I1 n9 last) {k : Nat} (v : Int32) : CHS I (upI (upI I1 30 0 25 (nI k)) 30 0 26 v) k v :=
  ⟨(h.1.up (by simp)).up (by simp), fun x h1 h2 => (upI_x h2).trans ((upI_x h1).trans (h.2.1 x h1 h2)), (upI_x (by decide)).trans upI_eq, upI_eq⟩
theorem CHS.l {I I1 : TI} {n9 : Nat} {last : Int32} (h : CHS I I1 n9 last) (v : Int32) : CHS I (upI I1 30 0 26 v) n9 v :=
  ⟨h.1.up (by simp), fun x h1 h2 => (upI_x h2).trans (h.2.1 x h1 h2), (upI_x (by decide)).trans h.2.2.1, upI_eq⟩
theorem CHS.ini {I : TI} : CHS I (upI (upI I 30 0 25 (nI 0)) 30 0 26 (nI 0)) 0 0 := ⟨(Fr.rf.up (by simp)).up (by simp), fun x h1 h2 => (upI_x h2).trans (upI_x h1), (upI_x (by decide)).trans upI_eq, upI_eq⟩
theorem neg_sw {a b : Int32} : a = -b ↔ b = -a := by
  constructor
  · intro h
    rw [h, Int32.neg_neg]
  · intro h
    rw [h, Int32.neg_neg]
theorem in_F {s : Int32} : ((0 : Int64) ≤ s.toInt64 ∧ s.toInt64 ≤ 15) ↔ (0 ≤ s ∧ s < nI 16) := by
  rw [show (0 : Int64) = (0 : Int32).toInt64 by decide, show (15 : Int64) = (nI 15).toInt64 by decide, wide_le, wide_le, Int32.le_iff_toInt_le, Int32.le_iff_toInt_le, Int32.lt_iff_toInt_lt]
  have e : (nI 15).toInt = (nI 16).toInt - 1 := by decide
  rw [e]
  omega
theorem in_8 {s : Int32} : ((-8 : Int64) ≤ s.toInt64 ∧ s.toInt64 ≤ -2) ↔ (-8 ≤ s ∧ s ≤ -2) := by
  rw [show (-8 : Int64) = (-8 : Int32).toInt64 by decide, show (-2 : Int64) = (-2 : Int32).toInt64 by decide, wide_le, wide_le]
theorem cpL {i n : Nat} (hi : i < 2 ^ 31) (hn : n < 2 ^ 31) : (nI i).toInt64 + (nI n).toInt64 ≤ 16 ↔ i + n ≤ 16 := by
  rw [nI_l hi, nI_l hn, lN_add]
  exact pk_lLE (b := 16) (by omega) (by decide)

set_option maxHeartbeats 4000000 in
set_option maxRecDepth 100000 in
theorem c_X6_isTold (l : Launch) (E : VE) (hE : EOk E) (I : TI) (L : TL) (h : Nat) (hh : I 30 0 24 = nI h) (hh2 : h < 2) : Ct l E yX6_isTold cX6_isTold 2 none rm_X6_isTold [.ref (eA E 30 0)] I L (fun r I' L' => r = none ∧ Fr [(46, 0), (30, 0)] I I' ∧ (∀ x, x ≠ 24 → I' 30 0 x = I 30 0 x) ∧ I' 30 0 24 = nI 1 ∧ (∀ x, x < 16 → I' 46 0 x = if h = 0 then nI 0 else I 46 0 x) ∧ L' = L) := by
  refine ct_of (by decide +kernel) (Nat.le_of_ble_eq_true rfl) hE ?_
  intro a X Y hl hEE
  subst hl; subst hEE
  show V a 0 [(0, .ref (eA (vE a) 30 0))] [] I L
  refine v_iconst X (v := (nI 0)) dX6_isTold_0 (by decide) ?_
  refine v_istore_n X [1, 0] (lv' := [(0, .ref (eA (vE a) 30 0)), (1, .int (nI 0))]) (by decide) rfl dX6_isTold_1 ?_
  have loop2 : ∀ (fu : Nat) (k : Nat) (I1 : TI), 17 - k < fu → (k ≤ 16) → (Fr [(46, 0)] I I1) → (∀ x, x < 16 → I1 46 0 x = if h = 0 ∧ x < k then nI 0 else I 46 0 x) → V a 2 [(0, .ref (eA (vE a) 30 0)), (1, .int (nI k))] [] I1 L := by
    intro fu
    induction fu with
    | zero => intro k I1 hm _ _ _; exact absurd hm (Nat.not_lt_zero _)
    | succ fu ih2 =>
      intro k I1 hm2 hk hF hv
      refine v_iload_n X 1 rfl dX6_isTold_2 ?_
      refine v_bipush X (v := (nI 16)) dX6_isTold_3 (by decide) ?_
      refine v_icmp_ge_n X (by omega) (by omega) dX6_isTold_5 (tgt := 28) (by decide) (fun h5 => ?_) (fun h5 => ?_)
      · refine v_aload_n X 0 rfl dX6_isTold_28 ?_
        refine v_iconst X (v := (nI 1)) dX6_isTold_29 (by decide) ?_
        refine pf_X6_187 X rfl dX6_isTold_30 ?_
        exact v_vret X Y dX6_isTold_33 (⟨rfl, (hF.mono (by simp)).up (by simp), fun x hx => (upI_x hx).trans (hF.at (by simp) x), upI_eq, fun x hx => (upI_k (by decide)).trans ((hv x hx).trans (by
              by_cases q : h = 0
              · rw [if_pos q, if_pos (by omega)]
              · rw [if_neg q, if_neg (by omega)])), rfl⟩)
      · refine v_aload_n X 0 rfl dX6_isTold_8 ?_
        refine gf_X6_187 X dX6_isTold_9 ?_
        refine v_eqi (y := (nI h)) ((Fr.at hF (by simp) _).trans (hh)) ?_
        refine v_if_ne_n X (by omega) dX6_isTold_12 (tgt := 28) (by decide) (fun h12 => ?_) (fun h12 => ?_)
        · refine v_aload_n X 0 rfl dX6_isTold_28 ?_
          refine v_iconst X (v := (nI 1)) dX6_isTold_29 (by decide) ?_
          refine pf_X6_187 X rfl dX6_isTold_30 ?_
          exact v_vret X Y dX6_isTold_33 (⟨rfl, (hF.mono (by simp)).up (by simp), fun x hx => (upI_x hx).trans (hF.at (by simp) x), upI_eq, fun x hx => (upI_k (by decide)).trans ((hv x hx).trans (by
                by_cases q : h = 0
                · rw [if_pos q, if_pos (by omega)]
                · rw [if_neg q, if_neg (by omega)])), rfl⟩)
        · refine v_aload_n X 0 rfl dX6_isTold_15 ?_
          refine gf_X6_56 X dX6_isTold_16 ?_
          refine v_iload_n X 1 rfl dX6_isTold_19 ?_
          refine v_iconst X (v := (nI 0)) dX6_isTold_20 (by decide) ?_
          refine v_iast_n X dl_46 (fun _ _ => rfl) (n := 16) (by omega) (by decide) dX6_isTold_21 ?_
          refine v_iinc X [1, 0] 1 (nI (k + 1)) (lv' := [(0, .ref (eA (vE a) 30 0)), (1, .int (nI (k + 1)))]) rfl (nI_1 _) (by decide) rfl dX6_isTold_22 ?_
          refine v_goto X (tgt := 2) dX6_isTold_25 (by decide) ?_
          have hnew : ∀ x, x < 16 → upI I1 46 0 k (nI 0) 46 0 x = if h = 0 ∧ x < k + 1 then nI 0 else I 46 0 x := fun x hx => by
            by_cases e : x = k
            · rw [e, upI_eq, if_pos (by omega)]
            · rw [upI_x e, hv x hx]
              by_cases q : h = 0 ∧ x < k
              · rw [if_pos q, if_pos (by omega)]
              · rw [if_neg q, if_neg (by omega)]
          exact ih2 (k + 1) (upI I1 46 0 k (nI 0)) (by omega) (by omega) (hF.up (by simp)) hnew
  exact loop2 _ 0 I (Nat.lt_succ_self _) (Nat.zero_le _) Fr.rf (fun x hx => (if_neg (fun z => absurd z.2 (Nat.not_lt_zero _))).symm)
set_option maxHeartbeats 4000000 in
set_option maxRecDepth 100000 in
theorem c_X6_tell (l : Launch) (E : VE) (hE : EOk E) (I : TI) (L : TL) (h : Nat) (hh : I 30 0 24 = nI h) (hh2 : h < 2) (i v : Int32) : Ct l E yX6_tell cX6_tell 3 (some .int) rm_X6_tell [.ref (eA E 30 0), .int i, .int v] I L (fun r I' L' => (¬ (0 ≤ i ∧ i < nI 16) ∧ MEF I I' r 3 ∧ L' = L) ∨ (∃ i', i' < 16 ∧ i = nI i' ∧ ((¬ nm v.toInt64 ∧ MEF I I' r 7 ∧ L' = L) ∨ (nm v.toInt64 ∧ Fr [(46, 0), (30, 0)] I I' ∧ (∀ x, x ≠ 24 → I' 30 0 x = I 30 0 x) ∧ I' 30 0 24 = nI 1 ∧ (∀ x, x < 16 → I' 46 0 x = if x = i' then v else if h = 0 then nI 0 else I 46 0 x) ∧ r = some (.int (nI 1)) ∧ L' = L)))) := by
  refine ct_of (by decide +kernel) (Nat.le_of_ble_eq_true rfl) hE ?_
  intro a X Y hl hEE
  subst hl; subst hEE
  show V a 0 [(0, .ref (eA (vE a) 30 0)), (1, .int i), (2, .int v)] [] I L
  refine v_iload_n X 1 rfl dX6_tell_0 ?_
  refine v_i2l X dX6_tell_1 rfl ?_
  refine v_lconst X (v := 0) dX6_tell_2 rfl ?_
  refine v_ldc2 X kc_X6_191 dX6_tell_3 ?_
  refine v_callS X (c_X6_isIn _ _ hE _ _ i.toInt64 0 15) k_X6_90 ⟨rfl, rfl, Nat.le_of_ble_eq_true rfl, Nat.le_of_ble_eq_true rfl⟩ (As := [.long i.toInt64, .long 0, .long 15]) (rest := []) rfl rfl (Nat.le_of_ble_eq_true rfl) dX6_tell_6 (fun r6 I6 L6 hp6 => ?_)
  obtain ⟨rfl, e1, e2⟩ := hp6
  have e1 := e1.symm
  have e2 := e2.symm
  subst e1; subst e2
  refine v_st (st' := [.int (bI (0 ≤ i.toInt64 ∧ i.toInt64 ≤ 15))]) rfl ?_
  refine v_ifb_ne X dX6_tell_9 (tgt := 19) (by decide) (fun h9 => ?_) (fun h9 => ?_)
  · obtain ⟨i', hi', rfl⟩ := ix_of (in_F.mp h9).1 (in_F.mp h9).2 (by decide)
    refine v_iload_n X 2 rfl dX6_tell_19 ?_
    refine v_i2l X dX6_tell_20 rfl ?_
    refine v_ldc2 X kc_X6_109 dX6_tell_21 ?_
    refine v_ldc2 X kc_X6_111 dX6_tell_24 ?_
    refine v_callS X (c_X6_isIn _ _ hE _ _ v.toInt64 (-1000) 1000) k_X6_90 ⟨rfl, rfl, Nat.le_of_ble_eq_true rfl, Nat.le_of_ble_eq_true rfl⟩ (As := [.long v.toInt64, .long (-1000), .long 1000]) (rest := []) rfl rfl (Nat.le_of_ble_eq_true rfl) dX6_tell_27 (fun r27 I27 L27 hp27 => ?_)
    obtain ⟨rfl, e1, e2⟩ := hp27
    have e1 := e1.symm
    have e2 := e2.symm
    subst e1; subst e2
    refine v_st (st' := [.int (bI ((-1000) ≤ v.toInt64 ∧ v.toInt64 ≤ 1000))]) rfl ?_
    refine v_ifb_ne X dX6_tell_30 (tgt := 40) (by decide) (fun h30 => ?_) (fun h30 => ?_)
    · refine v_aload_n X 0 rfl dX6_tell_40 ?_
      refine v_callV X (c_X6_isTold _ _ hE _ _ h hh hh2) k_X6_193 dl_30 (cef_30 _ _ _ _) rfl ⟨rfl, rfl, Nat.le_of_ble_eq_true rfl, Nat.le_of_ble_eq_true rfl⟩ (As := []) (rest := []) rfl rfl (Nat.le_of_ble_eq_true rfl) dX6_tell_41 (fun r41 I41 L41 hp41 => ?_)
      obtain ⟨rfl, hF41, ho41, hs41, hz41, e2⟩ := hp41
      have e2 := e2.symm
      subst e2
      refine v_st (st' := []) rfl ?_
      refine v_aload_n X 0 rfl dX6_tell_44 ?_
      refine gf_X6_56 X dX6_tell_45 ?_
      refine v_iload_n X 1 rfl dX6_tell_48 ?_
      refine v_iload_n X 2 rfl dX6_tell_49 ?_
      refine v_iast_n X dl_46 (fun _ _ => rfl) (n := 16) (by omega) (by decide) dX6_tell_50 ?_
      refine v_iconst X (v := (nI 1)) dX6_tell_51 (by decide) ?_
      exact v_iret X Y dX6_tell_52 (Or.inr ⟨i', hi', rfl, Or.inr ⟨h30, hF41.up (by simp), fun x hx => (upI_k (by decide)).trans (ho41 x hx), (upI_k (by decide)).trans hs41, fun x hx => by
            by_cases e : x = i'
            · rw [if_pos e, e]; exact upI_eq
            · rw [if_neg e]; exact (upI_x e).trans (hz41 x hx), rfl, rfl⟩⟩)
    · refine v_aload_n X 0 rfl dX6_tell_33 ?_
      refine v_bipush X (v := (-7)) dX6_tell_34 (by decide) ?_
      refine v_callV X (c_X6_no _ _ hE _ _ 7 (by decide) (by decide)) k_X6_80 dl_30 (cef_30 _ _ _ _) rfl ⟨rfl, rfl, Nat.le_of_ble_eq_true rfl, Nat.le_of_ble_eq_true rfl⟩ (As := [.int (-7)]) (rest := []) rfl rfl (Nat.le_of_ble_eq_true rfl) dX6_tell_36 (fun r36 I36 L36 hp36 => ?_)
      obtain ⟨rfl, e1, e2⟩ := hp36
      have e1 := e1.symm
      have e2 := e2.symm
      subst e1; subst e2
      refine v_st (st' := [.int (-7)]) rfl ?_
      exact v_iret X Y dX6_tell_39 (Or.inr ⟨i', hi', rfl, Or.inl ⟨h30, ⟨rfl, rfl⟩, rfl⟩⟩)
  · refine v_aload_n X 0 rfl dX6_tell_12 ?_
    refine v_bipush X (v := (-3)) dX6_tell_13 (by decide) ?_
    refine v_callV X (c_X6_no _ _ hE _ _ 3 (by decide) (by decide)) k_X6_80 dl_30 (cef_30 _ _ _ _) rfl ⟨rfl, rfl, Nat.le_of_ble_eq_true rfl, Nat.le_of_ble_eq_true rfl⟩ (As := [.int (-3)]) (rest := []) rfl rfl (Nat.le_of_ble_eq_true rfl) dX6_tell_15 (fun r15 I15 L15 hp15 => ?_)
    obtain ⟨rfl, e1, e2⟩ := hp15
    have e1 := e1.symm
    have e2 := e2.symm
    subst e1; subst e2
    refine v_st (st' := [.int (-3)]) rfl ?_
    exact v_iret X Y dX6_tell_18 (Or.inl ⟨fun q => h9 (in_F.mpr q), ⟨rfl, rfl⟩, rfl⟩)
set_option maxHeartbeats 4000000 in
set_option maxRecDepth 100000 in
theorem c_X6_meets (l : Launch) (E : VE) (hE : EOk E) (I : TI) (L : TL) (I0 : TI) (n9 : Nat) (last : Int32) (hC : CHS I0 I n9 last) (v : Int64) : Ct l E yX6_meets cX6_meets 4 none rm_X6_meets [.ref (eA E 30 0), .long v] I L (fun r I' L' => r = none ∧ CHS I0 I' (if sgn v = -last ∧ ¬ sgn v = 0 then n9 + 1 else n9) (if sgn v = 0 then last else sgn v) ∧ L' = L) := by
  refine ct_of (by decide +kernel) (Nat.le_of_ble_eq_true rfl) hE ?_
  intro a X Y hl hEE
  subst hl; subst hEE
  show V a 0 [(0, .ref (eA (vE a) 30 0)), (1, .long v)] [] I L
  refine v_lload_n X 1 rfl dX6_meets_0 ?_
  refine v_lconst X (v := 0) dX6_meets_1 rfl ?_
  refine v_lcmp_le X dX6_meets_2 dX6_meets_3 (tgt := 10) (by decide) (fun h2 => ?_) (fun h2 => ?_)
  · refine v_lload_n X 1 rfl dX6_meets_10 ?_
    refine v_lconst X (v := 0) dX6_meets_11 rfl ?_
    refine v_lcmp_ge X dX6_meets_12 dX6_meets_13 (tgt := 20) (by decide) (fun h12 => ?_) (fun h12 => ?_)
    · refine v_iconst X (v := (nI 0)) dX6_meets_20 (by decide) ?_
      refine v_eqi (y := (sgn v)) ((sgn_z (Int64.le_antisymm h2 h12)).symm) ?_
      refine v_istore_n X [1, 2, 0] (lv' := [(0, .ref (eA (vE a) 30 0)), (1, .long v), (3, .int (sgn v))]) (by decide) rfl dX6_meets_21 ?_
      refine v_iload_n X 2 rfl dX6_meets_22 ?_
      refine v_if_ne X dX6_meets_23 (tgt := 27) (by decide) (fun h23 => ?_) (fun h23 => ?_)
      · refine v_aload_n X 0 rfl dX6_meets_27 ?_
        refine gf_X6_196 X dX6_meets_28 ?_
        refine v_eqi (y := last) (hC.2.2.2) ?_
        refine v_iload_n X 2 rfl dX6_meets_31 ?_
        refine v_ineg X dX6_meets_32 ?_
        refine v_icmp_ne X dX6_meets_33 (tgt := 46) (by decide) (fun h33 => ?_) (fun h33 => ?_)
        · refine v_aload_n X 0 rfl dX6_meets_46 ?_
          refine v_iload_n X 2 rfl dX6_meets_47 ?_
          refine pf_X6_196 X dX6_meets_48 ?_
          exact v_vret X Y dX6_meets_51 (⟨rfl, by rw [if_neg (fun z => h33 (neg_sw.mp z.1)), if_neg h23]; exact hC.l _, rfl⟩)
        · refine v_aload_n X 0 rfl dX6_meets_36 ?_
          refine v_dup X dX6_meets_37 rfl ?_
          refine gf_X6_199 X dX6_meets_38 ?_
          refine v_eqi (y := (nI n9)) (hC.2.2.1) ?_
          refine v_iconst X (v := (nI 1)) dX6_meets_41 (by decide) ?_
          refine v_iadd X dX6_meets_42 ?_
          refine v_eqi (y := (nI (n9 + 1))) (nI_add _ _) ?_
          refine pf_X6_199 X dX6_meets_43 ?_
          refine v_aload_n X 0 rfl dX6_meets_46 ?_
          refine v_iload_n X 2 rfl dX6_meets_47 ?_
          refine pf_X6_196 X dX6_meets_48 ?_
          exact v_vret X Y dX6_meets_51 (⟨rfl, by rw [if_pos ⟨neg_sw.mp h33, h23⟩, if_neg h23]; exact hC.up _, rfl⟩)
      · exact v_vret X Y dX6_meets_26 (⟨rfl, by rw [if_neg (fun z => z.2 h23), if_pos h23]; exact hC, rfl⟩)
    · refine v_iconst X (v := (-1)) dX6_meets_16 (by decide) ?_
      refine v_goto X (tgt := 21) dX6_meets_17 (by decide) ?_
      refine v_eqi (y := (sgn v)) ((sgn_m (Int64.not_le.mp h12)).symm) ?_
      refine v_istore_n X [1, 2, 0] (lv' := [(0, .ref (eA (vE a) 30 0)), (1, .long v), (3, .int (sgn v))]) (by decide) rfl dX6_meets_21 ?_
      refine v_iload_n X 2 rfl dX6_meets_22 ?_
      refine v_if_ne X dX6_meets_23 (tgt := 27) (by decide) (fun h23 => ?_) (fun h23 => ?_)
      · refine v_aload_n X 0 rfl dX6_meets_27 ?_
        refine gf_X6_196 X dX6_meets_28 ?_
        refine v_eqi (y := last) (hC.2.2.2) ?_
        refine v_iload_n X 2 rfl dX6_meets_31 ?_
        refine v_ineg X dX6_meets_32 ?_
        refine v_icmp_ne X dX6_meets_33 (tgt := 46) (by decide) (fun h33 => ?_) (fun h33 => ?_)
        · refine v_aload_n X 0 rfl dX6_meets_46 ?_
          refine v_iload_n X 2 rfl dX6_meets_47 ?_
          refine pf_X6_196 X dX6_meets_48 ?_
          exact v_vret X Y dX6_meets_51 (⟨rfl, by rw [if_neg (fun z => h33 (neg_sw.mp z.1)), if_neg h23]; exact hC.l _, rfl⟩)
        · refine v_aload_n X 0 rfl dX6_meets_36 ?_
          refine v_dup X dX6_meets_37 rfl ?_
          refine gf_X6_199 X dX6_meets_38 ?_
          refine v_eqi (y := (nI n9)) (hC.2.2.1) ?_
          refine v_iconst X (v := (nI 1)) dX6_meets_41 (by decide) ?_
          refine v_iadd X dX6_meets_42 ?_
          refine v_eqi (y := (nI (n9 + 1))) (nI_add _ _) ?_
          refine pf_X6_199 X dX6_meets_43 ?_
          refine v_aload_n X 0 rfl dX6_meets_46 ?_
          refine v_iload_n X 2 rfl dX6_meets_47 ?_
          refine pf_X6_196 X dX6_meets_48 ?_
          exact v_vret X Y dX6_meets_51 (⟨rfl, by rw [if_pos ⟨neg_sw.mp h33, h23⟩, if_neg h23]; exact hC.up _, rfl⟩)
      · exact v_vret X Y dX6_meets_26 (⟨rfl, by rw [if_neg (fun z => z.2 h23), if_pos h23]; exact hC, rfl⟩)
  · refine v_iconst X (v := (nI 1)) dX6_meets_6 (by decide) ?_
    refine v_goto X (tgt := 21) dX6_meets_7 (by decide) ?_
    refine v_eqi (y := (sgn v)) ((sgn_p (Int64.not_le.mp h2)).symm) ?_
    refine v_istore_n X [1, 2, 0] (lv' := [(0, .ref (eA (vE a) 30 0)), (1, .long v), (3, .int (sgn v))]) (by decide) rfl dX6_meets_21 ?_
    refine v_iload_n X 2 rfl dX6_meets_22 ?_
    refine v_if_ne X dX6_meets_23 (tgt := 27) (by decide) (fun h23 => ?_) (fun h23 => ?_)
    · refine v_aload_n X 0 rfl dX6_meets_27 ?_
      refine gf_X6_196 X dX6_meets_28 ?_
      refine v_eqi (y := last) (hC.2.2.2) ?_
      refine v_iload_n X 2 rfl dX6_meets_31 ?_
      refine v_ineg X dX6_meets_32 ?_
      refine v_icmp_ne X dX6_meets_33 (tgt := 46) (by decide) (fun h33 => ?_) (fun h33 => ?_)
      · refine v_aload_n X 0 rfl dX6_meets_46 ?_
        refine v_iload_n X 2 rfl dX6_meets_47 ?_
        refine pf_X6_196 X dX6_meets_48 ?_
        exact v_vret X Y dX6_meets_51 (⟨rfl, by rw [if_neg (fun z => h33 (neg_sw.mp z.1)), if_neg h23]; exact hC.l _, rfl⟩)
      · refine v_aload_n X 0 rfl dX6_meets_36 ?_
        refine v_dup X dX6_meets_37 rfl ?_
        refine gf_X6_199 X dX6_meets_38 ?_
        refine v_eqi (y := (nI n9)) (hC.2.2.1) ?_
        refine v_iconst X (v := (nI 1)) dX6_meets_41 (by decide) ?_
        refine v_iadd X dX6_meets_42 ?_
        refine v_eqi (y := (nI (n9 + 1))) (nI_add _ _) ?_
        refine pf_X6_199 X dX6_meets_43 ?_
        refine v_aload_n X 0 rfl dX6_meets_46 ?_
        refine v_iload_n X 2 rfl dX6_meets_47 ?_
        refine pf_X6_196 X dX6_meets_48 ?_
        exact v_vret X Y dX6_meets_51 (⟨rfl, by rw [if_pos ⟨neg_sw.mp h33, h23⟩, if_neg h23]; exact hC.up _, rfl⟩)
    · exact v_vret X Y dX6_meets_26 (⟨rfl, by rw [if_neg (fun z => z.2 h23), if_pos h23]; exact hC, rfl⟩)
set_option maxHeartbeats 4000000 in
set_option maxRecDepth 100000 in
theorem c_X6_changes (l : Launch) (E : VE) (hE : EOk E) (I : TI) (L : TL) (c : Nat) (ro co : Nat → Nat) (hT : MT I c ro co) (h : Nat) (hh : I 30 0 24 = nI h) (hh2 : h < 2) (x : Int32) : Ct l E yX6_changes cX6_changes 7 (some .int) rm_X6_changes [.ref (eA E 30 0), .int x] I L (fun r I' L' => (¬ isT c x ∧ MEF I I' r 3 ∧ L' = L) ∨ (∃ t, t < c ∧ x = nI t ∧ ((h = 0 ∧ MEF I I' r 2 ∧ L' = L) ∨ (0 < h ∧ Fr [(30, 0)] I I' ∧ (∀ x, x ≠ 25 → x ≠ 26 → I' 30 0 x = I 30 0 x) ∧ r = some (.int (nI (10 * (chgL (fun k => (I 46 0 k).toInt64) (co t)).1 + (chgL (fun i => rbcL (fun k => I 31 0 (25 * t + 5 * i + k)) (fun k => I 46 0 k) (co t)) (ro t)).1))) ∧ L' = L)))) := by
  refine ct_of (by decide +kernel) (Nat.le_of_ble_eq_true rfl) hE ?_
  intro a X Y hl hEE
  subst hl; subst hEE
  show V a 0 [(0, .ref (eA (vE a) 30 0)), (1, .int x)] [] I L
  refine v_aload_n X 0 rfl dX6_changes_0 ?_
  refine v_iload_n X 1 rfl dX6_changes_1 ?_
  refine v_callV X (c_X6_isTable _ _ hE _ _ c (hT.1) x) k_X6_98 dl_30 (cef_30 _ _ _ _) rfl ⟨rfl, rfl, Nat.le_of_ble_eq_true rfl, Nat.le_of_ble_eq_true rfl⟩ (As := [.int x]) (rest := []) rfl rfl (Nat.le_of_ble_eq_true rfl) dX6_changes_2 (fun r2 I2 L2 hp2 => ?_)
  obtain ⟨rfl, e1, e2⟩ := hp2
  have e1 := e1.symm
  have e2 := e2.symm
  subst e1; subst e2
  refine v_st (st' := [.int (bI (inR c x))]) rfl ?_
  refine v_ifb_ne X dX6_changes_5 (tgt := 15) (by decide) (fun h5 => ?_) (fun h5 => ?_)
  · obtain ⟨t, htt, rfl⟩ := inR_of (by have := hT.2.1; omega) h5
    have hc12 := hT.2.1
    obtain ⟨hrt, hct, hr1t, hr5t, hc1t, hc5t⟩ := hT.2.2 t htt
    have ht12t : t < 12 := by omega
    refine v_aload_n X 0 rfl dX6_changes_15 ?_
    refine gf_X6_187 X dX6_changes_16 ?_
    refine v_eqi (y := (nI h)) (hh) ?_
    refine v_if_ne_n X (by omega) dX6_changes_19 (tgt := 29) (by decide) (fun h19 => ?_) (fun h19 => ?_)
    · refine v_aload_n X 0 rfl dX6_changes_29 ?_
      refine v_iconst X (v := (nI 0)) dX6_changes_30 (by decide) ?_
      refine pf_X6_199 X dX6_changes_31 ?_
      refine v_aload_n X 0 rfl dX6_changes_34 ?_
      refine v_iconst X (v := (nI 0)) dX6_changes_35 (by decide) ?_
      refine pf_X6_196 X dX6_changes_36 ?_
      refine v_iconst X (v := (nI 0)) dX6_changes_39 (by decide) ?_
      refine v_istore_n X [1, 2, 0] (lv' := [(0, .ref (eA (vE a) 30 0)), (1, .int (nI t)), (2, .int (nI 0))]) (by decide) rfl dX6_changes_40 ?_
      have loop41 : ∀ (fu : Nat) (j : Nat) (I1 : TI), 6 - j < fu → (j ≤ co t) → (CHS I I1 (chgL (fun k => (I 46 0 k).toInt64) j).1 (chgL (fun k => (I 46 0 k).toInt64) j).2) → V a 41 [(0, .ref (eA (vE a) 30 0)), (1, .int (nI t)), (2, .int (nI j))] [] I1 L := by
        intro fu
        induction fu with
        | zero => intro j I1 hm _ _; exact absurd hm (Nat.not_lt_zero _)
        | succ fu ih41 =>
          intro j I1 hm41 hj hch
          refine v_iload_n X 2 rfl dX6_changes_41 ?_
          refine v_aload_n X 0 rfl dX6_changes_42 ?_
          refine gf_X6_16 X dX6_changes_43 ?_
          refine v_iload_n X 1 rfl dX6_changes_46 ?_
          refine v_iald_n X dl_33 (fun _ _ => rfl) (n := 12) (by omega) (by decide) dX6_changes_47 ?_
          refine v_eqi (y := (nI (co t))) ((Fr.at hch.1 (by simp) _).trans (hct)) ?_
          refine v_icmp_ge_n X (by omega) (by omega) dX6_changes_48 (tgt := 68) (by decide) (fun h48 => ?_) (fun h48 => ?_)
          · refine v_aload_n X 0 rfl dX6_changes_68 ?_
            refine gf_X6_199 X dX6_changes_69 ?_
            refine v_eqi (y := (nI ((chgL (fun k => (I 46 0 k).toInt64) j).1))) (hch.2.2.1) ?_
            refine v_istore_n X [1, 2, 0] (lv' := [(0, .ref (eA (vE a) 30 0)), (1, .int (nI t)), (2, .int (nI ((chgL (fun k => (I 46 0 k).toInt64) j).1)))]) (by decide) rfl dX6_changes_72 ?_
            refine v_aload_n X 0 rfl dX6_changes_73 ?_
            refine v_iconst X (v := (nI 0)) dX6_changes_74 (by decide) ?_
            refine pf_X6_199 X dX6_changes_75 ?_
            refine v_aload_n X 0 rfl dX6_changes_78 ?_
            refine v_iconst X (v := (nI 0)) dX6_changes_79 (by decide) ?_
            refine pf_X6_196 X dX6_changes_80 ?_
            refine v_iconst X (v := (nI 0)) dX6_changes_83 (by decide) ?_
            refine v_istore_n X [1, 2, 3, 0] (lv' := [(0, .ref (eA (vE a) 30 0)), (1, .int (nI t)), (2, .int (nI ((chgL (fun k => (I 46 0 k).toInt64) j).1))), (3, .int (nI 0))]) (by decide) rfl dX6_changes_84 ?_
            have loop85 : ∀ (fu : Nat) (i : Nat) (I1 : TI), 6 - i < fu → (i ≤ ro t) → (CHS I I1 (chgL (fun i => rbcL (fun k => I 31 0 (25 * t + 5 * i + k)) (fun k => I 46 0 k) (co t)) i).1 (chgL (fun i => rbcL (fun k => I 31 0 (25 * t + 5 * i + k)) (fun k => I 46 0 k) (co t)) i).2) → V a 85 [(0, .ref (eA (vE a) 30 0)), (1, .int (nI t)), (2, .int (nI ((chgL (fun k => (I 46 0 k).toInt64) j).1))), (3, .int (nI i))] [] I1 L := by
              intro fu
              induction fu with
              | zero => intro i I1 hm _ _; exact absurd hm (Nat.not_lt_zero _)
              | succ fu ih85 =>
                intro i I1 hm85 hi hch
                refine v_iload_n X 3 rfl dX6_changes_85 ?_
                refine v_aload_n X 0 rfl dX6_changes_86 ?_
                refine gf_X6_13 X dX6_changes_87 ?_
                refine v_iload_n X 1 rfl dX6_changes_90 ?_
                refine v_iald_n X dl_32 (fun _ _ => rfl) (n := 12) (by omega) (by decide) dX6_changes_91 ?_
                refine v_eqi (y := (nI (ro t))) ((Fr.at hch.1 (by simp) _).trans (hrt)) ?_
                refine v_icmp_ge_n X (by omega) (by omega) dX6_changes_92 (tgt := 157) (by decide) (fun h92 => ?_) (fun h92 => ?_)
                · refine v_bipush X (v := (nI 10)) dX6_changes_157 (by decide) ?_
                  refine v_iload_n X 2 rfl dX6_changes_159 ?_
                  refine v_imul X dX6_changes_160 ?_
                  refine v_eqi (y := (nI (10 * ((chgL (fun k => (I 46 0 k).toInt64) j).1)))) (pk_mul _ _) ?_
                  refine v_aload_n X 0 rfl dX6_changes_161 ?_
                  refine gf_X6_199 X dX6_changes_162 ?_
                  refine v_eqi (y := (nI ((chgL (fun i => rbcL (fun k => I 31 0 (25 * t + 5 * i + k)) (fun k => I 46 0 k) (co t)) i).1))) (hch.2.2.1) ?_
                  refine v_iadd X dX6_changes_165 ?_
                  refine v_eqi (y := (nI ((10 * ((chgL (fun k => (I 46 0 k).toInt64) j).1)) + ((chgL (fun i => rbcL (fun k => I 31 0 (25 * t + 5 * i + k)) (fun k => I 46 0 k) (co t)) i).1)))) (nI_add _ _) ?_
                  exact v_iret X Y dX6_changes_166 (Or.inr ⟨t, htt, rfl, Or.inr ⟨h19, hch.1, hch.2.1, by rw [show i = ro t by omega, show j = co t by omega], rfl⟩⟩)
                · refine v_lconst X (v := 0) dX6_changes_95 rfl ?_
                  refine v_lstore X [1, 2, 3, 4, 0] (lv' := [(0, .ref (eA (vE a) 30 0)), (1, .int (nI t)), (2, .int (nI ((chgL (fun k => (I 46 0 k).toInt64) j).1))), (3, .int (nI i)), (4, .long 0)]) (by decide) rfl dX6_changes_96 ?_
                  refine v_iconst X (v := (nI 0)) dX6_changes_98 (by decide) ?_
                  refine v_istore X [1, 2, 3, 4, 5, 0] (lv' := [(0, .ref (eA (vE a) 30 0)), (1, .int (nI t)), (2, .int (nI ((chgL (fun k => (I 46 0 k).toInt64) j).1))), (3, .int (nI i)), (4, .long 0), (6, .int (nI 0))]) (by decide) rfl dX6_changes_99 ?_
                  have loop101 : ∀ (fu : Nat) (k : Nat) (sm : Int64), 6 - k < fu → (k ≤ co t) → (sm = rbcL (fun k => I 31 0 (25 * t + 5 * i + k)) (fun k => I 46 0 k) k) → V a 101 [(0, .ref (eA (vE a) 30 0)), (1, .int (nI t)), (2, .int (nI ((chgL (fun k => (I 46 0 k).toInt64) j).1))), (3, .int (nI i)), (4, .long sm), (6, .int (nI k))] [] I1 L := by
                    intro fu
                    induction fu with
                    | zero => intro k sm hm _ _; exact absurd hm (Nat.not_lt_zero _)
                    | succ fu ih101 =>
                      intro k sm hm101 hk hs
                      refine v_iload X 5 rfl dX6_changes_101 ?_
                      refine v_aload_n X 0 rfl dX6_changes_103 ?_
                      refine gf_X6_16 X dX6_changes_104 ?_
                      refine v_iload_n X 1 rfl dX6_changes_107 ?_
                      refine v_iald_n X dl_33 (fun _ _ => rfl) (n := 12) (by omega) (by decide) dX6_changes_108 ?_
                      refine v_eqi (y := (nI (co t))) ((Fr.at hch.1 (by simp) _).trans (hct)) ?_
                      refine v_icmp_ge_n X (by omega) (by omega) dX6_changes_109 (tgt := 145) (by decide) (fun h109 => ?_) (fun h109 => ?_)
                      · refine v_aload_n X 0 rfl dX6_changes_145 ?_
                        refine v_lload X 4 rfl dX6_changes_146 ?_
                        refine v_callV X (c_X6_meets _ _ hE _ _ I _ _ hch sm) k_X6_202 dl_30 (cef_30 _ _ _ _) rfl ⟨rfl, rfl, Nat.le_of_ble_eq_true rfl, Nat.le_of_ble_eq_true rfl⟩ (As := [.long sm]) (rest := []) rfl rfl (Nat.le_of_ble_eq_true rfl) dX6_changes_148 (fun r148 I148 L148 hp148 => ?_)
                        obtain ⟨rfl, hch148, e2⟩ := hp148
                        have e2 := e2.symm
                        subst e2
                        refine v_st (st' := []) rfl ?_
                        refine v_iinc X [1, 2, 3, 0, 4, 5] 3 (nI (i + 1)) (lv' := [(0, .ref (eA (vE a) 30 0)), (1, .int (nI t)), (2, .int (nI ((chgL (fun k => (I 46 0 k).toInt64) j).1))), (3, .int (nI (i + 1))), (4, .long sm), (6, .int (nI k))]) rfl (nI_1 _) (by decide) rfl dX6_changes_151 ?_
                        refine v_goto X (tgt := 85) dX6_changes_154 (by decide) ?_
                        refine v_sub [0, 1, 2, 3] (lv' := [(0, .ref (eA (vE a) 30 0)), (1, .int (nI t)), (2, .int (nI ((chgL (fun k => (I 46 0 k).toInt64) j).1))), (3, .int (nI (i + 1)))]) rfl ?_
                        exact ih85 (i + 1) I148 (by omega) (by omega) (by rw [hs, show k = co t by omega] at hch148; exact hch148)
                      · have e31 : I1 31 0 = I 31 0 := hch.1 31 0 (by simp)
                        have e46 : I1 46 0 = I 46 0 := hch.1 46 0 (by simp)
                        refine v_lload X 4 rfl dX6_changes_112 ?_
                        refine v_aload_n X 0 rfl dX6_changes_114 ?_
                        refine gf_X6_7 X dX6_changes_115 ?_
                        refine v_iload_n X 1 rfl dX6_changes_118 ?_
                        refine v_iload_n X 3 rfl dX6_changes_119 ?_
                        refine v_iload X 5 rfl dX6_changes_120 ?_
                        refine v_callS X (c_X6_place _ _ hE _ _ t i k) k_X6_113 ⟨rfl, rfl, Nat.le_of_ble_eq_true rfl, Nat.le_of_ble_eq_true rfl⟩ (As := [.int (nI t), .int (nI i), .int (nI k)]) (rest := [.ref (eA (vE a) 31 0), .long sm]) rfl rfl (Nat.le_of_ble_eq_true rfl) dX6_changes_122 (fun r122 I122 L122 hp122 => ?_)
                        obtain ⟨rfl, e1, e2⟩ := hp122
                        have e1 := e1.symm
                        have e2 := e2.symm
                        subst e1; subst e2
                        refine v_st (st' := [.int (nI (25 * t + 5 * i + k)), .ref (eA (vE a) 31 0), .long sm]) rfl ?_
                        refine v_iald_n X dl_31 (fun _ _ => rfl) (n := 300) (by omega) (by decide) dX6_changes_125 ?_
                        refine v_i2l X dX6_changes_126 rfl ?_
                        refine v_aload_n X 0 rfl dX6_changes_127 ?_
                        refine gf_X6_56 X dX6_changes_128 ?_
                        refine v_iload X 5 rfl dX6_changes_131 ?_
                        refine v_iald_n X dl_46 (fun _ _ => rfl) (n := 16) (by omega) (by decide) dX6_changes_133 ?_
                        refine v_i2l X dX6_changes_134 rfl ?_
                        refine v_lmul X dX6_changes_135 ?_
                        refine v_ladd X dX6_changes_136 ?_
                        refine v_lstore X [1, 2, 3, 4, 0, 5] (lv' := [(0, .ref (eA (vE a) 30 0)), (1, .int (nI t)), (2, .int (nI ((chgL (fun k => (I 46 0 k).toInt64) j).1))), (3, .int (nI i)), (4, .long (sm + ((I1 31 0 (25 * t + 5 * i + k)).toInt64 * (I1 46 0 k).toInt64))), (6, .int (nI k))]) (by decide) rfl dX6_changes_137 ?_
                        refine v_iinc X [1, 2, 3, 4, 5, 0] 5 (nI (k + 1)) (lv' := [(0, .ref (eA (vE a) 30 0)), (1, .int (nI t)), (2, .int (nI ((chgL (fun k => (I 46 0 k).toInt64) j).1))), (3, .int (nI i)), (4, .long (sm + ((I1 31 0 (25 * t + 5 * i + k)).toInt64 * (I1 46 0 k).toInt64))), (6, .int (nI (k + 1)))]) rfl (nI_1 _) (by decide) rfl dX6_changes_139 ?_
                        refine v_goto X (tgt := 101) dX6_changes_142 (by decide) ?_
                        exact ih101 (k + 1) (sm + ((I1 31 0 (25 * t + 5 * i + k)).toInt64 * (I1 46 0 k).toInt64)) (by omega) (by omega) (by rw [hs, e31, e46]; rfl)
                  exact loop101 _ 0 0 (Nat.lt_succ_self _) (Nat.zero_le _) rfl
            exact loop85 _ 0 (upI (upI I1 30 0 25 (nI 0)) 30 0 26 (nI 0)) (Nat.lt_succ_self _) (Nat.zero_le _) (hch.up (nI 0))
          · have e46 : I1 46 0 = I 46 0 := hch.1 46 0 (by simp)
            refine v_aload_n X 0 rfl dX6_changes_51 ?_
            refine v_aload_n X 0 rfl dX6_changes_52 ?_
            refine gf_X6_56 X dX6_changes_53 ?_
            refine v_iload_n X 2 rfl dX6_changes_56 ?_
            refine v_iald_n X dl_46 (fun _ _ => rfl) (n := 16) (by omega) (by decide) dX6_changes_57 ?_
            refine v_i2l X dX6_changes_58 rfl ?_
            refine v_callV X (c_X6_meets _ _ hE _ _ I _ _ hch ((I1 46 0 j).toInt64)) k_X6_202 dl_30 (cef_30 _ _ _ _) rfl ⟨rfl, rfl, Nat.le_of_ble_eq_true rfl, Nat.le_of_ble_eq_true rfl⟩ (As := [.long ((I1 46 0 j).toInt64)]) (rest := []) rfl rfl (Nat.le_of_ble_eq_true rfl) dX6_changes_59 (fun r59 I59 L59 hp59 => ?_)
            obtain ⟨rfl, hch59, e2⟩ := hp59
            have e2 := e2.symm
            subst e2
            refine v_st (st' := []) rfl ?_
            refine v_iinc X [1, 2, 0] 2 (nI (j + 1)) (lv' := [(0, .ref (eA (vE a) 30 0)), (1, .int (nI t)), (2, .int (nI (j + 1)))]) rfl (nI_1 _) (by decide) rfl dX6_changes_62 ?_
            refine v_goto X (tgt := 41) dX6_changes_65 (by decide) ?_
            exact ih41 (j + 1) I59 (by omega) (by omega) (by rw [e46] at hch59; exact hch59)
      exact loop41 _ 0 (upI (upI I 30 0 25 (nI 0)) 30 0 26 (nI 0)) (Nat.lt_succ_self _) (Nat.zero_le _) CHS.ini
    · refine v_aload_n X 0 rfl dX6_changes_22 ?_
      refine v_bipush X (v := (-2)) dX6_changes_23 (by decide) ?_
      refine v_callV X (c_X6_no _ _ hE _ _ 2 (by decide) (by decide)) k_X6_80 dl_30 (cef_30 _ _ _ _) rfl ⟨rfl, rfl, Nat.le_of_ble_eq_true rfl, Nat.le_of_ble_eq_true rfl⟩ (As := [.int (-2)]) (rest := []) rfl rfl (Nat.le_of_ble_eq_true rfl) dX6_changes_25 (fun r25 I25 L25 hp25 => ?_)
      obtain ⟨rfl, e1, e2⟩ := hp25
      have e1 := e1.symm
      have e2 := e2.symm
      subst e1; subst e2
      refine v_st (st' := [.int (-2)]) rfl ?_
      exact v_iret X Y dX6_changes_28 (Or.inr ⟨t, htt, rfl, Or.inl ⟨h19, ⟨rfl, rfl⟩, rfl⟩⟩)
  · refine v_aload_n X 0 rfl dX6_changes_8 ?_
    refine v_bipush X (v := (-3)) dX6_changes_9 (by decide) ?_
    refine v_callV X (c_X6_no _ _ hE _ _ 3 (by decide) (by decide)) k_X6_80 dl_30 (cef_30 _ _ _ _) rfl ⟨rfl, rfl, Nat.le_of_ble_eq_true rfl, Nat.le_of_ble_eq_true rfl⟩ (As := [.int (-3)]) (rest := []) rfl rfl (Nat.le_of_ble_eq_true rfl) dX6_changes_11 (fun r11 I11 L11 hp11 => ?_)
    obtain ⟨rfl, e1, e2⟩ := hp11
    have e1 := e1.symm
    have e2 := e2.symm
    subst e1; subst e2
    refine v_st (st' := [.int (-3)]) rfl ?_
    exact v_iret X Y dX6_changes_14 (Or.inl ⟨(fun q => h5 ((inR_T (by have := hT.2.1; omega)).mpr q)), ⟨rfl, rfl⟩, rfl⟩)
set_option maxHeartbeats 4000000 in
set_option maxRecDepth 100000 in
theorem c_X6_band (l : Launch) (E : VE) (hE : EOk E) (I : TI) (L : TL) (c : Nat) (ro co : Nat → Nat) (hT : MT I c ro co) (h : Nat) (hh : I 30 0 24 = nI h) (hh2 : h < 2) (n k : Int32) : Ct l E yX6_band cX6_band 5 (some .int) rm_X6_band [.ref (eA E 30 0), .int n, .int k] I L (fun r I' L' => (h = 0 ∧ MEF I I' r 2 ∧ L' = L) ∨ (0 < h ∧ ((¬ (isD n ∧ isD k) ∧ MEF I I' r 7 ∧ L' = L) ∨ (∃ n' k', 1 ≤ n' ∧ n' ≤ 5 ∧ 1 ≤ k' ∧ k' ≤ 5 ∧ n = nI n' ∧ k = nI k' ∧ ResM I I' r c n' n' (nI 2) (fun a b => if a ≤ b ∧ b - a < k' then (I 46 0 (b - a)).toInt64 else 0) ∧ FL [(43, 0)] L L')))) := by
  refine ct_of (by decide +kernel) (Nat.le_of_ble_eq_true rfl) hE ?_
  intro a X Y hl hEE
  subst hl; subst hEE
  show V a 0 [(0, .ref (eA (vE a) 30 0)), (1, .int n), (2, .int k)] [] I L
  refine v_aload_n X 0 rfl dX6_band_0 ?_
  refine gf_X6_187 X dX6_band_1 ?_
  refine v_eqi (y := (nI h)) (hh) ?_
  refine v_if_ne_n X (by omega) dX6_band_4 (tgt := 14) (by decide) (fun h4 => ?_) (fun h4 => ?_)
  · refine v_iload_n X 1 rfl dX6_band_14 ?_
    refine v_i2l X dX6_band_15 rfl ?_
    refine v_lconst X (v := 1) dX6_band_16 rfl ?_
    refine v_ldc2 X kc_X6_88 dX6_band_17 ?_
    refine v_callS X (c_X6_isIn _ _ hE _ _ n.toInt64 1 5) k_X6_90 ⟨rfl, rfl, Nat.le_of_ble_eq_true rfl, Nat.le_of_ble_eq_true rfl⟩ (As := [.long n.toInt64, .long 1, .long 5]) (rest := []) rfl rfl (Nat.le_of_ble_eq_true rfl) dX6_band_20 (fun r20 I20 L20 hp20 => ?_)
    obtain ⟨rfl, e1, e2⟩ := hp20
    have e1 := e1.symm
    have e2 := e2.symm
    subst e1; subst e2
    refine v_st (st' := [.int (bI (1 ≤ n.toInt64 ∧ n.toInt64 ≤ 5))]) rfl ?_
    refine v_ifb_eq X dX6_band_23 (tgt := 38) (by decide) (fun h23 => ?_) (fun h23 => ?_)
    · refine v_aload_n X 0 rfl dX6_band_38 ?_
      refine v_bipush X (v := (-7)) dX6_band_39 (by decide) ?_
      refine v_callV X (c_X6_no _ _ hE _ _ 7 (by decide) (by decide)) k_X6_80 dl_30 (cef_30 _ _ _ _) rfl ⟨rfl, rfl, Nat.le_of_ble_eq_true rfl, Nat.le_of_ble_eq_true rfl⟩ (As := [.int (-7)]) (rest := []) rfl rfl (Nat.le_of_ble_eq_true rfl) dX6_band_41 (fun r41 I41 L41 hp41 => ?_)
      obtain ⟨rfl, e1, e2⟩ := hp41
      have e1 := e1.symm
      have e2 := e2.symm
      subst e1; subst e2
      refine v_st (st' := [.int (-7)]) rfl ?_
      exact v_iret X Y dX6_band_44 (Or.inr ⟨h4, Or.inl ⟨fun q => h23 (in_D.mpr q.1), ⟨rfl, rfl⟩, rfl⟩⟩)
    · refine v_iload_n X 2 rfl dX6_band_26 ?_
      refine v_i2l X dX6_band_27 rfl ?_
      refine v_lconst X (v := 1) dX6_band_28 rfl ?_
      refine v_ldc2 X kc_X6_88 dX6_band_29 ?_
      refine v_callS X (c_X6_isIn _ _ hE _ _ k.toInt64 1 5) k_X6_90 ⟨rfl, rfl, Nat.le_of_ble_eq_true rfl, Nat.le_of_ble_eq_true rfl⟩ (As := [.long k.toInt64, .long 1, .long 5]) (rest := []) rfl rfl (Nat.le_of_ble_eq_true rfl) dX6_band_32 (fun r32 I32 L32 hp32 => ?_)
      obtain ⟨rfl, e1, e2⟩ := hp32
      have e1 := e1.symm
      have e2 := e2.symm
      subst e1; subst e2
      refine v_st (st' := [.int (bI (1 ≤ k.toInt64 ∧ k.toInt64 ≤ 5))]) rfl ?_
      refine v_ifb_ne X dX6_band_35 (tgt := 45) (by decide) (fun h35 => ?_) (fun h35 => ?_)
      · obtain ⟨n', hn1, hn5, rfl⟩ := in_D.mp h23
        obtain ⟨k', hk1, hk5, rfl⟩ := in_D.mp h35
        refine v_iconst X (v := (nI 0)) dX6_band_45 (by decide) ?_
        refine v_istore_n X [1, 2, 3, 0] (lv' := [(0, .ref (eA (vE a) 30 0)), (1, .int (nI n')), (2, .int (nI k')), (3, .int (nI 0))]) (by decide) rfl dX6_band_46 ?_
        have loop47 : ∀ (fu : Nat) (i : Nat) (L1 : TL), 6 - i < fu → (i ≤ n') → (FL [(43, 0)] L L1) → (NX L1 n' i 0 (fun a b => if a ≤ b ∧ b - a < k' then (I 46 0 (b - a)).toInt64 else 0)) → V a 47 [(0, .ref (eA (vE a) 30 0)), (1, .int (nI n')), (2, .int (nI k')), (3, .int (nI i))] [] I L1 := by
          intro fu
          induction fu with
          | zero => intro i L1 hm _ _ _; exact absurd hm (Nat.not_lt_zero _)
          | succ fu ih47 =>
            intro i L1 hm47 hi hFL hN
            refine v_iload_n X 3 rfl dX6_band_47 ?_
            refine v_iload_n X 1 rfl dX6_band_48 ?_
            refine v_icmp_ge_n X (by omega) (by omega) dX6_band_49 (tgt := 112) (by decide) (fun h49 => ?_) (fun h49 => ?_)
            · refine v_aload_n X 0 rfl dX6_band_112 ?_
              refine v_iload_n X 1 rfl dX6_band_113 ?_
              refine v_iload_n X 1 rfl dX6_band_114 ?_
              refine v_iconst X (v := (nI 2)) dX6_band_115 (by decide) ?_
              refine v_callV X (c_X6_comes _ _ hE _ _ c ro co hT n' n' (by omega) (by omega) (by omega) (nI 2)) k_X6_160 dl_30 (cef_30 _ _ _ _) rfl ⟨rfl, rfl, Nat.le_of_ble_eq_true rfl, Nat.le_of_ble_eq_true rfl⟩ (As := [.int (nI n'), .int (nI n'), .int (nI 2)]) (rest := []) rfl rfl (Nat.le_of_ble_eq_true rfl) dX6_band_116 (fun r116 I116 L116 hp116 => ?_)
              obtain ⟨hres0, e2⟩ := hp116
              have e2 := e2.symm
              subst e2
              have hres := ResM.cg (fun a b ha hb => hN a b hb (by omega)) hres0
              obtain ⟨x9, rfl⟩ := hres.val
              refine v_st (st' := [.int x9]) rfl ?_
              exact v_iret X Y dX6_band_119 (Or.inr ⟨h4, Or.inr ⟨n', k', hn1, hn5, hk1, hk5, rfl, rfl, hres, hFL⟩⟩)
            · refine v_iconst X (v := (nI 0)) dX6_band_52 (by decide) ?_
              refine v_istore X [1, 2, 3, 4, 0] (lv' := [(0, .ref (eA (vE a) 30 0)), (1, .int (nI n')), (2, .int (nI k')), (3, .int (nI i)), (4, .int (nI 0))]) (by decide) rfl dX6_band_53 ?_
              have loop55 : ∀ (fu : Nat) (j : Nat) (L1 : TL), 6 - j < fu → (j ≤ n') → (FL [(43, 0)] L L1) → (NX L1 n' i j (fun a b => if a ≤ b ∧ b - a < k' then (I 46 0 (b - a)).toInt64 else 0)) → V a 55 [(0, .ref (eA (vE a) 30 0)), (1, .int (nI n')), (2, .int (nI k')), (3, .int (nI i)), (4, .int (nI j))] [] I L1 := by
                intro fu
                induction fu with
                | zero => intro j L1 hm _ _ _; exact absurd hm (Nat.not_lt_zero _)
                | succ fu ih55 =>
                  intro j L1 hm55 hj hFL hN
                  refine v_iload X 4 rfl dX6_band_55 ?_
                  refine v_iload_n X 1 rfl dX6_band_57 ?_
                  refine v_icmp_ge_n X (by omega) (by omega) dX6_band_58 (tgt := 106) (by decide) (fun h58 => ?_) (fun h58 => ?_)
                  · refine v_iinc X [1, 2, 3, 0, 4] 3 (nI (i + 1)) (lv' := [(0, .ref (eA (vE a) 30 0)), (1, .int (nI n')), (2, .int (nI k')), (3, .int (nI (i + 1))), (4, .int (nI j))]) rfl (nI_1 _) (by decide) rfl dX6_band_106 ?_
                    refine v_goto X (tgt := 47) dX6_band_109 (by decide) ?_
                    refine v_sub [0, 1, 2, 3] (lv' := [(0, .ref (eA (vE a) 30 0)), (1, .int (nI n')), (2, .int (nI k')), (3, .int (nI (i + 1)))]) rfl ?_
                    exact ih47 (i + 1) L1 (by omega) (by omega) hFL (hN.row (by omega))
                  · refine v_aload_n X 0 rfl dX6_band_61 ?_
                    refine gf_X6_47 X dX6_band_62 ?_
                    refine v_iconst X (v := (nI 5)) dX6_band_65 (by decide) ?_
                    refine v_iload_n X 3 rfl dX6_band_66 ?_
                    refine v_imul X dX6_band_67 ?_
                    refine v_eqi (y := (nI (5 * i))) (pk_mul _ _) ?_
                    refine v_iload X 4 rfl dX6_band_68 ?_
                    refine v_iadd X dX6_band_70 ?_
                    refine v_eqi (y := (nI ((5 * i) + j))) (nI_add _ _) ?_
                    refine v_iload X 4 rfl dX6_band_71 ?_
                    refine v_iload_n X 3 rfl dX6_band_73 ?_
                    refine v_icmp_lt_n X (by omega) (by omega) dX6_band_74 (tgt := 98) (by decide) (fun h74 => ?_) (fun h74 => ?_)
                    · refine v_lconst X (v := 0) dX6_band_98 rfl ?_
                      refine v_last_n X dl_43 (fun _ _ => rfl) (n := 25) (by omega) (by decide) dX6_band_99 ?_
                      refine v_iinc X [1, 2, 3, 4, 0] 4 (nI (j + 1)) (lv' := [(0, .ref (eA (vE a) 30 0)), (1, .int (nI n')), (2, .int (nI k')), (3, .int (nI i)), (4, .int (nI (j + 1)))]) rfl (nI_1 _) (by decide) rfl dX6_band_100 ?_
                      refine v_goto X (tgt := 55) dX6_band_103 (by decide) ?_
                      exact ih55 (j + 1) (upL L1 43 0 ((5 * i) + j) 0) (by omega) (by omega) (hFL.up (by simp)) (hN.put (by omega) (by omega) (if_neg (by omega)).symm)
                    · refine v_iload X 4 rfl dX6_band_77 ?_
                      refine v_iload_n X 3 rfl dX6_band_79 ?_
                      refine v_isub X dX6_band_80 ?_
                      refine v_eqi (y := (nI (j - i))) (pk_sub (by omega)) ?_
                      refine v_iload_n X 2 rfl dX6_band_81 ?_
                      refine v_icmp_ge_n X (by omega) (by omega) dX6_band_82 (tgt := 98) (by decide) (fun h82 => ?_) (fun h82 => ?_)
                      · refine v_lconst X (v := 0) dX6_band_98 rfl ?_
                        refine v_last_n X dl_43 (fun _ _ => rfl) (n := 25) (by omega) (by decide) dX6_band_99 ?_
                        refine v_iinc X [1, 2, 3, 4, 0] 4 (nI (j + 1)) (lv' := [(0, .ref (eA (vE a) 30 0)), (1, .int (nI n')), (2, .int (nI k')), (3, .int (nI i)), (4, .int (nI (j + 1)))]) rfl (nI_1 _) (by decide) rfl dX6_band_100 ?_
                        refine v_goto X (tgt := 55) dX6_band_103 (by decide) ?_
                        exact ih55 (j + 1) (upL L1 43 0 ((5 * i) + j) 0) (by omega) (by omega) (hFL.up (by simp)) (hN.put (by omega) (by omega) (if_neg (by omega)).symm)
                      · refine v_aload_n X 0 rfl dX6_band_85 ?_
                        refine gf_X6_56 X dX6_band_86 ?_
                        refine v_iload X 4 rfl dX6_band_89 ?_
                        refine v_iload_n X 3 rfl dX6_band_91 ?_
                        refine v_isub X dX6_band_92 ?_
                        refine v_eqi (y := (nI (j - i))) (pk_sub (by omega)) ?_
                        refine v_iald_n X dl_46 (fun _ _ => rfl) (n := 16) (by omega) (by decide) dX6_band_93 ?_
                        refine v_i2l X dX6_band_94 rfl ?_
                        refine v_goto X (tgt := 99) dX6_band_95 (by decide) ?_
                        refine v_last_n X dl_43 (fun _ _ => rfl) (n := 25) (by omega) (by decide) dX6_band_99 ?_
                        refine v_iinc X [1, 2, 3, 4, 0] 4 (nI (j + 1)) (lv' := [(0, .ref (eA (vE a) 30 0)), (1, .int (nI n')), (2, .int (nI k')), (3, .int (nI i)), (4, .int (nI (j + 1)))]) rfl (nI_1 _) (by decide) rfl dX6_band_100 ?_
                        refine v_goto X (tgt := 55) dX6_band_103 (by decide) ?_
                        exact ih55 (j + 1) (upL L1 43 0 ((5 * i) + j) ((I 46 0 (j - i)).toInt64)) (by omega) (by omega) (hFL.up (by simp)) (hN.put (by omega) (by omega) (if_pos (by omega)).symm)
              exact loop55 _ 0 L1 (Nat.lt_succ_self _) (Nat.zero_le _) hFL hN
        exact loop47 _ 0 L (Nat.lt_succ_self _) (Nat.zero_le _) FL.rf NX.ini
      · refine v_aload_n X 0 rfl dX6_band_38 ?_
        refine v_bipush X (v := (-7)) dX6_band_39 (by decide) ?_
        refine v_callV X (c_X6_no _ _ hE _ _ 7 (by decide) (by decide)) k_X6_80 dl_30 (cef_30 _ _ _ _) rfl ⟨rfl, rfl, Nat.le_of_ble_eq_true rfl, Nat.le_of_ble_eq_true rfl⟩ (As := [.int (-7)]) (rest := []) rfl rfl (Nat.le_of_ble_eq_true rfl) dX6_band_41 (fun r41 I41 L41 hp41 => ?_)
        obtain ⟨rfl, e1, e2⟩ := hp41
        have e1 := e1.symm
        have e2 := e2.symm
        subst e1; subst e2
        refine v_st (st' := [.int (-7)]) rfl ?_
        exact v_iret X Y dX6_band_44 (Or.inr ⟨h4, Or.inl ⟨fun q => h35 (in_D.mpr q.2), ⟨rfl, rfl⟩, rfl⟩⟩)
  · refine v_aload_n X 0 rfl dX6_band_7 ?_
    refine v_bipush X (v := (-2)) dX6_band_8 (by decide) ?_
    refine v_callV X (c_X6_no _ _ hE _ _ 2 (by decide) (by decide)) k_X6_80 dl_30 (cef_30 _ _ _ _) rfl ⟨rfl, rfl, Nat.le_of_ble_eq_true rfl, Nat.le_of_ble_eq_true rfl⟩ (As := [.int (-2)]) (rest := []) rfl rfl (Nat.le_of_ble_eq_true rfl) dX6_band_10 (fun r10 I10 L10 hp10 => ?_)
    obtain ⟨rfl, e1, e2⟩ := hp10
    have e1 := e1.symm
    have e2 := e2.symm
    subst e1; subst e2
    refine v_st (st' := [.int (-2)]) rfl ?_
    exact v_iret X Y dX6_band_13 (Or.inl ⟨h4, ⟨rfl, rfl⟩, rfl⟩)
set_option maxHeartbeats 4000000 in
set_option maxRecDepth 100000 in
theorem c_X6_lay (l : Launch) (E : VE) (hE : EOk E) (I : TI) (L : TL) (c : Nat) (ro co : Nat → Nat) (hT : MT I c ro co) (x i : Int32) : Ct l E yX6_lay cX6_lay 4 (some .int) rm_X6_lay [.ref (eA E 30 0), .int x, .int i] I L (fun r I' L' => (¬ (∃ t, t < c ∧ x = nI t ∧ isT (ro t) i) ∧ MEF I I' r 3 ∧ L' = L) ∨ (∃ t i', t < c ∧ x = nI t ∧ i' < ro t ∧ i = nI i' ∧ Fr [(46, 0), (30, 0)] I I' ∧ (∀ x, x ≠ 24 → I' 30 0 x = I 30 0 x) ∧ I' 30 0 24 = nI 1 ∧ (∀ x, x < 16 → I' 46 0 x = if x < co t then I 31 0 (25 * t + 5 * i' + x) else nI 0) ∧ r = some (.int (nI (co t))) ∧ L' = L)) := by
  refine ct_of (by decide +kernel) (Nat.le_of_ble_eq_true rfl) hE ?_
  intro a X Y hl hEE
  subst hl; subst hEE
  show V a 0 [(0, .ref (eA (vE a) 30 0)), (1, .int x), (2, .int i)] [] I L
  refine v_aload_n X 0 rfl dX6_lay_0 ?_
  refine v_iload_n X 1 rfl dX6_lay_1 ?_
  refine v_callV X (c_X6_isTable _ _ hE _ _ c (hT.1) x) k_X6_98 dl_30 (cef_30 _ _ _ _) rfl ⟨rfl, rfl, Nat.le_of_ble_eq_true rfl, Nat.le_of_ble_eq_true rfl⟩ (As := [.int x]) (rest := []) rfl rfl (Nat.le_of_ble_eq_true rfl) dX6_lay_2 (fun r2 I2 L2 hp2 => ?_)
  obtain ⟨rfl, e1, e2⟩ := hp2
  have e1 := e1.symm
  have e2 := e2.symm
  subst e1; subst e2
  refine v_st (st' := [.int (bI (inR c x))]) rfl ?_
  refine v_ifb_eq X dX6_lay_5 (tgt := 26) (by decide) (fun h5 => ?_) (fun h5 => ?_)
  · refine v_aload_n X 0 rfl dX6_lay_26 ?_
    refine v_bipush X (v := (-3)) dX6_lay_27 (by decide) ?_
    refine v_callV X (c_X6_no _ _ hE _ _ 3 (by decide) (by decide)) k_X6_80 dl_30 (cef_30 _ _ _ _) rfl ⟨rfl, rfl, Nat.le_of_ble_eq_true rfl, Nat.le_of_ble_eq_true rfl⟩ (As := [.int (-3)]) (rest := []) rfl rfl (Nat.le_of_ble_eq_true rfl) dX6_lay_29 (fun r29 I29 L29 hp29 => ?_)
    obtain ⟨rfl, e1, e2⟩ := hp29
    have e1 := e1.symm
    have e2 := e2.symm
    subst e1; subst e2
    refine v_st (st' := [.int (-3)]) rfl ?_
    exact v_iret X Y dX6_lay_32 (Or.inl ⟨fun ⟨t, ht, e, _⟩ => (fun q => h5 ((inR_T (by have := hT.2.1; omega)).mpr q)) ⟨t, ht, e⟩, ⟨rfl, rfl⟩, rfl⟩)
  · obtain ⟨t, htt, rfl⟩ := inR_of (by have := hT.2.1; omega) h5
    have hc12 := hT.2.1
    obtain ⟨hrt, hct, hr1t, hr5t, hc1t, hc5t⟩ := hT.2.2 t htt
    have ht12t : t < 12 := by omega
    refine v_iload_n X 2 rfl dX6_lay_8 ?_
    refine v_i2l X dX6_lay_9 rfl ?_
    refine v_lconst X (v := 0) dX6_lay_10 rfl ?_
    refine v_aload_n X 0 rfl dX6_lay_11 ?_
    refine gf_X6_13 X dX6_lay_12 ?_
    refine v_iload_n X 1 rfl dX6_lay_15 ?_
    refine v_iald_n X dl_32 (fun _ _ => rfl) (n := 12) (by omega) (by decide) dX6_lay_16 ?_
    refine v_eqi (y := (nI (ro t))) (hrt) ?_
    refine v_iconst X (v := (nI 1)) dX6_lay_17 (by decide) ?_
    refine v_isub X dX6_lay_18 ?_
    refine v_eqi (y := (nI ((ro t) - 1))) (pk_sub (by omega)) ?_
    refine v_i2l X dX6_lay_19 rfl ?_
    refine v_callS X (c_X6_isIn _ _ hE _ _ i.toInt64 0 ((nI ((ro t) - 1)).toInt64)) k_X6_90 ⟨rfl, rfl, Nat.le_of_ble_eq_true rfl, Nat.le_of_ble_eq_true rfl⟩ (As := [.long i.toInt64, .long 0, .long ((nI ((ro t) - 1)).toInt64)]) (rest := []) rfl rfl (Nat.le_of_ble_eq_true rfl) dX6_lay_20 (fun r20 I20 L20 hp20 => ?_)
    obtain ⟨rfl, e1, e2⟩ := hp20
    have e1 := e1.symm
    have e2 := e2.symm
    subst e1; subst e2
    refine v_st (st' := [.int (bI (0 ≤ i.toInt64 ∧ i.toInt64 ≤ (nI ((ro t) - 1)).toInt64))]) rfl ?_
    refine v_ifb_ne X dX6_lay_23 (tgt := 33) (by decide) (fun h23 => ?_) (fun h23 => ?_)
    · obtain ⟨i', hi', rfl⟩ := (in_T (by omega) (by omega)).mp h23
      refine v_aload_n X 0 rfl dX6_lay_33 ?_
      refine v_iconst X (v := (nI 1)) dX6_lay_34 (by decide) ?_
      refine pf_X6_187 X rfl dX6_lay_35 ?_
      refine v_iconst X (v := (nI 0)) dX6_lay_38 (by decide) ?_
      refine v_istore_n X [1, 2, 3, 0] (lv' := [(0, .ref (eA (vE a) 30 0)), (1, .int (nI t)), (2, .int (nI i')), (3, .int (nI 0))]) (by decide) rfl dX6_lay_39 ?_
      have loop40 : ∀ (fu : Nat) (j : Nat) (I1 : TI), 17 - j < fu → (j ≤ 16) → (Fr [(46, 0), (30, 0)] I I1) → (∀ x, x ≠ 24 → I1 30 0 x = I 30 0 x) → (I1 30 0 24 = nI 1) → (∀ x, x < j → I1 46 0 x = if x < co t then I 31 0 (25 * t + 5 * i' + x) else nI 0) → V a 40 [(0, .ref (eA (vE a) 30 0)), (1, .int (nI t)), (2, .int (nI i')), (3, .int (nI j))] [] I1 L := by
        intro fu
        induction fu with
        | zero => intro j I1 hm _ _ _ _ _; exact absurd hm (Nat.not_lt_zero _)
        | succ fu ih40 =>
          intro j I1 hm40 hj hFr hso hs24 hv
          refine v_iload_n X 3 rfl dX6_lay_40 ?_
          refine v_bipush X (v := (nI 16)) dX6_lay_41 (by decide) ?_
          refine v_icmp_ge_n X (by omega) (by omega) dX6_lay_43 (tgt := 83) (by decide) (fun h43 => ?_) (fun h43 => ?_)
          · refine v_aload_n X 0 rfl dX6_lay_83 ?_
            refine gf_X6_16 X dX6_lay_84 ?_
            refine v_iload_n X 1 rfl dX6_lay_87 ?_
            refine v_iald_n X dl_33 (fun _ _ => rfl) (n := 12) (by omega) (by decide) dX6_lay_88 ?_
            refine v_eqi (y := (nI (co t))) ((Fr.at hFr (by simp) _).trans (hct)) ?_
            exact v_iret X Y dX6_lay_89 (Or.inr ⟨t, i', htt, rfl, hi', rfl, hFr, hso, hs24, fun x hx => hv x (by omega), rfl, rfl⟩)
          · refine v_aload_n X 0 rfl dX6_lay_46 ?_
            refine gf_X6_56 X dX6_lay_47 ?_
            refine v_iload_n X 3 rfl dX6_lay_50 ?_
            refine v_iload_n X 3 rfl dX6_lay_51 ?_
            refine v_aload_n X 0 rfl dX6_lay_52 ?_
            refine gf_X6_16 X dX6_lay_53 ?_
            refine v_iload_n X 1 rfl dX6_lay_56 ?_
            refine v_iald_n X dl_33 (fun _ _ => rfl) (n := 12) (by omega) (by decide) dX6_lay_57 ?_
            refine v_eqi (y := (nI (co t))) ((Fr.at hFr (by simp) _).trans (hct)) ?_
            refine v_icmp_ge_n X (by omega) (by omega) dX6_lay_58 (tgt := 75) (by decide) (fun h58 => ?_) (fun h58 => ?_)
            · refine v_iconst X (v := (nI 0)) dX6_lay_75 (by decide) ?_
              refine v_iast_n X dl_46 (fun _ _ => rfl) (n := 16) (by omega) (by decide) dX6_lay_76 ?_
              refine v_iinc X [1, 2, 3, 0] 3 (nI (j + 1)) (lv' := [(0, .ref (eA (vE a) 30 0)), (1, .int (nI t)), (2, .int (nI i')), (3, .int (nI (j + 1)))]) rfl (nI_1 _) (by decide) rfl dX6_lay_77 ?_
              refine v_goto X (tgt := 40) dX6_lay_80 (by decide) ?_
              have hnew : ∀ x, x < j + 1 → (upI I1 46 0 j (nI 0)) 46 0 x = if x < co t then I 31 0 (25 * t + 5 * i' + x) else nI 0 := fun x hx => by
                by_cases e : x = j
                · rw [e, upI_eq, if_neg (by omega)]
                · rw [upI_x e, hv x (by omega)]
              exact ih40 (j + 1) (upI I1 46 0 j (nI 0)) (by omega) (by omega) (hFr.up (by simp)) (fun x hx => (upI_k (by decide)).trans (hso x hx)) ((upI_k (by decide)).trans hs24) hnew
            · refine v_aload_n X 0 rfl dX6_lay_61 ?_
              refine gf_X6_7 X dX6_lay_62 ?_
              refine v_iload_n X 1 rfl dX6_lay_65 ?_
              refine v_iload_n X 2 rfl dX6_lay_66 ?_
              refine v_iload_n X 3 rfl dX6_lay_67 ?_
              refine v_callS X (c_X6_place _ _ hE _ _ t i' j) k_X6_113 ⟨rfl, rfl, Nat.le_of_ble_eq_true rfl, Nat.le_of_ble_eq_true rfl⟩ (As := [.int (nI t), .int (nI i'), .int (nI j)]) (rest := [.ref (eA (vE a) 31 0), .int (nI j), .ref (eA (vE a) 46 0)]) rfl rfl (Nat.le_of_ble_eq_true rfl) dX6_lay_68 (fun r68 I68 L68 hp68 => ?_)
              obtain ⟨rfl, e1, e2⟩ := hp68
              have e1 := e1.symm
              have e2 := e2.symm
              subst e1; subst e2
              refine v_st (st' := [.int (nI (25 * t + 5 * i' + j)), .ref (eA (vE a) 31 0), .int (nI j), .ref (eA (vE a) 46 0)]) rfl ?_
              refine v_iald_n X dl_31 (fun _ _ => rfl) (n := 300) (by omega) (by decide) dX6_lay_71 ?_
              refine v_goto X (tgt := 76) dX6_lay_72 (by decide) ?_
              refine v_iast_n X dl_46 (fun _ _ => rfl) (n := 16) (by omega) (by decide) dX6_lay_76 ?_
              refine v_iinc X [1, 2, 3, 0] 3 (nI (j + 1)) (lv' := [(0, .ref (eA (vE a) 30 0)), (1, .int (nI t)), (2, .int (nI i')), (3, .int (nI (j + 1)))]) rfl (nI_1 _) (by decide) rfl dX6_lay_77 ?_
              refine v_goto X (tgt := 40) dX6_lay_80 (by decide) ?_
              have hnew : ∀ x, x < j + 1 → (upI I1 46 0 j (I1 31 0 (25 * t + 5 * i' + j))) 46 0 x = if x < co t then I 31 0 (25 * t + 5 * i' + x) else nI 0 := fun x hx => by
                by_cases e : x = j
                · rw [e, upI_eq, if_pos (by omega), hFr.at (by simp)]
                · rw [upI_x e, hv x (by omega)]
              exact ih40 (j + 1) (upI I1 46 0 j (I1 31 0 (25 * t + 5 * i' + j))) (by omega) (by omega) (hFr.up (by simp)) (fun x hx => (upI_k (by decide)).trans (hso x hx)) ((upI_k (by decide)).trans hs24) hnew
      exact loop40 _ 0 (upI I 30 0 24 (nI 1)) (Nat.lt_succ_self _) (Nat.zero_le _) (Fr.rf.up (by simp)) (fun x hx => upI_x hx) upI_eq (fun x hx => absurd hx (Nat.not_lt_zero _))
    · refine v_aload_n X 0 rfl dX6_lay_26 ?_
      refine v_bipush X (v := (-3)) dX6_lay_27 (by decide) ?_
      refine v_callV X (c_X6_no _ _ hE _ _ 3 (by decide) (by decide)) k_X6_80 dl_30 (cef_30 _ _ _ _) rfl ⟨rfl, rfl, Nat.le_of_ble_eq_true rfl, Nat.le_of_ble_eq_true rfl⟩ (As := [.int (-3)]) (rest := []) rfl rfl (Nat.le_of_ble_eq_true rfl) dX6_lay_29 (fun r29 I29 L29 hp29 => ?_)
      obtain ⟨rfl, e1, e2⟩ := hp29
      have e1 := e1.symm
      have e2 := e2.symm
      subst e1; subst e2
      refine v_st (st' := [.int (-3)]) rfl ?_
      exact v_iret X Y dX6_lay_32 (Or.inl ⟨fun ⟨u, hu, e, hq⟩ => by
            have e := (nI_eq (by omega) (by omega)).mp e
            subst e
            exact h23 ((in_T (by omega) (by omega)).mpr hq), ⟨rfl, rfl⟩, rfl⟩)
set_option maxHeartbeats 4000000 in
set_option maxRecDepth 100000 in
theorem c_X6_tear (l : Launch) (E : VE) (hE : EOk E) (I : TI) (L : TL) (h : Nat) (hh : I 30 0 24 = nI h) (hh2 : h < 2) : Ct l E yX6_tear cX6_tear 2 (some .int) rm_X6_tear [.ref (eA E 30 0)] I L (fun r I' L' => r = some (.int (nI h)) ∧ I' = upI I 30 0 24 (nI 0) ∧ L' = L) := by
  refine ct_of (by decide +kernel) (Nat.le_of_ble_eq_true rfl) hE ?_
  intro a X Y hl hEE
  subst hl; subst hEE
  show V a 0 [(0, .ref (eA (vE a) 30 0))] [] I L
  refine v_aload_n X 0 rfl dX6_tear_0 ?_
  refine gf_X6_187 X dX6_tear_1 ?_
  refine v_eqi (y := (nI h)) (hh) ?_
  refine v_if_eq_n X (by omega) dX6_tear_4 (tgt := 11) (by decide) (fun h4 => ?_) (fun h4 => ?_)
  · refine v_iconst X (v := (nI 0)) dX6_tear_11 (by decide) ?_
    refine v_istore_n X [1, 0] (lv' := [(0, .ref (eA (vE a) 30 0)), (1, .int (nI 0))]) (by decide) rfl dX6_tear_12 ?_
    refine v_aload_n X 0 rfl dX6_tear_13 ?_
    refine v_iconst X (v := (nI 0)) dX6_tear_14 (by decide) ?_
    refine pf_X6_187 X rfl dX6_tear_15 ?_
    refine v_iload_n X 1 rfl dX6_tear_18 ?_
    exact v_iret X Y dX6_tear_19 (⟨by rw [show h = 0 by omega], rfl, rfl⟩)
  · refine v_iconst X (v := (nI 1)) dX6_tear_7 (by decide) ?_
    refine v_goto X (tgt := 12) dX6_tear_8 (by decide) ?_
    refine v_istore_n X [1, 0] (lv' := [(0, .ref (eA (vE a) 30 0)), (1, .int (nI 1))]) (by decide) rfl dX6_tear_12 ?_
    refine v_aload_n X 0 rfl dX6_tear_13 ?_
    refine v_iconst X (v := (nI 0)) dX6_tear_14 (by decide) ?_
    refine pf_X6_187 X rfl dX6_tear_15 ?_
    refine v_iload_n X 1 rfl dX6_tear_18 ?_
    exact v_iret X Y dX6_tear_19 (⟨by rw [show h = 1 by omega], rfl, rfl⟩)
set_option maxHeartbeats 4000000 in
set_option maxRecDepth 100000 in
theorem c_X6_row (l : Launch) (E : VE) (hE : EOk E) (I : TI) (L : TL) (h : Nat) (hh : I 30 0 24 = nI h) (hh2 : h < 2) (i : Int32) : Ct l E yX6_row cX6_row 2 (some .int) rm_X6_row [.ref (eA E 30 0), .int i] I L (fun r I' L' => ((h = 0 ∧ ME0 I I' r 2) ∨ (0 < h ∧ ((¬ (0 ≤ i ∧ i < nI 16) ∧ ME0 I I' r 3) ∨ (∃ i', i' < 16 ∧ i = nI i' ∧ r = some (.int (I 46 0 i')) ∧ I' = I)))) ∧ L' = L) := by
  refine ct_of (by decide +kernel) (Nat.le_of_ble_eq_true rfl) hE ?_
  intro a X Y hl hEE
  subst hl; subst hEE
  show V a 0 [(0, .ref (eA (vE a) 30 0)), (1, .int i)] [] I L
  refine v_aload_n X 0 rfl dX6_row_0 ?_
  refine gf_X6_187 X dX6_row_1 ?_
  refine v_eqi (y := (nI h)) (hh) ?_
  refine v_if_ne_n X (by omega) dX6_row_4 (tgt := 14) (by decide) (fun h4 => ?_) (fun h4 => ?_)
  · refine v_iload_n X 1 rfl dX6_row_14 ?_
    refine v_i2l X dX6_row_15 rfl ?_
    refine v_lconst X (v := 0) dX6_row_16 rfl ?_
    refine v_ldc2 X kc_X6_191 dX6_row_17 ?_
    refine v_callS X (c_X6_isIn _ _ hE _ _ i.toInt64 0 15) k_X6_90 ⟨rfl, rfl, Nat.le_of_ble_eq_true rfl, Nat.le_of_ble_eq_true rfl⟩ (As := [.long i.toInt64, .long 0, .long 15]) (rest := []) rfl rfl (Nat.le_of_ble_eq_true rfl) dX6_row_20 (fun r20 I20 L20 hp20 => ?_)
    obtain ⟨rfl, e1, e2⟩ := hp20
    have e1 := e1.symm
    have e2 := e2.symm
    subst e1; subst e2
    refine v_st (st' := [.int (bI (0 ≤ i.toInt64 ∧ i.toInt64 ≤ 15))]) rfl ?_
    refine v_ifb_eq X dX6_row_23 (tgt := 35) (by decide) (fun h23 => ?_) (fun h23 => ?_)
    · refine v_aload_n X 0 rfl dX6_row_35 ?_
      refine v_bipush X (v := (-3)) dX6_row_36 (by decide) ?_
      refine v_callV X (c_X6_none _ _ hE _ _ 3 (by decide) (by decide)) k_X6_106 dl_30 (cef_30 _ _ _ _) rfl ⟨rfl, rfl, Nat.le_of_ble_eq_true rfl, Nat.le_of_ble_eq_true rfl⟩ (As := [.int (-3)]) (rest := []) rfl rfl (Nat.le_of_ble_eq_true rfl) dX6_row_38 (fun r38 I38 L38 hp38 => ?_)
      obtain ⟨rfl, e1, e2⟩ := hp38
      have e1 := e1.symm
      have e2 := e2.symm
      subst e1; subst e2
      refine v_st (st' := [.int (nI 0)]) rfl ?_
      exact v_iret X Y dX6_row_41 (⟨Or.inr ⟨h4, Or.inl ⟨fun q => h23 (in_F.mpr q), rfl, rfl⟩⟩, rfl⟩)
    · obtain ⟨i', hi', rfl⟩ := ix_of (in_F.mp h23).1 (in_F.mp h23).2 (by decide)
      refine v_aload_n X 0 rfl dX6_row_26 ?_
      refine gf_X6_56 X dX6_row_27 ?_
      refine v_iload_n X 1 rfl dX6_row_30 ?_
      refine v_iald_n X dl_46 (fun _ _ => rfl) (n := 16) (by omega) (by decide) dX6_row_31 ?_
      refine v_goto X (tgt := 41) dX6_row_32 (by decide) ?_
      exact v_iret X Y dX6_row_41 (⟨Or.inr ⟨h4, Or.inr ⟨i', hi', rfl, rfl, rfl⟩⟩, rfl⟩)
  · refine v_aload_n X 0 rfl dX6_row_7 ?_
    refine v_bipush X (v := (-2)) dX6_row_8 (by decide) ?_
    refine v_callV X (c_X6_none _ _ hE _ _ 2 (by decide) (by decide)) k_X6_106 dl_30 (cef_30 _ _ _ _) rfl ⟨rfl, rfl, Nat.le_of_ble_eq_true rfl, Nat.le_of_ble_eq_true rfl⟩ (As := [.int (-2)]) (rest := []) rfl rfl (Nat.le_of_ble_eq_true rfl) dX6_row_10 (fun r10 I10 L10 hp10 => ?_)
    obtain ⟨rfl, e1, e2⟩ := hp10
    have e1 := e1.symm
    have e2 := e2.symm
    subst e1; subst e2
    refine v_st (st' := [.int (nI 0)]) rfl ?_
    exact v_iret X Y dX6_row_13 (⟨Or.inl ⟨h4, rfl, rfl⟩, rfl⟩)
set_option maxHeartbeats 4000000 in
set_option maxRecDepth 100000 in
theorem c_X6_copy (l : Launch) (E : VE) (hE : EOk E) (I : TI) (L : TL) (h : Nat) (hh : I 30 0 24 = nI h) (hh2 : h < 2) (i j n : Int32) : Ct l E yX6_copy cX6_copy 5 (some .int) rm_X6_copy [.ref (eA E 30 0), .int i, .int j, .int n] I L (fun r I' L' => ((h = 0 ∧ MEF I I' r 2) ∨ (0 < h ∧ ((n < 0 ∧ MEF I I' r 4) ∨ (¬ n < 0 ∧ ((¬ cpOK i j n ∧ MEF I I' r 6) ∨ (∃ i' j' n', i = nI i' ∧ j = nI j' ∧ n = nI n' ∧ i' + n' ≤ 16 ∧ j' + n' ≤ 16 ∧ r = some (.int n) ∧ Fr [(46, 0), (47, 0)] I I' ∧ ∀ x, I' 46 0 x = va_cpy (I 46 0) (I 46 0) i' j' n' x)))))) ∧ L' = L) := by
  refine ct_of (by decide +kernel) (Nat.le_of_ble_eq_true rfl) hE ?_
  intro a X Y hl hEE
  subst hl; subst hEE
  show V a 0 [(0, .ref (eA (vE a) 30 0)), (1, .int i), (2, .int j), (3, .int n)] [] I L
  refine v_aload_n X 0 rfl dX6_copy_0 ?_
  refine gf_X6_187 X dX6_copy_1 ?_
  refine v_eqi (y := (nI h)) (hh) ?_
  refine v_if_ne_n X (by omega) dX6_copy_4 (tgt := 14) (by decide) (fun h4 => ?_) (fun h4 => ?_)
  · refine v_iload_n X 3 rfl dX6_copy_14 ?_
    refine v_if_ge X dX6_copy_15 (tgt := 25) (by decide) (fun h15 => ?_) (fun h15 => ?_)
    · refine v_iload_n X 1 rfl dX6_copy_25 ?_
      refine v_if_lt X dX6_copy_26 (tgt := 57) (by decide) (fun h26 => ?_) (fun h26 => ?_)
      · refine v_aload_n X 0 rfl dX6_copy_57 ?_
        refine v_bipush X (v := (-6)) dX6_copy_58 (by decide) ?_
        refine v_callV X (c_X6_no _ _ hE _ _ 6 (by decide) (by decide)) k_X6_80 dl_30 (cef_30 _ _ _ _) rfl ⟨rfl, rfl, Nat.le_of_ble_eq_true rfl, Nat.le_of_ble_eq_true rfl⟩ (As := [.int (-6)]) (rest := []) rfl rfl (Nat.le_of_ble_eq_true rfl) dX6_copy_60 (fun r60 I60 L60 hp60 => ?_)
        obtain ⟨rfl, e1, e2⟩ := hp60
        have e1 := e1.symm
        have e2 := e2.symm
        subst e1; subst e2
        refine v_st (st' := [.int (-6)]) rfl ?_
        exact v_iret X Y dX6_copy_63 (⟨Or.inr ⟨h4, Or.inr ⟨Int32.not_lt.mpr h15, Or.inl ⟨fun ⟨a, b, d, e1, _, e3, q1, _⟩ => nI_pos (n := a) (by omega) (e1 ▸ h26), rfl, rfl⟩⟩⟩, rfl⟩)
      · refine v_iload_n X 2 rfl dX6_copy_29 ?_
        refine v_if_lt X dX6_copy_30 (tgt := 57) (by decide) (fun h30 => ?_) (fun h30 => ?_)
        · refine v_aload_n X 0 rfl dX6_copy_57 ?_
          refine v_bipush X (v := (-6)) dX6_copy_58 (by decide) ?_
          refine v_callV X (c_X6_no _ _ hE _ _ 6 (by decide) (by decide)) k_X6_80 dl_30 (cef_30 _ _ _ _) rfl ⟨rfl, rfl, Nat.le_of_ble_eq_true rfl, Nat.le_of_ble_eq_true rfl⟩ (As := [.int (-6)]) (rest := []) rfl rfl (Nat.le_of_ble_eq_true rfl) dX6_copy_60 (fun r60 I60 L60 hp60 => ?_)
          obtain ⟨rfl, e1, e2⟩ := hp60
          have e1 := e1.symm
          have e2 := e2.symm
          subst e1; subst e2
          refine v_st (st' := [.int (-6)]) rfl ?_
          exact v_iret X Y dX6_copy_63 (⟨Or.inr ⟨h4, Or.inr ⟨Int32.not_lt.mpr h15, Or.inl ⟨fun ⟨a, b, d, _, e2, e3, _, q2⟩ => nI_pos (n := b) (by omega) (e2 ▸ h30), rfl, rfl⟩⟩⟩, rfl⟩)
        · obtain ⟨i', hi31, rfl⟩ := nI_of h26
          obtain ⟨j', hj31, rfl⟩ := nI_of h30
          obtain ⟨n', hn31, rfl⟩ := nI_of (Int32.not_lt.mpr h15)
          refine v_iload_n X 1 rfl dX6_copy_33 ?_
          refine v_i2l X dX6_copy_34 rfl ?_
          refine v_iload_n X 3 rfl dX6_copy_35 ?_
          refine v_i2l X dX6_copy_36 rfl ?_
          refine v_ladd X dX6_copy_37 ?_
          refine v_ldc2 X kc_X6_242 dX6_copy_38 ?_
          refine v_lcmp_gt X dX6_copy_41 dX6_copy_42 (tgt := 57) (by decide) (fun h41 => ?_) (fun h41 => ?_)
          · refine v_aload_n X 0 rfl dX6_copy_57 ?_
            refine v_bipush X (v := (-6)) dX6_copy_58 (by decide) ?_
            refine v_callV X (c_X6_no _ _ hE _ _ 6 (by decide) (by decide)) k_X6_80 dl_30 (cef_30 _ _ _ _) rfl ⟨rfl, rfl, Nat.le_of_ble_eq_true rfl, Nat.le_of_ble_eq_true rfl⟩ (As := [.int (-6)]) (rest := []) rfl rfl (Nat.le_of_ble_eq_true rfl) dX6_copy_60 (fun r60 I60 L60 hp60 => ?_)
            obtain ⟨rfl, e1, e2⟩ := hp60
            have e1 := e1.symm
            have e2 := e2.symm
            subst e1; subst e2
            refine v_st (st' := [.int (-6)]) rfl ?_
            exact v_iret X Y dX6_copy_63 (⟨Or.inr ⟨h4, Or.inr ⟨Int32.not_lt.mpr h15, Or.inl ⟨fun ⟨a, b, d, e1, e2, e3, q1, q2⟩ => by
                  have e1 := (nI_eq hi31 (by omega)).mp e1
                  have e3 := (nI_eq hn31 (by omega)).mp e3
                  exact absurd ((cpL hi31 hn31).mpr (by omega)) (Int64.not_le.mpr h41), rfl, rfl⟩⟩⟩, rfl⟩)
          · refine v_iload_n X 2 rfl dX6_copy_45 ?_
            refine v_i2l X dX6_copy_46 rfl ?_
            refine v_iload_n X 3 rfl dX6_copy_47 ?_
            refine v_i2l X dX6_copy_48 rfl ?_
            refine v_ladd X dX6_copy_49 ?_
            refine v_ldc2 X kc_X6_242 dX6_copy_50 ?_
            refine v_lcmp_le X dX6_copy_53 dX6_copy_54 (tgt := 64) (by decide) (fun h53 => ?_) (fun h53 => ?_)
            · have hci := (cpL hi31 hn31).mp (Int64.not_lt.mp h41)
              have hcj := (cpL hj31 hn31).mp h53
              refine v_iconst X (v := (nI 0)) dX6_copy_64 (by decide) ?_
              refine v_istore X [1, 2, 3, 4, 0] (lv' := [(0, .ref (eA (vE a) 30 0)), (1, .int (nI i')), (2, .int (nI j')), (3, .int (nI n')), (4, .int (nI 0))]) (by decide) rfl dX6_copy_65 ?_
              have loop67 : ∀ (fu : Nat) (k : Nat) (I1 : TI), 17 - k < fu → (k ≤ n') → (Fr [(47, 0)] I I1) → (∀ x, x < k → I1 47 0 x = I 46 0 (i' + x)) → V a 67 [(0, .ref (eA (vE a) 30 0)), (1, .int (nI i')), (2, .int (nI j')), (3, .int (nI n')), (4, .int (nI k))] [] I1 L := by
                intro fu
                induction fu with
                | zero => intro k I1 hm _ _ _; exact absurd hm (Nat.not_lt_zero _)
                | succ fu ih67 =>
                  intro k I1 hm67 hk hF hv
                  refine v_iload X 4 rfl dX6_copy_67 ?_
                  refine v_iload_n X 3 rfl dX6_copy_69 ?_
                  refine v_icmp_ge_n X (by omega) (by omega) dX6_copy_70 (tgt := 95) (by decide) (fun h70 => ?_) (fun h70 => ?_)
                  · refine v_iconst X (v := (nI 0)) dX6_copy_95 (by decide) ?_
                    refine v_istore X [1, 2, 3, 4, 0] (lv' := [(0, .ref (eA (vE a) 30 0)), (1, .int (nI i')), (2, .int (nI j')), (3, .int (nI n')), (4, .int (nI 0))]) (by decide) rfl dX6_copy_96 ?_
                    have loop98 : ∀ (fu : Nat) (k2 : Nat) (I2 : TI), 17 - k2 < fu → (k2 ≤ n') → (Fr [(46, 0), (47, 0)] I I2) → (∀ x, x < n' → I2 47 0 x = I 46 0 (i' + x)) → (∀ x, I2 46 0 x = if j' ≤ x ∧ x < j' + k2 then I 46 0 (i' + (x - j')) else I 46 0 x) → V a 98 [(0, .ref (eA (vE a) 30 0)), (1, .int (nI i')), (2, .int (nI j')), (3, .int (nI n')), (4, .int (nI k2))] [] I2 L := by
                      intro fu
                      induction fu with
                      | zero => intro k2 I2 hm _ _ _ _; exact absurd hm (Nat.not_lt_zero _)
                      | succ fu ih98 =>
                        intro k2 I2 hm98 hk2 hF2 hv2 h2
                        refine v_iload X 4 rfl dX6_copy_98 ?_
                        refine v_iload_n X 3 rfl dX6_copy_100 ?_
                        refine v_icmp_ge_n X (by omega) (by omega) dX6_copy_101 (tgt := 126) (by decide) (fun h101 => ?_) (fun h101 => ?_)
                        · refine v_iload_n X 3 rfl dX6_copy_126 ?_
                          exact v_iret X Y dX6_copy_127 (⟨Or.inr ⟨h4, Or.inr ⟨Int32.not_lt.mpr h15, Or.inr ⟨i', j', n', rfl, rfl, rfl, hci, hcj, rfl, hF2, fun x => by rw [h2 x, show k2 = n' by omega]; rfl⟩⟩⟩, rfl⟩)
                        · refine v_aload_n X 0 rfl dX6_copy_104 ?_
                          refine gf_X6_56 X dX6_copy_105 ?_
                          refine v_iload_n X 2 rfl dX6_copy_108 ?_
                          refine v_iload X 4 rfl dX6_copy_109 ?_
                          refine v_iadd X dX6_copy_111 ?_
                          refine v_eqi (y := (nI (j' + k2))) (nI_add _ _) ?_
                          refine v_aload_n X 0 rfl dX6_copy_112 ?_
                          refine gf_X6_59 X dX6_copy_113 ?_
                          refine v_iload X 4 rfl dX6_copy_116 ?_
                          refine v_iald_n X dl_47 (fun _ _ => rfl) (n := 16) (by omega) (by decide) dX6_copy_118 ?_
                          refine v_iast_n X dl_46 (fun _ _ => rfl) (n := 16) (by omega) (by decide) dX6_copy_119 ?_
                          refine v_iinc X [1, 2, 3, 4, 0] 4 (nI (k2 + 1)) (lv' := [(0, .ref (eA (vE a) 30 0)), (1, .int (nI i')), (2, .int (nI j')), (3, .int (nI n')), (4, .int (nI (k2 + 1)))]) rfl (nI_1 _) (by decide) rfl dX6_copy_120 ?_
                          refine v_goto X (tgt := 98) dX6_copy_123 (by decide) ?_
                          have hnew : ∀ x, (upI I2 46 0 (j' + k2) (I2 47 0 k2)) 46 0 x = if j' ≤ x ∧ x < j' + (k2 + 1) then I 46 0 (i' + (x - j')) else I 46 0 x := fun x => by
                            by_cases e : x = j' + k2
                            · rw [e, upI_eq, hv2 k2 (by omega), if_pos (by omega), show j' + k2 - j' = k2 by omega]
                            · rw [upI_x e, h2 x]
                              by_cases q : j' ≤ x ∧ x < j' + k2
                              · rw [if_pos q, if_pos (by omega)]
                              · rw [if_neg q, if_neg (by omega)]
                          exact ih98 (k2 + 1) (upI I2 46 0 (j' + k2) (I2 47 0 k2)) (by omega) (by omega) (hF2.up (by simp)) (fun x hx => (upI_k (by decide)).trans (hv2 x hx)) hnew
                    exact loop98 _ 0 I1 (Nat.lt_succ_self _) (Nat.zero_le _) (hF.mono (by simp)) (fun x hx => hv x (by omega)) (fun x => by rw [if_neg (by omega)]; exact hF.at (by simp) x)
                  · refine v_aload_n X 0 rfl dX6_copy_73 ?_
                    refine gf_X6_59 X dX6_copy_74 ?_
                    refine v_iload X 4 rfl dX6_copy_77 ?_
                    refine v_aload_n X 0 rfl dX6_copy_79 ?_
                    refine gf_X6_56 X dX6_copy_80 ?_
                    refine v_iload_n X 1 rfl dX6_copy_83 ?_
                    refine v_iload X 4 rfl dX6_copy_84 ?_
                    refine v_iadd X dX6_copy_86 ?_
                    refine v_eqi (y := (nI (i' + k))) (nI_add _ _) ?_
                    refine v_iald_n X dl_46 (fun _ _ => rfl) (n := 16) (by omega) (by decide) dX6_copy_87 ?_
                    refine v_iast_n X dl_47 (fun _ _ => rfl) (n := 16) (by omega) (by decide) dX6_copy_88 ?_
                    refine v_iinc X [1, 2, 3, 4, 0] 4 (nI (k + 1)) (lv' := [(0, .ref (eA (vE a) 30 0)), (1, .int (nI i')), (2, .int (nI j')), (3, .int (nI n')), (4, .int (nI (k + 1)))]) rfl (nI_1 _) (by decide) rfl dX6_copy_89 ?_
                    refine v_goto X (tgt := 67) dX6_copy_92 (by decide) ?_
                    have hnew : ∀ x, x < k + 1 → (upI I1 47 0 k (I1 46 0 (i' + k))) 47 0 x = I 46 0 (i' + x) := fun x hx => by
                      by_cases e : x = k
                      · rw [e, upI_eq, hF.at (by simp)]
                      · rw [upI_x e]; exact hv x (by omega)
                    exact ih67 (k + 1) (upI I1 47 0 k (I1 46 0 (i' + k))) (by omega) (by omega) (hF.up (by simp)) hnew
              exact loop67 _ 0 I (Nat.lt_succ_self _) (Nat.zero_le _) Fr.rf (fun x hx => absurd hx (Nat.not_lt_zero _))
            · refine v_aload_n X 0 rfl dX6_copy_57 ?_
              refine v_bipush X (v := (-6)) dX6_copy_58 (by decide) ?_
              refine v_callV X (c_X6_no _ _ hE _ _ 6 (by decide) (by decide)) k_X6_80 dl_30 (cef_30 _ _ _ _) rfl ⟨rfl, rfl, Nat.le_of_ble_eq_true rfl, Nat.le_of_ble_eq_true rfl⟩ (As := [.int (-6)]) (rest := []) rfl rfl (Nat.le_of_ble_eq_true rfl) dX6_copy_60 (fun r60 I60 L60 hp60 => ?_)
              obtain ⟨rfl, e1, e2⟩ := hp60
              have e1 := e1.symm
              have e2 := e2.symm
              subst e1; subst e2
              refine v_st (st' := [.int (-6)]) rfl ?_
              exact v_iret X Y dX6_copy_63 (⟨Or.inr ⟨h4, Or.inr ⟨Int32.not_lt.mpr h15, Or.inl ⟨fun ⟨a, b, d, e1, e2, e3, q1, q2⟩ => by
                    have e2 := (nI_eq hj31 (by omega)).mp e2
                    have e3 := (nI_eq hn31 (by omega)).mp e3
                    exact absurd ((cpL hj31 hn31).mpr (by omega)) h53, rfl, rfl⟩⟩⟩, rfl⟩)
    · refine v_aload_n X 0 rfl dX6_copy_18 ?_
      refine v_bipush X (v := (-4)) dX6_copy_19 (by decide) ?_
      refine v_callV X (c_X6_no _ _ hE _ _ 4 (by decide) (by decide)) k_X6_80 dl_30 (cef_30 _ _ _ _) rfl ⟨rfl, rfl, Nat.le_of_ble_eq_true rfl, Nat.le_of_ble_eq_true rfl⟩ (As := [.int (-4)]) (rest := []) rfl rfl (Nat.le_of_ble_eq_true rfl) dX6_copy_21 (fun r21 I21 L21 hp21 => ?_)
      obtain ⟨rfl, e1, e2⟩ := hp21
      have e1 := e1.symm
      have e2 := e2.symm
      subst e1; subst e2
      refine v_st (st' := [.int (-4)]) rfl ?_
      exact v_iret X Y dX6_copy_24 (⟨Or.inr ⟨h4, Or.inl ⟨Int32.not_le.mp h15, rfl, rfl⟩⟩, rfl⟩)
  · refine v_aload_n X 0 rfl dX6_copy_7 ?_
    refine v_bipush X (v := (-2)) dX6_copy_8 (by decide) ?_
    refine v_callV X (c_X6_no _ _ hE _ _ 2 (by decide) (by decide)) k_X6_80 dl_30 (cef_30 _ _ _ _) rfl ⟨rfl, rfl, Nat.le_of_ble_eq_true rfl, Nat.le_of_ble_eq_true rfl⟩ (As := [.int (-2)]) (rest := []) rfl rfl (Nat.le_of_ble_eq_true rfl) dX6_copy_10 (fun r10 I10 L10 hp10 => ?_)
    obtain ⟨rfl, e1, e2⟩ := hp10
    have e1 := e1.symm
    have e2 := e2.symm
    subst e1; subst e2
    refine v_st (st' := [.int (-2)]) rfl ?_
    exact v_iret X Y dX6_copy_13 (⟨Or.inl ⟨h4, rfl, rfl⟩, rfl⟩)
set_option maxHeartbeats 4000000 in
set_option maxRecDepth 100000 in
theorem c_X6_status (l : Launch) (E : VE) (hE : EOk E) (I : TI) (L : TL) (b : Int32) : Ct l E yX6_status cX6_status 2 (some .int) rm_X6_status [.ref (eA E 30 0), .int b] I L (fun r I' L' => ((¬ (-8 ≤ b ∧ b ≤ -2) ∧ MEF I I' r 7) ∨ (∃ w, 2 ≤ w ∧ w < 9 ∧ b = -nI w ∧ r = some (.int (I 41 0 w)) ∧ I' = I)) ∧ L' = L) := by
  refine ct_of (by decide +kernel) (Nat.le_of_ble_eq_true rfl) hE ?_
  intro a X Y hl hEE
  subst hl; subst hEE
  show V a 0 [(0, .ref (eA (vE a) 30 0)), (1, .int b)] [] I L
  refine v_iload_n X 1 rfl dX6_status_0 ?_
  refine v_i2l X dX6_status_1 rfl ?_
  refine v_ldc2 X kc_X6_244 dX6_status_2 ?_
  refine v_ldc2 X kc_X6_246 dX6_status_5 ?_
  refine v_callS X (c_X6_isIn _ _ hE _ _ b.toInt64 (-8) (-2)) k_X6_90 ⟨rfl, rfl, Nat.le_of_ble_eq_true rfl, Nat.le_of_ble_eq_true rfl⟩ (As := [.long b.toInt64, .long (-8), .long (-2)]) (rest := []) rfl rfl (Nat.le_of_ble_eq_true rfl) dX6_status_8 (fun r8 I8 L8 hp8 => ?_)
  obtain ⟨rfl, e1, e2⟩ := hp8
  have e1 := e1.symm
  have e2 := e2.symm
  subst e1; subst e2
  refine v_st (st' := [.int (bI ((-8) ≤ b.toInt64 ∧ b.toInt64 ≤ (-2)))]) rfl ?_
  refine v_ifb_eq X dX6_status_11 (tgt := 24) (by decide) (fun h11 => ?_) (fun h11 => ?_)
  · refine v_aload_n X 0 rfl dX6_status_24 ?_
    refine v_bipush X (v := (-7)) dX6_status_25 (by decide) ?_
    refine v_callV X (c_X6_no _ _ hE _ _ 7 (by decide) (by decide)) k_X6_80 dl_30 (cef_30 _ _ _ _) rfl ⟨rfl, rfl, Nat.le_of_ble_eq_true rfl, Nat.le_of_ble_eq_true rfl⟩ (As := [.int (-7)]) (rest := []) rfl rfl (Nat.le_of_ble_eq_true rfl) dX6_status_27 (fun r27 I27 L27 hp27 => ?_)
    obtain ⟨rfl, e1, e2⟩ := hp27
    have e1 := e1.symm
    have e2 := e2.symm
    subst e1; subst e2
    refine v_st (st' := [.int (-7)]) rfl ?_
    exact v_iret X Y dX6_status_30 (⟨Or.inl ⟨fun q => h11 (in_8.mpr q), rfl, rfl⟩, rfl⟩)
  · obtain ⟨hb8, hb2⟩ := in_8.mp h11
    obtain ⟨w, hw2, hw9, rfl⟩ := by_in b (Int32.not_lt.mpr hb8) hb2
    refine v_aload_n X 0 rfl dX6_status_14 ?_
    refine gf_X6_40 X dX6_status_15 ?_
    refine v_iload_n X 1 rfl dX6_status_18 ?_
    refine v_ineg X dX6_status_19 ?_
    refine v_eqi (y := (nI w)) (Int32.neg_neg) ?_
    refine v_iald_n X dl_41 (fun _ _ => rfl) (n := 9) (by omega) (by decide) dX6_status_20 ?_
    refine v_goto X (tgt := 30) dX6_status_21 (by decide) ?_
    exact v_iret X Y dX6_status_30 (⟨Or.inr ⟨w, hw2, hw9, rfl, rfl, rfl⟩, rfl⟩)
