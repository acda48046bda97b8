def pl3 (k i j : Nat) : Nat := if k = 0 then 3 * j + i else 3 * i + j
theorem pl3_lt {k i j : Nat} (hi : i < 3) (hj : j < 3) : pl3 k i j < 9 := by unfold pl3; split <;> omega
theorem lN_0 {n : Nat} (h : n < 2 ^ 63) : lN n = 0 ↔ n = 0 := pk_lEQ h (by decide) (b := 0)
theorem sgn_iL {z : Int} (h : z.natAbs < 2 ^ 63) : sgn (iL z) = if 0 < z then 1 else if z < 0 then -1 else 0 := by
  unfold sgn
  rw [iL_0]
  by_cases h1 : 0 < z
  · rw [if_pos h1, if_pos ((iL_lt (by decide) h).mpr h1)]
  · rw [if_neg h1, if_neg (fun q => h1 ((iL_lt (by decide) h).mp q))]
    by_cases h2 : z < 0
    · rw [if_pos h2, if_pos ((iL_lt h (by decide)).mpr h2)]
    · rw [if_neg h2, if_neg (fun q => h2 ((iL_lt h (by decide)).mp q))]
theorem sgn_mul {a b : Int} (ha : a.natAbs < 2 ^ 63) (hb : b.natAbs < 2 ^ 63) : 0 < sgn (iL a) * sgn (iL b) ↔ 0 < a * b := by
  rw [sgn_iL ha, sgn_iL hb]
  rcases Int.lt_trichotomy a 0 with h1 | h1 | h1 <;> rcases Int.lt_trichotomy b 0 with h2 | h2 | h2
  · rw [if_neg (by omega), if_pos h1, if_neg (by omega), if_pos h2]
    exact iff_of_true (by decide) (Int.mul_pos_of_neg_of_neg h1 h2)
  · subst h2
    rw [Int.mul_zero, if_neg (by omega), if_pos h1]
    exact iff_of_false (by decide) (by omega)
  · rw [if_neg (by omega), if_pos h1, if_pos h2]
    exact iff_of_false (by decide) (by have := Int.mul_neg_of_neg_of_pos h1 h2; omega)
  · subst h1
    rw [Int.zero_mul]
    refine iff_of_false ?_ (by omega)
    rw [if_neg (by omega), if_neg (by omega), Int32.zero_mul]
    decide
  · subst h1
    rw [Int.zero_mul]
    refine iff_of_false ?_ (by omega)
    rw [if_neg (by omega), if_neg (by omega), Int32.zero_mul]
    decide
  · subst h1
    rw [Int.zero_mul]
    refine iff_of_false ?_ (by omega)
    rw [if_neg (by omega), if_neg (by omega), Int32.zero_mul]
    decide
  · rw [if_pos h1, if_neg (by omega), if_pos h2]
    exact iff_of_false (by decide) (by have := Int.mul_neg_of_pos_of_neg h1 h2; omega)
  · subst h2
    rw [Int.mul_zero, if_pos h1, if_neg (by omega), if_neg (by omega)]
    exact iff_of_false (by decide) (by omega)
  · rw [if_pos h1, if_pos h2]
    exact iff_of_true (by decide) (Int.mul_pos h1 h2)
theorem eu_t {t m l : Nat} (ht : t < 100) (hl : l ≠ 0) : (euF (100 - t) m l → euF (100 - (t + 1)) l (m % l)) ∧ eu (100 - t) m l = eu (100 - (t + 1)) l (m % l) := by
  obtain ⟨q, hq⟩ : ∃ q, 100 - t = q + 1 := ⟨99 - t, by omega⟩
  rw [show 100 - (t + 1) = q by omega, hq]
  exact ⟨fun h => h.resolve_left hl, if_neg hl⟩
theorem eu_z (n m : Nat) : eu n m 0 = m := by cases n <;> rfl
theorem iL_div_nat {x : Int} {g : Nat} (hx : x.natAbs < 2 ^ 63) (hg : g < 2 ^ 63) (hd : (g : Int) ∣ x) : iL x / lN g = iL (x / (g : Int)) := by
  rw [← iL_nat, iL_div hx (by omega), Int.tdiv_eq_ediv_of_dvd hd]
set_option maxHeartbeats 4000000 in
set_option maxRecDepth 100000 in
theorem c_X1_placeOf (l : Launch) (E : VE) (hE : EOk E) (I : TI) (L : TL) (k i j : Nat) (hk : k < 3) (hi : i < 3) (hj : j < 3) : Ct l E yX1_placeOf cX1_placeOf 3 (some .int) rm_X1_placeOf [.int (nI k), .int (nI i), .int (nI j)] I L (fun r I' L' => r = some (.int (nI (pl3 k i j))) ∧ I' = I ∧ L' = L) := by
  refine ct_of (by decide +kernel) (Nat.le_of_ble_eq_true rfl) hE ?_
  intro a X Y hl hEE
  subst hl; subst hEE
  show V a 0 [(0, .int (nI k)), (1, .int (nI i)), (2, .int (nI j))] [] I L
  refine v_iload_n X 0 rfl dX1_placeOf_0 ?_
  refine v_if_ne_n X (by omega) dX1_placeOf_1 (tgt := 12) (by decide) (fun h1 => ?_) (fun h1 => ?_)
  · refine v_iconst X (v := (nI 3)) dX1_placeOf_12 (by decide) ?_
    refine v_iload_n X 1 rfl dX1_placeOf_13 ?_
    refine v_imul X dX1_placeOf_14 ?_
    refine v_eqi (y := (nI (3 * i))) (pk_mul _ _) ?_
    refine v_iload_n X 2 rfl dX1_placeOf_15 ?_
    refine v_iadd X dX1_placeOf_16 ?_
    refine v_eqi (y := (nI ((3 * i) + j))) (nI_add _ _) ?_
    exact v_iret X Y dX1_placeOf_17 (⟨by unfold pl3; rw [if_neg (by omega)], rfl, rfl⟩)
  · refine v_iconst X (v := (nI 3)) dX1_placeOf_4 (by decide) ?_
    refine v_iload_n X 2 rfl dX1_placeOf_5 ?_
    refine v_imul X dX1_placeOf_6 ?_
    refine v_eqi (y := (nI (3 * j))) (pk_mul _ _) ?_
    refine v_iload_n X 1 rfl dX1_placeOf_7 ?_
    refine v_iadd X dX1_placeOf_8 ?_
    refine v_eqi (y := (nI ((3 * j) + i))) (nI_add _ _) ?_
    refine v_goto X (tgt := 17) dX1_placeOf_9 (by decide) ?_
    exact v_iret X Y dX1_placeOf_17 (⟨by unfold pl3; rw [if_pos h1], rfl, rfl⟩)
set_option maxHeartbeats 4000000 in
set_option maxRecDepth 100000 in
theorem c_X1_commonOf (l : Launch) (E : VE) (hE : EOk E) (I : TI) (L : TL) (x y : Int) (hx : x.natAbs < 2 ^ 63) (hy : y.natAbs < 2 ^ 63) : Ct l E yX1_commonOf cX1_commonOf 11 (some .long) rm_X1_commonOf [.long (iL x), .long (iL y)] I L (fun r I' L' => r = some (.long (lN (Nat.gcd x.natAbs y.natAbs))) ∧ I' = I ∧ L' = L) := by
  refine ct_of (by decide +kernel) (Nat.le_of_ble_eq_true rfl) hE ?_
  intro a X Y hl hEE
  subst hl; subst hEE
  show V a 0 [(0, .long (iL x)), (2, .long (iL y))] [] I L
  refine v_lload_n X 0 rfl dX1_commonOf_0 ?_
  refine v_labs X mw_X1_91.1 mw_X1_91.2.1 mw_X1_91.2.2.1 mw_X1_91.2.2.2 (Nat.le_of_ble_eq_true rfl) (Nat.le_of_ble_eq_true rfl) dX1_commonOf_1 ?_
  refine v_eql (y := (lN x.natAbs)) (iL_abs hx) ?_
  refine v_lstore X [1, 2, 0] (lv' := [(0, .long (iL x)), (2, .long (iL y)), (4, .long (lN x.natAbs))]) (by decide) rfl dX1_commonOf_4 ?_
  refine v_lload_n X 1 rfl dX1_commonOf_6 ?_
  refine v_labs X mw_X1_91.1 mw_X1_91.2.1 mw_X1_91.2.2.1 mw_X1_91.2.2.2 (Nat.le_of_ble_eq_true rfl) (Nat.le_of_ble_eq_true rfl) dX1_commonOf_7 ?_
  refine v_eql (y := (lN y.natAbs)) (iL_abs hy) ?_
  refine v_lstore X [1, 2, 3, 0] (lv' := [(0, .long (iL x)), (2, .long (iL y)), (4, .long (lN x.natAbs)), (6, .long (lN y.natAbs))]) (by decide) rfl dX1_commonOf_10 ?_
  refine v_iconst X (v := (nI 0)) dX1_commonOf_12 (by decide) ?_
  refine v_istore X [1, 2, 3, 4, 0] (lv' := [(0, .long (iL x)), (2, .long (iL y)), (4, .long (lN x.natAbs)), (6, .long (lN y.natAbs)), (8, .int (nI 0))]) (by decide) rfl dX1_commonOf_13 ?_
  have loop15 : ∀ (fu : Nat) (t : Nat) (m : Nat) (l : Nat), 101 - t < fu → (t ≤ 100) → (m < 2 ^ 63) → (l < 2 ^ 63) → (euF (100 - t) m l) → (eu (100 - t) m l = Nat.gcd x.natAbs y.natAbs) → V a 15 [(0, .long (iL x)), (2, .long (iL y)), (4, .long (lN m)), (6, .long (lN l)), (8, .int (nI t))] [] I L := by
    intro fu
    induction fu with
    | zero => intro t m l hm _ _ _ _ _; exact absurd hm (Nat.not_lt_zero _)
    | succ fu ih15 =>
      intro t m l hm15 ht hm hl he hg
      refine v_iload X 4 rfl dX1_commonOf_15 ?_
      refine v_bipush X (v := (nI 100)) dX1_commonOf_17 (by decide) ?_
      refine v_icmp_ge_n X (by omega) (by omega) dX1_commonOf_19 (tgt := 50) (by decide) (fun h19 => ?_) (fun h19 => ?_)
      · refine v_lload X 2 rfl dX1_commonOf_50 ?_
        exact v_lret X Y dX1_commonOf_52 (⟨by rw [← hg, show 100 - t = 0 by omega]; rfl, rfl, rfl⟩)
      · refine v_lload X 3 rfl dX1_commonOf_22 ?_
        refine v_lconst X (v := 0) dX1_commonOf_24 rfl ?_
        refine v_lcmp_eq X dX1_commonOf_25 dX1_commonOf_26 (tgt := 50) (by decide) (fun h25 => ?_) (fun h25 => ?_)
        · refine v_lload X 2 rfl dX1_commonOf_50 ?_
          exact v_lret X Y dX1_commonOf_52 (⟨by rw [← hg, (lN_0 hl).mp h25, eu_z], rfl, rfl⟩)
        · have hl0 : l ≠ 0 := fun e => h25 ((lN_0 hl).mpr e)
          have het := eu_t (m := m) h19 hl0
          have hml := Nat.mod_lt m (Nat.pos_of_ne_zero hl0)
          refine v_lload X 2 rfl dX1_commonOf_29 ?_
          refine v_lload X 3 rfl dX1_commonOf_31 ?_
          refine v_lrem X dX1_commonOf_33 h25 ?_
          refine v_eql (y := (lN (m % l))) (pk_lRem hm (Nat.pos_of_ne_zero hl0) hl) ?_
          refine v_lstore X [1, 2, 3, 4, 5, 0] (lv' := [(0, .long (iL x)), (2, .long (iL y)), (4, .long (lN m)), (6, .long (lN l)), (8, .int (nI t)), (9, .long (lN (m % l)))]) (by decide) rfl dX1_commonOf_34 ?_
          refine v_lload X 3 rfl dX1_commonOf_36 ?_
          refine v_lstore X [1, 2, 0, 3, 4, 5] (lv' := [(0, .long (iL x)), (2, .long (iL y)), (4, .long (lN l)), (6, .long (lN l)), (8, .int (nI t)), (9, .long (lN (m % l)))]) (by decide) rfl dX1_commonOf_38 ?_
          refine v_lload X 5 rfl dX1_commonOf_40 ?_
          refine v_lstore X [1, 2, 3, 0, 4, 5] (lv' := [(0, .long (iL x)), (2, .long (iL y)), (4, .long (lN l)), (6, .long (lN (m % l))), (8, .int (nI t)), (9, .long (lN (m % l)))]) (by decide) rfl dX1_commonOf_42 ?_
          refine v_iinc X [1, 2, 3, 4, 0, 5] 4 (nI (t + 1)) (lv' := [(0, .long (iL x)), (2, .long (iL y)), (4, .long (lN l)), (6, .long (lN (m % l))), (8, .int (nI (t + 1))), (9, .long (lN (m % l)))]) rfl (nI_1 _) (by decide) rfl dX1_commonOf_44 ?_
          refine v_goto X (tgt := 15) dX1_commonOf_47 (by decide) ?_
          refine v_sub [0, 1, 2, 3, 4] (lv' := [(0, .long (iL x)), (2, .long (iL y)), (4, .long (lN l)), (6, .long (lN (m % l))), (8, .int (nI (t + 1)))]) rfl ?_
          exact ih15 (t + 1) l (m % l) (by omega) (by omega) hl (by omega) (het.1 he) (het.2.symm.trans hg)
  exact loop15 _ 0 x.natAbs y.natAbs (Nat.lt_succ_self _) (Nat.zero_le _) hx hy (eu_fin hx hy) (eu_gcd _ _ _ (eu_fin hx hy))
set_option maxHeartbeats 4000000 in
set_option maxRecDepth 100000 in
theorem c_X1_without (l : Launch) (E : VE) (hE : EOk E) (I : TI) (L : TL) (x : Int) (g : Nat) (hx : x.natAbs < 2 ^ 63) (hg : g < 2 ^ 63) (h0 : 0 < g) (hd : (g : Int) ∣ x) : Ct l E yX1_without cX1_without 4 (some .long) rm_X1_without [.long (iL x), .long (lN g)] I L (fun r I' L' => r = some (.long (iL (x / (g : Int)))) ∧ I' = I ∧ L' = L) := by
  refine ct_of (by decide +kernel) (Nat.le_of_ble_eq_true rfl) hE ?_
  intro a X Y hl hEE
  subst hl; subst hEE
  show V a 0 [(0, .long (iL x)), (2, .long (lN g))] [] I L
  refine v_lload_n X 1 rfl dX1_without_0 ?_
  refine v_lconst X (v := 1) dX1_without_1 rfl ?_
  refine v_lcmp_le X dX1_without_2 dX1_without_3 (tgt := 12) (by decide) (fun h2 => ?_) (fun h2 => ?_)
  · refine v_lload_n X 0 rfl dX1_without_12 ?_
    exact v_lret X Y dX1_without_13 (⟨by rw [show g = 1 by have := (pk_lLE hg (by decide) (b := 1)).mp h2; omega, show ((1 : Nat) : Int) = 1 from rfl, Int.ediv_one], rfl, rfl⟩)
  · refine v_lload_n X 0 rfl dX1_without_6 ?_
    refine v_lload_n X 1 rfl dX1_without_7 ?_
    refine v_ldiv X dX1_without_8 (fun e => absurd ((lN_0 hg).mp e) (by omega)) ?_
    refine v_eql (y := (iL (x / (g : Int)))) (iL_div_nat hx hg hd) ?_
    refine v_goto X (tgt := 13) dX1_without_9 (by decide) ?_
    exact v_lret X Y dX1_without_13 (⟨rfl, rfl, rfl⟩)
set_option maxHeartbeats 4000000 in
set_option maxRecDepth 100000 in
theorem c_X1_note (l : Launch) (E : VE) (hE : EOk E) (I : TI) (L : TL) (s : Nat) (hs : I 17 0 4 = nI s) (hs9 : s < 9) (k ln : Int32) (u v : Int64) : Ct l E yX1_note cX1_note 7 none rm_X1_note [.ref (eA E 17 0), .int k, .int ln, .long u, .long v] I L (fun r I' L' => r = none ∧ I' = upI (upI (upI I 18 0 s k) 19 0 s ln) 17 0 4 (nI (s + 1)) ∧ L' = upL (upL L 20 0 s u) 21 0 s v) := by
  refine ct_of (by decide +kernel) (Nat.le_of_ble_eq_true rfl) hE ?_
  intro a X Y hl hEE
  subst hl; subst hEE
  show V a 0 [(0, .ref (eA (vE a) 17 0)), (1, .int k), (2, .int ln), (3, .long u), (5, .long v)] [] I L
  refine v_aload_n X 0 rfl dX1_note_0 ?_
  refine gf_X1_43 X dX1_note_1 ?_
  refine v_eqi (y := (nI s)) (hs) ?_
  refine v_bipush X (v := (nI 9)) dX1_note_4 (by decide) ?_
  refine v_icmp_ge_n X (by omega) (by omega) dX1_note_6 (tgt := 60) (by decide) (fun h6 => ?_) (fun h6 => ?_)
  · exact absurd h6 (by omega)
  · refine v_aload_n X 0 rfl dX1_note_9 ?_
    refine gf_X1_9 X dX1_note_10 ?_
    refine v_aload_n X 0 rfl dX1_note_13 ?_
    refine gf_X1_43 X dX1_note_14 ?_
    refine v_eqi (y := (nI s)) (hs) ?_
    refine v_iload_n X 1 rfl dX1_note_17 ?_
    refine v_iast_n X dl_18 (fun _ _ => rfl) (n := 9) (by omega) (by decide) dX1_note_18 ?_
    refine v_aload_n X 0 rfl dX1_note_19 ?_
    refine gf_X1_15 X dX1_note_20 ?_
    refine v_aload_n X 0 rfl dX1_note_23 ?_
    refine gf_X1_43 X dX1_note_24 ?_
    refine v_eqi (y := (nI s)) ((upI_k (by decide)).trans (hs)) ?_
    refine v_iload_n X 2 rfl dX1_note_27 ?_
    refine v_iast_n X dl_19 (fun _ _ => rfl) (n := 9) (by omega) (by decide) dX1_note_28 ?_
    refine v_aload_n X 0 rfl dX1_note_29 ?_
    refine gf_X1_18 X dX1_note_30 ?_
    refine v_aload_n X 0 rfl dX1_note_33 ?_
    refine gf_X1_43 X dX1_note_34 ?_
    refine v_eqi (y := (nI s)) ((upI_k (by decide)).trans ((upI_k (by decide)).trans (hs))) ?_
    refine v_lload_n X 3 rfl dX1_note_37 ?_
    refine v_last_n X dl_20 (fun _ _ => rfl) (n := 9) (by omega) (by decide) dX1_note_38 ?_
    refine v_aload_n X 0 rfl dX1_note_39 ?_
    refine gf_X1_22 X dX1_note_40 ?_
    refine v_aload_n X 0 rfl dX1_note_43 ?_
    refine gf_X1_43 X dX1_note_44 ?_
    refine v_eqi (y := (nI s)) ((upI_k (by decide)).trans ((upI_k (by decide)).trans (hs))) ?_
    refine v_lload X 4 rfl dX1_note_47 ?_
    refine v_last_n X dl_21 (fun _ _ => rfl) (n := 9) (by omega) (by decide) dX1_note_49 ?_
    refine v_aload_n X 0 rfl dX1_note_50 ?_
    refine v_dup X dX1_note_51 rfl ?_
    refine gf_X1_43 X dX1_note_52 ?_
    refine v_eqi (y := (nI s)) ((upI_k (by decide)).trans ((upI_k (by decide)).trans (hs))) ?_
    refine v_iconst X (v := (nI 1)) dX1_note_55 (by decide) ?_
    refine v_iadd X dX1_note_56 ?_
    refine v_eqi (y := (nI (s + 1))) (nI_add _ _) ?_
    refine pf_X1_43 X dX1_note_57 ?_
    exact v_vret X Y dX1_note_60 (⟨rfl, rfl, rfl⟩)
set_option maxHeartbeats 4000000 in
set_option maxRecDepth 100000 in
theorem c_X1_findShare (l : Launch) (E : VE) (hE : EOk E) (I : TI) (L : TL) (H A : Rat) (h b : Nat) (hh : h < 9) (hb : b < 9) (w1 : L 22 0 h = iL H.num) (w2 : L 23 0 h = iL (H.den : Int)) (w3 : L 22 0 b = iL A.num) (w4 : L 23 0 b = iL (A.den : Int)) (r1 : H.num.natAbs < 2 ^ 63) (r2 : H.den < 2 ^ 63) (r3 : A.num.natAbs < 2 ^ 63) (r4 : A.den < 2 ^ 63) : Ct l E yX1_findShare cX1_findShare 11 (some .boolean) rm_X1_findShare [.ref (eA E 17 0), .int (nI h), .int (nI b)] I L (fun r I' L' => ((¬ 0 < H.num * A.num ∧ r = some (.int (nI 0)) ∧ L' = L) ∨ (0 < H.num * A.num ∧ r = some (.int (nI 1)) ∧ L' = upL (upL L 17 0 8 (iL (H / A).num)) 17 0 9 (iL ((H / A).den : Int)))) ∧ I' = I) := by
  refine ct_of (by decide +kernel) (Nat.le_of_ble_eq_true rfl) hE ?_
  intro a X Y hl hEE
  subst hl; subst hEE
  show V a 0 [(0, .ref (eA (vE a) 17 0)), (1, .int (nI h)), (2, .int (nI b))] [] I L
  refine v_aload_n X 0 rfl dX1_findShare_0 ?_
  refine gf_X1_25 X dX1_findShare_1 ?_
  refine v_iload_n X 1 rfl dX1_findShare_4 ?_
  refine v_lald_n X dl_22 (fun _ _ => rfl) (n := 9) (by omega) (by decide) dX1_findShare_5 ?_
  refine v_eql (y := (iL H.num)) (w1) ?_
  refine v_callN X (c_X5_signOf _ _ hE _ _ (iL H.num)) k_X1_87 ⟨rfl, rfl, Nat.le_of_ble_eq_true rfl, Nat.le_of_ble_eq_true rfl⟩ (As := [.long (iL H.num)]) (rest := []) rfl rfl (Nat.le_of_ble_eq_true rfl) dX1_findShare_6 (fun r6 I6 L6 hp6 => ?_)
  obtain ⟨rfl, e1, e2⟩ := hp6
  have e1 := e1.symm
  have e2 := e2.symm
  subst e1; subst e2
  refine v_st (st' := [.int (sgn (iL H.num))]) rfl ?_
  refine v_aload_n X 0 rfl dX1_findShare_9 ?_
  refine gf_X1_25 X dX1_findShare_10 ?_
  refine v_iload_n X 2 rfl dX1_findShare_13 ?_
  refine v_lald_n X dl_22 (fun _ _ => rfl) (n := 9) (by omega) (by decide) dX1_findShare_14 ?_
  refine v_eql (y := (iL A.num)) (w3) ?_
  refine v_callN X (c_X5_signOf _ _ hE _ _ (iL A.num)) k_X1_87 ⟨rfl, rfl, Nat.le_of_ble_eq_true rfl, Nat.le_of_ble_eq_true rfl⟩ (As := [.long (iL A.num)]) (rest := [.int (sgn (iL H.num))]) rfl rfl (Nat.le_of_ble_eq_true rfl) dX1_findShare_15 (fun r15 I15 L15 hp15 => ?_)
  obtain ⟨rfl, e1, e2⟩ := hp15
  have e1 := e1.symm
  have e2 := e2.symm
  subst e1; subst e2
  refine v_st (st' := [.int (sgn (iL A.num)), .int (sgn (iL H.num))]) rfl ?_
  refine v_imul X dX1_findShare_18 ?_
  refine v_if_gt X dX1_findShare_19 (tgt := 24) (by decide) (fun h19 => ?_) (fun h19 => ?_)
  · have hp := (sgn_mul r1 r3).mp h19
    have hA : A.num ≠ 0 := fun e => by rw [e, Int.mul_zero] at hp; exact absurd hp (by decide)
    have hH : H.num ≠ 0 := fun e => by rw [e, Int.zero_mul] at hp; exact absurd hp (by decide)
    have hf0 : 0 < (Nat.gcd H.num.natAbs A.num.natAbs) := Nat.gcd_pos_of_pos_left _ (by omega)
    have hg0 : 0 < (Nat.gcd H.den A.den) := Nat.gcd_pos_of_pos_left _ H.den_pos
    have hf1 : (Nat.gcd H.num.natAbs A.num.natAbs) < 2 ^ 63 := Nat.lt_of_le_of_lt (Nat.gcd_le_left _ (by omega)) r1
    have hg1 : (Nat.gcd H.den A.den) < 2 ^ 63 := Nat.lt_of_le_of_lt (Nat.gcd_le_left _ H.den_pos) r2
    have hdv := div_ok H A hA hp
    refine v_aload_n X 0 rfl dX1_findShare_24 ?_
    refine gf_X1_25 X dX1_findShare_25 ?_
    refine v_iload_n X 1 rfl dX1_findShare_28 ?_
    refine v_lald_n X dl_22 (fun _ _ => rfl) (n := 9) (by omega) (by decide) dX1_findShare_29 ?_
    refine v_eql (y := (iL H.num)) (w1) ?_
    refine v_labs X mw_X1_91.1 mw_X1_91.2.1 mw_X1_91.2.2.1 mw_X1_91.2.2.2 (Nat.le_of_ble_eq_true rfl) (Nat.le_of_ble_eq_true rfl) dX1_findShare_30 ?_
    refine v_eql (y := (lN H.num.natAbs)) (iL_abs r1) ?_
    refine v_eql (y := (iL (H.num.natAbs : Int))) ((iL_nat _).symm) ?_
    refine v_lstore_n X [1, 2, 3, 0] (lv' := [(0, .ref (eA (vE a) 17 0)), (1, .int (nI h)), (2, .int (nI b)), (3, .long (iL (H.num.natAbs : Int)))]) (by decide) rfl dX1_findShare_33 ?_
    refine v_aload_n X 0 rfl dX1_findShare_34 ?_
    refine gf_X1_25 X dX1_findShare_35 ?_
    refine v_iload_n X 2 rfl dX1_findShare_38 ?_
    refine v_lald_n X dl_22 (fun _ _ => rfl) (n := 9) (by omega) (by decide) dX1_findShare_39 ?_
    refine v_eql (y := (iL A.num)) (w3) ?_
    refine v_labs X mw_X1_91.1 mw_X1_91.2.1 mw_X1_91.2.2.1 mw_X1_91.2.2.2 (Nat.le_of_ble_eq_true rfl) (Nat.le_of_ble_eq_true rfl) dX1_findShare_40 ?_
    refine v_eql (y := (lN A.num.natAbs)) (iL_abs r3) ?_
    refine v_eql (y := (iL (A.num.natAbs : Int))) ((iL_nat _).symm) ?_
    refine v_lstore X [1, 2, 3, 4, 0] (lv' := [(0, .ref (eA (vE a) 17 0)), (1, .int (nI h)), (2, .int (nI b)), (3, .long (iL (H.num.natAbs : Int))), (5, .long (iL (A.num.natAbs : Int)))]) (by decide) rfl dX1_findShare_43 ?_
    refine v_lload_n X 3 rfl dX1_findShare_45 ?_
    refine v_lload X 4 rfl dX1_findShare_46 ?_
    refine v_callS X (c_X1_commonOf _ _ hE _ _ (H.num.natAbs : Int) (A.num.natAbs : Int) (by omega) (by omega)) k_X1_95 ⟨rfl, rfl, Nat.le_of_ble_eq_true rfl, Nat.le_of_ble_eq_true rfl⟩ (As := [.long (iL (H.num.natAbs : Int)), .long (iL (A.num.natAbs : Int))]) (rest := []) rfl rfl (Nat.le_of_ble_eq_true rfl) dX1_findShare_48 (fun r48 I48 L48 hp48 => ?_)
    obtain ⟨rfl, e1, e2⟩ := hp48
    have e1 := e1.symm
    have e2 := e2.symm
    subst e1; subst e2
    refine v_st (st' := [.long (lN (Nat.gcd (H.num.natAbs : Int).natAbs (A.num.natAbs : Int).natAbs))]) rfl ?_
    refine v_eql (y := (lN (Nat.gcd H.num.natAbs A.num.natAbs))) (congrArg lN (by simp only [Int.natAbs_natCast])) ?_
    refine v_lstore X [1, 2, 3, 4, 5, 0] (lv' := [(0, .ref (eA (vE a) 17 0)), (1, .int (nI h)), (2, .int (nI b)), (3, .long (iL (H.num.natAbs : Int))), (5, .long (iL (A.num.natAbs : Int))), (7, .long (lN (Nat.gcd H.num.natAbs A.num.natAbs)))]) (by decide) rfl dX1_findShare_51 ?_
    refine v_aload_n X 0 rfl dX1_findShare_53 ?_
    refine gf_X1_28 X dX1_findShare_54 ?_
    refine v_iload_n X 1 rfl dX1_findShare_57 ?_
    refine v_lald_n X dl_23 (fun _ _ => rfl) (n := 9) (by omega) (by decide) dX1_findShare_58 ?_
    refine v_eql (y := (iL (H.den : Int))) (w2) ?_
    refine v_aload_n X 0 rfl dX1_findShare_59 ?_
    refine gf_X1_28 X dX1_findShare_60 ?_
    refine v_iload_n X 2 rfl dX1_findShare_63 ?_
    refine v_lald_n X dl_23 (fun _ _ => rfl) (n := 9) (by omega) (by decide) dX1_findShare_64 ?_
    refine v_eql (y := (iL (A.den : Int))) (w4) ?_
    refine v_callS X (c_X1_commonOf _ _ hE _ _ (H.den : Int) (A.den : Int) (by omega) (by omega)) k_X1_95 ⟨rfl, rfl, Nat.le_of_ble_eq_true rfl, Nat.le_of_ble_eq_true rfl⟩ (As := [.long (iL (H.den : Int)), .long (iL (A.den : Int))]) (rest := []) rfl rfl (Nat.le_of_ble_eq_true rfl) dX1_findShare_65 (fun r65 I65 L65 hp65 => ?_)
    obtain ⟨rfl, e1, e2⟩ := hp65
    have e1 := e1.symm
    have e2 := e2.symm
    subst e1; subst e2
    refine v_st (st' := [.long (lN (Nat.gcd (H.den : Int).natAbs (A.den : Int).natAbs))]) rfl ?_
    refine v_eql (y := (lN (Nat.gcd H.den A.den))) (congrArg lN (by simp only [Int.natAbs_natCast])) ?_
    refine v_lstore X [1, 2, 3, 4, 5, 6, 0] (lv' := [(0, .ref (eA (vE a) 17 0)), (1, .int (nI h)), (2, .int (nI b)), (3, .long (iL (H.num.natAbs : Int))), (5, .long (iL (A.num.natAbs : Int))), (7, .long (lN (Nat.gcd H.num.natAbs A.num.natAbs))), (9, .long (lN (Nat.gcd H.den A.den)))]) (by decide) rfl dX1_findShare_68 ?_
    refine v_aload_n X 0 rfl dX1_findShare_70 ?_
    refine v_lload_n X 3 rfl dX1_findShare_71 ?_
    refine v_lload X 5 rfl dX1_findShare_72 ?_
    refine v_callS X (c_X1_without _ _ hE _ _ (H.num.natAbs : Int) (Nat.gcd H.num.natAbs A.num.natAbs) (by omega) hf1 hf0 (Int.ofNat_dvd.mpr (Nat.gcd_dvd_left _ _))) k_X1_99 ⟨rfl, rfl, Nat.le_of_ble_eq_true rfl, Nat.le_of_ble_eq_true rfl⟩ (As := [.long (iL (H.num.natAbs : Int)), .long (lN (Nat.gcd H.num.natAbs A.num.natAbs))]) (rest := [.ref (eA (vE a) 17 0)]) rfl rfl (Nat.le_of_ble_eq_true rfl) dX1_findShare_74 (fun r74 I74 L74 hp74 => ?_)
    obtain ⟨rfl, e1, e2⟩ := hp74
    have e1 := e1.symm
    have e2 := e2.symm
    subst e1; subst e2
    refine v_st (st' := [.long (iL ((H.num.natAbs : Int) / ((Nat.gcd H.num.natAbs A.num.natAbs) : Int))), .ref (eA (vE a) 17 0)]) rfl ?_
    refine v_aload_n X 0 rfl dX1_findShare_77 ?_
    refine gf_X1_28 X dX1_findShare_78 ?_
    refine v_iload_n X 2 rfl dX1_findShare_81 ?_
    refine v_lald_n X dl_23 (fun _ _ => rfl) (n := 9) (by omega) (by decide) dX1_findShare_82 ?_
    refine v_eql (y := (iL (A.den : Int))) (w4) ?_
    refine v_lload X 6 rfl dX1_findShare_83 ?_
    refine v_callS X (c_X1_without _ _ hE _ _ (A.den : Int) (Nat.gcd H.den A.den) (by omega) hg1 hg0 (Int.ofNat_dvd.mpr (Nat.gcd_dvd_right _ _))) k_X1_99 ⟨rfl, rfl, Nat.le_of_ble_eq_true rfl, Nat.le_of_ble_eq_true rfl⟩ (As := [.long (iL (A.den : Int)), .long (lN (Nat.gcd H.den A.den))]) (rest := [.long (iL ((H.num.natAbs : Int) / ((Nat.gcd H.num.natAbs A.num.natAbs) : Int))), .ref (eA (vE a) 17 0)]) rfl rfl (Nat.le_of_ble_eq_true rfl) dX1_findShare_85 (fun r85 I85 L85 hp85 => ?_)
    obtain ⟨rfl, e1, e2⟩ := hp85
    have e1 := e1.symm
    have e2 := e2.symm
    subst e1; subst e2
    refine v_st (st' := [.long (iL ((A.den : Int) / ((Nat.gcd H.den A.den) : Int))), .long (iL ((H.num.natAbs : Int) / ((Nat.gcd H.num.natAbs A.num.natAbs) : Int))), .ref (eA (vE a) 17 0)]) rfl ?_
    refine v_lmul X dX1_findShare_88 ?_
    refine v_eql (y := (iL (H / A).num)) (by rw [iL_mul, hdv.1]; exact congrArg iL (by rw [Int.natCast_mul, Int.natCast_ediv, Int.natCast_ediv])) ?_
    refine pf_X1_72 X dX1_findShare_89 ?_
    refine v_aload_n X 0 rfl dX1_findShare_92 ?_
    refine v_lload X 4 rfl dX1_findShare_93 ?_
    refine v_lload X 5 rfl dX1_findShare_95 ?_
    refine v_callS X (c_X1_without _ _ hE _ _ (A.num.natAbs : Int) (Nat.gcd H.num.natAbs A.num.natAbs) (by omega) hf1 hf0 (Int.ofNat_dvd.mpr (Nat.gcd_dvd_right _ _))) k_X1_99 ⟨rfl, rfl, Nat.le_of_ble_eq_true rfl, Nat.le_of_ble_eq_true rfl⟩ (As := [.long (iL (A.num.natAbs : Int)), .long (lN (Nat.gcd H.num.natAbs A.num.natAbs))]) (rest := [.ref (eA (vE a) 17 0)]) rfl rfl (Nat.le_of_ble_eq_true rfl) dX1_findShare_97 (fun r97 I97 L97 hp97 => ?_)
    obtain ⟨rfl, e1, e2⟩ := hp97
    have e1 := e1.symm
    have e2 := e2.symm
    subst e1; subst e2
    refine v_st (st' := [.long (iL ((A.num.natAbs : Int) / ((Nat.gcd H.num.natAbs A.num.natAbs) : Int))), .ref (eA (vE a) 17 0)]) rfl ?_
    refine v_aload_n X 0 rfl dX1_findShare_100 ?_
    refine gf_X1_28 X dX1_findShare_101 ?_
    refine v_iload_n X 1 rfl dX1_findShare_104 ?_
    refine v_lald_n X dl_23 (fun _ _ => rfl) (n := 9) (by omega) (by decide) dX1_findShare_105 ?_
    refine v_eql (y := (iL (H.den : Int))) ((upL_k (by decide)).trans (w2)) ?_
    refine v_lload X 6 rfl dX1_findShare_106 ?_
    refine v_callS X (c_X1_without _ _ hE _ _ (H.den : Int) (Nat.gcd H.den A.den) (by omega) hg1 hg0 (Int.ofNat_dvd.mpr (Nat.gcd_dvd_left _ _))) k_X1_99 ⟨rfl, rfl, Nat.le_of_ble_eq_true rfl, Nat.le_of_ble_eq_true rfl⟩ (As := [.long (iL (H.den : Int)), .long (lN (Nat.gcd H.den A.den))]) (rest := [.long (iL ((A.num.natAbs : Int) / ((Nat.gcd H.num.natAbs A.num.natAbs) : Int))), .ref (eA (vE a) 17 0)]) rfl rfl (Nat.le_of_ble_eq_true rfl) dX1_findShare_108 (fun r108 I108 L108 hp108 => ?_)
    obtain ⟨rfl, e1, e2⟩ := hp108
    have e1 := e1.symm
    have e2 := e2.symm
    subst e1; subst e2
    refine v_st (st' := [.long (iL ((H.den : Int) / ((Nat.gcd H.den A.den) : Int))), .long (iL ((A.num.natAbs : Int) / ((Nat.gcd H.num.natAbs A.num.natAbs) : Int))), .ref (eA (vE a) 17 0)]) rfl ?_
    refine v_lmul X dX1_findShare_111 ?_
    refine v_eql (y := (iL ((H / A).den : Int))) (by rw [iL_mul, hdv.2]; exact congrArg iL (by rw [Int.natCast_mul, Int.natCast_ediv, Int.natCast_ediv])) ?_
    refine pf_X1_76 X dX1_findShare_112 ?_
    refine v_iconst X (v := (nI 1)) dX1_findShare_115 (by decide) ?_
    exact v_zret X Y (rfl) dX1_findShare_116 (⟨Or.inr ⟨hp, rfl, rfl⟩, rfl⟩)
  · refine v_iconst X (v := (nI 0)) dX1_findShare_22 (by decide) ?_
    exact v_zret X Y (rfl) dX1_findShare_23 (⟨Or.inl ⟨fun q => h19 ((sgn_mul r1 r3).mpr q), rfl, rfl⟩, rfl⟩)
def chg2 (L L' : TL) (h : Nat) (u l : Int64) : Prop := L' 22 0 h = u ∧ L' 23 0 h = l ∧ ∀ k j x, ¬ (j = 0 ∧ x = h ∧ (k = 22 ∨ k = 23)) → L' k j x = L k j x
theorem chg2_same {L : TL} {h : Nat} {u l : Int64} (h1 : L 22 0 h = u) (h2 : L 23 0 h = l) : chg2 L L h u l := ⟨h1, h2, fun _ _ _ _ => rfl⟩
theorem chg2_up {L : TL} {h : Nat} {u l : Int64} : chg2 L (upL (upL L 22 0 h u) 23 0 h l) h u l := ⟨(upL_k (by decide)).trans upL_eq, upL_eq, fun k j x hn => by
  unfold upL
  rw [if_neg (fun q => hn ⟨q.2.1, q.2.2, Or.inr q.1⟩), if_neg (fun q => hn ⟨q.2.1, q.2.2, Or.inl q.1⟩)]⟩
set_option maxHeartbeats 8000000 in
set_option maxRecDepth 100000 in
theorem c_X1_takeShare (l : Launch) (E : VE) (hE : EOk E) (I : TI) (L : TL) (S : Rat) (H A : Rat) (h b : Nat) (hh : h < 9) (hb : b < 9) (hne : b ≠ h) (w1 : L 22 0 h = iL H.num) (w2 : L 23 0 h = iL (H.den : Int)) (w3 : L 22 0 b = iL A.num) (w4 : L 23 0 b = iL (A.den : Int)) (r1 : H.num.natAbs < 2 ^ 63) (r2 : H.den < 2 ^ 63) (r3 : A.num.natAbs < 2 ^ 63) (r4 : A.den < 2 ^ 63) (w5 : L 17 0 8 = iL S.num) (w6 : L 17 0 9 = iL (S.den : Int)) (r5 : S.num.natAbs < 2 ^ 63) (r6 : S.den < 2 ^ 63) (hr78 : A.num ≠ 0 → (H.num * ((S.den / (Nat.gcd A.num.natAbs S.den) * (A.den / (Nat.gcd S.num.natAbs A.den))) : Nat) - (S.num / ((Nat.gcd S.num.natAbs A.den) : Int) * (A.num / ((Nat.gcd A.num.natAbs S.den) : Int))) * (H.den : Int)).natAbs < 2 ^ 63 ∧ (H.den * (S.den / (Nat.gcd A.num.natAbs S.den) * (A.den / (Nat.gcd S.num.natAbs A.den)))) < 2 ^ 63) : Ct l E yX1_takeShare cX1_takeShare 17 none rm_X1_takeShare [.ref (eA E 17 0), .int (nI h), .int (nI b)] I L (fun r I' L' => r = none ∧ I' = I ∧ chg2 L L' h (iL (H - S * A).num) (iL ((H - S * A).den : Int))) := by
  refine ct_of (by decide +kernel) (Nat.le_of_ble_eq_true rfl) hE ?_
  intro a X Y hl hEE
  subst hl; subst hEE
  show V a 0 [(0, .ref (eA (vE a) 17 0)), (1, .int (nI h)), (2, .int (nI b))] [] I L
  refine v_aload_n X 0 rfl dX1_takeShare_0 ?_
  refine gf_X1_25 X dX1_takeShare_1 ?_
  refine v_iload_n X 2 rfl dX1_takeShare_4 ?_
  refine v_lald_n X dl_22 (fun _ _ => rfl) (n := 9) (by omega) (by decide) dX1_takeShare_5 ?_
  refine v_eql (y := (iL A.num)) (w3) ?_
  refine v_lconst X (v := 0) dX1_takeShare_6 rfl ?_
  refine v_lcmp_ne X dX1_takeShare_7 dX1_takeShare_8 (tgt := 12) (by decide) (fun h7 => ?_) (fun h7 => ?_)
  · obtain ⟨so1, so2, so3⟩ := sub_ok H S A
    have hA0 : A.num ≠ 0 := fun e => h7 (by rw [e]; rfl)
    obtain ⟨r7, r8⟩ := hr78 hA0
    have hf0 : 0 < (Nat.gcd S.num.natAbs A.den) := Nat.gcd_pos_of_pos_right _ A.den_pos
    have hg0 : 0 < (Nat.gcd A.num.natAbs S.den) := Nat.gcd_pos_of_pos_right _ S.den_pos
    have hf1 : (Nat.gcd S.num.natAbs A.den) < 2 ^ 63 := Nat.lt_of_le_of_lt (Nat.gcd_le_right _ A.den_pos) r4
    have hg1 : (Nat.gcd A.num.natAbs S.den) < 2 ^ 63 := Nat.lt_of_le_of_lt (Nat.gcd_le_right _ S.den_pos) r6
    have hll : (H.den * (S.den / (Nat.gcd A.num.natAbs S.den) * (A.den / (Nat.gcd S.num.natAbs A.den)))) ≠ 0 := Nat.mul_ne_zero H.den_nz so2
    have hN := rat_num _ _ _ hll so3
    have hc0 : 0 < Nat.gcd (H.num * ((S.den / (Nat.gcd A.num.natAbs S.den) * (A.den / (Nat.gcd S.num.natAbs A.den))) : Nat) - (S.num / ((Nat.gcd S.num.natAbs A.den) : Int) * (A.num / ((Nat.gcd A.num.natAbs S.den) : Int))) * (H.den : Int)).natAbs (H.den * (S.den / (Nat.gcd A.num.natAbs S.den) * (A.den / (Nat.gcd S.num.natAbs A.den)))) := Nat.gcd_pos_of_pos_right _ (Nat.pos_of_ne_zero hll)
    have hc1 : Nat.gcd (H.num * ((S.den / (Nat.gcd A.num.natAbs S.den) * (A.den / (Nat.gcd S.num.natAbs A.den))) : Nat) - (S.num / ((Nat.gcd S.num.natAbs A.den) : Int) * (A.num / ((Nat.gcd A.num.natAbs S.den) : Int))) * (H.den : Int)).natAbs (H.den * (S.den / (Nat.gcd A.num.natAbs S.den) * (A.den / (Nat.gcd S.num.natAbs A.den)))) < 2 ^ 63 := Nat.lt_of_le_of_lt (Nat.gcd_le_right _ (Nat.pos_of_ne_zero hll)) r8
    refine v_aload_n X 0 rfl dX1_takeShare_12 ?_
    refine gf_X1_72 X dX1_takeShare_13 ?_
    refine v_eql (y := (iL S.num)) (w5) ?_
    refine v_aload_n X 0 rfl dX1_takeShare_16 ?_
    refine gf_X1_28 X dX1_takeShare_17 ?_
    refine v_iload_n X 2 rfl dX1_takeShare_20 ?_
    refine v_lald_n X dl_23 (fun _ _ => rfl) (n := 9) (by omega) (by decide) dX1_takeShare_21 ?_
    refine v_eql (y := (iL (A.den : Int))) (w4) ?_
    refine v_callS X (c_X1_commonOf _ _ hE _ _ S.num (A.den : Int) r5 (by omega)) k_X1_95 ⟨rfl, rfl, Nat.le_of_ble_eq_true rfl, Nat.le_of_ble_eq_true rfl⟩ (As := [.long (iL S.num), .long (iL (A.den : Int))]) (rest := []) rfl rfl (Nat.le_of_ble_eq_true rfl) dX1_takeShare_22 (fun r22 I22 L22 hp22 => ?_)
    obtain ⟨rfl, e1, e2⟩ := hp22
    have e1 := e1.symm
    have e2 := e2.symm
    subst e1; subst e2
    refine v_st (st' := [.long (lN (Nat.gcd S.num.natAbs (A.den : Int).natAbs))]) rfl ?_
    refine v_eql (y := (lN (Nat.gcd S.num.natAbs A.den))) (congrArg lN (by simp only [Int.natAbs_natCast])) ?_
    refine v_lstore_n X [1, 2, 3, 0] (lv' := [(0, .ref (eA (vE a) 17 0)), (1, .int (nI h)), (2, .int (nI b)), (3, .long (lN (Nat.gcd S.num.natAbs A.den)))]) (by decide) rfl dX1_takeShare_25 ?_
    refine v_aload_n X 0 rfl dX1_takeShare_26 ?_
    refine gf_X1_25 X dX1_takeShare_27 ?_
    refine v_iload_n X 2 rfl dX1_takeShare_30 ?_
    refine v_lald_n X dl_22 (fun _ _ => rfl) (n := 9) (by omega) (by decide) dX1_takeShare_31 ?_
    refine v_eql (y := (iL A.num)) (w3) ?_
    refine v_aload_n X 0 rfl dX1_takeShare_32 ?_
    refine gf_X1_76 X dX1_takeShare_33 ?_
    refine v_eql (y := (iL (S.den : Int))) (w6) ?_
    refine v_callS X (c_X1_commonOf _ _ hE _ _ A.num (S.den : Int) r3 (by omega)) k_X1_95 ⟨rfl, rfl, Nat.le_of_ble_eq_true rfl, Nat.le_of_ble_eq_true rfl⟩ (As := [.long (iL A.num), .long (iL (S.den : Int))]) (rest := []) rfl rfl (Nat.le_of_ble_eq_true rfl) dX1_takeShare_36 (fun r36 I36 L36 hp36 => ?_)
    obtain ⟨rfl, e1, e2⟩ := hp36
    have e1 := e1.symm
    have e2 := e2.symm
    subst e1; subst e2
    refine v_st (st' := [.long (lN (Nat.gcd A.num.natAbs (S.den : Int).natAbs))]) rfl ?_
    refine v_eql (y := (lN (Nat.gcd A.num.natAbs S.den))) (congrArg lN (by simp only [Int.natAbs_natCast])) ?_
    refine v_lstore X [1, 2, 3, 4, 0] (lv' := [(0, .ref (eA (vE a) 17 0)), (1, .int (nI h)), (2, .int (nI b)), (3, .long (lN (Nat.gcd S.num.natAbs A.den))), (5, .long (lN (Nat.gcd A.num.natAbs S.den)))]) (by decide) rfl dX1_takeShare_39 ?_
    refine v_aload_n X 0 rfl dX1_takeShare_41 ?_
    refine gf_X1_72 X dX1_takeShare_42 ?_
    refine v_eql (y := (iL S.num)) (w5) ?_
    refine v_lload_n X 3 rfl dX1_takeShare_45 ?_
    refine v_callS X (c_X1_without _ _ hE _ _ S.num (Nat.gcd S.num.natAbs A.den) r5 hf1 hf0 (Int.ofNat_dvd_left.mpr (Nat.gcd_dvd_left _ _))) k_X1_99 ⟨rfl, rfl, Nat.le_of_ble_eq_true rfl, Nat.le_of_ble_eq_true rfl⟩ (As := [.long (iL S.num), .long (lN (Nat.gcd S.num.natAbs A.den))]) (rest := []) rfl rfl (Nat.le_of_ble_eq_true rfl) dX1_takeShare_46 (fun r46 I46 L46 hp46 => ?_)
    obtain ⟨rfl, e1, e2⟩ := hp46
    have e1 := e1.symm
    have e2 := e2.symm
    subst e1; subst e2
    refine v_st (st' := [.long (iL (S.num / ((Nat.gcd S.num.natAbs A.den) : Int)))]) rfl ?_
    refine v_aload_n X 0 rfl dX1_takeShare_49 ?_
    refine gf_X1_25 X dX1_takeShare_50 ?_
    refine v_iload_n X 2 rfl dX1_takeShare_53 ?_
    refine v_lald_n X dl_22 (fun _ _ => rfl) (n := 9) (by omega) (by decide) dX1_takeShare_54 ?_
    refine v_eql (y := (iL A.num)) (w3) ?_
    refine v_lload X 4 rfl dX1_takeShare_55 ?_
    refine v_callS X (c_X1_without _ _ hE _ _ A.num (Nat.gcd A.num.natAbs S.den) r3 hg1 hg0 (Int.ofNat_dvd_left.mpr (Nat.gcd_dvd_left _ _))) k_X1_99 ⟨rfl, rfl, Nat.le_of_ble_eq_true rfl, Nat.le_of_ble_eq_true rfl⟩ (As := [.long (iL A.num), .long (lN (Nat.gcd A.num.natAbs S.den))]) (rest := [.long (iL (S.num / ((Nat.gcd S.num.natAbs A.den) : Int)))]) rfl rfl (Nat.le_of_ble_eq_true rfl) dX1_takeShare_57 (fun r57 I57 L57 hp57 => ?_)
    obtain ⟨rfl, e1, e2⟩ := hp57
    have e1 := e1.symm
    have e2 := e2.symm
    subst e1; subst e2
    refine v_st (st' := [.long (iL (A.num / ((Nat.gcd A.num.natAbs S.den) : Int))), .long (iL (S.num / ((Nat.gcd S.num.natAbs A.den) : Int)))]) rfl ?_
    refine v_lmul X dX1_takeShare_60 ?_
    refine v_eql (y := (iL (S.num / ((Nat.gcd S.num.natAbs A.den) : Int) * (A.num / ((Nat.gcd A.num.natAbs S.den) : Int))))) (iL_mul _ _) ?_
    refine v_lstore X [1, 2, 3, 4, 5, 0] (lv' := [(0, .ref (eA (vE a) 17 0)), (1, .int (nI h)), (2, .int (nI b)), (3, .long (lN (Nat.gcd S.num.natAbs A.den))), (5, .long (lN (Nat.gcd A.num.natAbs S.den))), (7, .long (iL (S.num / ((Nat.gcd S.num.natAbs A.den) : Int) * (A.num / ((Nat.gcd A.num.natAbs S.den) : Int)))))]) (by decide) rfl dX1_takeShare_61 ?_
    refine v_aload_n X 0 rfl dX1_takeShare_63 ?_
    refine gf_X1_76 X dX1_takeShare_64 ?_
    refine v_eql (y := (iL (S.den : Int))) (w6) ?_
    refine v_lload X 4 rfl dX1_takeShare_67 ?_
    refine v_callS X (c_X1_without _ _ hE _ _ (S.den : Int) (Nat.gcd A.num.natAbs S.den) (by omega) hg1 hg0 (Int.ofNat_dvd.mpr (Nat.gcd_dvd_right _ _))) k_X1_99 ⟨rfl, rfl, Nat.le_of_ble_eq_true rfl, Nat.le_of_ble_eq_true rfl⟩ (As := [.long (iL (S.den : Int)), .long (lN (Nat.gcd A.num.natAbs S.den))]) (rest := []) rfl rfl (Nat.le_of_ble_eq_true rfl) dX1_takeShare_69 (fun r69 I69 L69 hp69 => ?_)
    obtain ⟨rfl, e1, e2⟩ := hp69
    have e1 := e1.symm
    have e2 := e2.symm
    subst e1; subst e2
    refine v_st (st' := [.long (iL ((S.den : Int) / ((Nat.gcd A.num.natAbs S.den) : Int)))]) rfl ?_
    refine v_aload_n X 0 rfl dX1_takeShare_72 ?_
    refine gf_X1_28 X dX1_takeShare_73 ?_
    refine v_iload_n X 2 rfl dX1_takeShare_76 ?_
    refine v_lald_n X dl_23 (fun _ _ => rfl) (n := 9) (by omega) (by decide) dX1_takeShare_77 ?_
    refine v_eql (y := (iL (A.den : Int))) (w4) ?_
    refine v_lload_n X 3 rfl dX1_takeShare_78 ?_
    refine v_callS X (c_X1_without _ _ hE _ _ (A.den : Int) (Nat.gcd S.num.natAbs A.den) (by omega) hf1 hf0 (Int.ofNat_dvd.mpr (Nat.gcd_dvd_right _ _))) k_X1_99 ⟨rfl, rfl, Nat.le_of_ble_eq_true rfl, Nat.le_of_ble_eq_true rfl⟩ (As := [.long (iL (A.den : Int)), .long (lN (Nat.gcd S.num.natAbs A.den))]) (rest := [.long (iL ((S.den : Int) / ((Nat.gcd A.num.natAbs S.den) : Int)))]) rfl rfl (Nat.le_of_ble_eq_true rfl) dX1_takeShare_79 (fun r79 I79 L79 hp79 => ?_)
    obtain ⟨rfl, e1, e2⟩ := hp79
    have e1 := e1.symm
    have e2 := e2.symm
    subst e1; subst e2
    refine v_st (st' := [.long (iL ((A.den : Int) / ((Nat.gcd S.num.natAbs A.den) : Int))), .long (iL ((S.den : Int) / ((Nat.gcd A.num.natAbs S.den) : Int)))]) rfl ?_
    refine v_lmul X dX1_takeShare_82 ?_
    refine v_eql (y := (iL ((S.den / (Nat.gcd A.num.natAbs S.den) * (A.den / (Nat.gcd S.num.natAbs A.den))) : Nat))) (by rw [iL_mul]; exact congrArg iL (by rw [Int.natCast_mul, Int.natCast_ediv, Int.natCast_ediv])) ?_
    refine v_lstore X [1, 2, 3, 4, 5, 6, 0] (lv' := [(0, .ref (eA (vE a) 17 0)), (1, .int (nI h)), (2, .int (nI b)), (3, .long (lN (Nat.gcd S.num.natAbs A.den))), (5, .long (lN (Nat.gcd A.num.natAbs S.den))), (7, .long (iL (S.num / ((Nat.gcd S.num.natAbs A.den) : Int) * (A.num / ((Nat.gcd A.num.natAbs S.den) : Int))))), (9, .long (iL ((S.den / (Nat.gcd A.num.natAbs S.den) * (A.den / (Nat.gcd S.num.natAbs A.den))) : Nat)))]) (by decide) rfl dX1_takeShare_83 ?_
    refine v_aload_n X 0 rfl dX1_takeShare_85 ?_
    refine gf_X1_25 X dX1_takeShare_86 ?_
    refine v_iload_n X 1 rfl dX1_takeShare_89 ?_
    refine v_lald_n X dl_22 (fun _ _ => rfl) (n := 9) (by omega) (by decide) dX1_takeShare_90 ?_
    refine v_eql (y := (iL H.num)) (w1) ?_
    refine v_lload X 6 rfl dX1_takeShare_91 ?_
    refine v_lmul X dX1_takeShare_93 ?_
    refine v_lload X 5 rfl dX1_takeShare_94 ?_
    refine v_aload_n X 0 rfl dX1_takeShare_96 ?_
    refine gf_X1_28 X dX1_takeShare_97 ?_
    refine v_iload_n X 1 rfl dX1_takeShare_100 ?_
    refine v_lald_n X dl_23 (fun _ _ => rfl) (n := 9) (by omega) (by decide) dX1_takeShare_101 ?_
    refine v_eql (y := (iL (H.den : Int))) (w2) ?_
    refine v_lmul X dX1_takeShare_102 ?_
    refine v_lsub X dX1_takeShare_103 ?_
    refine v_eql (y := (iL (H.num * ((S.den / (Nat.gcd A.num.natAbs S.den) * (A.den / (Nat.gcd S.num.natAbs A.den))) : Nat) - (S.num / ((Nat.gcd S.num.natAbs A.den) : Int) * (A.num / ((Nat.gcd A.num.natAbs S.den) : Int))) * (H.den : Int)))) (by rw [iL_mul, iL_mul, iL_sub]) ?_
    refine v_lstore X [1, 2, 3, 4, 5, 6, 7, 0] (lv' := [(0, .ref (eA (vE a) 17 0)), (1, .int (nI h)), (2, .int (nI b)), (3, .long (lN (Nat.gcd S.num.natAbs A.den))), (5, .long (lN (Nat.gcd A.num.natAbs S.den))), (7, .long (iL (S.num / ((Nat.gcd S.num.natAbs A.den) : Int) * (A.num / ((Nat.gcd A.num.natAbs S.den) : Int))))), (9, .long (iL ((S.den / (Nat.gcd A.num.natAbs S.den) * (A.den / (Nat.gcd S.num.natAbs A.den))) : Nat))), (11, .long (iL (H.num * ((S.den / (Nat.gcd A.num.natAbs S.den) * (A.den / (Nat.gcd S.num.natAbs A.den))) : Nat) - (S.num / ((Nat.gcd S.num.natAbs A.den) : Int) * (A.num / ((Nat.gcd A.num.natAbs S.den) : Int))) * (H.den : Int))))]) (by decide) rfl dX1_takeShare_104 ?_
    refine v_aload_n X 0 rfl dX1_takeShare_106 ?_
    refine gf_X1_28 X dX1_takeShare_107 ?_
    refine v_iload_n X 1 rfl dX1_takeShare_110 ?_
    refine v_lald_n X dl_23 (fun _ _ => rfl) (n := 9) (by omega) (by decide) dX1_takeShare_111 ?_
    refine v_eql (y := (iL (H.den : Int))) (w2) ?_
    refine v_lload X 6 rfl dX1_takeShare_112 ?_
    refine v_lmul X dX1_takeShare_114 ?_
    refine v_eql (y := (iL (((H.den * (S.den / (Nat.gcd A.num.natAbs S.den) * (A.den / (Nat.gcd S.num.natAbs A.den)))) : Nat) : Int))) (by rw [iL_mul]; exact congrArg iL (Int.natCast_mul _ _).symm) ?_
    refine v_lstore X [1, 2, 3, 4, 5, 6, 7, 8, 0] (lv' := [(0, .ref (eA (vE a) 17 0)), (1, .int (nI h)), (2, .int (nI b)), (3, .long (lN (Nat.gcd S.num.natAbs A.den))), (5, .long (lN (Nat.gcd A.num.natAbs S.den))), (7, .long (iL (S.num / ((Nat.gcd S.num.natAbs A.den) : Int) * (A.num / ((Nat.gcd A.num.natAbs S.den) : Int))))), (9, .long (iL ((S.den / (Nat.gcd A.num.natAbs S.den) * (A.den / (Nat.gcd S.num.natAbs A.den))) : Nat))), (11, .long (iL (H.num * ((S.den / (Nat.gcd A.num.natAbs S.den) * (A.den / (Nat.gcd S.num.natAbs A.den))) : Nat) - (S.num / ((Nat.gcd S.num.natAbs A.den) : Int) * (A.num / ((Nat.gcd A.num.natAbs S.den) : Int))) * (H.den : Int)))), (13, .long (iL (((H.den * (S.den / (Nat.gcd A.num.natAbs S.den) * (A.den / (Nat.gcd S.num.natAbs A.den)))) : Nat) : Int)))]) (by decide) rfl dX1_takeShare_115 ?_
    refine v_lload X 7 rfl dX1_takeShare_117 ?_
    refine v_lload X 8 rfl dX1_takeShare_119 ?_
    refine v_callS X (c_X1_commonOf _ _ hE _ _ (H.num * ((S.den / (Nat.gcd A.num.natAbs S.den) * (A.den / (Nat.gcd S.num.natAbs A.den))) : Nat) - (S.num / ((Nat.gcd S.num.natAbs A.den) : Int) * (A.num / ((Nat.gcd A.num.natAbs S.den) : Int))) * (H.den : Int)) (((H.den * (S.den / (Nat.gcd A.num.natAbs S.den) * (A.den / (Nat.gcd S.num.natAbs A.den)))) : Nat) : Int) r7 (by rw [Int.natAbs_natCast]; exact r8)) k_X1_95 ⟨rfl, rfl, Nat.le_of_ble_eq_true rfl, Nat.le_of_ble_eq_true rfl⟩ (As := [.long (iL (H.num * ((S.den / (Nat.gcd A.num.natAbs S.den) * (A.den / (Nat.gcd S.num.natAbs A.den))) : Nat) - (S.num / ((Nat.gcd S.num.natAbs A.den) : Int) * (A.num / ((Nat.gcd A.num.natAbs S.den) : Int))) * (H.den : Int))), .long (iL (((H.den * (S.den / (Nat.gcd A.num.natAbs S.den) * (A.den / (Nat.gcd S.num.natAbs A.den)))) : Nat) : Int))]) (rest := []) rfl rfl (Nat.le_of_ble_eq_true rfl) dX1_takeShare_121 (fun r121 I121 L121 hp121 => ?_)
    obtain ⟨rfl, e1, e2⟩ := hp121
    have e1 := e1.symm
    have e2 := e2.symm
    subst e1; subst e2
    refine v_st (st' := [.long (lN (Nat.gcd (H.num * ((S.den / (Nat.gcd A.num.natAbs S.den) * (A.den / (Nat.gcd S.num.natAbs A.den))) : Nat) - (S.num / ((Nat.gcd S.num.natAbs A.den) : Int) * (A.num / ((Nat.gcd A.num.natAbs S.den) : Int))) * (H.den : Int)).natAbs (((H.den * (S.den / (Nat.gcd A.num.natAbs S.den) * (A.den / (Nat.gcd S.num.natAbs A.den)))) : Nat) : Int).natAbs))]) rfl ?_
    refine v_eql (y := (lN (Nat.gcd (H.num * ((S.den / (Nat.gcd A.num.natAbs S.den) * (A.den / (Nat.gcd S.num.natAbs A.den))) : Nat) - (S.num / ((Nat.gcd S.num.natAbs A.den) : Int) * (A.num / ((Nat.gcd A.num.natAbs S.den) : Int))) * (H.den : Int)).natAbs (H.den * (S.den / (Nat.gcd A.num.natAbs S.den) * (A.den / (Nat.gcd S.num.natAbs A.den))))))) (congrArg lN (by simp only [Int.natAbs_natCast])) ?_
    refine v_lstore X [1, 2, 3, 4, 5, 6, 7, 8, 9, 0] (lv' := [(0, .ref (eA (vE a) 17 0)), (1, .int (nI h)), (2, .int (nI b)), (3, .long (lN (Nat.gcd S.num.natAbs A.den))), (5, .long (lN (Nat.gcd A.num.natAbs S.den))), (7, .long (iL (S.num / ((Nat.gcd S.num.natAbs A.den) : Int) * (A.num / ((Nat.gcd A.num.natAbs S.den) : Int))))), (9, .long (iL ((S.den / (Nat.gcd A.num.natAbs S.den) * (A.den / (Nat.gcd S.num.natAbs A.den))) : Nat))), (11, .long (iL (H.num * ((S.den / (Nat.gcd A.num.natAbs S.den) * (A.den / (Nat.gcd S.num.natAbs A.den))) : Nat) - (S.num / ((Nat.gcd S.num.natAbs A.den) : Int) * (A.num / ((Nat.gcd A.num.natAbs S.den) : Int))) * (H.den : Int)))), (13, .long (iL (((H.den * (S.den / (Nat.gcd A.num.natAbs S.den) * (A.den / (Nat.gcd S.num.natAbs A.den)))) : Nat) : Int))), (15, .long (lN (Nat.gcd (H.num * ((S.den / (Nat.gcd A.num.natAbs S.den) * (A.den / (Nat.gcd S.num.natAbs A.den))) : Nat) - (S.num / ((Nat.gcd S.num.natAbs A.den) : Int) * (A.num / ((Nat.gcd A.num.natAbs S.den) : Int))) * (H.den : Int)).natAbs (H.den * (S.den / (Nat.gcd A.num.natAbs S.den) * (A.den / (Nat.gcd S.num.natAbs A.den)))))))]) (by decide) rfl dX1_takeShare_124 ?_
    refine v_aload_n X 0 rfl dX1_takeShare_126 ?_
    refine gf_X1_25 X dX1_takeShare_127 ?_
    refine v_iload_n X 1 rfl dX1_takeShare_130 ?_
    refine v_lload X 7 rfl dX1_takeShare_131 ?_
    refine v_lload X 9 rfl dX1_takeShare_133 ?_
    refine v_callS X (c_X1_without _ _ hE _ _ (H.num * ((S.den / (Nat.gcd A.num.natAbs S.den) * (A.den / (Nat.gcd S.num.natAbs A.den))) : Nat) - (S.num / ((Nat.gcd S.num.natAbs A.den) : Int) * (A.num / ((Nat.gcd A.num.natAbs S.den) : Int))) * (H.den : Int)) (Nat.gcd (H.num * ((S.den / (Nat.gcd A.num.natAbs S.den) * (A.den / (Nat.gcd S.num.natAbs A.den))) : Nat) - (S.num / ((Nat.gcd S.num.natAbs A.den) : Int) * (A.num / ((Nat.gcd A.num.natAbs S.den) : Int))) * (H.den : Int)).natAbs (H.den * (S.den / (Nat.gcd A.num.natAbs S.den) * (A.den / (Nat.gcd S.num.natAbs A.den))))) r7 hc1 hc0 (Int.ofNat_dvd_left.mpr (Nat.gcd_dvd_left _ _))) k_X1_99 ⟨rfl, rfl, Nat.le_of_ble_eq_true rfl, Nat.le_of_ble_eq_true rfl⟩ (As := [.long (iL (H.num * ((S.den / (Nat.gcd A.num.natAbs S.den) * (A.den / (Nat.gcd S.num.natAbs A.den))) : Nat) - (S.num / ((Nat.gcd S.num.natAbs A.den) : Int) * (A.num / ((Nat.gcd A.num.natAbs S.den) : Int))) * (H.den : Int))), .long (lN (Nat.gcd (H.num * ((S.den / (Nat.gcd A.num.natAbs S.den) * (A.den / (Nat.gcd S.num.natAbs A.den))) : Nat) - (S.num / ((Nat.gcd S.num.natAbs A.den) : Int) * (A.num / ((Nat.gcd A.num.natAbs S.den) : Int))) * (H.den : Int)).natAbs (H.den * (S.den / (Nat.gcd A.num.natAbs S.den) * (A.den / (Nat.gcd S.num.natAbs A.den))))))]) (rest := [.int (nI h), .ref (eA (vE a) 22 0)]) rfl rfl (Nat.le_of_ble_eq_true rfl) dX1_takeShare_135 (fun r135 I135 L135 hp135 => ?_)
    obtain ⟨rfl, e1, e2⟩ := hp135
    have e1 := e1.symm
    have e2 := e2.symm
    subst e1; subst e2
    refine v_st (st' := [.long (iL ((H.num * ((S.den / (Nat.gcd A.num.natAbs S.den) * (A.den / (Nat.gcd S.num.natAbs A.den))) : Nat) - (S.num / ((Nat.gcd S.num.natAbs A.den) : Int) * (A.num / ((Nat.gcd A.num.natAbs S.den) : Int))) * (H.den : Int)) / ((Nat.gcd (H.num * ((S.den / (Nat.gcd A.num.natAbs S.den) * (A.den / (Nat.gcd S.num.natAbs A.den))) : Nat) - (S.num / ((Nat.gcd S.num.natAbs A.den) : Int) * (A.num / ((Nat.gcd A.num.natAbs S.den) : Int))) * (H.den : Int)).natAbs (H.den * (S.den / (Nat.gcd A.num.natAbs S.den) * (A.den / (Nat.gcd S.num.natAbs A.den))))) : Int))), .int (nI h), .ref (eA (vE a) 22 0)]) rfl ?_
    refine v_eql (y := (iL (H - S * A).num)) (congrArg iL hN.1.symm) ?_
    refine v_last_n X dl_22 (fun _ _ => rfl) (n := 9) (by omega) (by decide) dX1_takeShare_138 ?_
    refine v_aload_n X 0 rfl dX1_takeShare_139 ?_
    refine gf_X1_28 X dX1_takeShare_140 ?_
    refine v_iload_n X 1 rfl dX1_takeShare_143 ?_
    refine v_lload X 8 rfl dX1_takeShare_144 ?_
    refine v_lload X 9 rfl dX1_takeShare_146 ?_
    refine v_callS X (c_X1_without _ _ hE _ _ (((H.den * (S.den / (Nat.gcd A.num.natAbs S.den) * (A.den / (Nat.gcd S.num.natAbs A.den)))) : Nat) : Int) (Nat.gcd (H.num * ((S.den / (Nat.gcd A.num.natAbs S.den) * (A.den / (Nat.gcd S.num.natAbs A.den))) : Nat) - (S.num / ((Nat.gcd S.num.natAbs A.den) : Int) * (A.num / ((Nat.gcd A.num.natAbs S.den) : Int))) * (H.den : Int)).natAbs (H.den * (S.den / (Nat.gcd A.num.natAbs S.den) * (A.den / (Nat.gcd S.num.natAbs A.den))))) (by rw [Int.natAbs_natCast]; exact r8) hc1 hc0 (Int.ofNat_dvd.mpr (Nat.gcd_dvd_right _ _))) k_X1_99 ⟨rfl, rfl, Nat.le_of_ble_eq_true rfl, Nat.le_of_ble_eq_true rfl⟩ (As := [.long (iL (((H.den * (S.den / (Nat.gcd A.num.natAbs S.den) * (A.den / (Nat.gcd S.num.natAbs A.den)))) : Nat) : Int)), .long (lN (Nat.gcd (H.num * ((S.den / (Nat.gcd A.num.natAbs S.den) * (A.den / (Nat.gcd S.num.natAbs A.den))) : Nat) - (S.num / ((Nat.gcd S.num.natAbs A.den) : Int) * (A.num / ((Nat.gcd A.num.natAbs S.den) : Int))) * (H.den : Int)).natAbs (H.den * (S.den / (Nat.gcd A.num.natAbs S.den) * (A.den / (Nat.gcd S.num.natAbs A.den))))))]) (rest := [.int (nI h), .ref (eA (vE a) 23 0)]) rfl rfl (Nat.le_of_ble_eq_true rfl) dX1_takeShare_148 (fun r148 I148 L148 hp148 => ?_)
    obtain ⟨rfl, e1, e2⟩ := hp148
    have e1 := e1.symm
    have e2 := e2.symm
    subst e1; subst e2
    refine v_st (st' := [.long (iL ((((H.den * (S.den / (Nat.gcd A.num.natAbs S.den) * (A.den / (Nat.gcd S.num.natAbs A.den)))) : Nat) : Int) / ((Nat.gcd (H.num * ((S.den / (Nat.gcd A.num.natAbs S.den) * (A.den / (Nat.gcd S.num.natAbs A.den))) : Nat) - (S.num / ((Nat.gcd S.num.natAbs A.den) : Int) * (A.num / ((Nat.gcd A.num.natAbs S.den) : Int))) * (H.den : Int)).natAbs (H.den * (S.den / (Nat.gcd A.num.natAbs S.den) * (A.den / (Nat.gcd S.num.natAbs A.den))))) : Int))), .int (nI h), .ref (eA (vE a) 23 0)]) rfl ?_
    refine v_eql (y := (iL ((H - S * A).den : Int))) (congrArg iL (by rw [hN.2]; exact (Int.natCast_ediv _ _).symm)) ?_
    refine v_last_n X dl_23 (fun _ _ => rfl) (n := 9) (by omega) (by decide) dX1_takeShare_151 ?_
    exact v_vret X Y dX1_takeShare_152 (⟨rfl, rfl, chg2_up⟩)
  · exact v_vret X Y dX1_takeShare_11 (⟨rfl, rfl, by
          have hA0 : A = 0 := Rat.num_eq_zero.mp ((iL_eq r3 (by decide)).mp h7)
          have hz : H - S * A = H := by rw [hA0, Rat.mul_zero, Rat.sub_eq_add_neg, Rat.neg_zero, Rat.add_zero]
          rw [hz]
          exact chg2_same w1 w2⟩)
