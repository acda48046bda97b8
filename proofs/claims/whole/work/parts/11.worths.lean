theorem alr_skip {F : Nat → Int64} {f g : Nat → Int64} {C q : Nat} (hC : C < 32) (hq : q < 5) (hb : ¬ bitN C q) (hF : F = alrT f g C) {all sg : Int64} (h1 : all = tsum F (q + 1)) (h2 : sg = sgm C (q + 1)) : all = tsum F q ∧ sg = sgm C q := by
  subst hF
  refine ⟨?_, h2.trans (sgm_skip C hC q hq hb).symm⟩
  rw [tsum_s _ q hq, h1, show alrT f g C q = 0 from if_neg hb, Int64.add_zero]
theorem alr_take {F : Nat → Int64} {f g : Nat → Int64} {C q : Nat} (hC : C < 32) (hq : q < 5) (hb : bitN C q) (hF : F = alrT f g C) {all sg : Int64} (h1 : all = tsum F (q + 1)) (h2 : sg = sgm C (q + 1)) : all + sg * f q * g (C ^^^ 2 ^ q) = tsum F q ∧ -sg = sgm C q := by
  subst hF
  refine ⟨?_, by rw [h2, sgm_flip C hC q hq hb]⟩
  rw [tsum_s _ q hq, h1, show alrT f g C q = _ from if_pos hb, h2]
theorem alr_end {f g : Nat → Int64} {C c : Nat} (hc : c ≤ 5) (hC : C < 2 ^ c) : (0 : Int64) = tsum (alrT f g C) c :=
  (tsum_z _ (5 - c) c (by omega) (fun j hj => if_neg (bit_hi hC hj))).symm
set_option maxHeartbeats 4000000 in
set_option maxRecDepth 100000 in
theorem c_X4_alongLastRow (l : Launch) (E : VE) (hE : EOk E) (I : TI) (L : TL) (t : Nat) (ht : t < 12) (r c : Nat) (hr : I 2 t 1 = nI r) (hc : I 2 t 2 = nI c) (hr5 : r ≤ 5) (hc5 : c ≤ 5) (row C : Nat) (hrow : row < r) (hC : C < 2 ^ c) : Ct l E yX4_alongLastRow cX4_alongLastRow 9 (some .long) rm_X4_alongLastRow [.ref (eA E 12 0), .ref (eA E 2 t), .int (nI row), .int (nI C)] I L (fun r9 I' L' => r9 = some (.long (alr (ent I t row) (L 13 0) C)) ∧ I' = I ∧ L' = L) := by
  refine ct_of (by decide +kernel) (Nat.le_of_ble_eq_true rfl) hE ?_
  intro a X Y hl hEE
  subst hl; subst hEE
  have hp := pow32 hc5
  have hC32 : C < 32 := by omega
  show V a 0 [(0, .ref (eA (vE a) 12 0)), (1, .ref (eA (vE a) 2 t)), (2, .int (nI row)), (3, .int (nI C))] [] I L
  refine v_lconst X (v := 0) dX4_alongLastRow_0 rfl ?_
  refine v_lstore X [1, 2, 3, 4, 0] (lv' := [(0, .ref (eA (vE a) 12 0)), (1, .ref (eA (vE a) 2 t)), (2, .int (nI row)), (3, .int (nI C)), (4, .long 0)]) (by decide) rfl dX4_alongLastRow_1 ?_
  refine v_lconst X (v := 1) dX4_alongLastRow_3 rfl ?_
  refine v_lstore X [1, 2, 3, 4, 5, 0] (lv' := [(0, .ref (eA (vE a) 12 0)), (1, .ref (eA (vE a) 2 t)), (2, .int (nI row)), (3, .int (nI C)), (4, .long 0), (6, .long 1)]) (by decide) rfl dX4_alongLastRow_4 ?_
  refine v_aload_n X 1 rfl dX4_alongLastRow_6 ?_
  refine gf_X4_29 X ht dX4_alongLastRow_7 ?_
  refine v_eqi (y := (nI c)) (hc) ?_
  refine v_iconst X (v := (nI 1)) dX4_alongLastRow_10 (by decide) ?_
  refine v_isub X dX4_alongLastRow_11 ?_
  refine v_istore X [1, 2, 3, 4, 5, 6, 0] (lv' := [(0, .ref (eA (vE a) 12 0)), (1, .ref (eA (vE a) 2 t)), (2, .int (nI row)), (3, .int (nI C)), (4, .long 0), (6, .long 1), (8, .int ((nI c) - (nI 1)))]) (by decide) rfl dX4_alongLastRow_12 ?_
  have loop14 : ∀ (fu : Nat) (m : Nat) (all : Int64) (sg : Int64), m < fu → (m ≤ c) → (all = tsum (alrT (ent I t row) (L 13 0) C) m) → (sg = sgm C m) → V a 14 [(0, .ref (eA (vE a) 12 0)), (1, .ref (eA (vE a) 2 t)), (2, .int (nI row)), (3, .int (nI C)), (4, .long all), (6, .long sg), (8, .int (nI m - nI 1))] [] I L := by
    intro fu
    induction fu with
    | zero => intro m all sg hm _ _ _; exact absurd hm (Nat.not_lt_zero _)
    | succ fu ih14 =>
      intro m all sg hm14 hm hall hsg
      refine v_iload X 6 rfl dX4_alongLastRow_14 ?_
      refine v_if_lt X dX4_alongLastRow_16 (tgt := 67) (by decide) (fun h16 => ?_) (fun h16 => ?_)
      · have hm0 : m = 0 := down_zero (by omega) h16
        subst hm0
        refine v_lload X 4 rfl dX4_alongLastRow_67 ?_
        exact v_lret X Y dX4_alongLastRow_69 (⟨by rw [hall]; rfl, rfl, rfl⟩)
      · obtain ⟨q, rfl⟩ : ∃ q, m = q + 1 := ⟨m - 1, by have := down_pos h16; omega⟩
        refine v_lv (lv' := [(0, .ref (eA (vE a) 12 0)), (1, .ref (eA (vE a) 2 t)), (2, .int (nI row)), (3, .int (nI C)), (4, .long all), (6, .long sg), (8, .int (nI q))]) (by rw [down_at]) ?_
        refine v_iload_n X 3 rfl dX4_alongLastRow_19 ?_
        refine v_iload X 6 rfl dX4_alongLastRow_20 ?_
        refine v_callN X (c_X5_holds _ _ hE _ _ C q (by omega) (by omega)) k_X4_66 ⟨rfl, rfl, Nat.le_of_ble_eq_true rfl, Nat.le_of_ble_eq_true rfl⟩ (As := [.int (nI C), .int (nI q)]) (rest := []) rfl rfl (Nat.le_of_ble_eq_true rfl) dX4_alongLastRow_22 (fun r22 I22 L22 hp22 => ?_)
        obtain ⟨rfl, e1, e2⟩ := hp22
        have e1 := e1.symm
        have e2 := e2.symm
        subst e1; subst e2
        refine v_st (st' := [.int (bI (C / 2 ^ q % 2 = 1))]) rfl ?_
        refine v_ifb_eq X dX4_alongLastRow_25 (tgt := 61) (by decide) (fun h25 => ?_) (fun h25 => ?_)
        · refine v_iinc X [1, 2, 3, 4, 5, 6, 0] 6 (nI q - nI 1) (lv' := [(0, .ref (eA (vE a) 12 0)), (1, .ref (eA (vE a) 2 t)), (2, .int (nI row)), (3, .int (nI C)), (4, .long all), (6, .long sg), (8, .int (nI q - nI 1))]) rfl (down_dec q) (by decide) rfl dX4_alongLastRow_61 ?_
          refine v_goto X (tgt := 14) dX4_alongLastRow_64 (by decide) ?_
          exact ih14 q all sg (by omega) (by omega) ((alr_skip hC32 (by omega) h25 rfl hall hsg).1) ((alr_skip hC32 (by omega) h25 rfl hall hsg).2)
        · refine v_lload X 4 rfl dX4_alongLastRow_28 ?_
          refine v_lload X 5 rfl dX4_alongLastRow_30 ?_
          refine v_aload_n X 1 rfl dX4_alongLastRow_32 ?_
          refine v_iload_n X 2 rfl dX4_alongLastRow_33 ?_
          refine v_iload X 6 rfl dX4_alongLastRow_34 ?_
          refine v_callV X (c_X0_number _ _ hE _ _ t ht r c (hr) (hc) hr5 hc5 row q (by omega) (by omega)) k_X4_69 (dl_2 ht) (cef_2 _ _ _ _) rfl ⟨rfl, rfl, Nat.le_of_ble_eq_true rfl, Nat.le_of_ble_eq_true rfl⟩ (As := [.int (nI row), .int (nI q)]) (rest := [.long sg, .long all]) rfl rfl (Nat.le_of_ble_eq_true rfl) dX4_alongLastRow_36 (fun r36 I36 L36 hp36 => ?_)
          obtain ⟨rfl, e1, e2⟩ := hp36
          have e1 := e1.symm
          have e2 := e2.symm
          subst e1; subst e2
          refine v_st (st' := [.int (I 3 t (5 * row + q)), .long sg, .long all]) rfl ?_
          refine v_i2l X dX4_alongLastRow_39 rfl ?_
          refine v_lmul X dX4_alongLastRow_40 ?_
          refine v_aload_n X 0 rfl dX4_alongLastRow_41 ?_
          refine gf_X4_9 X dX4_alongLastRow_42 ?_
          refine v_iload_n X 3 rfl dX4_alongLastRow_45 ?_
          refine v_iconst X (v := (nI 1)) dX4_alongLastRow_46 (by decide) ?_
          refine v_iload X 6 rfl dX4_alongLastRow_47 ?_
          refine v_ishl X dX4_alongLastRow_49 ?_
          refine v_eqi (y := (nI (2 ^ q))) (sh_one (by omega)) ?_
          refine v_ixor X dX4_alongLastRow_50 ?_
          refine v_eqi (y := (nI (C ^^^ (2 ^ q)))) (an_xor _ _) ?_
          refine v_lald_n X dl_13 (fun _ _ => rfl) (n := 32) (xor_lt C hC32 q (by omega)) (by decide) dX4_alongLastRow_51 ?_
          refine v_lmul X dX4_alongLastRow_52 ?_
          refine v_ladd X dX4_alongLastRow_53 ?_
          refine v_lstore X [1, 2, 3, 4, 0, 5, 6] (lv' := [(0, .ref (eA (vE a) 12 0)), (1, .ref (eA (vE a) 2 t)), (2, .int (nI row)), (3, .int (nI C)), (4, .long (all + ((sg * (I 3 t (5 * row + q)).toInt64) * (L 13 0 (C ^^^ (2 ^ q)))))), (6, .long sg), (8, .int (nI q))]) (by decide) rfl dX4_alongLastRow_54 ?_
          refine v_lload X 5 rfl dX4_alongLastRow_56 ?_
          refine v_lneg X dX4_alongLastRow_58 ?_
          refine v_lstore X [1, 2, 3, 4, 5, 0, 6] (lv' := [(0, .ref (eA (vE a) 12 0)), (1, .ref (eA (vE a) 2 t)), (2, .int (nI row)), (3, .int (nI C)), (4, .long (all + ((sg * (I 3 t (5 * row + q)).toInt64) * (L 13 0 (C ^^^ (2 ^ q)))))), (6, .long (-sg)), (8, .int (nI q))]) (by decide) rfl dX4_alongLastRow_59 ?_
          refine v_iinc X [1, 2, 3, 4, 5, 6, 0] 6 (nI q - nI 1) (lv' := [(0, .ref (eA (vE a) 12 0)), (1, .ref (eA (vE a) 2 t)), (2, .int (nI row)), (3, .int (nI C)), (4, .long (all + ((sg * (I 3 t (5 * row + q)).toInt64) * (L 13 0 (C ^^^ (2 ^ q)))))), (6, .long (-sg)), (8, .int (nI q - nI 1))]) rfl (down_dec q) (by decide) rfl dX4_alongLastRow_61 ?_
          refine v_goto X (tgt := 14) dX4_alongLastRow_64 (by decide) ?_
          exact ih14 q (all + ((sg * (I 3 t (5 * row + q)).toInt64) * (L 13 0 (C ^^^ (2 ^ q))))) (-sg) (by omega) (by omega) ((alr_take hC32 (by omega) h25 rfl hall hsg).1) ((alr_take hC32 (by omega) h25 rfl hall hsg).2)
  exact loop14 _ c 0 1 (Nat.lt_succ_self _) (Nat.le_refl _) (alr_end hc5 hC) ((sgm_top hC).symm)
set_option maxHeartbeats 4000000 in
set_option maxRecDepth 100000 in
theorem c_X4_choose (l : Launch) (E : VE) (hE : EOk E) (I : TI) (L : TL) (R : Nat) (hR : R < 32) : Ct l E yX4_choose cX4_choose 4 (some .int) rm_X4_choose [.ref (eA E 12 0), .int (nI R)] I L (fun r I' L' => r = some (.int (nI (pc5 R))) ∧ Fr [(14, 0)] I I' ∧ (∀ s, s < pc5 R → I' 14 0 s = nI (rsel R s)) ∧ L' = L) := by
  refine ct_of (by decide +kernel) (Nat.le_of_ble_eq_true rfl) hE ?_
  intro a X Y hl hEE
  subst hl; subst hEE
  show V a 0 [(0, .ref (eA (vE a) 12 0)), (1, .int (nI R))] [] I L
  refine v_iconst X (v := (nI 0)) dX4_choose_0 (by decide) ?_
  refine v_istore_n X [1, 2, 0] (lv' := [(0, .ref (eA (vE a) 12 0)), (1, .int (nI R)), (2, .int (nI 0))]) (by decide) rfl dX4_choose_1 ?_
  refine v_iconst X (v := (nI 0)) dX4_choose_2 (by decide) ?_
  refine v_istore_n X [1, 2, 3, 0] (lv' := [(0, .ref (eA (vE a) 12 0)), (1, .int (nI R)), (2, .int (nI 0)), (3, .int (nI 0))]) (by decide) rfl dX4_choose_3 ?_
  have loop4 : ∀ (fu : Nat) (i : Nat) (n9 : Nat) (I1 : TI), 5 - i < fu → (i ≤ 5) → (n9 = (rl R i).length) → (Fr [(14, 0)] I I1) → (∀ s, s < n9 → I1 14 0 s = nI ((rl R i).getD s 0)) → V a 4 [(0, .ref (eA (vE a) 12 0)), (1, .int (nI R)), (2, .int (nI n9)), (3, .int (nI i))] [] I1 L := by
    intro fu
    induction fu with
    | zero => intro i n9 I1 hm _ _ _ _; exact absurd hm (Nat.not_lt_zero _)
    | succ fu ih4 =>
      intro i n9 I1 hm4 hi hn hF hv
      refine v_iload_n X 3 rfl dX4_choose_4 ?_
      refine v_iconst X (v := (nI 5)) dX4_choose_5 (by decide) ?_
      refine v_icmp_ge_n X (by omega) (by omega) dX4_choose_6 (tgt := 33) (by decide) (fun h6 => ?_) (fun h6 => ?_)
      · have hi5 : i = 5 := by omega
        subst hi5
        have hn6 : n9 = pc5 R := hn.trans (rl_len R hR)
        subst hn6
        refine v_iload_n X 2 rfl dX4_choose_33 ?_
        exact v_iret X Y dX4_choose_34 (⟨rfl, hF, hv, rfl⟩)
      · have hn5 : n9 ≤ i := hn ▸ rl_le R i
        refine v_iload_n X 1 rfl dX4_choose_9 ?_
        refine v_iload_n X 3 rfl dX4_choose_10 ?_
        refine v_callN X (c_X5_holds _ _ hE _ _ R i (by omega) (by omega)) k_X4_66 ⟨rfl, rfl, Nat.le_of_ble_eq_true rfl, Nat.le_of_ble_eq_true rfl⟩ (As := [.int (nI R), .int (nI i)]) (rest := []) rfl rfl (Nat.le_of_ble_eq_true rfl) dX4_choose_11 (fun r11 I11 L11 hp11 => ?_)
        obtain ⟨rfl, e1, e2⟩ := hp11
        have e1 := e1.symm
        have e2 := e2.symm
        subst e1; subst e2
        refine v_st (st' := [.int (bI (R / 2 ^ i % 2 = 1))]) rfl ?_
        refine v_ifb_eq X dX4_choose_14 (tgt := 27) (by decide) (fun h14 => ?_) (fun h14 => ?_)
        · refine v_iinc X [1, 2, 3, 0] 3 (nI (i + 1)) (lv' := [(0, .ref (eA (vE a) 12 0)), (1, .int (nI R)), (2, .int (nI n9)), (3, .int (nI (i + 1)))]) rfl (nI_1 _) (by decide) rfl dX4_choose_27 ?_
          refine v_goto X (tgt := 4) dX4_choose_30 (by decide) ?_
          exact ih4 (i + 1) n9 I1 (by omega) (by omega) (by rw [rl_n h14]; exact hn) hF (by rw [rl_n h14]; exact hv)
        · refine v_aload_n X 0 rfl dX4_choose_17 ?_
          refine gf_X4_15 X dX4_choose_18 ?_
          refine v_iload_n X 2 rfl dX4_choose_21 ?_
          refine v_iload_n X 3 rfl dX4_choose_22 ?_
          refine v_iast_n X dl_14 (fun _ _ => rfl) (n := 5) (by omega) (by decide) dX4_choose_23 ?_
          refine v_iinc X [1, 2, 0, 3] 2 (nI (n9 + 1)) (lv' := [(0, .ref (eA (vE a) 12 0)), (1, .int (nI R)), (2, .int (nI (n9 + 1))), (3, .int (nI i))]) rfl (nI_1 _) (by decide) rfl dX4_choose_24 ?_
          refine v_iinc X [1, 2, 3, 0] 3 (nI (i + 1)) (lv' := [(0, .ref (eA (vE a) 12 0)), (1, .int (nI R)), (2, .int (nI (n9 + 1))), (3, .int (nI (i + 1)))]) rfl (nI_1 _) (by decide) rfl dX4_choose_27 ?_
          refine v_goto X (tgt := 4) dX4_choose_30 (by decide) ?_
          have hnew : ∀ s, s < n9 + 1 → upI I1 14 0 n9 (nI i) 14 0 s = nI ((rl R (i + 1)).getD s 0) := fun s hs => by
            rw [rl_y h14, rl_at, ← hn]
            by_cases e : s = n9
            · rw [if_pos e, e]; exact upI_eq
            · rw [if_neg e]; exact (upI_x e).trans (hv s (by omega))
          exact ih4 (i + 1) (n9 + 1) (upI I1 14 0 n9 (nI i)) (by omega) (by omega) (by rw [rl_y h14, List.length_append, ← hn]; rfl) (hF.up (by simp)) hnew
  exact loop4 _ 0 0 I (Nat.lt_succ_self _) (by decide) rfl Fr.rf (fun s hs => absurd hs (Nat.not_lt_zero _))
set_option maxHeartbeats 4000000 in
set_option maxRecDepth 100000 in
theorem c_X4_findAll (l : Launch) (E : VE) (hE : EOk E) (I : TI) (L : TL) (t : Nat) (ht : t < 12) (r c : Nat) (hr : I 2 t 1 = nI r) (hc : I 2 t 2 = nI c) (hr5 : r ≤ 5) (hc5 : c ≤ 5) (R : Nat) (hR : R < 2 ^ r) : Ct l E yX4_findAll cX4_findAll 6 none rm_X4_findAll [.ref (eA E 12 0), .ref (eA E 2 t), .int (nI R)] I L (fun r9 I' L' => r9 = none ∧ Fr [(14, 0)] I I' ∧ FL [(13, 0)] L L' ∧ ∀ C, C < 2 ^ c → pc5 C ≤ pc5 R → L' 13 0 C = dN (ent I t) (rsel R) (pc5 C) C) := by
  refine ct_of (by decide +kernel) (Nat.le_of_ble_eq_true rfl) hE ?_
  intro a X Y hl hEE
  subst hl; subst hEE
  have hp := pow32 hc5
  have hpr := pow32 hr5
  have hR32 : R < 32 := by omega
  have hR5 := pc5_le R
  show V a 0 [(0, .ref (eA (vE a) 12 0)), (1, .ref (eA (vE a) 2 t)), (2, .int (nI R))] [] I L
  refine v_aload_n X 0 rfl dX4_findAll_0 ?_
  refine v_iload_n X 2 rfl dX4_findAll_1 ?_
  refine v_callV X (c_X4_choose _ _ hE _ _ R (by omega)) k_X4_59 dl_12 (cef_12 _ _ _ _) rfl ⟨rfl, rfl, Nat.le_of_ble_eq_true rfl, Nat.le_of_ble_eq_true rfl⟩ (As := [.int (nI R)]) (rest := []) rfl rfl (Nat.le_of_ble_eq_true rfl) dX4_findAll_2 (fun r2 I2 L2 hp2 => ?_)
  obtain ⟨rfl, hF2, hch2, e2⟩ := hp2
  have e2 := e2.symm
  subst e2
  refine v_st (st' := [.int (nI (pc5 R))]) rfl ?_
  refine v_istore_n X [1, 2, 3, 0] (lv' := [(0, .ref (eA (vE a) 12 0)), (1, .ref (eA (vE a) 2 t)), (2, .int (nI R)), (3, .int (nI (pc5 R)))]) (by decide) rfl dX4_findAll_5 ?_
  refine v_aload_n X 0 rfl dX4_findAll_6 ?_
  refine gf_X4_9 X dX4_findAll_7 ?_
  refine v_iconst X (v := (nI 0)) dX4_findAll_10 (by decide) ?_
  refine v_lconst X (v := 1) dX4_findAll_11 rfl ?_
  refine v_last_n X dl_13 (fun _ _ => rfl) (n := 32) (by omega) (by decide) dX4_findAll_12 ?_
  refine v_iconst X (v := (nI 1)) dX4_findAll_13 (by decide) ?_
  refine v_istore X [1, 2, 3, 4, 0] (lv' := [(0, .ref (eA (vE a) 12 0)), (1, .ref (eA (vE a) 2 t)), (2, .int (nI R)), (3, .int (nI (pc5 R))), (4, .int (nI 1))]) (by decide) rfl dX4_findAll_14 ?_
  have loop16 : ∀ (fu : Nat) (C : Nat) (L1 : TL), 33 - C < fu → (1 ≤ C) → (C ≤ 2 ^ c) → (FL [(13, 0)] L L1) → (∀ D, D < C → pc5 D ≤ pc5 R → L1 13 0 D = dN (ent I t) (rsel R) (pc5 D) D) → V a 16 [(0, .ref (eA (vE a) 12 0)), (1, .ref (eA (vE a) 2 t)), (2, .int (nI R)), (3, .int (nI (pc5 R))), (4, .int (nI C))] [] I2 L1 := by
    intro fu
    induction fu with
    | zero => intro C L1 hm _ _ _ _; exact absurd hm (Nat.not_lt_zero _)
    | succ fu ih16 =>
      intro C L1 hm16 hC1 hCp hFL hv
      refine v_iload X 4 rfl dX4_findAll_16 ?_
      refine v_iconst X (v := (nI 1)) dX4_findAll_18 (by decide) ?_
      refine v_aload_n X 1 rfl dX4_findAll_19 ?_
      refine gf_X4_29 X ht dX4_findAll_20 ?_
      refine v_eqi (y := (nI c)) ((Fr.at hF2 (by simp) _).trans (hc)) ?_
      refine v_ishl X dX4_findAll_23 ?_
      refine v_eqi (y := (nI (2 ^ c))) (sh_one (by omega)) ?_
      refine v_icmp_ge_n X (by omega) (by omega) dX4_findAll_24 (tgt := 69) (by decide) (fun h24 => ?_) (fun h24 => ?_)
      · exact v_vret X Y dX4_findAll_69 (⟨rfl, hF2, hFL, fun D hD hs => hv D (by omega) hs⟩)
      · have hCc : C < 2 ^ c := by omega
        have hC5 := pc5_le C
        have hCpos := pc5_pos C (by omega) (by omega)
        refine v_iload X 4 rfl dX4_findAll_27 ?_
        refine v_callS X (c_J6_bitCount_0f7a4 _ _ hE _ _ C (by omega)) k_X4_38 ⟨rfl, rfl, Nat.le_of_ble_eq_true rfl, Nat.le_of_ble_eq_true rfl⟩ (As := [.int (nI C)]) (rest := []) rfl rfl (Nat.le_of_ble_eq_true rfl) dX4_findAll_29 (fun r29 I29 L29 hp29 => ?_)
        obtain ⟨rfl, e1, e2⟩ := hp29
        have e1 := e1.symm
        have e2 := e2.symm
        subst e1; subst e2
        refine v_st (st' := [.int (nI (pc5 C))]) rfl ?_
        refine v_istore X [1, 2, 3, 4, 5, 0] (lv' := [(0, .ref (eA (vE a) 12 0)), (1, .ref (eA (vE a) 2 t)), (2, .int (nI R)), (3, .int (nI (pc5 R))), (4, .int (nI C)), (5, .int (nI (pc5 C)))]) (by decide) rfl dX4_findAll_32 ?_
        refine v_iload X 5 rfl dX4_findAll_34 ?_
        refine v_iload_n X 3 rfl dX4_findAll_36 ?_
        refine v_icmp_gt_n X (by omega) (by omega) dX4_findAll_37 (tgt := 63) (by decide) (fun h37 => ?_) (fun h37 => ?_)
        · refine v_iinc X [1, 2, 3, 4, 0, 5] 4 (nI (C + 1)) (lv' := [(0, .ref (eA (vE a) 12 0)), (1, .ref (eA (vE a) 2 t)), (2, .int (nI R)), (3, .int (nI (pc5 R))), (4, .int (nI (C + 1))), (5, .int (nI (pc5 C)))]) rfl (nI_1 _) (by decide) rfl dX4_findAll_63 ?_
          refine v_goto X (tgt := 16) dX4_findAll_66 (by decide) ?_
          refine v_sub [0, 1, 2, 3, 4] (lv' := [(0, .ref (eA (vE a) 12 0)), (1, .ref (eA (vE a) 2 t)), (2, .int (nI R)), (3, .int (nI (pc5 R))), (4, .int (nI (C + 1)))]) rfl ?_
          have hnew : ∀ D, D < C + 1 → pc5 D ≤ pc5 R → L1 13 0 D = dN (ent I t) (rsel R) (pc5 D) D := fun D hD hs => by
            rcases Nat.lt_or_ge D C with q | q
            · exact hv D q hs
            · have e : D = C := by omega
              subst e; omega
          exact ih16 (C + 1) L1 (by omega) (by omega) (by omega) hFL hnew
        · refine v_aload_n X 0 rfl dX4_findAll_40 ?_
          refine gf_X4_9 X dX4_findAll_41 ?_
          refine v_iload X 4 rfl dX4_findAll_44 ?_
          have hsz : pc5 C - 1 < pc5 R := by omega
          have hrow : rsel R (pc5 C - 1) < r := rsel_lt R hR32 r (by omega) hR _ (by omega) hsz
          refine v_aload_n X 0 rfl dX4_findAll_46 ?_
          refine v_aload_n X 1 rfl dX4_findAll_47 ?_
          refine v_aload_n X 0 rfl dX4_findAll_48 ?_
          refine gf_X4_15 X dX4_findAll_49 ?_
          refine v_iload X 5 rfl dX4_findAll_52 ?_
          refine v_iconst X (v := (nI 1)) dX4_findAll_54 (by decide) ?_
          refine v_isub X dX4_findAll_55 ?_
          refine v_eqi (y := (nI ((pc5 C) - 1))) (pk_sub (by omega)) ?_
          refine v_iald_n X dl_14 (fun _ _ => rfl) (n := 5) (by omega) (by decide) dX4_findAll_56 ?_
          refine v_eqi (y := (nI (rsel R (pc5 C - 1)))) (hch2 _ hsz) ?_
          refine v_iload X 4 rfl dX4_findAll_57 ?_
          refine v_callV X (c_X4_alongLastRow _ _ hE _ _ t ht r c ((Fr.at hF2 (by simp) _).trans (hr)) ((Fr.at hF2 (by simp) _).trans (hc)) hr5 hc5 (rsel R (pc5 C - 1)) C (hrow) (hCc)) k_X4_62 dl_12 (cef_12 _ _ _ _) rfl ⟨rfl, rfl, Nat.le_of_ble_eq_true rfl, Nat.le_of_ble_eq_true rfl⟩ (As := [.ref (eA (vE a) 2 t), .int (nI (rsel R (pc5 C - 1))), .int (nI C)]) (rest := [.int (nI C), .ref (eA (vE a) 13 0)]) rfl rfl (Nat.le_of_ble_eq_true rfl) dX4_findAll_59 (fun r59 I59 L59 hp59 => ?_)
          obtain ⟨rfl, e1, e2⟩ := hp59
          have e1 := e1.symm
          have e2 := e2.symm
          subst e1; subst e2
          refine v_st (st' := [.long (alr (ent I2 t (rsel R (pc5 C - 1))) (L1 13 0) C), .int (nI C), .ref (eA (vE a) 13 0)]) rfl ?_
          refine v_last_n X dl_13 (fun _ _ => rfl) (n := 32) (by omega) (by decide) dX4_findAll_62 ?_
          have hal : alr (ent I2 t (rsel R (pc5 C - 1))) (L1 13 0) C = dN (ent I t) (rsel R) (pc5 C) C := by
            obtain ⟨s, hs⟩ : ∃ s, pc5 C = s + 1 := ⟨pc5 C - 1, by omega⟩
            rw [hs]
            refine alr_c (fun j _ _ => ?_) (fun j hj hb => ?_)
            · show (I2 3 t _).toInt64 = (I 3 t _).toInt64
              rw [hF2.at (by simp)]
              rfl
            · have q := xor_dn C (by omega) j hj hb
              rw [hv _ q.1 (by omega), show pc5 (C ^^^ 2 ^ j) = s by omega]
          have hnew : ∀ D, D < C + 1 → pc5 D ≤ pc5 R → upL L1 13 0 C (alr (ent I2 t (rsel R (pc5 C - 1))) (L1 13 0) C) 13 0 D = dN (ent I t) (rsel R) (pc5 D) D := fun D hD hs => by
            by_cases e : D = C
            · rw [e, upL_eq, hal]
            · rw [upL_x e]
              exact hv D (by omega) hs
          refine v_iinc X [1, 2, 3, 4, 0, 5] 4 (nI (C + 1)) (lv' := [(0, .ref (eA (vE a) 12 0)), (1, .ref (eA (vE a) 2 t)), (2, .int (nI R)), (3, .int (nI (pc5 R))), (4, .int (nI (C + 1))), (5, .int (nI (pc5 C)))]) rfl (nI_1 _) (by decide) rfl dX4_findAll_63 ?_
          refine v_goto X (tgt := 16) dX4_findAll_66 (by decide) ?_
          refine v_sub [0, 1, 2, 3, 4] (lv' := [(0, .ref (eA (vE a) 12 0)), (1, .ref (eA (vE a) 2 t)), (2, .int (nI R)), (3, .int (nI (pc5 R))), (4, .int (nI (C + 1)))]) rfl ?_
          exact ih16 (C + 1) (upL L1 13 0 C (alr (ent I2 t (rsel R (pc5 C - 1))) (L1 13 0) C)) (by omega) (by omega) (by omega) (hFL.up (by simp)) hnew
  have h0 : ∀ D, D < 1 → pc5 D ≤ pc5 R → upL L 13 0 0 1 13 0 D = dN (ent I t) (rsel R) (pc5 D) D := fun D hD _ => by
    have e : D = 0 := by omega
    subst e
    exact upL_eq
  exact loop16 _ 1 (upL L 13 0 0 1) (Nat.lt_succ_self _) (by decide) (Nat.one_le_two_pow) (FL.rf.up (by simp)) h0
