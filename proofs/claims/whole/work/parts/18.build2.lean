theorem rl_len' : ∀ m, m < 6 → ∀ C, C < 32 → (¬ C < 2 ^ m ∨ (rl C m).length = pc5 C) := by decide +kernel
theorem rl_full {m C : Nat} (hm : m ≤ 5) (h : C < 2 ^ m) : (rl C m).length = pc5 C := (rl_len' m (by omega) C (by have := pow32 hm; omega)).resolve_left (fun q => q h)
theorem rsel_at : ∀ C, C < 32 → ∀ j, j < 5 → bitN C j → rsel C (rl C j).length = j ∧ (rl C j).length < pc5 C := by decide +kernel
theorem or_put {P : Prop} {a b k0 k : Nat} : (P ∨ (a = k0 ∧ b < k + 1)) ↔ ((P ∨ (a = k0 ∧ b < k)) ∨ (a = k0 ∧ b = k)) := by
  have h : b < k + 1 ↔ (b < k ∨ b = k) := by omega
  rw [h, and_or_left, or_assoc]
theorem or_zero {P : Prop} {a b k0 : Nat} : P ↔ (P ∨ (a = k0 ∧ b < 0)) := by simp
theorem if_neg_T {p : Prop} [Decidable p] {a b : Nat} (h : ¬ p) : b = (if p then a else b) := (if_neg h).symm
set_option maxHeartbeats 4000000 in
set_option maxRecDepth 100000 in
theorem c_X5_takeRow (l : Launch) (E : VE) (hE : EOk E) (I : TI) (L : TL) (I0 : TI) (c t : Nat) (hcl : c < 12) (ht12 : t < 12) (hne : t ≠ c) (rr cc rt ct : Nat) (h5 : rr ≤ 5 ∧ cc ≤ 5 ∧ rt ≤ 5 ∧ ct ≤ 5) (hrt : I 2 t 1 = nI rt) (hct : I 2 t 2 = nI ct) (k0 i C : Nat) (hk0 : k0 < rr) (hi : i < rt) (hC : C < 2 ^ ct) (hcc : cc = pc5 C) (kd net : Int32) (D : Nat → Nat → Prop) (W0 : Nat → Nat → Int64) (hD : ∀ b, ¬ D k0 b) (hB : Bld I0 I c rr cc kd net D W0) (hV : ∀ b, b < cc → W0 k0 b = (I 3 t (5 * i + rsel C b)).toInt64) : Ct l E yX5_takeRow cX5_takeRow 7 none rm_X5_takeRow [.ref (eA E 2 c), .int (nI k0), .ref (eA E 2 t), .int (nI i), .int (nI C)] I L (fun r I' L' => r = none ∧ Bld I0 I' c rr cc kd net (fun a b => D a b ∨ (a = k0 ∧ b < cc)) W0 ∧ Fr [(2, c), (3, c)] I I' ∧ L' = L) := by
  refine ct_of (by decide +kernel) (Nat.le_of_ble_eq_true rfl) hE ?_
  intro a X Y hl hEE
  subst hl; subst hEE
  obtain ⟨h51, h52, h53, h54⟩ := id h5
  have hp := pow32 h54
  have hC32 : C < 32 := by omega
  show V a 0 [(0, .ref (eA (vE a) 2 c)), (1, .int (nI k0)), (2, .ref (eA (vE a) 2 t)), (3, .int (nI i)), (4, .int (nI C))] [] I L
  refine v_iconst X (v := (nI 0)) dX5_takeRow_0 (by decide) ?_
  refine v_istore X [1, 2, 3, 4, 5, 0] (lv' := [(0, .ref (eA (vE a) 2 c)), (1, .int (nI k0)), (2, .ref (eA (vE a) 2 t)), (3, .int (nI i)), (4, .int (nI C)), (5, .int (nI 0))]) (by decide) rfl dX5_takeRow_1 ?_
  refine v_iconst X (v := (nI 0)) dX5_takeRow_3 (by decide) ?_
  refine v_istore X [1, 2, 3, 4, 5, 6, 0] (lv' := [(0, .ref (eA (vE a) 2 c)), (1, .int (nI k0)), (2, .ref (eA (vE a) 2 t)), (3, .int (nI i)), (4, .int (nI C)), (5, .int (nI 0)), (6, .int (nI 0))]) (by decide) rfl dX5_takeRow_4 ?_
  have loop6 : ∀ (fu : Nat) (j : Nat) (k : Nat) (I1 : TI), 6 - j < fu → (j ≤ ct) → (k = (rl C j).length) → (Bld I0 I1 c rr cc kd net (fun a b => D a b ∨ (a = k0 ∧ b < k)) W0) → (Fr [(2, c), (3, c)] I I1) → V a 6 [(0, .ref (eA (vE a) 2 c)), (1, .int (nI k0)), (2, .ref (eA (vE a) 2 t)), (3, .int (nI i)), (4, .int (nI C)), (5, .int (nI k)), (6, .int (nI j))] [] I1 L := by
    intro fu
    induction fu with
    | zero => intro j k I1 hm _ _ _ _; exact absurd hm (Nat.not_lt_zero _)
    | succ fu ih6 =>
      intro j k I1 hm6 hj hk hB hF
      refine v_iload X 6 rfl dX5_takeRow_6 ?_
      refine v_aload_n X 2 rfl dX5_takeRow_8 ?_
      refine gf_X5_104 X ht12 dX5_takeRow_9 ?_
      refine v_eqi (y := (nI ct)) ((Fr.at hF (by simp [hne]) _).trans (hct)) ?_
      refine v_icmp_ge_n X (by omega) (by omega) dX5_takeRow_12 (tgt := 49) (by decide) (fun h12 => ?_) (fun h12 => ?_)
      · exact v_vret X Y dX5_takeRow_49 (⟨rfl, hB.cg (fun a b _ _ => by rw [show k = cc by rw [hk, show j = ct by omega, rl_full h54 hC, hcc]]), hF, rfl⟩)
      · refine v_iload X 4 rfl dX5_takeRow_15 ?_
        refine v_iload X 6 rfl dX5_takeRow_17 ?_
        refine v_callS X (c_X5_holds _ _ hE _ _ C j (by omega) (by omega)) k_X5_143 ⟨rfl, rfl, Nat.le_of_ble_eq_true rfl, Nat.le_of_ble_eq_true rfl⟩ (As := [.int (nI C), .int (nI j)]) (rest := []) rfl rfl (Nat.le_of_ble_eq_true rfl) dX5_takeRow_19 (fun r19 I19 L19 hp19 => ?_)
        obtain ⟨rfl, e1, e2⟩ := hp19
        have e1 := e1.symm
        have e2 := e2.symm
        subst e1; subst e2
        refine v_st (st' := [.int (bI (C / 2 ^ j % 2 = 1))]) rfl ?_
        refine v_ifb_eq X dX5_takeRow_22 (tgt := 43) (by decide) (fun h22 => ?_) (fun h22 => ?_)
        · refine v_iinc X [1, 2, 3, 4, 5, 6, 0] 6 (nI (j + 1)) (lv' := [(0, .ref (eA (vE a) 2 c)), (1, .int (nI k0)), (2, .ref (eA (vE a) 2 t)), (3, .int (nI i)), (4, .int (nI C)), (5, .int (nI k)), (6, .int (nI (j + 1)))]) rfl (nI_1 _) (by decide) rfl dX5_takeRow_43 ?_
          refine v_goto X (tgt := 6) dX5_takeRow_46 (by decide) ?_
          exact ih6 (j + 1) k I1 (by omega) (by omega) (by rw [rl_n h22]; exact hk) hB hF
        · obtain ⟨hsel, hkc⟩ := rsel_at C hC32 j (by omega) h22
          rw [← hk] at hsel hkc
          have e3t : I1 3 t = I 3 t := hF 3 t (by simp [hne])
          refine v_aload_n X 0 rfl dX5_takeRow_25 ?_
          refine v_iload_n X 1 rfl dX5_takeRow_26 ?_
          refine v_iload X 5 rfl dX5_takeRow_27 ?_
          refine v_aload_n X 2 rfl dX5_takeRow_29 ?_
          refine v_iload_n X 3 rfl dX5_takeRow_30 ?_
          refine v_iload X 6 rfl dX5_takeRow_31 ?_
          refine v_callV X (c_X0_number _ _ hE _ _ t ht12 rt ct ((Fr.at hF (by simp [hne]) _).trans (hrt)) ((Fr.at hF (by simp [hne]) _).trans (hct)) h5.2.2.1 h5.2.2.2 i j (by omega) (by omega)) k_X5_93 (dl_2 ht12) (cef_2 _ _ _ _) rfl ⟨rfl, rfl, Nat.le_of_ble_eq_true rfl, Nat.le_of_ble_eq_true rfl⟩ (As := [.int (nI i), .int (nI j)]) (rest := [.int (nI k), .int (nI k0), .ref (eA (vE a) 2 c)]) rfl rfl (Nat.le_of_ble_eq_true rfl) dX5_takeRow_33 (fun r33 I33 L33 hp33 => ?_)
          obtain ⟨rfl, e1, e2⟩ := hp33
          have e1 := e1.symm
          have e2 := e2.symm
          subst e1; subst e2
          refine v_st (st' := [.int (I1 3 t (5 * i + j)), .int (nI k), .int (nI k0), .ref (eA (vE a) 2 c)]) rfl ?_
          refine v_i2l X dX5_takeRow_36 rfl ?_
          refine v_callV X (c_X0_put _ _ hE _ _ c hcl rr cc (hB.2.1) (hB.2.2.1) h5.1 h5.2.1 k0 k (by omega) (by omega) ((I1 3 t (5 * i + j)).toInt64)) k_X5_97 (dl_2 hcl) (cef_2 _ _ _ _) rfl ⟨rfl, rfl, Nat.le_of_ble_eq_true rfl, Nat.le_of_ble_eq_true rfl⟩ (As := [.int (nI k0), .int (nI k), .long ((I1 3 t (5 * i + j)).toInt64)]) (rest := []) rfl rfl (Nat.le_of_ble_eq_true rfl) dX5_takeRow_37 (fun r37 I37 L37 hp37 => ?_)
          obtain ⟨rfl, e1, e2⟩ := hp37
          have e2 := e2.symm
          subst e2
          have hB37 := hB.put (D' := fun a b => D a b ∨ (a = k0 ∧ b < k + 1)) (i := k0) (j := k) (by omega) (by omega) (fun q => q.elim (hD k) (fun z => by omega)) (fun a b _ _ => or_put) (v := (I1 3 t (5 * i + j)).toInt64) (by rw [hV k (by omega), hsel, e3t])
          have hF37 : Fr [(2, c), (3, c)] I1 I37 := by
            rw [e1]
            split
            · exact Fr.rf.up (by simp)
            · exact Fr.rf.up (by simp)
          rw [← e1] at hB37
          refine v_st (st' := []) rfl ?_
          refine v_iinc X [1, 2, 3, 4, 5, 0, 6] 5 (nI (k + 1)) (lv' := [(0, .ref (eA (vE a) 2 c)), (1, .int (nI k0)), (2, .ref (eA (vE a) 2 t)), (3, .int (nI i)), (4, .int (nI C)), (5, .int (nI (k + 1))), (6, .int (nI j))]) rfl (nI_1 _) (by decide) rfl dX5_takeRow_40 ?_
          refine v_iinc X [1, 2, 3, 4, 5, 6, 0] 6 (nI (j + 1)) (lv' := [(0, .ref (eA (vE a) 2 c)), (1, .int (nI k0)), (2, .ref (eA (vE a) 2 t)), (3, .int (nI i)), (4, .int (nI C)), (5, .int (nI (k + 1))), (6, .int (nI (j + 1)))]) rfl (nI_1 _) (by decide) rfl dX5_takeRow_43 ?_
          refine v_goto X (tgt := 6) dX5_takeRow_46 (by decide) ?_
          exact ih6 (j + 1) (k + 1) I37 (by omega) (by omega) (by rw [rl_y h22, List.length_append, ← hk]; rfl) hB37 (hF.tr hF37)
  exact loop6 _ 0 0 I (Nat.lt_succ_self _) (Nat.zero_le _) rfl (hB.cg (fun a b _ _ => or_zero)) Fr.rf
set_option maxHeartbeats 4000000 in
set_option maxRecDepth 100000 in
theorem c_X5_part (l : Launch) (E : VE) (hE : EOk E) (I : TI) (L : TL) (c : Nat) (ro co : Nat → Nat) (hT : CT I c ro co) (x R C : Int32) : Ct l E yX5_part cX5_part 8 (some .int) rm_X5_part [.ref (eA E 0 0), .int x, .int R, .int C] I L (fun r I' L' => (¬ inS c ro co x R C ∧ REF I I' r 3 ∧ L' = L) ∨ (∃ t R' C', t < c ∧ x = nI t ∧ 1 ≤ R' ∧ R' < 2 ^ ro t ∧ 1 ≤ C' ∧ C' < 2 ^ co t ∧ R = nI R' ∧ C = nI C' ∧ ((c = 12 ∧ REF I I' r 8 ∧ L' = L) ∨ (c < 12 ∧ ResT I I' r c (pc5 R') (pc5 C') (nI 3) (-1) (fun a b => (I 3 t (5 * rsel R' a + rsel C' b)).toInt64) ∧ L' = L)))) := by
  refine ct_of (by decide +kernel) (Nat.le_of_ble_eq_true rfl) hE ?_
  intro a X Y hl hEE
  subst hl; subst hEE
  show V a 0 [(0, .ref (eA (vE a) 0 0)), (1, .int x), (2, .int R), (3, .int C)] [] I L
  refine v_aload_n X 0 rfl dX5_part_0 ?_
  refine v_iload_n X 1 rfl dX5_part_1 ?_
  refine v_callV X (c_X5_gridOf _ _ hE _ _ c hT.1 hT.2.1 x) k_X5_74 dl_0 (cef_0 _ _ _ _) rfl ⟨rfl, rfl, Nat.le_of_ble_eq_true rfl, Nat.le_of_ble_eq_true rfl⟩ (As := [.int x]) (rest := []) rfl rfl (Nat.le_of_ble_eq_true rfl) dX5_part_2 (fun r2 I2 L2 hp2 => ?_)
  obtain ⟨ho2, e1, e2⟩ := hp2
  have e1 := e1.symm
  have e2 := e2.symm
  subst e1; subst e2
  rcases ho2 with ⟨t, htt, rfl, rfl⟩ | ⟨hnot, rfl⟩
  · have hc12 := hT.2.1
    obtain ⟨hrt, hct, hr1t, hr5t, hc1t, hc5t⟩ := hT.2.2 t htt
    have ht12t : t < 12 := by omega
    have hnet : t ≠ c := by omega
    refine v_st (st' := [.ref (eA (vE a) 2 t)]) rfl ?_
    refine v_astore X [1, 2, 3, 4, 0] (lv' := [(0, .ref (eA (vE a) 0 0)), (1, .int (nI t)), (2, .int R), (3, .int C), (4, .ref (eA (vE a) 2 t))]) (by decide) rfl dX5_part_5 ?_
    refine v_aload X 4 rfl dX5_part_7 ?_
    refine v_ifnull X dX5_part_9 ?_
    refine v_iload_n X 2 rfl dX5_part_12 ?_
    refine v_aload X 4 rfl dX5_part_13 ?_
    refine gf_X5_101 X ht12t dX5_part_15 ?_
    refine v_eqi (y := (nI (ro t))) (hrt) ?_
    refine v_callS X (c_X5_areSome _ _ hE _ _ R (ro t) (by omega)) k_X5_120 ⟨rfl, rfl, Nat.le_of_ble_eq_true rfl, Nat.le_of_ble_eq_true rfl⟩ (As := [.int R, .int (nI (ro t))]) (rest := []) rfl rfl (Nat.le_of_ble_eq_true rfl) dX5_part_18 (fun r18 I18 L18 hp18 => ?_)
    obtain ⟨rfl, e1, e2⟩ := hp18
    have e1 := e1.symm
    have e2 := e2.symm
    subst e1; subst e2
    refine v_st (st' := [.int (bI (0 < R ∧ R < nI (2 ^ (ro t))))]) rfl ?_
    refine v_ifb_eq X dX5_part_21 (tgt := 36) (by decide) (fun h21 => ?_) (fun h21 => ?_)
    · refine v_aload_n X 0 rfl dX5_part_36 ?_
      refine v_bipush X (v := (-3)) dX5_part_37 (by decide) ?_
      refine v_callV X (c_X5_refused _ _ hE _ _ 3 (by decide) (by decide)) k_X5_58 dl_0 (cef_0 _ _ _ _) rfl ⟨rfl, rfl, Nat.le_of_ble_eq_true rfl, Nat.le_of_ble_eq_true rfl⟩ (As := [.int (-3)]) (rest := []) rfl rfl (Nat.le_of_ble_eq_true rfl) dX5_part_39 (fun r39 I39 L39 hp39 => ?_)
      obtain ⟨rfl, e1, e2⟩ := hp39
      have e1 := e1.symm
      have e2 := e2.symm
      subst e1; subst e2
      refine v_st (st' := [.int (-3)]) rfl ?_
      exact v_iret X Y dX5_part_42 (Or.inl ⟨inS_no hr5t hc5t hc12 htt (Or.inl h21), ⟨rfl, rfl⟩, rfl⟩)
    · refine v_iload_n X 3 rfl dX5_part_24 ?_
      refine v_aload X 4 rfl dX5_part_25 ?_
      refine gf_X5_104 X ht12t dX5_part_27 ?_
      refine v_eqi (y := (nI (co t))) (hct) ?_
      refine v_callS X (c_X5_areSome _ _ hE _ _ C (co t) (by omega)) k_X5_120 ⟨rfl, rfl, Nat.le_of_ble_eq_true rfl, Nat.le_of_ble_eq_true rfl⟩ (As := [.int C, .int (nI (co t))]) (rest := []) rfl rfl (Nat.le_of_ble_eq_true rfl) dX5_part_30 (fun r30 I30 L30 hp30 => ?_)
      obtain ⟨rfl, e1, e2⟩ := hp30
      have e1 := e1.symm
      have e2 := e2.symm
      subst e1; subst e2
      refine v_st (st' := [.int (bI (0 < C ∧ C < nI (2 ^ (co t))))]) rfl ?_
      refine v_ifb_ne X dX5_part_33 (tgt := 43) (by decide) (fun h33 => ?_) (fun h33 => ?_)
      · obtain ⟨R', hR1, hR2, rfl⟩ := (isS_iff hr5t).mpr h21
        obtain ⟨C', hC1, hC2, rfl⟩ := (isS_iff hc5t).mpr h33
        have hpr := pow32 hr5t
        have hpc := pow32 hc5t
        refine v_aload_n X 0 rfl dX5_part_43 ?_
        refine v_callV X (c_X5_freeGrid _ _ hE _ _ c (hT.1) hT.2.1) k_X5_62 dl_0 (cef_0 _ _ _ _) rfl ⟨rfl, rfl, Nat.le_of_ble_eq_true rfl, Nat.le_of_ble_eq_true rfl⟩ (As := []) (rest := []) rfl rfl (Nat.le_of_ble_eq_true rfl) dX5_part_44 (fun r44 I44 L44 hp44 => ?_)
        obtain ⟨hg44, e1, e2⟩ := hp44
        have e1 := e1.symm
        have e2 := e2.symm
        subst e1; subst e2
        rcases hg44 with ⟨hcl, rfl⟩ | ⟨hfull, rfl⟩
        · refine v_st (st' := [.ref (eA (vE a) 2 c)]) rfl ?_
          refine v_astore X [1, 2, 3, 4, 5, 0] (lv' := [(0, .ref (eA (vE a) 0 0)), (1, .int (nI t)), (2, .int (nI R')), (3, .int (nI C')), (4, .ref (eA (vE a) 2 t)), (5, .ref (eA (vE a) 2 c))]) (by decide) rfl dX5_part_47 ?_
          refine v_aload X 5 rfl dX5_part_49 ?_
          refine v_ifnonnull X (tgt := 61) dX5_part_51 (by decide) ?_
          have hR5 := pc5_le R'
          have hC5 := pc5_le C'
          refine v_aload X 5 rfl dX5_part_61 ?_
          refine v_iload_n X 2 rfl dX5_part_63 ?_
          refine v_callS X (c_J6_bitCount_0f7a4 _ _ hE _ _ R' (by omega)) k_X5_138 ⟨rfl, rfl, Nat.le_of_ble_eq_true rfl, Nat.le_of_ble_eq_true rfl⟩ (As := [.int (nI R')]) (rest := [.ref (eA (vE a) 2 c)]) rfl rfl (Nat.le_of_ble_eq_true rfl) dX5_part_64 (fun r64 I64 L64 hp64 => ?_)
          obtain ⟨rfl, e1, e2⟩ := hp64
          have e1 := e1.symm
          have e2 := e2.symm
          subst e1; subst e2
          refine v_st (st' := [.int (nI (pc5 R')), .ref (eA (vE a) 2 c)]) rfl ?_
          refine v_iload_n X 3 rfl dX5_part_67 ?_
          refine v_callS X (c_J6_bitCount_0f7a4 _ _ hE _ _ C' (by omega)) k_X5_138 ⟨rfl, rfl, Nat.le_of_ble_eq_true rfl, Nat.le_of_ble_eq_true rfl⟩ (As := [.int (nI C')]) (rest := [.int (nI (pc5 R')), .ref (eA (vE a) 2 c)]) rfl rfl (Nat.le_of_ble_eq_true rfl) dX5_part_68 (fun r68 I68 L68 hp68 => ?_)
          obtain ⟨rfl, e1, e2⟩ := hp68
          have e1 := e1.symm
          have e2 := e2.symm
          subst e1; subst e2
          refine v_st (st' := [.int (nI (pc5 C')), .int (nI (pc5 R')), .ref (eA (vE a) 2 c)]) rfl ?_
          refine v_iconst X (v := (nI 3)) dX5_part_71 (by decide) ?_
          refine v_callV X (c_X0_begin _ _ hE _ _ c hcl (nI (pc5 R')) (nI (pc5 C')) (nI 3)) k_X5_66 (dl_2 hcl) (cef_2 _ _ _ _) rfl ⟨rfl, rfl, Nat.le_of_ble_eq_true rfl, Nat.le_of_ble_eq_true rfl⟩ (As := [.int (nI (pc5 R')), .int (nI (pc5 C')), .int (nI 3)]) (rest := []) rfl rfl (Nat.le_of_ble_eq_true rfl) dX5_part_72 (fun r72 I72 L72 hp72 => ?_)
          obtain ⟨rfl, hF72, hb1, hb2, hb3, hb4, hb5, hb6, e2⟩ := hp72
          have e2 := e2.symm
          subst e2
          have hB : Bld I I72 c (pc5 R') (pc5 C') (nI 3) (-1) (fun a b => a < 0 ∧ b < pc5 C') (fun a b => (I 3 t (5 * rsel R' a + rsel C' b)).toInt64) := Bld.zero hF72 hb1 hb2 hb3 hb4 hb5 hb6 (fun a b h => absurd h.1 (Nat.not_lt_zero _))
          refine v_st (st' := []) rfl ?_
          refine v_iconst X (v := (nI 0)) dX5_part_75 (by decide) ?_
          refine v_istore X [1, 2, 3, 4, 5, 6, 0] (lv' := [(0, .ref (eA (vE a) 0 0)), (1, .int (nI t)), (2, .int (nI R')), (3, .int (nI C')), (4, .ref (eA (vE a) 2 t)), (5, .ref (eA (vE a) 2 c)), (6, .int (nI 0))]) (by decide) rfl dX5_part_76 ?_
          refine v_iconst X (v := (nI 0)) dX5_part_78 (by decide) ?_
          refine v_istore X [1, 2, 3, 4, 5, 6, 7, 0] (lv' := [(0, .ref (eA (vE a) 0 0)), (1, .int (nI t)), (2, .int (nI R')), (3, .int (nI C')), (4, .ref (eA (vE a) 2 t)), (5, .ref (eA (vE a) 2 c)), (6, .int (nI 0)), (7, .int (nI 0))]) (by decide) rfl dX5_part_79 ?_
          have loop81 : ∀ (fu : Nat) (i : Nat) (k : Nat) (I1 : TI), 6 - i < fu → (i ≤ ro t) → (k = (rl R' i).length) → (Bld I I1 c (pc5 R') (pc5 C') (nI 3) (-1) (fun a b => a < k ∧ b < pc5 C') (fun a b => (I 3 t (5 * rsel R' a + rsel C' b)).toInt64)) → V a 81 [(0, .ref (eA (vE a) 0 0)), (1, .int (nI t)), (2, .int (nI R')), (3, .int (nI C')), (4, .ref (eA (vE a) 2 t)), (5, .ref (eA (vE a) 2 c)), (6, .int (nI k)), (7, .int (nI i))] [] I1 L := by
            intro fu
            induction fu with
            | zero => intro i k I1 hm _ _ _; exact absurd hm (Nat.not_lt_zero _)
            | succ fu ih81 =>
              intro i k I1 hm81 hi hk hB
              refine v_iload X 7 rfl dX5_part_81 ?_
              refine v_aload X 4 rfl dX5_part_83 ?_
              refine gf_X5_101 X ht12t dX5_part_85 ?_
              refine v_eqi (y := (nI (ro t))) ((Fr.at hB.1 (by simp [hnet]) _).trans (hrt)) ?_
              refine v_icmp_ge_n X (by omega) (by omega) dX5_part_88 (tgt := 121) (by decide) (fun h88 => ?_) (fun h88 => ?_)
              · refine v_aload_n X 0 rfl dX5_part_121 ?_
                refine v_aload X 5 rfl dX5_part_122 ?_
                obtain ⟨f, hf2, hf1⟩ := hB.f
                refine v_callV X (c_X5_come _ _ hE _ _ c ((Fr.at hB.1 (by simp) _).trans (hT.1)) hcl f hf1 hf2) k_X5_70 dl_0 (cef_0 _ _ _ _) rfl ⟨rfl, rfl, Nat.le_of_ble_eq_true rfl, Nat.le_of_ble_eq_true rfl⟩ (As := [.ref (eA (vE a) 2 c)]) (rest := []) rfl rfl (Nat.le_of_ble_eq_true rfl) dX5_part_124 (fun r124 I124 L124 hp124 => ?_)
                obtain ⟨ho, e2⟩ := hp124
                have e2 := e2.symm
                subst e2
                have hres := hB.res (by omega) (by omega) (fun a b _ _ => by rw [show k = pc5 R' by rw [hk, show i = ro t by omega, rl_full hr5t hR2]]) hf2 hf1 ho
                rcases ho with ⟨-, rfl, -⟩ | ⟨-, rfl, -⟩
                · refine v_st (st' := [.int (-nI 8)]) rfl ?_
                  exact v_iret X Y dX5_part_127 (Or.inr ⟨t, R', C', htt, rfl, hR1, hR2, hC1, hC2, rfl, rfl, Or.inr ⟨hcl, hres, rfl⟩⟩)
                · refine v_st (st' := [.int (nI c)]) rfl ?_
                  exact v_iret X Y dX5_part_127 (Or.inr ⟨t, R', C', htt, rfl, hR1, hR2, hC1, hC2, rfl, rfl, Or.inr ⟨hcl, hres, rfl⟩⟩)
              · refine v_iload_n X 2 rfl dX5_part_91 ?_
                refine v_iload X 7 rfl dX5_part_92 ?_
                refine v_callS X (c_X5_holds _ _ hE _ _ R' i (by omega) (by omega)) k_X5_143 ⟨rfl, rfl, Nat.le_of_ble_eq_true rfl, Nat.le_of_ble_eq_true rfl⟩ (As := [.int (nI R'), .int (nI i)]) (rest := []) rfl rfl (Nat.le_of_ble_eq_true rfl) dX5_part_94 (fun r94 I94 L94 hp94 => ?_)
                obtain ⟨rfl, e1, e2⟩ := hp94
                have e1 := e1.symm
                have e2 := e2.symm
                subst e1; subst e2
                refine v_st (st' := [.int (bI (R' / 2 ^ i % 2 = 1))]) rfl ?_
                refine v_ifb_eq X dX5_part_97 (tgt := 115) (by decide) (fun h97 => ?_) (fun h97 => ?_)
                · refine v_iinc X [1, 2, 3, 4, 5, 6, 7, 0] 7 (nI (i + 1)) (lv' := [(0, .ref (eA (vE a) 0 0)), (1, .int (nI t)), (2, .int (nI R')), (3, .int (nI C')), (4, .ref (eA (vE a) 2 t)), (5, .ref (eA (vE a) 2 c)), (6, .int (nI k)), (7, .int (nI (i + 1)))]) rfl (nI_1 _) (by decide) rfl dX5_part_115 ?_
                  refine v_goto X (tgt := 81) dX5_part_118 (by decide) ?_
                  exact ih81 (i + 1) k I1 (by omega) (by omega) (by rw [rl_n h97]; exact hk) hB
                · obtain ⟨hsel, hkr⟩ := rsel_at R' (by omega) i (by omega) h97
                  rw [← hk] at hsel hkr
                  have e3t : I1 3 t = I 3 t := hB.1 3 t (by simp [hnet])
                  refine v_aload X 5 rfl dX5_part_100 ?_
                  refine v_iload X 6 rfl dX5_part_102 ?_
                  refine v_aload X 4 rfl dX5_part_104 ?_
                  refine v_iload X 7 rfl dX5_part_106 ?_
                  refine v_iload_n X 3 rfl dX5_part_108 ?_
                  refine v_callS X (c_X5_takeRow _ _ hE _ _ I c t hcl ht12t hnet (pc5 R') (pc5 C') (ro t) (co t) ⟨pc5_le _, pc5_le _, hr5t, hc5t⟩ ((Fr.at hB.1 (by simp [hnet]) _).trans (hrt)) ((Fr.at hB.1 (by simp [hnet]) _).trans (hct)) k i C' hkr (by omega) hC2 rfl _ _ _ _ (fun b q => by omega) hB (fun b hb => by show (I 3 t _).toInt64 = _; rw [hsel, e3t])) k_X5_146 ⟨rfl, rfl, Nat.le_of_ble_eq_true rfl, Nat.le_of_ble_eq_true rfl⟩ (As := [.ref (eA (vE a) 2 c), .int (nI k), .ref (eA (vE a) 2 t), .int (nI i), .int (nI C')]) (rest := []) rfl rfl (Nat.le_of_ble_eq_true rfl) dX5_part_109 (fun r109 I109 L109 hp109 => ?_)
                  obtain ⟨rfl, hB109, hF109, e2⟩ := hp109
                  have e2 := e2.symm
                  subst e2
                  refine v_st (st' := []) rfl ?_
                  refine v_iinc X [1, 2, 3, 4, 5, 6, 0, 7] 6 (nI (k + 1)) (lv' := [(0, .ref (eA (vE a) 0 0)), (1, .int (nI t)), (2, .int (nI R')), (3, .int (nI C')), (4, .ref (eA (vE a) 2 t)), (5, .ref (eA (vE a) 2 c)), (6, .int (nI (k + 1))), (7, .int (nI i))]) rfl (nI_1 _) (by decide) rfl dX5_part_112 ?_
                  refine v_iinc X [1, 2, 3, 4, 5, 6, 7, 0] 7 (nI (i + 1)) (lv' := [(0, .ref (eA (vE a) 0 0)), (1, .int (nI t)), (2, .int (nI R')), (3, .int (nI C')), (4, .ref (eA (vE a) 2 t)), (5, .ref (eA (vE a) 2 c)), (6, .int (nI (k + 1))), (7, .int (nI (i + 1)))]) rfl (nI_1 _) (by decide) rfl dX5_part_115 ?_
                  refine v_goto X (tgt := 81) dX5_part_118 (by decide) ?_
                  exact ih81 (i + 1) (k + 1) I109 (by omega) (by omega) (by rw [rl_y h97, List.length_append, ← hk]; rfl) (hB109.cg (fun a b _ _ => by omega))
          exact loop81 _ 0 0 I72 (Nat.lt_succ_self _) (Nat.zero_le _) rfl hB
        · refine v_st (st' := [.null]) rfl ?_
          refine v_astoreN X [1, 2, 3, 4, 5, 0] (lv' := [(0, .ref (eA (vE a) 0 0)), (1, .int (nI t)), (2, .int (nI R')), (3, .int (nI C')), (4, .ref (eA (vE a) 2 t)), (5, .null)]) (by decide) rfl dX5_part_47 ?_
          refine v_aloadN X 5 rfl dX5_part_49 ?_
          refine v_ifnonnullN X dX5_part_51 ?_
          refine v_aload_n X 0 rfl dX5_part_54 ?_
          refine v_bipush X (v := (-8)) dX5_part_55 (by decide) ?_
          refine v_callV X (c_X5_refused _ _ hE _ _ 8 (by decide) (by decide)) k_X5_58 dl_0 (cef_0 _ _ _ _) rfl ⟨rfl, rfl, Nat.le_of_ble_eq_true rfl, Nat.le_of_ble_eq_true rfl⟩ (As := [.int (-8)]) (rest := []) rfl rfl (Nat.le_of_ble_eq_true rfl) dX5_part_57 (fun r57 I57 L57 hp57 => ?_)
          obtain ⟨rfl, e1, e2⟩ := hp57
          have e1 := e1.symm
          have e2 := e2.symm
          subst e1; subst e2
          refine v_st (st' := [.int (-8)]) rfl ?_
          exact v_iret X Y dX5_part_60 (Or.inr ⟨t, R', C', htt, rfl, hR1, hR2, hC1, hC2, rfl, rfl, Or.inl ⟨hfull, ⟨rfl, rfl⟩, rfl⟩⟩)
      · refine v_aload_n X 0 rfl dX5_part_36 ?_
        refine v_bipush X (v := (-3)) dX5_part_37 (by decide) ?_
        refine v_callV X (c_X5_refused _ _ hE _ _ 3 (by decide) (by decide)) k_X5_58 dl_0 (cef_0 _ _ _ _) rfl ⟨rfl, rfl, Nat.le_of_ble_eq_true rfl, Nat.le_of_ble_eq_true rfl⟩ (As := [.int (-3)]) (rest := []) rfl rfl (Nat.le_of_ble_eq_true rfl) dX5_part_39 (fun r39 I39 L39 hp39 => ?_)
        obtain ⟨rfl, e1, e2⟩ := hp39
        have e1 := e1.symm
        have e2 := e2.symm
        subst e1; subst e2
        refine v_st (st' := [.int (-3)]) rfl ?_
        exact v_iret X Y dX5_part_42 (Or.inl ⟨inS_no hr5t hc5t hc12 htt (Or.inr h33), ⟨rfl, rfl⟩, rfl⟩)
  · refine v_st (st' := [.null]) rfl ?_
    refine v_astoreN X [1, 2, 3, 4, 0] (lv' := [(0, .ref (eA (vE a) 0 0)), (1, .int x), (2, .int R), (3, .int C), (4, .null)]) (by decide) rfl dX5_part_5 ?_
    refine v_aloadN X 4 rfl dX5_part_7 ?_
    refine v_ifnullN X (tgt := 36) dX5_part_9 (by decide) ?_
    refine v_aload_n X 0 rfl dX5_part_36 ?_
    refine v_bipush X (v := (-3)) dX5_part_37 (by decide) ?_
    refine v_callV X (c_X5_refused _ _ hE _ _ 3 (by decide) (by decide)) k_X5_58 dl_0 (cef_0 _ _ _ _) rfl ⟨rfl, rfl, Nat.le_of_ble_eq_true rfl, Nat.le_of_ble_eq_true rfl⟩ (As := [.int (-3)]) (rest := []) rfl rfl (Nat.le_of_ble_eq_true rfl) dX5_part_39 (fun r39 I39 L39 hp39 => ?_)
    obtain ⟨rfl, e1, e2⟩ := hp39
    have e1 := e1.symm
    have e2 := e2.symm
    subst e1; subst e2
    refine v_st (st' := [.int (-3)]) rfl ?_
    exact v_iret X Y dX5_part_42 (Or.inl ⟨inS_no' hnot, ⟨rfl, rfl⟩, rfl⟩)
set_option maxHeartbeats 4000000 in
set_option maxRecDepth 100000 in
theorem c_X5_exchange (l : Launch) (E : VE) (hE : EOk E) (I : TI) (L : TL) (c t : Nat) (hcl : c < 12) (ht12t : t < 12) (hnet : t ≠ c) (rt ct : Nat) (h5 : rt ≤ 5 ∧ ct ≤ 5) (hrt : I 2 t 1 = nI rt) (hct : I 2 t 2 = nI ct) : Ct l E yX5_exchange cX5_exchange 4 none rm_X5_exchange [.ref (eA E 2 c), .ref (eA E 2 t)] I L (fun r I' L' => r = none ∧ Bld I I' c ct rt (nI 3) (-1) (fun a b => a < ct ∧ b < rt) (fun a b => (I 3 t (5 * b + a)).toInt64) ∧ L' = L) := by
  refine ct_of (by decide +kernel) (Nat.le_of_ble_eq_true rfl) hE ?_
  intro a X Y hl hEE
  subst hl; subst hEE
  obtain ⟨h51, h52⟩ := id h5
  show V a 0 [(0, .ref (eA (vE a) 2 c)), (1, .ref (eA (vE a) 2 t))] [] I L
  refine v_aload_n X 0 rfl dX5_exchange_0 ?_
  refine v_aload_n X 1 rfl dX5_exchange_1 ?_
  refine gf_X5_104 X ht12t dX5_exchange_2 ?_
  refine v_eqi (y := (nI ct)) (hct) ?_
  refine v_aload_n X 1 rfl dX5_exchange_5 ?_
  refine gf_X5_101 X ht12t dX5_exchange_6 ?_
  refine v_eqi (y := (nI rt)) (hrt) ?_
  refine v_iconst X (v := (nI 3)) dX5_exchange_9 (by decide) ?_
  refine v_callV X (c_X0_begin _ _ hE _ _ c hcl (nI ct) (nI rt) (nI 3)) k_X5_66 (dl_2 hcl) (cef_2 _ _ _ _) rfl ⟨rfl, rfl, Nat.le_of_ble_eq_true rfl, Nat.le_of_ble_eq_true rfl⟩ (As := [.int (nI ct), .int (nI rt), .int (nI 3)]) (rest := []) rfl rfl (Nat.le_of_ble_eq_true rfl) dX5_exchange_10 (fun r10 I10 L10 hp10 => ?_)
  obtain ⟨rfl, hF10, hb1, hb2, hb3, hb4, hb5, hb6, e2⟩ := hp10
  have e2 := e2.symm
  subst e2
  have hB : Bld I I10 c ct rt (nI 3) (-1) (fun a b => DR ct 0 0 b a) (fun a b => (I 3 t (5 * b + a)).toInt64) := Bld.zero hF10 hb1 hb2 hb3 hb4 hb5 hb6 (fun a b => DR_0 b a)
  refine v_st (st' := []) rfl ?_
  refine v_iconst X (v := (nI 0)) dX5_exchange_13 (by decide) ?_
  refine v_istore_n X [1, 2, 0] (lv' := [(0, .ref (eA (vE a) 2 c)), (1, .ref (eA (vE a) 2 t)), (2, .int (nI 0))]) (by decide) rfl dX5_exchange_14 ?_
  have loop15 : ∀ (fu : Nat) (i : Nat) (I1 : TI), 6 - i < fu → (i ≤ rt) → (Bld I I1 c ct rt (nI 3) (-1) (fun a b => DR ct i 0 b a) (fun a b => (I 3 t (5 * b + a)).toInt64)) → V a 15 [(0, .ref (eA (vE a) 2 c)), (1, .ref (eA (vE a) 2 t)), (2, .int (nI i))] [] I1 L := by
    intro fu
    induction fu with
    | zero => intro i I1 hm _ _; exact absurd hm (Nat.not_lt_zero _)
    | succ fu ih15 =>
      intro i I1 hm15 hi hB
      refine v_iload_n X 2 rfl dX5_exchange_15 ?_
      refine v_aload_n X 1 rfl dX5_exchange_16 ?_
      refine gf_X5_101 X ht12t dX5_exchange_17 ?_
      refine v_eqi (y := (nI rt)) ((Fr.at hB.1 (by simp [hnet]) _).trans (hrt)) ?_
      refine v_icmp_ge_n X (by omega) (by omega) dX5_exchange_20 (tgt := 58) (by decide) (fun h20 => ?_) (fun h20 => ?_)
      · exact v_vret X Y dX5_exchange_58 (⟨rfl, hB.cg (fun a b h1 h2 => (DR_end (by omega) b a h2 h1).trans And.comm), rfl⟩)
      · refine v_iconst X (v := (nI 0)) dX5_exchange_23 (by decide) ?_
        refine v_istore_n X [1, 2, 3, 0] (lv' := [(0, .ref (eA (vE a) 2 c)), (1, .ref (eA (vE a) 2 t)), (2, .int (nI i)), (3, .int (nI 0))]) (by decide) rfl dX5_exchange_24 ?_
        have loop25 : ∀ (fu : Nat) (j : Nat) (I1 : TI), 6 - j < fu → (j ≤ ct) → (Bld I I1 c ct rt (nI 3) (-1) (fun a b => DR ct i j b a) (fun a b => (I 3 t (5 * b + a)).toInt64)) → V a 25 [(0, .ref (eA (vE a) 2 c)), (1, .ref (eA (vE a) 2 t)), (2, .int (nI i)), (3, .int (nI j))] [] I1 L := by
          intro fu
          induction fu with
          | zero => intro j I1 hm _ _; exact absurd hm (Nat.not_lt_zero _)
          | succ fu ih25 =>
            intro j I1 hm25 hj hB
            refine v_iload_n X 3 rfl dX5_exchange_25 ?_
            refine v_aload_n X 1 rfl dX5_exchange_26 ?_
            refine gf_X5_104 X ht12t dX5_exchange_27 ?_
            refine v_eqi (y := (nI ct)) ((Fr.at hB.1 (by simp [hnet]) _).trans (hct)) ?_
            refine v_icmp_ge_n X (by omega) (by omega) dX5_exchange_30 (tgt := 52) (by decide) (fun h30 => ?_) (fun h30 => ?_)
            · refine v_iinc X [1, 2, 0, 3] 2 (nI (i + 1)) (lv' := [(0, .ref (eA (vE a) 2 c)), (1, .ref (eA (vE a) 2 t)), (2, .int (nI (i + 1))), (3, .int (nI j))]) rfl (nI_1 _) (by decide) rfl dX5_exchange_52 ?_
              refine v_goto X (tgt := 15) dX5_exchange_55 (by decide) ?_
              refine v_sub [0, 1, 2] (lv' := [(0, .ref (eA (vE a) 2 c)), (1, .ref (eA (vE a) 2 t)), (2, .int (nI (i + 1)))]) rfl ?_
              exact ih15 (i + 1) I1 (by omega) (by omega) (hB.cg (fun a b h1 h2 => DR_row (by omega) b a h2 h1))
            · refine v_aload_n X 0 rfl dX5_exchange_33 ?_
              refine v_iload_n X 3 rfl dX5_exchange_34 ?_
              refine v_iload_n X 2 rfl dX5_exchange_35 ?_
              refine v_aload_n X 1 rfl dX5_exchange_36 ?_
              refine v_iload_n X 2 rfl dX5_exchange_37 ?_
              refine v_iload_n X 3 rfl dX5_exchange_38 ?_
              refine v_callV X (c_X0_number _ _ hE _ _ t ht12t rt ct ((Fr.at hB.1 (by simp [hnet]) _).trans (hrt)) ((Fr.at hB.1 (by simp [hnet]) _).trans (hct)) h5.1 h5.2 i j (by omega) (by omega)) k_X5_93 (dl_2 ht12t) (cef_2 _ _ _ _) rfl ⟨rfl, rfl, Nat.le_of_ble_eq_true rfl, Nat.le_of_ble_eq_true rfl⟩ (As := [.int (nI i), .int (nI j)]) (rest := [.int (nI i), .int (nI j), .ref (eA (vE a) 2 c)]) rfl rfl (Nat.le_of_ble_eq_true rfl) dX5_exchange_39 (fun r39 I39 L39 hp39 => ?_)
              obtain ⟨rfl, e1, e2⟩ := hp39
              have e1 := e1.symm
              have e2 := e2.symm
              subst e1; subst e2
              refine v_st (st' := [.int (I1 3 t (5 * i + j)), .int (nI i), .int (nI j), .ref (eA (vE a) 2 c)]) rfl ?_
              refine v_i2l X dX5_exchange_42 rfl ?_
              refine v_callV X (c_X0_put _ _ hE _ _ c hcl ct rt (hB.2.1) (hB.2.2.1) (by omega) (by omega) j i (by omega) (by omega) ((I1 3 t (5 * i + j)).toInt64)) k_X5_97 (dl_2 hcl) (cef_2 _ _ _ _) rfl ⟨rfl, rfl, Nat.le_of_ble_eq_true rfl, Nat.le_of_ble_eq_true rfl⟩ (As := [.int (nI j), .int (nI i), .long ((I1 3 t (5 * i + j)).toInt64)]) (rest := []) rfl rfl (Nat.le_of_ble_eq_true rfl) dX5_exchange_43 (fun r43 I43 L43 hp43 => ?_)
              obtain ⟨rfl, e1, e2⟩ := hp43
              have e2 := e2.symm
              subst e2
              have e3t : I1 3 t = I 3 t := hB.1 3 t (by simp [hnet])
              have hB43 := hB.put (D' := (fun a b => DR ct i (j + 1) b a)) (i := j) (j := i) (by omega) (by omega) DR_no (fun a b h1 h2 => (DR_put (by omega) b a h2 h1).trans (or_congr Iff.rfl And.comm)) (v := (I1 3 t (5 * i + j)).toInt64) (by rw [e3t])
              rw [← e1] at hB43
              refine v_st (st' := []) rfl ?_
              refine v_iinc X [1, 2, 3, 0] 3 (nI (j + 1)) (lv' := [(0, .ref (eA (vE a) 2 c)), (1, .ref (eA (vE a) 2 t)), (2, .int (nI i)), (3, .int (nI (j + 1)))]) rfl (nI_1 _) (by decide) rfl dX5_exchange_46 ?_
              refine v_goto X (tgt := 25) dX5_exchange_49 (by decide) ?_
              exact ih25 (j + 1) I43 (by omega) (by omega) hB43
        exact loop25 _ 0 I1 (Nat.lt_succ_self _) (Nat.zero_le _) hB
  exact loop15 _ 0 I10 (Nat.lt_succ_self _) (Nat.zero_le _) hB
theorem rv_b {bb ct j : Nat} (h : j < ct) : (if bb = 0 then (if bb = 0 then j else ct - 1 - j) else ct - 1 - (if bb = 0 then j else ct - 1 - j)) = j := by
  by_cases e : bb = 0
  · simp only [e, if_true]
  · simp only [e, if_false]; omega
theorem rv_put {bb rt ct i j a b : Nat} (hi : i < rt) (hj : j < ct) : (a < rt ∧ b < ct ∧ DR ct i (j + 1) (rt - 1 - a) (if bb = 0 then b else ct - 1 - b)) ↔ ((a < rt ∧ b < ct ∧ DR ct i j (rt - 1 - a) (if bb = 0 then b else ct - 1 - b)) ∨ (a = rt - 1 - i ∧ b = (if bb = 0 then j else ct - 1 - j))) := by
  unfold DR
  by_cases e : bb = 0
  · simp only [e, if_true]; omega
  · simp only [e, if_false]; omega
theorem rv_row {bb rt ct i j a b : Nat} (hj : ct ≤ j) : (a < rt ∧ b < ct ∧ DR ct i j (rt - 1 - a) (if bb = 0 then b else ct - 1 - b)) ↔ (a < rt ∧ b < ct ∧ DR ct (i + 1) 0 (rt - 1 - a) (if bb = 0 then b else ct - 1 - b)) := by
  unfold DR
  by_cases e : bb = 0
  · simp only [e, if_true]; omega
  · simp only [e, if_false]; omega
theorem rv_end {bb rt ct i a b : Nat} (hi : i = rt) : (a < rt ∧ b < ct ∧ DR ct i 0 (rt - 1 - a) (if bb = 0 then b else ct - 1 - b)) ↔ (a < rt ∧ b < ct) := by
  unfold DR
  by_cases e : bb = 0
  · simp only [e, if_true]; omega
  · simp only [e, if_false]; omega
set_option maxHeartbeats 4000000 in
set_option maxRecDepth 100000 in
theorem c_X5_reverse (l : Launch) (E : VE) (hE : EOk E) (I : TI) (L : TL) (c t : Nat) (hcl : c < 12) (ht12t : t < 12) (hnet : t ≠ c) (rt ct : Nat) (h5 : rt ≤ 5 ∧ ct ≤ 5) (hrt : I 2 t 1 = nI rt) (hct : I 2 t 2 = nI ct) (bb : Nat) (hbb : bb < 2) : Ct l E yX5_reverse cX5_reverse 6 none rm_X5_reverse [.ref (eA E 2 c), .ref (eA E 2 t), .int (nI bb)] I L (fun r I' L' => r = none ∧ Bld I I' c rt ct (nI 3) (-1) (fun a b => a < rt ∧ b < ct) (fun a b => (I 3 t (5 * (rt - 1 - a) + (if bb = 0 then b else ct - 1 - b))).toInt64) ∧ L' = L) := by
  refine ct_of (by decide +kernel) (Nat.le_of_ble_eq_true rfl) hE ?_
  intro a X Y hl hEE
  subst hl; subst hEE
  obtain ⟨h51, h52⟩ := id h5
  show V a 0 [(0, .ref (eA (vE a) 2 c)), (1, .ref (eA (vE a) 2 t)), (2, .int (nI bb))] [] I L
  refine v_aload_n X 0 rfl dX5_reverse_0 ?_
  refine v_aload_n X 1 rfl dX5_reverse_1 ?_
  refine gf_X5_101 X ht12t dX5_reverse_2 ?_
  refine v_eqi (y := (nI rt)) (hrt) ?_
  refine v_aload_n X 1 rfl dX5_reverse_5 ?_
  refine gf_X5_104 X ht12t dX5_reverse_6 ?_
  refine v_eqi (y := (nI ct)) (hct) ?_
  refine v_iconst X (v := (nI 3)) dX5_reverse_9 (by decide) ?_
  refine v_callV X (c_X0_begin _ _ hE _ _ c hcl (nI rt) (nI ct) (nI 3)) k_X5_66 (dl_2 hcl) (cef_2 _ _ _ _) rfl ⟨rfl, rfl, Nat.le_of_ble_eq_true rfl, Nat.le_of_ble_eq_true rfl⟩ (As := [.int (nI rt), .int (nI ct), .int (nI 3)]) (rest := []) rfl rfl (Nat.le_of_ble_eq_true rfl) dX5_reverse_10 (fun r10 I10 L10 hp10 => ?_)
  obtain ⟨rfl, hF10, hb1, hb2, hb3, hb4, hb5, hb6, e2⟩ := hp10
  have e2 := e2.symm
  subst e2
  have hB : Bld I I10 c rt ct (nI 3) (-1) (fun a b => a < rt ∧ b < ct ∧ DR ct 0 0 (rt - 1 - a) (if bb = 0 then b else ct - 1 - b)) (fun a b => (I 3 t (5 * (rt - 1 - a) + (if bb = 0 then b else ct - 1 - b))).toInt64) := Bld.zero hF10 hb1 hb2 hb3 hb4 hb5 hb6 (fun a b h => DR_0 _ _ h.2.2)
  refine v_st (st' := []) rfl ?_
  refine v_iconst X (v := (nI 0)) dX5_reverse_13 (by decide) ?_
  refine v_istore_n X [1, 2, 3, 0] (lv' := [(0, .ref (eA (vE a) 2 c)), (1, .ref (eA (vE a) 2 t)), (2, .int (nI bb)), (3, .int (nI 0))]) (by decide) rfl dX5_reverse_14 ?_
  have loop15 : ∀ (fu : Nat) (i : Nat) (I1 : TI), 6 - i < fu → (i ≤ rt) → (Bld I I1 c rt ct (nI 3) (-1) (fun a b => a < rt ∧ b < ct ∧ DR ct i 0 (rt - 1 - a) (if bb = 0 then b else ct - 1 - b)) (fun a b => (I 3 t (5 * (rt - 1 - a) + (if bb = 0 then b else ct - 1 - b))).toInt64)) → V a 15 [(0, .ref (eA (vE a) 2 c)), (1, .ref (eA (vE a) 2 t)), (2, .int (nI bb)), (3, .int (nI i))] [] I1 L := by
    intro fu
    induction fu with
    | zero => intro i I1 hm _ _; exact absurd hm (Nat.not_lt_zero _)
    | succ fu ih15 =>
      intro i I1 hm15 hi hB
      refine v_iload_n X 3 rfl dX5_reverse_15 ?_
      refine v_aload_n X 1 rfl dX5_reverse_16 ?_
      refine gf_X5_101 X ht12t dX5_reverse_17 ?_
      refine v_eqi (y := (nI rt)) ((Fr.at hB.1 (by simp [hnet]) _).trans (hrt)) ?_
      refine v_icmp_ge_n X (by omega) (by omega) dX5_reverse_20 (tgt := 89) (by decide) (fun h20 => ?_) (fun h20 => ?_)
      · exact v_vret X Y dX5_reverse_89 (⟨rfl, hB.cg (fun a b h1 h2 => rv_end (by omega)), rfl⟩)
      · refine v_iconst X (v := (nI 0)) dX5_reverse_23 (by decide) ?_
        refine v_istore X [1, 2, 3, 4, 0] (lv' := [(0, .ref (eA (vE a) 2 c)), (1, .ref (eA (vE a) 2 t)), (2, .int (nI bb)), (3, .int (nI i)), (4, .int (nI 0))]) (by decide) rfl dX5_reverse_24 ?_
        have loop26 : ∀ (fu : Nat) (j : Nat) (I1 : TI), 6 - j < fu → (j ≤ ct) → (Bld I I1 c rt ct (nI 3) (-1) (fun a b => a < rt ∧ b < ct ∧ DR ct i j (rt - 1 - a) (if bb = 0 then b else ct - 1 - b)) (fun a b => (I 3 t (5 * (rt - 1 - a) + (if bb = 0 then b else ct - 1 - b))).toInt64)) → V a 26 [(0, .ref (eA (vE a) 2 c)), (1, .ref (eA (vE a) 2 t)), (2, .int (nI bb)), (3, .int (nI i)), (4, .int (nI j))] [] I1 L := by
          intro fu
          induction fu with
          | zero => intro j I1 hm _ _; exact absurd hm (Nat.not_lt_zero _)
          | succ fu ih26 =>
            intro j I1 hm26 hj hB
            refine v_iload X 4 rfl dX5_reverse_26 ?_
            refine v_aload_n X 1 rfl dX5_reverse_28 ?_
            refine gf_X5_104 X ht12t dX5_reverse_29 ?_
            refine v_eqi (y := (nI ct)) ((Fr.at hB.1 (by simp [hnet]) _).trans (hct)) ?_
            refine v_icmp_ge_n X (by omega) (by omega) dX5_reverse_32 (tgt := 83) (by decide) (fun h32 => ?_) (fun h32 => ?_)
            · refine v_iinc X [1, 2, 3, 0, 4] 3 (nI (i + 1)) (lv' := [(0, .ref (eA (vE a) 2 c)), (1, .ref (eA (vE a) 2 t)), (2, .int (nI bb)), (3, .int (nI (i + 1))), (4, .int (nI j))]) rfl (nI_1 _) (by decide) rfl dX5_reverse_83 ?_
              refine v_goto X (tgt := 15) dX5_reverse_86 (by decide) ?_
              refine v_sub [0, 1, 2, 3] (lv' := [(0, .ref (eA (vE a) 2 c)), (1, .ref (eA (vE a) 2 t)), (2, .int (nI bb)), (3, .int (nI (i + 1)))]) rfl ?_
              exact ih15 (i + 1) I1 (by omega) (by omega) (hB.cg (fun a b h1 h2 => rv_row (by omega)))
            · have hjc : j < ct := by omega
              refine v_iload_n X 2 rfl dX5_reverse_35 ?_
              refine v_if_eq_n X (by omega) dX5_reverse_36 (tgt := 51) (by decide) (fun h36 => ?_) (fun h36 => ?_)
              · refine v_iload X 4 rfl dX5_reverse_51 ?_
                refine v_eqi (y := (nI (if bb = 0 then j else ct - 1 - j))) (congrArg nI ((if_pos h36).symm)) ?_
                have hcl5 : (if bb = 0 then j else ct - 1 - j) < ct := by split <;> omega
                refine v_istore X [1, 2, 3, 4, 5, 0] (lv' := [(0, .ref (eA (vE a) 2 c)), (1, .ref (eA (vE a) 2 t)), (2, .int (nI bb)), (3, .int (nI i)), (4, .int (nI j)), (5, .int (nI (if bb = 0 then j else ct - 1 - j)))]) (by decide) rfl dX5_reverse_53 ?_
                refine v_aload_n X 0 rfl dX5_reverse_55 ?_
                refine v_aload_n X 1 rfl dX5_reverse_56 ?_
                refine gf_X5_101 X ht12t dX5_reverse_57 ?_
                refine v_eqi (y := (nI rt)) ((Fr.at hB.1 (by simp [hnet]) _).trans (hrt)) ?_
                refine v_iconst X (v := (nI 1)) dX5_reverse_60 (by decide) ?_
                refine v_isub X dX5_reverse_61 ?_
                refine v_eqi (y := (nI (rt - 1))) (pk_sub (by omega)) ?_
                refine v_iload_n X 3 rfl dX5_reverse_62 ?_
                refine v_isub X dX5_reverse_63 ?_
                refine v_eqi (y := (nI ((rt - 1) - i))) (pk_sub (by omega)) ?_
                refine v_iload X 5 rfl dX5_reverse_64 ?_
                refine v_aload_n X 1 rfl dX5_reverse_66 ?_
                refine v_iload_n X 3 rfl dX5_reverse_67 ?_
                refine v_iload X 4 rfl dX5_reverse_68 ?_
                refine v_callV X (c_X0_number _ _ hE _ _ t ht12t rt ct ((Fr.at hB.1 (by simp [hnet]) _).trans (hrt)) ((Fr.at hB.1 (by simp [hnet]) _).trans (hct)) h5.1 h5.2 i j (by omega) (by omega)) k_X5_93 (dl_2 ht12t) (cef_2 _ _ _ _) rfl ⟨rfl, rfl, Nat.le_of_ble_eq_true rfl, Nat.le_of_ble_eq_true rfl⟩ (As := [.int (nI i), .int (nI j)]) (rest := [.int (nI (if bb = 0 then j else ct - 1 - j)), .int (nI ((rt - 1) - i)), .ref (eA (vE a) 2 c)]) rfl rfl (Nat.le_of_ble_eq_true rfl) dX5_reverse_70 (fun r70 I70 L70 hp70 => ?_)
                obtain ⟨rfl, e1, e2⟩ := hp70
                have e1 := e1.symm
                have e2 := e2.symm
                subst e1; subst e2
                refine v_st (st' := [.int (I1 3 t (5 * i + j)), .int (nI (if bb = 0 then j else ct - 1 - j)), .int (nI ((rt - 1) - i)), .ref (eA (vE a) 2 c)]) rfl ?_
                refine v_i2l X dX5_reverse_73 rfl ?_
                refine v_callV X (c_X0_put _ _ hE _ _ c hcl rt ct (hB.2.1) (hB.2.2.1) (by omega) (by omega) ((rt - 1) - i) (if bb = 0 then j else ct - 1 - j) (by omega) (by omega) ((I1 3 t (5 * i + j)).toInt64)) k_X5_97 (dl_2 hcl) (cef_2 _ _ _ _) rfl ⟨rfl, rfl, Nat.le_of_ble_eq_true rfl, Nat.le_of_ble_eq_true rfl⟩ (As := [.int (nI ((rt - 1) - i)), .int (nI (if bb = 0 then j else ct - 1 - j)), .long ((I1 3 t (5 * i + j)).toInt64)]) (rest := []) rfl rfl (Nat.le_of_ble_eq_true rfl) dX5_reverse_74 (fun r74 I74 L74 hp74 => ?_)
                obtain ⟨rfl, e1, e2⟩ := hp74
                have e2 := e2.symm
                subst e2
                have e3t : I1 3 t = I 3 t := hB.1 3 t (by simp [hnet])
                have hveq : (I1 3 t (5 * i + j)).toInt64 = (I 3 t (5 * (rt - 1 - (rt - 1 - i)) + (if bb = 0 then (if bb = 0 then j else ct - 1 - j) else ct - 1 - (if bb = 0 then j else ct - 1 - j)))).toInt64 := by
                  rw [e3t, rv_b hjc, show rt - 1 - (rt - 1 - i) = i by omega]
                have hB74 := hB.put (D' := (fun a b => a < rt ∧ b < ct ∧ DR ct i (j + 1) (rt - 1 - a) (if bb = 0 then b else ct - 1 - b))) (i := (rt - 1 - i)) (j := (if bb = 0 then j else ct - 1 - j)) (by omega) (by omega) (fun h => by rw [rv_b hjc, show rt - 1 - (rt - 1 - i) = i by omega] at h; exact DR_no h.2.2) (fun a b h1 h2 => rv_put (by omega) hjc) (v := (I1 3 t (5 * i + j)).toInt64) hveq
                rw [← e1] at hB74
                refine v_st (st' := []) rfl ?_
                refine v_iinc X [1, 2, 3, 4, 0, 5] 4 (nI (j + 1)) (lv' := [(0, .ref (eA (vE a) 2 c)), (1, .ref (eA (vE a) 2 t)), (2, .int (nI bb)), (3, .int (nI i)), (4, .int (nI (j + 1))), (5, .int (nI (if bb = 0 then j else ct - 1 - j)))]) rfl (nI_1 _) (by decide) rfl dX5_reverse_77 ?_
                refine v_goto X (tgt := 26) dX5_reverse_80 (by decide) ?_
                refine v_sub [0, 1, 2, 3, 4] (lv' := [(0, .ref (eA (vE a) 2 c)), (1, .ref (eA (vE a) 2 t)), (2, .int (nI bb)), (3, .int (nI i)), (4, .int (nI (j + 1)))]) rfl ?_
                exact ih26 (j + 1) I74 (by omega) (by omega) hB74
              · refine v_aload_n X 1 rfl dX5_reverse_39 ?_
                refine gf_X5_104 X ht12t dX5_reverse_40 ?_
                refine v_eqi (y := (nI ct)) ((Fr.at hB.1 (by simp [hnet]) _).trans (hct)) ?_
                refine v_iconst X (v := (nI 1)) dX5_reverse_43 (by decide) ?_
                refine v_isub X dX5_reverse_44 ?_
                refine v_eqi (y := (nI (ct - 1))) (pk_sub (by omega)) ?_
                refine v_iload X 4 rfl dX5_reverse_45 ?_
                refine v_isub X dX5_reverse_47 ?_
                refine v_eqi (y := (nI ((ct - 1) - j))) (pk_sub (by omega)) ?_
                refine v_goto X (tgt := 53) dX5_reverse_48 (by decide) ?_
                refine v_eqi (y := (nI (if bb = 0 then j else ct - 1 - j))) (congrArg nI (if_neg_T (by omega))) ?_
                have hcl5 : (if bb = 0 then j else ct - 1 - j) < ct := by split <;> omega
                refine v_istore X [1, 2, 3, 4, 5, 0] (lv' := [(0, .ref (eA (vE a) 2 c)), (1, .ref (eA (vE a) 2 t)), (2, .int (nI bb)), (3, .int (nI i)), (4, .int (nI j)), (5, .int (nI (if bb = 0 then j else ct - 1 - j)))]) (by decide) rfl dX5_reverse_53 ?_
                refine v_aload_n X 0 rfl dX5_reverse_55 ?_
                refine v_aload_n X 1 rfl dX5_reverse_56 ?_
                refine gf_X5_101 X ht12t dX5_reverse_57 ?_
                refine v_eqi (y := (nI rt)) ((Fr.at hB.1 (by simp [hnet]) _).trans (hrt)) ?_
                refine v_iconst X (v := (nI 1)) dX5_reverse_60 (by decide) ?_
                refine v_isub X dX5_reverse_61 ?_
                refine v_eqi (y := (nI (rt - 1))) (pk_sub (by omega)) ?_
                refine v_iload_n X 3 rfl dX5_reverse_62 ?_
                refine v_isub X dX5_reverse_63 ?_
                refine v_eqi (y := (nI ((rt - 1) - i))) (pk_sub (by omega)) ?_
                refine v_iload X 5 rfl dX5_reverse_64 ?_
                refine v_aload_n X 1 rfl dX5_reverse_66 ?_
                refine v_iload_n X 3 rfl dX5_reverse_67 ?_
                refine v_iload X 4 rfl dX5_reverse_68 ?_
                refine v_callV X (c_X0_number _ _ hE _ _ t ht12t rt ct ((Fr.at hB.1 (by simp [hnet]) _).trans (hrt)) ((Fr.at hB.1 (by simp [hnet]) _).trans (hct)) h5.1 h5.2 i j (by omega) (by omega)) k_X5_93 (dl_2 ht12t) (cef_2 _ _ _ _) rfl ⟨rfl, rfl, Nat.le_of_ble_eq_true rfl, Nat.le_of_ble_eq_true rfl⟩ (As := [.int (nI i), .int (nI j)]) (rest := [.int (nI (if bb = 0 then j else ct - 1 - j)), .int (nI ((rt - 1) - i)), .ref (eA (vE a) 2 c)]) rfl rfl (Nat.le_of_ble_eq_true rfl) dX5_reverse_70 (fun r70 I70 L70 hp70 => ?_)
                obtain ⟨rfl, e1, e2⟩ := hp70
                have e1 := e1.symm
                have e2 := e2.symm
                subst e1; subst e2
                refine v_st (st' := [.int (I1 3 t (5 * i + j)), .int (nI (if bb = 0 then j else ct - 1 - j)), .int (nI ((rt - 1) - i)), .ref (eA (vE a) 2 c)]) rfl ?_
                refine v_i2l X dX5_reverse_73 rfl ?_
                refine v_callV X (c_X0_put _ _ hE _ _ c hcl rt ct (hB.2.1) (hB.2.2.1) (by omega) (by omega) ((rt - 1) - i) (if bb = 0 then j else ct - 1 - j) (by omega) (by omega) ((I1 3 t (5 * i + j)).toInt64)) k_X5_97 (dl_2 hcl) (cef_2 _ _ _ _) rfl ⟨rfl, rfl, Nat.le_of_ble_eq_true rfl, Nat.le_of_ble_eq_true rfl⟩ (As := [.int (nI ((rt - 1) - i)), .int (nI (if bb = 0 then j else ct - 1 - j)), .long ((I1 3 t (5 * i + j)).toInt64)]) (rest := []) rfl rfl (Nat.le_of_ble_eq_true rfl) dX5_reverse_74 (fun r74 I74 L74 hp74 => ?_)
                obtain ⟨rfl, e1, e2⟩ := hp74
                have e2 := e2.symm
                subst e2
                have e3t : I1 3 t = I 3 t := hB.1 3 t (by simp [hnet])
                have hveq : (I1 3 t (5 * i + j)).toInt64 = (I 3 t (5 * (rt - 1 - (rt - 1 - i)) + (if bb = 0 then (if bb = 0 then j else ct - 1 - j) else ct - 1 - (if bb = 0 then j else ct - 1 - j)))).toInt64 := by
                  rw [e3t, rv_b hjc, show rt - 1 - (rt - 1 - i) = i by omega]
                have hB74 := hB.put (D' := (fun a b => a < rt ∧ b < ct ∧ DR ct i (j + 1) (rt - 1 - a) (if bb = 0 then b else ct - 1 - b))) (i := (rt - 1 - i)) (j := (if bb = 0 then j else ct - 1 - j)) (by omega) (by omega) (fun h => by rw [rv_b hjc, show rt - 1 - (rt - 1 - i) = i by omega] at h; exact DR_no h.2.2) (fun a b h1 h2 => rv_put (by omega) hjc) (v := (I1 3 t (5 * i + j)).toInt64) hveq
                rw [← e1] at hB74
                refine v_st (st' := []) rfl ?_
                refine v_iinc X [1, 2, 3, 4, 0, 5] 4 (nI (j + 1)) (lv' := [(0, .ref (eA (vE a) 2 c)), (1, .ref (eA (vE a) 2 t)), (2, .int (nI bb)), (3, .int (nI i)), (4, .int (nI (j + 1))), (5, .int (nI (if bb = 0 then j else ct - 1 - j)))]) rfl (nI_1 _) (by decide) rfl dX5_reverse_77 ?_
                refine v_goto X (tgt := 26) dX5_reverse_80 (by decide) ?_
                refine v_sub [0, 1, 2, 3, 4] (lv' := [(0, .ref (eA (vE a) 2 c)), (1, .ref (eA (vE a) 2 t)), (2, .int (nI bb)), (3, .int (nI i)), (4, .int (nI (j + 1)))]) rfl ?_
                exact ih26 (j + 1) I74 (by omega) (by omega) hB74
        exact loop26 _ 0 I1 (Nat.lt_succ_self _) (Nat.zero_le _) hB
  exact loop15 _ 0 I10 (Nat.lt_succ_self _) (Nat.zero_le _) hB
set_option maxHeartbeats 4000000 in
set_option maxRecDepth 100000 in
theorem c_X5_turn (l : Launch) (E : VE) (hE : EOk E) (I : TI) (L : TL) (c : Nat) (ro co : Nat → Nat) (hT : CT I c ro co) (x how : Int32) : Ct l E yX5_turn cX5_turn 5 (some .int) rm_X5_turn [.ref (eA E 0 0), .int x, .int how] I L (fun r I' L' => (¬ isT c x ∧ REF I I' r 3 ∧ L' = L) ∨ (∃ t, t < c ∧ x = nI t ∧ ((¬ (0 ≤ how ∧ how ≤ nI 2) ∧ REF I I' r 7 ∧ L' = L) ∨ (∃ n', n' ≤ 2 ∧ how = nI n' ∧ ((c = 12 ∧ REF I I' r 8 ∧ L' = L) ∨ (c < 12 ∧ ResT I I' r c (if n' = 0 then co t else ro t) (if n' = 0 then ro t else co t) (nI 3) (-1) (fun a b => (I 3 t (5 * (if n' = 0 then b else ro t - 1 - a) + (if n' = 0 then a else if n' = 1 then co t - 1 - b else b))).toInt64) ∧ L' = L)))))) := by
  refine ct_of (by decide +kernel) (Nat.le_of_ble_eq_true rfl) hE ?_
  intro a X Y hl hEE
  subst hl; subst hEE
  show V a 0 [(0, .ref (eA (vE a) 0 0)), (1, .int x), (2, .int how)] [] I L
  refine v_aload_n X 0 rfl dX5_turn_0 ?_
  refine v_iload_n X 1 rfl dX5_turn_1 ?_
  refine v_callV X (c_X5_gridOf _ _ hE _ _ c hT.1 hT.2.1 x) k_X5_74 dl_0 (cef_0 _ _ _ _) rfl ⟨rfl, rfl, Nat.le_of_ble_eq_true rfl, Nat.le_of_ble_eq_true rfl⟩ (As := [.int x]) (rest := []) rfl rfl (Nat.le_of_ble_eq_true rfl) dX5_turn_2 (fun r2 I2 L2 hp2 => ?_)
  obtain ⟨ho2, e1, e2⟩ := hp2
  have e1 := e1.symm
  have e2 := e2.symm
  subst e1; subst e2
  rcases ho2 with ⟨t, htt, rfl, rfl⟩ | ⟨hnot, rfl⟩
  · have hc12 := hT.2.1
    obtain ⟨hrt, hct, hr1t, hr5t, hc1t, hc5t⟩ := hT.2.2 t htt
    have ht12t : t < 12 := by omega
    have hnet : t ≠ c := by omega
    refine v_st (st' := [.ref (eA (vE a) 2 t)]) rfl ?_
    refine v_astore_n X [1, 2, 3, 0] (lv' := [(0, .ref (eA (vE a) 0 0)), (1, .int (nI t)), (2, .int how), (3, .ref (eA (vE a) 2 t))]) (by decide) rfl dX5_turn_5 ?_
    refine v_aload_n X 3 rfl dX5_turn_6 ?_
    refine v_ifnonnull X (tgt := 17) dX5_turn_7 (by decide) ?_
    refine v_iload_n X 2 rfl dX5_turn_17 ?_
    refine v_if_lt X dX5_turn_18 (tgt := 26) (by decide) (fun h18 => ?_) (fun h18 => ?_)
    · refine v_aload_n X 0 rfl dX5_turn_26 ?_
      refine v_bipush X (v := (-7)) dX5_turn_27 (by decide) ?_
      refine v_callV X (c_X5_refused _ _ hE _ _ 7 (by decide) (by decide)) k_X5_58 dl_0 (cef_0 _ _ _ _) rfl ⟨rfl, rfl, Nat.le_of_ble_eq_true rfl, Nat.le_of_ble_eq_true rfl⟩ (As := [.int (-7)]) (rest := []) rfl rfl (Nat.le_of_ble_eq_true rfl) dX5_turn_29 (fun r29 I29 L29 hp29 => ?_)
      obtain ⟨rfl, e1, e2⟩ := hp29
      have e1 := e1.symm
      have e2 := e2.symm
      subst e1; subst e2
      refine v_st (st' := [.int (-7)]) rfl ?_
      exact v_iret X Y dX5_turn_32 (Or.inr ⟨t, htt, rfl, Or.inl ⟨fun q => absurd q.1 (Int32.not_le.mpr h18), ⟨rfl, rfl⟩, rfl⟩⟩)
    · refine v_iload_n X 2 rfl dX5_turn_21 ?_
      refine v_iconst X (v := (nI 2)) dX5_turn_22 (by decide) ?_
      refine v_icmp_le X dX5_turn_23 (tgt := 33) (by decide) (fun h23 => ?_) (fun h23 => ?_)
      · obtain ⟨n', hn2, rfl⟩ := ix_of' (Int32.not_lt.mp h18) h23 (by decide)
        refine v_aload_n X 0 rfl dX5_turn_33 ?_
        refine v_callV X (c_X5_freeGrid _ _ hE _ _ c (hT.1) hT.2.1) k_X5_62 dl_0 (cef_0 _ _ _ _) rfl ⟨rfl, rfl, Nat.le_of_ble_eq_true rfl, Nat.le_of_ble_eq_true rfl⟩ (As := []) (rest := []) rfl rfl (Nat.le_of_ble_eq_true rfl) dX5_turn_34 (fun r34 I34 L34 hp34 => ?_)
        obtain ⟨hg34, e1, e2⟩ := hp34
        have e1 := e1.symm
        have e2 := e2.symm
        subst e1; subst e2
        rcases hg34 with ⟨hcl, rfl⟩ | ⟨hfull, rfl⟩
        · refine v_st (st' := [.ref (eA (vE a) 2 c)]) rfl ?_
          refine v_astore X [1, 2, 3, 4, 0] (lv' := [(0, .ref (eA (vE a) 0 0)), (1, .int (nI t)), (2, .int (nI n')), (3, .ref (eA (vE a) 2 t)), (4, .ref (eA (vE a) 2 c))]) (by decide) rfl dX5_turn_37 ?_
          refine v_aload X 4 rfl dX5_turn_39 ?_
          refine v_ifnonnull X (tgt := 51) dX5_turn_41 (by decide) ?_
          refine v_iload_n X 2 rfl dX5_turn_51 ?_
          refine v_if_ne_n X (by omega) dX5_turn_52 (tgt := 64) (by decide) (fun h52 => ?_) (fun h52 => ?_)
          · refine v_aload X 4 rfl dX5_turn_64 ?_
            refine v_aload_n X 3 rfl dX5_turn_66 ?_
            refine v_iload_n X 2 rfl dX5_turn_67 ?_
            refine v_iconst X (v := (nI 1)) dX5_turn_68 (by decide) ?_
            refine v_icmp_ne_n X (by omega) (by omega) dX5_turn_69 (tgt := 76) (by decide) (fun h69 => ?_) (fun h69 => ?_)
            · refine v_iconst X (v := (nI 0)) dX5_turn_76 (by decide) ?_
              refine v_callS X (c_X5_reverse _ _ hE _ _ c t hcl ht12t hnet (ro t) (co t) ⟨hr5t, hc5t⟩ (hrt) (hct) 0 (by decide)) k_X5_154 ⟨rfl, rfl, Nat.le_of_ble_eq_true rfl, Nat.le_of_ble_eq_true rfl⟩ (As := [.ref (eA (vE a) 2 c), .ref (eA (vE a) 2 t), .int (nI 0)]) (rest := []) rfl rfl (Nat.le_of_ble_eq_true rfl) dX5_turn_77 (fun r77 I77 L77 hp77 => ?_)
              obtain ⟨rfl, hB, e2⟩ := hp77
              have e2 := e2.symm
              subst e2
              have hF77 := hB.1
              refine v_st (st' := []) rfl ?_
              refine v_aload_n X 0 rfl dX5_turn_80 ?_
              refine v_aload X 4 rfl dX5_turn_81 ?_
              obtain ⟨f, hf2, hf1⟩ := hB.f
              refine v_callV X (c_X5_come _ _ hE _ _ c ((Fr.at hF77 (by simp) _).trans (hT.1)) hcl f hf1 hf2) k_X5_70 dl_0 (cef_0 _ _ _ _) rfl ⟨rfl, rfl, Nat.le_of_ble_eq_true rfl, Nat.le_of_ble_eq_true rfl⟩ (As := [.ref (eA (vE a) 2 c)]) (rest := []) rfl rfl (Nat.le_of_ble_eq_true rfl) dX5_turn_83 (fun r83 I83 L83 hp83 => ?_)
              obtain ⟨ho, e2⟩ := hp83
              have e2 := e2.symm
              subst e2
              have hres := hB.res (by omega) (by omega) (fun _ _ _ _ => Iff.rfl) hf2 hf1 ho
              rcases ho with ⟨-, rfl, -⟩ | ⟨-, rfl, -⟩
              · refine v_st (st' := [.int (-nI 8)]) rfl ?_
                exact v_iret X Y dX5_turn_86 (Or.inr ⟨t, htt, rfl, Or.inr ⟨n', hn2, rfl, Or.inr ⟨hcl, by
                      have e : n' = 2 := by omega
                      subst e
                      exact hres, rfl⟩⟩⟩)
              · refine v_st (st' := [.int (nI c)]) rfl ?_
                exact v_iret X Y dX5_turn_86 (Or.inr ⟨t, htt, rfl, Or.inr ⟨n', hn2, rfl, Or.inr ⟨hcl, by
                      have e : n' = 2 := by omega
                      subst e
                      exact hres, rfl⟩⟩⟩)
            · refine v_iconst X (v := (nI 1)) dX5_turn_72 (by decide) ?_
              refine v_goto X (tgt := 77) dX5_turn_73 (by decide) ?_
              refine v_callS X (c_X5_reverse _ _ hE _ _ c t hcl ht12t hnet (ro t) (co t) ⟨hr5t, hc5t⟩ (hrt) (hct) 1 (by decide)) k_X5_154 ⟨rfl, rfl, Nat.le_of_ble_eq_true rfl, Nat.le_of_ble_eq_true rfl⟩ (As := [.ref (eA (vE a) 2 c), .ref (eA (vE a) 2 t), .int (nI 1)]) (rest := []) rfl rfl (Nat.le_of_ble_eq_true rfl) dX5_turn_77 (fun r77 I77 L77 hp77 => ?_)
              obtain ⟨rfl, hB, e2⟩ := hp77
              have e2 := e2.symm
              subst e2
              have hF77 := hB.1
              refine v_st (st' := []) rfl ?_
              refine v_aload_n X 0 rfl dX5_turn_80 ?_
              refine v_aload X 4 rfl dX5_turn_81 ?_
              obtain ⟨f, hf2, hf1⟩ := hB.f
              refine v_callV X (c_X5_come _ _ hE _ _ c ((Fr.at hF77 (by simp) _).trans (hT.1)) hcl f hf1 hf2) k_X5_70 dl_0 (cef_0 _ _ _ _) rfl ⟨rfl, rfl, Nat.le_of_ble_eq_true rfl, Nat.le_of_ble_eq_true rfl⟩ (As := [.ref (eA (vE a) 2 c)]) (rest := []) rfl rfl (Nat.le_of_ble_eq_true rfl) dX5_turn_83 (fun r83 I83 L83 hp83 => ?_)
              obtain ⟨ho, e2⟩ := hp83
              have e2 := e2.symm
              subst e2
              have hres := hB.res (by omega) (by omega) (fun _ _ _ _ => Iff.rfl) hf2 hf1 ho
              rcases ho with ⟨-, rfl, -⟩ | ⟨-, rfl, -⟩
              · refine v_st (st' := [.int (-nI 8)]) rfl ?_
                exact v_iret X Y dX5_turn_86 (Or.inr ⟨t, htt, rfl, Or.inr ⟨n', hn2, rfl, Or.inr ⟨hcl, by
                      have e : n' = 1 := by omega
                      subst e
                      exact hres, rfl⟩⟩⟩)
              · refine v_st (st' := [.int (nI c)]) rfl ?_
                exact v_iret X Y dX5_turn_86 (Or.inr ⟨t, htt, rfl, Or.inr ⟨n', hn2, rfl, Or.inr ⟨hcl, by
                      have e : n' = 1 := by omega
                      subst e
                      exact hres, rfl⟩⟩⟩)
          · refine v_aload X 4 rfl dX5_turn_55 ?_
            refine v_aload_n X 3 rfl dX5_turn_57 ?_
            refine v_callS X (c_X5_exchange _ _ hE _ _ c t hcl ht12t hnet (ro t) (co t) ⟨hr5t, hc5t⟩ (hrt) (hct)) k_X5_150 ⟨rfl, rfl, Nat.le_of_ble_eq_true rfl, Nat.le_of_ble_eq_true rfl⟩ (As := [.ref (eA (vE a) 2 c), .ref (eA (vE a) 2 t)]) (rest := []) rfl rfl (Nat.le_of_ble_eq_true rfl) dX5_turn_58 (fun r58 I58 L58 hp58 => ?_)
            obtain ⟨rfl, hB, e2⟩ := hp58
            have e2 := e2.symm
            subst e2
            have hF58 := hB.1
            refine v_st (st' := []) rfl ?_
            refine v_goto X (tgt := 80) dX5_turn_61 (by decide) ?_
            refine v_aload_n X 0 rfl dX5_turn_80 ?_
            refine v_aload X 4 rfl dX5_turn_81 ?_
            obtain ⟨f, hf2, hf1⟩ := hB.f
            refine v_callV X (c_X5_come _ _ hE _ _ c ((Fr.at hF58 (by simp) _).trans (hT.1)) hcl f hf1 hf2) k_X5_70 dl_0 (cef_0 _ _ _ _) rfl ⟨rfl, rfl, Nat.le_of_ble_eq_true rfl, Nat.le_of_ble_eq_true rfl⟩ (As := [.ref (eA (vE a) 2 c)]) (rest := []) rfl rfl (Nat.le_of_ble_eq_true rfl) dX5_turn_83 (fun r83 I83 L83 hp83 => ?_)
            obtain ⟨ho, e2⟩ := hp83
            have e2 := e2.symm
            subst e2
            have hres := hB.res (by omega) (by omega) (fun _ _ _ _ => Iff.rfl) hf2 hf1 ho
            rcases ho with ⟨-, rfl, -⟩ | ⟨-, rfl, -⟩
            · refine v_st (st' := [.int (-nI 8)]) rfl ?_
              exact v_iret X Y dX5_turn_86 (Or.inr ⟨t, htt, rfl, Or.inr ⟨n', hn2, rfl, Or.inr ⟨hcl, by
                    have e : n' = 0 := by omega
                    subst e
                    exact hres, rfl⟩⟩⟩)
            · refine v_st (st' := [.int (nI c)]) rfl ?_
              exact v_iret X Y dX5_turn_86 (Or.inr ⟨t, htt, rfl, Or.inr ⟨n', hn2, rfl, Or.inr ⟨hcl, by
                    have e : n' = 0 := by omega
                    subst e
                    exact hres, rfl⟩⟩⟩)
        · refine v_st (st' := [.null]) rfl ?_
          refine v_astoreN X [1, 2, 3, 4, 0] (lv' := [(0, .ref (eA (vE a) 0 0)), (1, .int (nI t)), (2, .int (nI n')), (3, .ref (eA (vE a) 2 t)), (4, .null)]) (by decide) rfl dX5_turn_37 ?_
          refine v_aloadN X 4 rfl dX5_turn_39 ?_
          refine v_ifnonnullN X dX5_turn_41 ?_
          refine v_aload_n X 0 rfl dX5_turn_44 ?_
          refine v_bipush X (v := (-8)) dX5_turn_45 (by decide) ?_
          refine v_callV X (c_X5_refused _ _ hE _ _ 8 (by decide) (by decide)) k_X5_58 dl_0 (cef_0 _ _ _ _) rfl ⟨rfl, rfl, Nat.le_of_ble_eq_true rfl, Nat.le_of_ble_eq_true rfl⟩ (As := [.int (-8)]) (rest := []) rfl rfl (Nat.le_of_ble_eq_true rfl) dX5_turn_47 (fun r47 I47 L47 hp47 => ?_)
          obtain ⟨rfl, e1, e2⟩ := hp47
          have e1 := e1.symm
          have e2 := e2.symm
          subst e1; subst e2
          refine v_st (st' := [.int (-8)]) rfl ?_
          exact v_iret X Y dX5_turn_50 (Or.inr ⟨t, htt, rfl, Or.inr ⟨n', hn2, rfl, Or.inl ⟨hfull, ⟨rfl, rfl⟩, rfl⟩⟩⟩)
      · refine v_aload_n X 0 rfl dX5_turn_26 ?_
        refine v_bipush X (v := (-7)) dX5_turn_27 (by decide) ?_
        refine v_callV X (c_X5_refused _ _ hE _ _ 7 (by decide) (by decide)) k_X5_58 dl_0 (cef_0 _ _ _ _) rfl ⟨rfl, rfl, Nat.le_of_ble_eq_true rfl, Nat.le_of_ble_eq_true rfl⟩ (As := [.int (-7)]) (rest := []) rfl rfl (Nat.le_of_ble_eq_true rfl) dX5_turn_29 (fun r29 I29 L29 hp29 => ?_)
        obtain ⟨rfl, e1, e2⟩ := hp29
        have e1 := e1.symm
        have e2 := e2.symm
        subst e1; subst e2
        refine v_st (st' := [.int (-7)]) rfl ?_
        exact v_iret X Y dX5_turn_32 (Or.inr ⟨t, htt, rfl, Or.inl ⟨fun q => h23 q.2, ⟨rfl, rfl⟩, rfl⟩⟩)
  · refine v_st (st' := [.null]) rfl ?_
    refine v_astore_nN X [1, 2, 3, 0] (lv' := [(0, .ref (eA (vE a) 0 0)), (1, .int x), (2, .int how), (3, .null)]) (by decide) rfl dX5_turn_5 ?_
    refine v_aload_nN X 3 rfl dX5_turn_6 ?_
    refine v_ifnonnullN X dX5_turn_7 ?_
    refine v_aload_n X 0 rfl dX5_turn_10 ?_
    refine v_bipush X (v := (-3)) dX5_turn_11 (by decide) ?_
    refine v_callV X (c_X5_refused _ _ hE _ _ 3 (by decide) (by decide)) k_X5_58 dl_0 (cef_0 _ _ _ _) rfl ⟨rfl, rfl, Nat.le_of_ble_eq_true rfl, Nat.le_of_ble_eq_true rfl⟩ (As := [.int (-3)]) (rest := []) rfl rfl (Nat.le_of_ble_eq_true rfl) dX5_turn_13 (fun r13 I13 L13 hp13 => ?_)
    obtain ⟨rfl, e1, e2⟩ := hp13
    have e1 := e1.symm
    have e2 := e2.symm
    subst e1; subst e2
    refine v_st (st' := [.int (-3)]) rfl ?_
    exact v_iret X Y dX5_turn_16 (Or.inl ⟨hnot, ⟨rfl, rfl⟩, rfl⟩)
