/-- the first low part of all, in the document's order -/
def flP (a : Nat → Nat → Int64) (b r c R C : Nat) : Prop := 1 ≤ R ∧ R < 2 ^ r ∧ 1 ≤ C ∧ C < 2 ^ c ∧ qc a b R C
def flB (R C R' C' : Nat) : Prop := pc5 R < pc5 R' ∨ (pc5 R = pc5 R' ∧ (R < R' ∨ (R = R' ∧ C ≤ C')))
def flRes (a : Nat → Nat → Int64) (b r c : Nat) (x : Int32) : Prop := (∃ R C, flP a b r c R C ∧ (∀ R' C', flP a b r c R' C' → flB R C R' C') ∧ x = nI (32 * R + C)) ∨ ((∀ R C, ¬ flP a b r c R C) ∧ x = -1)
theorem fl_end {a : Nat → Nat → Int64} {b r c n : Nat} (hr : r ≤ 5) (hc : c ≤ 5) (hn : min r c < n) (h : ∀ R C, pc5 R < n → ¬ flP a b r c R C) : ∀ R C, ¬ flP a b r c R C := fun R C q => by
  have h1 := pc5_lt r (by omega) R (by have := pow32 hr; have := q.2.1; omega) q.2.1
  have h2 := pc5_lt c (by omega) C (by have := pow32 hc; have := q.2.2.2.1; omega) q.2.2.2.1
  have e := q.2.2.2.2.1
  exact h R C (by omega) q
theorem mS_r0 (a : Nat → Nat → Int64) (s : Int32) (c : Nat) : sN c (fun C => mS a s 0 C) = 0 := sN_z (fun k _ => if_neg (fun q => absurd q.1 (by decide)))
theorem mS_c0 (a : Nat → Nat → Int64) (s : Int32) (R : Nat) : mS a s R 0 = 0 := if_neg (fun q => absurd q.2.1 (by decide))
theorem nI_ne_m1 : ∀ C, C < 2 ^ 31 → nI C ≠ (-1 : Int32) := fun C h e => by
  have h1 := nI_toInt h
  rw [e] at h1
  have h2 : ((-1 : Int32)).toInt = -1 := by decide
  omega
set_option maxHeartbeats 4000000 in
set_option maxRecDepth 100000 in
theorem c_X4_firstLow (l : Launch) (E : VE) (hE : EOk E) (I : TI) (L : TL) (t : Nat) (ht : t < 12) (r c : Nat) (hr : I 2 t 1 = nI r) (hc : I 2 t 2 = nI c) (hr5 : r ≤ 5) (hc5 : c ≤ 5) (b : Nat) (hb : b < 2) : Ct l E yX4_firstLow cX4_firstLow 6 (some .int) rm_X4_firstLow [.ref (eA E 12 0), .ref (eA E 2 t), .int (nI b)] I L (fun r9 I' L' => Fr [(14, 0)] I I' ∧ FL [(13, 0)] L L' ∧ ∃ x, r9 = some (.int x) ∧ flRes (ent I t) b r c x) := by
  refine ct_of (by decide +kernel) (Nat.le_of_ble_eq_true rfl) hE ?_
  intro a X Y hl hEE
  subst hl; subst hEE
  have hp := pow32 hc5
  have hpr := pow32 hr5
  show V a 0 [(0, .ref (eA (vE a) 12 0)), (1, .ref (eA (vE a) 2 t)), (2, .int (nI b))] [] I L
  refine v_iconst X (v := (nI 1)) dX4_firstLow_0 (by decide) ?_
  refine v_istore_n X [1, 2, 3, 0] (lv' := [(0, .ref (eA (vE a) 12 0)), (1, .ref (eA (vE a) 2 t)), (2, .int (nI b)), (3, .int (nI 1))]) (by decide) rfl dX4_firstLow_1 ?_
  have loop2 : ∀ (fu : Nat) (n : Nat) (I1 : TI) (L1 : TL), 6 - n < fu → (1 ≤ n) → (n ≤ 6) → (Fr [(14, 0)] I I1) → (FL [(13, 0)] L L1) → (∀ R C, pc5 R < n → ¬ flP (ent I t) b r c R C) → V a 2 [(0, .ref (eA (vE a) 12 0)), (1, .ref (eA (vE a) 2 t)), (2, .int (nI b)), (3, .int (nI n))] [] I1 L1 := by
    intro fu
    induction fu with
    | zero => intro n I1 L1 hm _ _ _ _ _; exact absurd hm (Nat.not_lt_zero _)
    | succ fu ih2 =>
      intro n I1 L1 hm2 hn hn6 hF hFL hv
      refine v_iload_n X 3 rfl dX4_firstLow_2 ?_
      refine v_aload_n X 1 rfl dX4_firstLow_3 ?_
      refine gf_X4_23 X ht dX4_firstLow_4 ?_
      refine v_eqi (y := (nI r)) ((Fr.at hF (by simp) _).trans (hr)) ?_
      refine v_aload_n X 1 rfl dX4_firstLow_7 ?_
      refine gf_X4_29 X ht dX4_firstLow_8 ?_
      refine v_eqi (y := (nI c)) ((Fr.at hF (by simp) _).trans (hc)) ?_
      refine v_min X mw_X4_32.1 mw_X4_32.2.1 mw_X4_32.2.2.1 mw_X4_32.2.2.2 (Nat.le_of_ble_eq_true rfl) (Nat.le_of_ble_eq_true rfl) dX4_firstLow_11 ?_
      refine v_eqi (y := (nI (min r c))) (min_n (by omega) (by omega)) ?_
      refine v_icmp_gt_n X (by omega) (by omega) dX4_firstLow_14 (tgt := 77) (by decide) (fun h14 => ?_) (fun h14 => ?_)
      · refine v_iconst X (v := (-1)) dX4_firstLow_77 (by decide) ?_
        exact v_iret X Y dX4_firstLow_78 (⟨hF, hFL, _, rfl, Or.inr ⟨fl_end hr5 hc5 h14 hv, rfl⟩⟩)
      · refine v_iconst X (v := (nI 1)) dX4_firstLow_17 (by decide) ?_
        refine v_istore X [1, 2, 3, 4, 0] (lv' := [(0, .ref (eA (vE a) 12 0)), (1, .ref (eA (vE a) 2 t)), (2, .int (nI b)), (3, .int (nI n)), (4, .int (nI 1))]) (by decide) rfl dX4_firstLow_18 ?_
        have loop20 : ∀ (fu : Nat) (R : Nat) (I1 : TI) (L1 : TL), 33 - R < fu → (1 ≤ R) → (R ≤ 2 ^ r) → (Fr [(14, 0)] I I1) → (FL [(13, 0)] L L1) → (∀ R' C', (pc5 R' < n ∨ (pc5 R' = n ∧ R' < R)) → ¬ flP (ent I t) b r c R' C') → V a 20 [(0, .ref (eA (vE a) 12 0)), (1, .ref (eA (vE a) 2 t)), (2, .int (nI b)), (3, .int (nI n)), (4, .int (nI R))] [] I1 L1 := by
          intro fu
          induction fu with
          | zero => intro R I1 L1 hm _ _ _ _ _; exact absurd hm (Nat.not_lt_zero _)
          | succ fu ih20 =>
            intro R I1 L1 hm20 hR1 hRp2 hF hFL hv
            refine v_iload X 4 rfl dX4_firstLow_20 ?_
            refine v_iconst X (v := (nI 1)) dX4_firstLow_22 (by decide) ?_
            refine v_aload_n X 1 rfl dX4_firstLow_23 ?_
            refine gf_X4_23 X ht dX4_firstLow_24 ?_
            refine v_eqi (y := (nI r)) ((Fr.at hF (by simp) _).trans (hr)) ?_
            refine v_ishl X dX4_firstLow_27 ?_
            refine v_eqi (y := (nI (2 ^ r))) (sh_one (by omega)) ?_
            refine v_icmp_ge_n X (by omega) (by omega) dX4_firstLow_28 (tgt := 71) (by decide) (fun h28 => ?_) (fun h28 => ?_)
            · refine v_iinc X [1, 2, 3, 0, 4] 3 (nI (n + 1)) (lv' := [(0, .ref (eA (vE a) 12 0)), (1, .ref (eA (vE a) 2 t)), (2, .int (nI b)), (3, .int (nI (n + 1))), (4, .int (nI R))]) rfl (nI_1 _) (by decide) rfl dX4_firstLow_71 ?_
              refine v_goto X (tgt := 2) dX4_firstLow_74 (by decide) ?_
              refine v_sub [0, 1, 2, 3] (lv' := [(0, .ref (eA (vE a) 12 0)), (1, .ref (eA (vE a) 2 t)), (2, .int (nI b)), (3, .int (nI (n + 1)))]) rfl ?_
              have hnew : ∀ R C, pc5 R < n + 1 → ¬ flP (ent I t) b r c R C := fun R C h q => hv R C (by have := q.2.1; omega) q
              exact ih2 (n + 1) I1 L1 (by omega) (by omega) (by omega) hF hFL hnew
            · have hRr : R < 2 ^ r := by omega
              have hRp := pc5_le R
              refine v_iload X 4 rfl dX4_firstLow_31 ?_
              refine v_callS X (c_J6_bitCount_0f7a4 _ _ hE _ _ R (by omega)) k_X4_38 ⟨rfl, rfl, Nat.le_of_ble_eq_true rfl, Nat.le_of_ble_eq_true rfl⟩ (As := [.int (nI R)]) (rest := []) rfl rfl (Nat.le_of_ble_eq_true rfl) dX4_firstLow_33 (fun r33 I33 L33 hp33 => ?_)
              obtain ⟨rfl, e1, e2⟩ := hp33
              have e1 := e1.symm
              have e2 := e2.symm
              subst e1; subst e2
              refine v_st (st' := [.int (nI (pc5 R))]) rfl ?_
              refine v_iload_n X 3 rfl dX4_firstLow_36 ?_
              refine v_icmp_ne_n X (by omega) (by omega) dX4_firstLow_37 (tgt := 65) (by decide) (fun h37 => ?_) (fun h37 => ?_)
              · refine v_iinc X [1, 2, 3, 4, 0] 4 (nI (R + 1)) (lv' := [(0, .ref (eA (vE a) 12 0)), (1, .ref (eA (vE a) 2 t)), (2, .int (nI b)), (3, .int (nI n)), (4, .int (nI (R + 1)))]) rfl (nI_1 _) (by decide) rfl dX4_firstLow_65 ?_
                refine v_goto X (tgt := 20) dX4_firstLow_68 (by decide) ?_
                have hnew : ∀ R' C', (pc5 R' < n ∨ (pc5 R' = n ∧ R' < R + 1)) → ¬ flP (ent I t) b r c R' C' := fun R' C' h q => by
                  refine hv R' C' ?_ q
                  rcases h with h | ⟨h, h2⟩
                  · exact Or.inl h
                  · rcases Nat.lt_or_ge R' R with z | z
                    · exact Or.inr ⟨h, z⟩
                    · have e : R' = R := by omega
                      rw [e] at h
                      exact absurd h h37
                exact ih20 (R + 1) I1 L1 (by omega) (by omega) (by omega) hF hFL hnew
              · refine v_aload_n X 0 rfl dX4_firstLow_40 ?_
                refine v_aload_n X 1 rfl dX4_firstLow_41 ?_
                refine v_iload X 4 rfl dX4_firstLow_42 ?_
                refine v_iload_n X 2 rfl dX4_firstLow_44 ?_
                refine v_callV X (c_X4_firstLowColumns _ _ hE _ _ t ht r c ((Fr.at hF (by simp) _).trans (hr)) ((Fr.at hF (by simp) _).trans (hc)) hr5 hc5 R hRr b hb) k_X4_44 dl_12 (cef_12 _ _ _ _) rfl ⟨rfl, rfl, Nat.le_of_ble_eq_true rfl, Nat.le_of_ble_eq_true rfl⟩ (As := [.ref (eA (vE a) 2 t), .int (nI R), .int (nI b)]) (rest := []) rfl rfl (Nat.le_of_ble_eq_true rfl) dX4_firstLow_45 (fun r45 I45 L45 hp45 => ?_)
                obtain ⟨hF45, hL45, ho45⟩ := hp45
                have he45 : ent I1 t = ent I t := ent_fr hF (by simp)
                rw [he45] at ho45
                rcases ho45 with ⟨C, hC1, hCc, hq, hmin, rfl⟩ | ⟨hno, rfl⟩
                · refine v_st (st' := [.int (nI C)]) rfl ?_
                  refine v_istore X [1, 2, 3, 4, 5, 0] (lv' := [(0, .ref (eA (vE a) 12 0)), (1, .ref (eA (vE a) 2 t)), (2, .int (nI b)), (3, .int (nI n)), (4, .int (nI R)), (5, .int (nI C))]) (by decide) rfl dX4_firstLow_48 ?_
                  refine v_iload X 5 rfl dX4_firstLow_50 ?_
                  refine v_iconst X (v := (-1)) dX4_firstLow_52 (by decide) ?_
                  refine v_icmp_eq X dX4_firstLow_53 (tgt := 65) (by decide) (fun h53 => ?_) (fun h53 => ?_)
                  · exact absurd h53 (nI_ne_m1 C (by omega))
                  · refine v_bipush X (v := (nI 32)) dX4_firstLow_56 (by decide) ?_
                    refine v_iload X 4 rfl dX4_firstLow_58 ?_
                    refine v_imul X dX4_firstLow_60 ?_
                    refine v_eqi (y := (nI (32 * R))) (pk_mul _ _) ?_
                    refine v_iload X 5 rfl dX4_firstLow_61 ?_
                    refine v_iadd X dX4_firstLow_63 ?_
                    refine v_eqi (y := (nI ((32 * R) + C))) (nI_add _ _) ?_
                    exact v_iret X Y dX4_firstLow_64 (⟨hF.tr hF45, hFL.tr hL45, _, rfl, Or.inl ⟨R, C, ⟨hR1, hRr, hC1, hCc, hq⟩, fun R' C' q => by
                            rcases Nat.lt_trichotomy (pc5 R') (pc5 R) with z | z | z
                            · exact absurd q (hv R' C' (Or.inl (by omega)))
                            · refine Or.inr ⟨z.symm, ?_⟩
                              rcases Nat.lt_trichotomy R' R with y | y | y
                              · exact absurd q (hv R' C' (Or.inr ⟨by omega, y⟩))
                              · subst y
                                refine Or.inr ⟨rfl, ?_⟩
                                rcases Nat.lt_or_ge C' C with x | x
                                · exact absurd q.2.2.2.2 (hmin C' q.2.2.1 x)
                                · exact x
                              · exact Or.inl y
                            · exact Or.inl z, rfl⟩⟩)
                · refine v_st (st' := [.int (-1)]) rfl ?_
                  refine v_istore X [1, 2, 3, 4, 5, 0] (lv' := [(0, .ref (eA (vE a) 12 0)), (1, .ref (eA (vE a) 2 t)), (2, .int (nI b)), (3, .int (nI n)), (4, .int (nI R)), (5, .int (-1))]) (by decide) rfl dX4_firstLow_48 ?_
                  refine v_iload X 5 rfl dX4_firstLow_50 ?_
                  refine v_iconst X (v := (-1)) dX4_firstLow_52 (by decide) ?_
                  refine v_icmp_eq X dX4_firstLow_53 (tgt := 65) (by decide) (fun h53 => ?_) (fun h53 => ?_)
                  · refine v_iinc X [1, 2, 3, 4, 0, 5] 4 (nI (R + 1)) (lv' := [(0, .ref (eA (vE a) 12 0)), (1, .ref (eA (vE a) 2 t)), (2, .int (nI b)), (3, .int (nI n)), (4, .int (nI (R + 1))), (5, .int (-1))]) rfl (nI_1 _) (by decide) rfl dX4_firstLow_65 ?_
                    refine v_goto X (tgt := 20) dX4_firstLow_68 (by decide) ?_
                    refine v_sub [0, 1, 2, 3, 4] (lv' := [(0, .ref (eA (vE a) 12 0)), (1, .ref (eA (vE a) 2 t)), (2, .int (nI b)), (3, .int (nI n)), (4, .int (nI (R + 1)))]) rfl ?_
                    have hnew : ∀ R' C', (pc5 R' < n ∨ (pc5 R' = n ∧ R' < R + 1)) → ¬ flP (ent I t) b r c R' C' := fun R' C' h q => by
                      rcases h with h | ⟨h, h2⟩
                      · exact hv R' C' (Or.inl h) q
                      · rcases Nat.lt_or_ge R' R with z | z
                        · exact hv R' C' (Or.inr ⟨h, z⟩) q
                        · have e : R' = R := by omega
                          subst e
                          exact hno C' q.2.2.1 q.2.2.2.1 q.2.2.2.2
                    exact ih20 (R + 1) I45 L45 (by omega) (by omega) (by omega) (hF.tr hF45) (hFL.tr hL45) hnew
                  · exact absurd rfl h53
        exact loop20 _ 1 I1 L1 (Nat.lt_succ_self _) (by decide) Nat.one_le_two_pow hF hFL (fun R' C' h q => by rcases h with h | ⟨h, h2⟩ <;> first | exact hv R' C' h q | exact absurd q.1 (by omega))
  exact loop2 _ 1 I L (Nat.lt_succ_self _) (by decide) (by decide) Fr.rf FL.rf (fun R C h q => absurd (pc5_pos R (by have := q.2.1; omega) q.1) (by omega))
set_option maxHeartbeats 4000000 in
set_option maxRecDepth 100000 in
theorem c_X4_manyOf (l : Launch) (E : VE) (hE : EOk E) (I : TI) (L : TL) (t : Nat) (ht : t < 12) (r c : Nat) (hr : I 2 t 1 = nI r) (hc : I 2 t 2 = nI c) (hr5 : r ≤ 5) (hc5 : c ≤ 5) (s : Int32) : Ct l E yX4_manyOf cX4_manyOf 6 (some .int) rm_X4_manyOf [.ref (eA E 12 0), .ref (eA E 2 t), .int s] I L (fun r9 I' L' => Fr [(14, 0)] I I' ∧ FL [(13, 0)] L L' ∧ r9 = some (.int (nI (manyS (ent I t) s r c)))) := by
  refine ct_of (by decide +kernel) (Nat.le_of_ble_eq_true rfl) hE ?_
  intro a X Y hl hEE
  subst hl; subst hEE
  have hp := pow32 hc5
  have hpr := pow32 hr5
  show V a 0 [(0, .ref (eA (vE a) 12 0)), (1, .ref (eA (vE a) 2 t)), (2, .int s)] [] I L
  refine v_iconst X (v := (nI 0)) dX4_manyOf_0 (by decide) ?_
  refine v_istore_n X [1, 2, 3, 0] (lv' := [(0, .ref (eA (vE a) 12 0)), (1, .ref (eA (vE a) 2 t)), (2, .int s), (3, .int (nI 0))]) (by decide) rfl dX4_manyOf_1 ?_
  refine v_iconst X (v := (nI 1)) dX4_manyOf_2 (by decide) ?_
  refine v_istore X [1, 2, 3, 4, 0] (lv' := [(0, .ref (eA (vE a) 12 0)), (1, .ref (eA (vE a) 2 t)), (2, .int s), (3, .int (nI 0)), (4, .int (nI 1))]) (by decide) rfl dX4_manyOf_3 ?_
  have loop5 : ∀ (fu : Nat) (R : Nat) (k : Nat) (I1 : TI) (L1 : TL), 33 - R < fu → (1 ≤ R) → (R ≤ 2 ^ r) → (Fr [(14, 0)] I I1) → (FL [(13, 0)] L L1) → (k = sN R (fun R => sN (2 ^ c) (fun C => mS (ent I t) s R C))) → V a 5 [(0, .ref (eA (vE a) 12 0)), (1, .ref (eA (vE a) 2 t)), (2, .int s), (3, .int (nI k)), (4, .int (nI R))] [] I1 L1 := by
    intro fu
    induction fu with
    | zero => intro R k I1 L1 hm _ _ _ _ _; exact absurd hm (Nat.not_lt_zero _)
    | succ fu ih5 =>
      intro R k I1 L1 hm5 hR1 hRp2 hF hFL hk
      refine v_iload X 4 rfl dX4_manyOf_5 ?_
      refine v_iconst X (v := (nI 1)) dX4_manyOf_7 (by decide) ?_
      refine v_aload_n X 1 rfl dX4_manyOf_8 ?_
      refine gf_X4_23 X ht dX4_manyOf_9 ?_
      refine v_eqi (y := (nI r)) ((Fr.at hF (by simp) _).trans (hr)) ?_
      refine v_ishl X dX4_manyOf_12 ?_
      refine v_eqi (y := (nI (2 ^ r))) (sh_one (by omega)) ?_
      refine v_icmp_ge_n X (by omega) (by omega) dX4_manyOf_13 (tgt := 76) (by decide) (fun h13 => ?_) (fun h13 => ?_)
      · refine v_iload_n X 3 rfl dX4_manyOf_76 ?_
        exact v_iret X Y dX4_manyOf_77 (⟨hF, hFL, by rw [hk, show R = 2 ^ r by omega]; rfl⟩)
      · refine v_aload_n X 0 rfl dX4_manyOf_16 ?_
        refine v_aload_n X 1 rfl dX4_manyOf_17 ?_
        have hRr : R < 2 ^ r := by omega
        refine v_iload X 4 rfl dX4_manyOf_18 ?_
        refine v_callV X (c_X4_findAll _ _ hE _ _ t ht r c ((Fr.at hF (by simp) _).trans (hr)) ((Fr.at hF (by simp) _).trans (hc)) hr5 hc5 R (hRr)) k_X4_19 dl_12 (cef_12 _ _ _ _) rfl ⟨rfl, rfl, Nat.le_of_ble_eq_true rfl, Nat.le_of_ble_eq_true rfl⟩ (As := [.ref (eA (vE a) 2 t), .int (nI R)]) (rest := []) rfl rfl (Nat.le_of_ble_eq_true rfl) dX4_manyOf_20 (fun r20 I20 L20 hp20 => ?_)
        obtain ⟨rfl, hF20, hL20, hf20⟩ := hp20
        refine v_st (st' := []) rfl ?_
        refine v_iconst X (v := (nI 1)) dX4_manyOf_23 (by decide) ?_
        refine v_istore X [1, 2, 3, 4, 5, 0] (lv' := [(0, .ref (eA (vE a) 12 0)), (1, .ref (eA (vE a) 2 t)), (2, .int s), (3, .int (nI k)), (4, .int (nI R)), (5, .int (nI 1))]) (by decide) rfl dX4_manyOf_24 ?_
        have loop26 : ∀ (fu : Nat) (C : Nat) (j : Nat), 33 - C < fu → (1 ≤ C) → (C ≤ 2 ^ c) → (j = k + sN C (fun C => mS (ent I t) s R C)) → V a 26 [(0, .ref (eA (vE a) 12 0)), (1, .ref (eA (vE a) 2 t)), (2, .int s), (3, .int (nI j)), (4, .int (nI R)), (5, .int (nI C))] [] I20 L20 := by
          intro fu
          induction fu with
          | zero => intro C j hm _ _ _; exact absurd hm (Nat.not_lt_zero _)
          | succ fu ih26 =>
            intro C j hm26 hC1 hCp hj
            refine v_iload X 5 rfl dX4_manyOf_26 ?_
            refine v_iconst X (v := (nI 1)) dX4_manyOf_28 (by decide) ?_
            refine v_aload_n X 1 rfl dX4_manyOf_29 ?_
            refine gf_X4_29 X ht dX4_manyOf_30 ?_
            refine v_eqi (y := (nI c)) ((Fr.at hF20 (by simp) _).trans ((Fr.at hF (by simp) _).trans (hc))) ?_
            refine v_ishl X dX4_manyOf_33 ?_
            refine v_eqi (y := (nI (2 ^ c))) (sh_one (by omega)) ?_
            refine v_icmp_ge_n X (by omega) (by omega) dX4_manyOf_34 (tgt := 70) (by decide) (fun h34 => ?_) (fun h34 => ?_)
            · refine v_iinc X [1, 2, 3, 4, 0, 5] 4 (nI (R + 1)) (lv' := [(0, .ref (eA (vE a) 12 0)), (1, .ref (eA (vE a) 2 t)), (2, .int s), (3, .int (nI j)), (4, .int (nI (R + 1))), (5, .int (nI C))]) rfl (nI_1 _) (by decide) rfl dX4_manyOf_70 ?_
              refine v_goto X (tgt := 5) dX4_manyOf_73 (by decide) ?_
              refine v_sub [0, 1, 2, 3, 4] (lv' := [(0, .ref (eA (vE a) 12 0)), (1, .ref (eA (vE a) 2 t)), (2, .int s), (3, .int (nI j)), (4, .int (nI (R + 1)))]) rfl ?_
              exact ih5 (R + 1) j I20 L20 (by omega) (by omega) (by omega) (hF.tr hF20) (hFL.tr hL20) (by rw [hj, show C = 2 ^ c by omega, hk]; rfl)
            · have hCc : C < 2 ^ c := by omega
              refine v_iload X 4 rfl dX4_manyOf_37 ?_
              refine v_iload X 5 rfl dX4_manyOf_39 ?_
              refine v_callN X (c_X5_areAsMany _ _ hE _ _ R C (by omega) (by omega)) k_X4_48 ⟨rfl, rfl, Nat.le_of_ble_eq_true rfl, Nat.le_of_ble_eq_true rfl⟩ (As := [.int (nI R), .int (nI C)]) (rest := []) rfl rfl (Nat.le_of_ble_eq_true rfl) dX4_manyOf_41 (fun r41 I41 L41 hp41 => ?_)
              obtain ⟨rfl, e1, e2⟩ := hp41
              have e1 := e1.symm
              have e2 := e2.symm
              subst e1; subst e2
              refine v_st (st' := [.int (bI (pc5 R = pc5 C))]) rfl ?_
              refine v_ifb_eq X dX4_manyOf_44 (tgt := 64) (by decide) (fun h44 => ?_) (fun h44 => ?_)
              · refine v_iinc X [1, 2, 3, 4, 5, 0] 5 (nI (C + 1)) (lv' := [(0, .ref (eA (vE a) 12 0)), (1, .ref (eA (vE a) 2 t)), (2, .int s), (3, .int (nI j)), (4, .int (nI R)), (5, .int (nI (C + 1)))]) rfl (nI_1 _) (by decide) rfl dX4_manyOf_64 ?_
                refine v_goto X (tgt := 26) dX4_manyOf_67 (by decide) ?_
                have hone : mS (ent I t) s R C = 0 := if_neg (fun q => h44 q.2.2.1)
                exact ih26 (C + 1) j (by omega) (by omega) (by omega) (by rw [sN_v (f := fun C => mS (ent I t) s R C) hone, hj]; rfl)
              · refine v_aload_n X 0 rfl dX4_manyOf_47 ?_
                refine gf_X4_9 X dX4_manyOf_48 ?_
                refine v_iload X 5 rfl dX4_manyOf_51 ?_
                refine v_lald_n X dl_13 (fun _ _ => rfl) (n := 32) (by omega) (by decide) dX4_manyOf_53 ?_
                refine v_callN X (c_X5_signOf _ _ hE _ _ (L20 13 0 C)) k_X4_52 ⟨rfl, rfl, Nat.le_of_ble_eq_true rfl, Nat.le_of_ble_eq_true rfl⟩ (As := [.long (L20 13 0 C)]) (rest := []) rfl rfl (Nat.le_of_ble_eq_true rfl) dX4_manyOf_54 (fun r54 I54 L54 hp54 => ?_)
                obtain ⟨rfl, e1, e2⟩ := hp54
                have e1 := e1.symm
                have e2 := e2.symm
                subst e1; subst e2
                refine v_st (st' := [.int (sgn (L20 13 0 C))]) rfl ?_
                have hval : L20 13 0 C = wrt (ent I t) R C := by
                  rw [hf20 C hCc (by omega), ← h44, ent_fr hF (by simp)]
                  rfl
                refine v_iload_n X 2 rfl dX4_manyOf_57 ?_
                refine v_icmp_ne X dX4_manyOf_58 (tgt := 64) (by decide) (fun h58 => ?_) (fun h58 => ?_)
                · refine v_iinc X [1, 2, 3, 4, 5, 0] 5 (nI (C + 1)) (lv' := [(0, .ref (eA (vE a) 12 0)), (1, .ref (eA (vE a) 2 t)), (2, .int s), (3, .int (nI j)), (4, .int (nI R)), (5, .int (nI (C + 1)))]) rfl (nI_1 _) (by decide) rfl dX4_manyOf_64 ?_
                  refine v_goto X (tgt := 26) dX4_manyOf_67 (by decide) ?_
                  have hone : mS (ent I t) s R C = 0 := if_neg (fun q => h58 (by rw [hval]; exact q.2.2.2))
                  exact ih26 (C + 1) j (by omega) (by omega) (by omega) (by rw [sN_v (f := fun C => mS (ent I t) s R C) hone, hj]; rfl)
                · refine v_iinc X [1, 2, 3, 0, 4, 5] 3 (nI (j + 1)) (lv' := [(0, .ref (eA (vE a) 12 0)), (1, .ref (eA (vE a) 2 t)), (2, .int s), (3, .int (nI (j + 1))), (4, .int (nI R)), (5, .int (nI C))]) rfl (nI_1 _) (by decide) rfl dX4_manyOf_61 ?_
                  refine v_iinc X [1, 2, 3, 4, 5, 0] 5 (nI (C + 1)) (lv' := [(0, .ref (eA (vE a) 12 0)), (1, .ref (eA (vE a) 2 t)), (2, .int s), (3, .int (nI (j + 1))), (4, .int (nI R)), (5, .int (nI (C + 1)))]) rfl (nI_1 _) (by decide) rfl dX4_manyOf_64 ?_
                  refine v_goto X (tgt := 26) dX4_manyOf_67 (by decide) ?_
                  have hone : mS (ent I t) s R C = 1 := if_pos ⟨hR1, hC1, h44, by rw [← hval]; exact h58⟩
                  exact ih26 (C + 1) (j + 1) (by omega) (by omega) (by omega) (by rw [sN_v (f := fun C => mS (ent I t) s R C) hone, hj]; rfl)
        exact loop26 _ 1 k (Nat.lt_succ_self _) (by decide) Nat.one_le_two_pow (by rw [sN_v (f := fun C => mS (ent I t) s R C) (mS_c0 _ _ _)]; rfl)
  exact loop5 _ 1 0 I L (Nat.lt_succ_self _) (by decide) Nat.one_le_two_pow Fr.rf FL.rf (by rw [sN_v (f := fun R => sN (2 ^ c) (fun C => mS (ent I t) s R C)) (mS_r0 _ _ _)]; rfl)
theorem st_lt : ∀ n, n < 6 → ∀ i, i < 6 → (2 ^ n - 1) * 2 ^ i < 2 ^ 31 := by decide +kernel
set_option maxHeartbeats 4000000 in
set_option maxRecDepth 100000 in
theorem c_X4_stretch (l : Launch) (E : VE) (hE : EOk E) (I : TI) (L : TL) (i n : Nat) (hi : i < 6) (hn : n < 6) : Ct l E yX4_stretch cX4_stretch 2 (some .int) rm_X4_stretch [.int (nI i), .int (nI n)] I L (fun r9 I' L' => r9 = some (.int (nI (spn i n))) ∧ I' = I ∧ L' = L) := by
  refine ct_of (by decide +kernel) (Nat.le_of_ble_eq_true rfl) hE ?_
  intro a X Y hl hEE
  subst hl; subst hEE
  have hpn : 1 ≤ 2 ^ n := Nat.one_le_two_pow
  show V a 0 [(0, .int (nI i)), (1, .int (nI n))] [] I L
  refine v_iconst X (v := (nI 1)) dX4_stretch_0 (by decide) ?_
  refine v_iload_n X 1 rfl dX4_stretch_1 ?_
  refine v_ishl X dX4_stretch_2 ?_
  refine v_eqi (y := (nI (2 ^ n))) (sh_one (by omega)) ?_
  refine v_iconst X (v := (nI 1)) dX4_stretch_3 (by decide) ?_
  refine v_isub X dX4_stretch_4 ?_
  refine v_eqi (y := (nI ((2 ^ n) - 1))) (pk_sub (by omega)) ?_
  refine v_iload_n X 0 rfl dX4_stretch_5 ?_
  refine v_ishl X dX4_stretch_6 ?_
  refine v_eqi (y := (nI (((2 ^ n) - 1) * 2 ^ i))) (sh_l (by omega) (st_lt n hn i hi)) ?_
  exact v_iret X Y dX4_stretch_7 (⟨rfl, rfl, rfl⟩)
theorem lkS_0 (a : Nat → Nat → Int64) (b r c : Nat) : sN (r + 1 - 0) (fun i => sN (c + 1 - 0) (fun j => lkS a b 0 i j)) = 0 := sN_z (fun _ _ => sN_z (fun _ _ => if_neg (fun q => absurd q.1 (by decide))))
set_option maxHeartbeats 4000000 in
set_option maxRecDepth 100000 in
theorem c_X4_looks (l : Launch) (E : VE) (hE : EOk E) (I : TI) (L : TL) (t : Nat) (ht : t < 12) (r c : Nat) (hr : I 2 t 1 = nI r) (hc : I 2 t 2 = nI c) (hr5 : r ≤ 5) (hc5 : c ≤ 5) (b : Nat) (hb : b < 2) : Ct l E yX4_looks cX4_looks 8 (some .int) rm_X4_looks [.ref (eA E 12 0), .ref (eA E 2 t), .int (nI b)] I L (fun r9 I' L' => Fr [(14, 0)] I I' ∧ FL [(13, 0)] L L' ∧ r9 = some (.int (nI (looksS (ent I t) b r c)))) := by
  refine ct_of (by decide +kernel) (Nat.le_of_ble_eq_true rfl) hE ?_
  intro a X Y hl hEE
  subst hl; subst hEE
  have hp := pow32 hc5
  have hpr := pow32 hr5
  show V a 0 [(0, .ref (eA (vE a) 12 0)), (1, .ref (eA (vE a) 2 t)), (2, .int (nI b))] [] I L
  refine v_iconst X (v := (nI 0)) dX4_looks_0 (by decide) ?_
  refine v_istore_n X [1, 2, 3, 0] (lv' := [(0, .ref (eA (vE a) 12 0)), (1, .ref (eA (vE a) 2 t)), (2, .int (nI b)), (3, .int (nI 0))]) (by decide) rfl dX4_looks_1 ?_
  refine v_iconst X (v := (nI 1)) dX4_looks_2 (by decide) ?_
  refine v_istore X [1, 2, 3, 4, 0] (lv' := [(0, .ref (eA (vE a) 12 0)), (1, .ref (eA (vE a) 2 t)), (2, .int (nI b)), (3, .int (nI 0)), (4, .int (nI 1))]) (by decide) rfl dX4_looks_3 ?_
  have loop5 : ∀ (fu : Nat) (n : Nat) (k : Nat) (I1 : TI) (L1 : TL), 6 - n < fu → (1 ≤ n) → (n ≤ min r c + 1) → (Fr [(14, 0)] I I1) → (FL [(13, 0)] L L1) → (k = sN n (fun n => sN (r + 1 - n) (fun i => sN (c + 1 - n) (fun j => lkS (ent I t) b n i j)))) → V a 5 [(0, .ref (eA (vE a) 12 0)), (1, .ref (eA (vE a) 2 t)), (2, .int (nI b)), (3, .int (nI k)), (4, .int (nI n))] [] I1 L1 := by
    intro fu
    induction fu with
    | zero => intro n k I1 L1 hm _ _ _ _ _; exact absurd hm (Nat.not_lt_zero _)
    | succ fu ih5 =>
      intro n k I1 L1 hm5 hn hnm hF hFL hk
      refine v_iload X 4 rfl dX4_looks_5 ?_
      refine v_aload_n X 1 rfl dX4_looks_7 ?_
      refine gf_X4_23 X ht dX4_looks_8 ?_
      refine v_eqi (y := (nI r)) ((Fr.at hF (by simp) _).trans (hr)) ?_
      refine v_aload_n X 1 rfl dX4_looks_11 ?_
      refine gf_X4_29 X ht dX4_looks_12 ?_
      refine v_eqi (y := (nI c)) ((Fr.at hF (by simp) _).trans (hc)) ?_
      refine v_min X mw_X4_32.1 mw_X4_32.2.1 mw_X4_32.2.2.1 mw_X4_32.2.2.2 (Nat.le_of_ble_eq_true rfl) (Nat.le_of_ble_eq_true rfl) dX4_looks_15 ?_
      refine v_eqi (y := (nI (min r c))) (min_n (by omega) (by omega)) ?_
      refine v_icmp_gt_n X (by omega) (by omega) dX4_looks_18 (tgt := 127) (by decide) (fun h18 => ?_) (fun h18 => ?_)
      · refine v_iload_n X 3 rfl dX4_looks_127 ?_
        exact v_iret X Y dX4_looks_128 (⟨hF, hFL, by rw [hk, show n = min r c + 1 by omega]; rfl⟩)
      · refine v_iconst X (v := (nI 0)) dX4_looks_21 (by decide) ?_
        refine v_istore X [1, 2, 3, 4, 5, 0] (lv' := [(0, .ref (eA (vE a) 12 0)), (1, .ref (eA (vE a) 2 t)), (2, .int (nI b)), (3, .int (nI k)), (4, .int (nI n)), (5, .int (nI 0))]) (by decide) rfl dX4_looks_22 ?_
        have loop24 : ∀ (fu : Nat) (i : Nat) (k1 : Nat) (I1 : TI) (L1 : TL), 6 - i < fu → (i ≤ r + 1 - n) → (Fr [(14, 0)] I I1) → (FL [(13, 0)] L L1) → (k1 = k + sN i (fun i => sN (c + 1 - n) (fun j => lkS (ent I t) b n i j))) → V a 24 [(0, .ref (eA (vE a) 12 0)), (1, .ref (eA (vE a) 2 t)), (2, .int (nI b)), (3, .int (nI k1)), (4, .int (nI n)), (5, .int (nI i))] [] I1 L1 := by
          intro fu
          induction fu with
          | zero => intro i k1 I1 L1 hm _ _ _ _; exact absurd hm (Nat.not_lt_zero _)
          | succ fu ih24 =>
            intro i k1 I1 L1 hm24 hi hF hFL hki
            refine v_iload X 5 rfl dX4_looks_24 ?_
            refine v_iload X 4 rfl dX4_looks_26 ?_
            refine v_iadd X dX4_looks_28 ?_
            refine v_eqi (y := (nI (i + n))) (nI_add _ _) ?_
            refine v_aload_n X 1 rfl dX4_looks_29 ?_
            refine gf_X4_23 X ht dX4_looks_30 ?_
            refine v_eqi (y := (nI r)) ((Fr.at hF (by simp) _).trans (hr)) ?_
            refine v_icmp_gt_n X (by omega) (by omega) dX4_looks_33 (tgt := 121) (by decide) (fun h33 => ?_) (fun h33 => ?_)
            · refine v_iinc X [1, 2, 3, 4, 0, 5] 4 (nI (n + 1)) (lv' := [(0, .ref (eA (vE a) 12 0)), (1, .ref (eA (vE a) 2 t)), (2, .int (nI b)), (3, .int (nI k1)), (4, .int (nI (n + 1))), (5, .int (nI i))]) rfl (nI_1 _) (by decide) rfl dX4_looks_121 ?_
              refine v_goto X (tgt := 5) dX4_looks_124 (by decide) ?_
              refine v_sub [0, 1, 2, 3, 4] (lv' := [(0, .ref (eA (vE a) 12 0)), (1, .ref (eA (vE a) 2 t)), (2, .int (nI b)), (3, .int (nI k1)), (4, .int (nI (n + 1)))]) rfl ?_
              exact ih5 (n + 1) k1 I1 L1 (by omega) (by omega) (by omega) hF hFL (by rw [hki, show i = r + 1 - n by omega, hk]; rfl)
            · refine v_aload_n X 0 rfl dX4_looks_36 ?_
              refine v_aload_n X 1 rfl dX4_looks_37 ?_
              refine v_iload X 5 rfl dX4_looks_38 ?_
              refine v_iload X 4 rfl dX4_looks_40 ?_
              refine v_callS X (c_X4_stretch _ _ hE _ _ i n (by omega) (by omega)) k_X4_56 ⟨rfl, rfl, Nat.le_of_ble_eq_true rfl, Nat.le_of_ble_eq_true rfl⟩ (As := [.int (nI i), .int (nI n)]) (rest := [.ref (eA (vE a) 2 t), .ref (eA (vE a) 12 0)]) rfl rfl (Nat.le_of_ble_eq_true rfl) dX4_looks_42 (fun r42 I42 L42 hp42 => ?_)
              obtain ⟨rfl, e1, e2⟩ := hp42
              have e1 := e1.symm
              have e2 := e2.symm
              subst e1; subst e2
              refine v_st (st' := [.int (nI (spn i n)), .ref (eA (vE a) 2 t), .ref (eA (vE a) 12 0)]) rfl ?_
              have hso := spn_ok hr5 hn (show i + n ≤ r by omega)
              refine v_callV X (c_X4_findAll _ _ hE _ _ t ht r c ((Fr.at hF (by simp) _).trans (hr)) ((Fr.at hF (by simp) _).trans (hc)) hr5 hc5 (spn i n) (hso.1)) k_X4_19 dl_12 (cef_12 _ _ _ _) rfl ⟨rfl, rfl, Nat.le_of_ble_eq_true rfl, Nat.le_of_ble_eq_true rfl⟩ (As := [.ref (eA (vE a) 2 t), .int (nI (spn i n))]) (rest := []) rfl rfl (Nat.le_of_ble_eq_true rfl) dX4_looks_45 (fun r45 I45 L45 hp45 => ?_)
              obtain ⟨rfl, hF45, hL45, hf45⟩ := hp45
              refine v_st (st' := []) rfl ?_
              refine v_iconst X (v := (nI 0)) dX4_looks_48 (by decide) ?_
              refine v_istore X [1, 2, 3, 4, 5, 6, 0] (lv' := [(0, .ref (eA (vE a) 12 0)), (1, .ref (eA (vE a) 2 t)), (2, .int (nI b)), (3, .int (nI k1)), (4, .int (nI n)), (5, .int (nI i)), (6, .int (nI 0))]) (by decide) rfl dX4_looks_49 ?_
              have loop51 : ∀ (fu : Nat) (j : Nat) (k2 : Nat), 6 - j < fu → (j ≤ c + 1 - n) → (k2 = k1 + sN j (fun j => lkS (ent I t) b n i j)) → V a 51 [(0, .ref (eA (vE a) 12 0)), (1, .ref (eA (vE a) 2 t)), (2, .int (nI b)), (3, .int (nI k2)), (4, .int (nI n)), (5, .int (nI i)), (6, .int (nI j))] [] I45 L45 := by
                intro fu
                induction fu with
                | zero => intro j k2 hm _ _; exact absurd hm (Nat.not_lt_zero _)
                | succ fu ih51 =>
                  intro j k2 hm51 hj hkj
                  refine v_iload X 6 rfl dX4_looks_51 ?_
                  refine v_iload X 4 rfl dX4_looks_53 ?_
                  refine v_iadd X dX4_looks_55 ?_
                  refine v_eqi (y := (nI (j + n))) (nI_add _ _) ?_
                  refine v_aload_n X 1 rfl dX4_looks_56 ?_
                  refine gf_X4_29 X ht dX4_looks_57 ?_
                  refine v_eqi (y := (nI c)) ((Fr.at hF45 (by simp) _).trans ((Fr.at hF (by simp) _).trans (hc))) ?_
                  refine v_icmp_gt_n X (by omega) (by omega) dX4_looks_60 (tgt := 115) (by decide) (fun h60 => ?_) (fun h60 => ?_)
                  · refine v_iinc X [1, 2, 3, 4, 5, 0, 6] 5 (nI (i + 1)) (lv' := [(0, .ref (eA (vE a) 12 0)), (1, .ref (eA (vE a) 2 t)), (2, .int (nI b)), (3, .int (nI k2)), (4, .int (nI n)), (5, .int (nI (i + 1))), (6, .int (nI j))]) rfl (nI_1 _) (by decide) rfl dX4_looks_115 ?_
                    refine v_goto X (tgt := 24) dX4_looks_118 (by decide) ?_
                    refine v_sub [0, 1, 2, 3, 4, 5] (lv' := [(0, .ref (eA (vE a) 12 0)), (1, .ref (eA (vE a) 2 t)), (2, .int (nI b)), (3, .int (nI k2)), (4, .int (nI n)), (5, .int (nI (i + 1)))]) rfl ?_
                    exact ih24 (i + 1) k2 I45 L45 (by omega) (by omega) (hF.tr hF45) (hFL.tr hL45) (by rw [sN_v (f := fun i => sN (c + 1 - n) (fun j => lkS (ent I t) b n i j)) rfl, hkj, show j = c + 1 - n by omega, hki]; exact Nat.add_assoc _ _ _)
                  · refine v_iload X 5 rfl dX4_looks_63 ?_
                    refine v_if_eq_n X (by omega) dX4_looks_65 (tgt := 73) (by decide) (fun h65 => ?_) (fun h65 => ?_)
                    · refine v_iconst X (v := (nI 1)) dX4_looks_73 (by decide) ?_
                      refine v_goto X (tgt := 78) dX4_looks_74 (by decide) ?_
                      refine v_istore X [1, 2, 3, 4, 5, 6, 7, 0] (lv' := [(0, .ref (eA (vE a) 12 0)), (1, .ref (eA (vE a) 2 t)), (2, .int (nI b)), (3, .int (nI k2)), (4, .int (nI n)), (5, .int (nI i)), (6, .int (nI j)), (7, .int (nI 1))]) (by decide) rfl dX4_looks_78 ?_
                      refine v_iload X 7 rfl dX4_looks_80 ?_
                      refine v_if_eq_n X (by omega) dX4_looks_82 (tgt := 109) (by decide) (fun h82 => ?_) (fun h82 => ?_)
                      · exact absurd h82 (by decide)
                      · refine v_iload_n X 2 rfl dX4_looks_85 ?_
                        refine v_if_eq_n X (by omega) dX4_looks_86 (tgt := 106) (by decide) (fun h86 => ?_) (fun h86 => ?_)
                        · refine v_iinc X [1, 2, 3, 0, 4, 5, 6, 7] 3 (nI (k2 + 1)) (lv' := [(0, .ref (eA (vE a) 12 0)), (1, .ref (eA (vE a) 2 t)), (2, .int (nI b)), (3, .int (nI (k2 + 1))), (4, .int (nI n)), (5, .int (nI i)), (6, .int (nI j)), (7, .int (nI 1))]) rfl (nI_1 _) (by decide) rfl dX4_looks_106 ?_
                          refine v_iinc X [1, 2, 3, 4, 5, 6, 0, 7] 6 (nI (j + 1)) (lv' := [(0, .ref (eA (vE a) 12 0)), (1, .ref (eA (vE a) 2 t)), (2, .int (nI b)), (3, .int (nI (k2 + 1))), (4, .int (nI n)), (5, .int (nI i)), (6, .int (nI (j + 1))), (7, .int (nI 1))]) rfl (nI_1 _) (by decide) rfl dX4_looks_109 ?_
                          refine v_goto X (tgt := 51) dX4_looks_112 (by decide) ?_
                          refine v_sub [0, 1, 2, 3, 4, 5, 6] (lv' := [(0, .ref (eA (vE a) 12 0)), (1, .ref (eA (vE a) 2 t)), (2, .int (nI b)), (3, .int (nI (k2 + 1))), (4, .int (nI n)), (5, .int (nI i)), (6, .int (nI (j + 1)))]) rfl ?_
                          have hone : lkS (ent I t) b n i j = 1 := if_pos ⟨hn, by omega, Or.inl h86⟩
                          exact ih51 (j + 1) (k2 + 1) (by omega) (by omega) (by rw [sN_v (f := fun j => lkS (ent I t) b n i j) hone, hkj]; rfl)
                        · refine v_aload_n X 0 rfl dX4_looks_89 ?_
                          refine gf_X4_9 X dX4_looks_90 ?_
                          refine v_iload X 6 rfl dX4_looks_93 ?_
                          refine v_iload X 4 rfl dX4_looks_95 ?_
                          refine v_callS X (c_X4_stretch _ _ hE _ _ j n (by omega) (by omega)) k_X4_56 ⟨rfl, rfl, Nat.le_of_ble_eq_true rfl, Nat.le_of_ble_eq_true rfl⟩ (As := [.int (nI j), .int (nI n)]) (rest := [.ref (eA (vE a) 13 0)]) rfl rfl (Nat.le_of_ble_eq_true rfl) dX4_looks_97 (fun r97 I97 L97 hp97 => ?_)
                          obtain ⟨rfl, e1, e2⟩ := hp97
                          have e1 := e1.symm
                          have e2 := e2.symm
                          subst e1; subst e2
                          refine v_st (st' := [.int (nI (spn j n)), .ref (eA (vE a) 13 0)]) rfl ?_
                          have hsj := spn_ok hc5 hn (show j + n ≤ c by omega)
                          have hval : L45 13 0 (spn j n) = wrt (ent I t) (spn i n) (spn j n) := by
                            rw [hf45 _ hsj.1 (by omega), ent_fr hF (by simp), hsj.2.1]
                            unfold wrt
                            rw [hso.2.1]
                          refine v_lald_n X dl_13 (fun _ _ => rfl) (n := 32) (by have := hsj.2.2; omega) (by decide) dX4_looks_100 ?_
                          refine v_lconst X (v := 0) dX4_looks_101 rfl ?_
                          refine v_lcmp_le X dX4_looks_102 dX4_looks_103 (tgt := 109) (by decide) (fun h102 => ?_) (fun h102 => ?_)
                          · refine v_iinc X [1, 2, 3, 4, 5, 6, 0, 7] 6 (nI (j + 1)) (lv' := [(0, .ref (eA (vE a) 12 0)), (1, .ref (eA (vE a) 2 t)), (2, .int (nI b)), (3, .int (nI k2)), (4, .int (nI n)), (5, .int (nI i)), (6, .int (nI (j + 1))), (7, .int (nI 1))]) rfl (nI_1 _) (by decide) rfl dX4_looks_109 ?_
                            refine v_goto X (tgt := 51) dX4_looks_112 (by decide) ?_
                            refine v_sub [0, 1, 2, 3, 4, 5, 6] (lv' := [(0, .ref (eA (vE a) 12 0)), (1, .ref (eA (vE a) 2 t)), (2, .int (nI b)), (3, .int (nI k2)), (4, .int (nI n)), (5, .int (nI i)), (6, .int (nI (j + 1)))]) rfl ?_
                            have hone : lkS (ent I t) b n i j = 0 := if_neg (fun q => q.2.2.elim (fun z => by omega) (fun z => absurd z (Int64.not_lt.mpr (by rw [← hval]; exact h102))))
                            exact ih51 (j + 1) k2 (by omega) (by omega) (by rw [sN_v (f := fun j => lkS (ent I t) b n i j) hone, hkj]; rfl)
                          · refine v_iinc X [1, 2, 3, 0, 4, 5, 6, 7] 3 (nI (k2 + 1)) (lv' := [(0, .ref (eA (vE a) 12 0)), (1, .ref (eA (vE a) 2 t)), (2, .int (nI b)), (3, .int (nI (k2 + 1))), (4, .int (nI n)), (5, .int (nI i)), (6, .int (nI j)), (7, .int (nI 1))]) rfl (nI_1 _) (by decide) rfl dX4_looks_106 ?_
                            refine v_iinc X [1, 2, 3, 4, 5, 6, 0, 7] 6 (nI (j + 1)) (lv' := [(0, .ref (eA (vE a) 12 0)), (1, .ref (eA (vE a) 2 t)), (2, .int (nI b)), (3, .int (nI (k2 + 1))), (4, .int (nI n)), (5, .int (nI i)), (6, .int (nI (j + 1))), (7, .int (nI 1))]) rfl (nI_1 _) (by decide) rfl dX4_looks_109 ?_
                            refine v_goto X (tgt := 51) dX4_looks_112 (by decide) ?_
                            refine v_sub [0, 1, 2, 3, 4, 5, 6] (lv' := [(0, .ref (eA (vE a) 12 0)), (1, .ref (eA (vE a) 2 t)), (2, .int (nI b)), (3, .int (nI (k2 + 1))), (4, .int (nI n)), (5, .int (nI i)), (6, .int (nI (j + 1)))]) rfl ?_
                            have hone : lkS (ent I t) b n i j = 1 := if_pos ⟨hn, by omega, Or.inr (by rw [← hval]; exact Int64.not_le.mp h102)⟩
                            exact ih51 (j + 1) (k2 + 1) (by omega) (by omega) (by rw [sN_v (f := fun j => lkS (ent I t) b n i j) hone, hkj]; rfl)
                    · refine v_iload X 6 rfl dX4_looks_68 ?_
                      refine v_if_ne_n X (by omega) dX4_looks_70 (tgt := 77) (by decide) (fun h70 => ?_) (fun h70 => ?_)
                      · refine v_iconst X (v := (nI 0)) dX4_looks_77 (by decide) ?_
                        refine v_istore X [1, 2, 3, 4, 5, 6, 7, 0] (lv' := [(0, .ref (eA (vE a) 12 0)), (1, .ref (eA (vE a) 2 t)), (2, .int (nI b)), (3, .int (nI k2)), (4, .int (nI n)), (5, .int (nI i)), (6, .int (nI j)), (7, .int (nI 0))]) (by decide) rfl dX4_looks_78 ?_
                        refine v_iload X 7 rfl dX4_looks_80 ?_
                        refine v_if_eq_n X (by omega) dX4_looks_82 (tgt := 109) (by decide) (fun h82 => ?_) (fun h82 => ?_)
                        · refine v_iinc X [1, 2, 3, 4, 5, 6, 0, 7] 6 (nI (j + 1)) (lv' := [(0, .ref (eA (vE a) 12 0)), (1, .ref (eA (vE a) 2 t)), (2, .int (nI b)), (3, .int (nI k2)), (4, .int (nI n)), (5, .int (nI i)), (6, .int (nI (j + 1))), (7, .int (nI 0))]) rfl (nI_1 _) (by decide) rfl dX4_looks_109 ?_
                          refine v_goto X (tgt := 51) dX4_looks_112 (by decide) ?_
                          refine v_sub [0, 1, 2, 3, 4, 5, 6] (lv' := [(0, .ref (eA (vE a) 12 0)), (1, .ref (eA (vE a) 2 t)), (2, .int (nI b)), (3, .int (nI k2)), (4, .int (nI n)), (5, .int (nI i)), (6, .int (nI (j + 1)))]) rfl ?_
                          have hone : lkS (ent I t) b n i j = 0 := if_neg (fun q => by have := q.2.1; omega)
                          exact ih51 (j + 1) k2 (by omega) (by omega) (by rw [sN_v (f := fun j => lkS (ent I t) b n i j) hone, hkj]; rfl)
                        · exact absurd h82 (by decide)
                      · refine v_iconst X (v := (nI 1)) dX4_looks_73 (by decide) ?_
                        refine v_goto X (tgt := 78) dX4_looks_74 (by decide) ?_
                        refine v_istore X [1, 2, 3, 4, 5, 6, 7, 0] (lv' := [(0, .ref (eA (vE a) 12 0)), (1, .ref (eA (vE a) 2 t)), (2, .int (nI b)), (3, .int (nI k2)), (4, .int (nI n)), (5, .int (nI i)), (6, .int (nI j)), (7, .int (nI 1))]) (by decide) rfl dX4_looks_78 ?_
                        refine v_iload X 7 rfl dX4_looks_80 ?_
                        refine v_if_eq_n X (by omega) dX4_looks_82 (tgt := 109) (by decide) (fun h82 => ?_) (fun h82 => ?_)
                        · exact absurd h82 (by decide)
                        · refine v_iload_n X 2 rfl dX4_looks_85 ?_
                          refine v_if_eq_n X (by omega) dX4_looks_86 (tgt := 106) (by decide) (fun h86 => ?_) (fun h86 => ?_)
                          · refine v_iinc X [1, 2, 3, 0, 4, 5, 6, 7] 3 (nI (k2 + 1)) (lv' := [(0, .ref (eA (vE a) 12 0)), (1, .ref (eA (vE a) 2 t)), (2, .int (nI b)), (3, .int (nI (k2 + 1))), (4, .int (nI n)), (5, .int (nI i)), (6, .int (nI j)), (7, .int (nI 1))]) rfl (nI_1 _) (by decide) rfl dX4_looks_106 ?_
                            refine v_iinc X [1, 2, 3, 4, 5, 6, 0, 7] 6 (nI (j + 1)) (lv' := [(0, .ref (eA (vE a) 12 0)), (1, .ref (eA (vE a) 2 t)), (2, .int (nI b)), (3, .int (nI (k2 + 1))), (4, .int (nI n)), (5, .int (nI i)), (6, .int (nI (j + 1))), (7, .int (nI 1))]) rfl (nI_1 _) (by decide) rfl dX4_looks_109 ?_
                            refine v_goto X (tgt := 51) dX4_looks_112 (by decide) ?_
                            refine v_sub [0, 1, 2, 3, 4, 5, 6] (lv' := [(0, .ref (eA (vE a) 12 0)), (1, .ref (eA (vE a) 2 t)), (2, .int (nI b)), (3, .int (nI (k2 + 1))), (4, .int (nI n)), (5, .int (nI i)), (6, .int (nI (j + 1)))]) rfl ?_
                            have hone : lkS (ent I t) b n i j = 1 := if_pos ⟨hn, by omega, Or.inl h86⟩
                            exact ih51 (j + 1) (k2 + 1) (by omega) (by omega) (by rw [sN_v (f := fun j => lkS (ent I t) b n i j) hone, hkj]; rfl)
                          · refine v_aload_n X 0 rfl dX4_looks_89 ?_
                            refine gf_X4_9 X dX4_looks_90 ?_
                            refine v_iload X 6 rfl dX4_looks_93 ?_
                            refine v_iload X 4 rfl dX4_looks_95 ?_
                            refine v_callS X (c_X4_stretch _ _ hE _ _ j n (by omega) (by omega)) k_X4_56 ⟨rfl, rfl, Nat.le_of_ble_eq_true rfl, Nat.le_of_ble_eq_true rfl⟩ (As := [.int (nI j), .int (nI n)]) (rest := [.ref (eA (vE a) 13 0)]) rfl rfl (Nat.le_of_ble_eq_true rfl) dX4_looks_97 (fun r97 I97 L97 hp97 => ?_)
                            obtain ⟨rfl, e1, e2⟩ := hp97
                            have e1 := e1.symm
                            have e2 := e2.symm
                            subst e1; subst e2
                            refine v_st (st' := [.int (nI (spn j n)), .ref (eA (vE a) 13 0)]) rfl ?_
                            have hsj := spn_ok hc5 hn (show j + n ≤ c by omega)
                            have hval : L45 13 0 (spn j n) = wrt (ent I t) (spn i n) (spn j n) := by
                              rw [hf45 _ hsj.1 (by omega), ent_fr hF (by simp), hsj.2.1]
                              unfold wrt
                              rw [hso.2.1]
                            refine v_lald_n X dl_13 (fun _ _ => rfl) (n := 32) (by have := hsj.2.2; omega) (by decide) dX4_looks_100 ?_
                            refine v_lconst X (v := 0) dX4_looks_101 rfl ?_
                            refine v_lcmp_le X dX4_looks_102 dX4_looks_103 (tgt := 109) (by decide) (fun h102 => ?_) (fun h102 => ?_)
                            · refine v_iinc X [1, 2, 3, 4, 5, 6, 0, 7] 6 (nI (j + 1)) (lv' := [(0, .ref (eA (vE a) 12 0)), (1, .ref (eA (vE a) 2 t)), (2, .int (nI b)), (3, .int (nI k2)), (4, .int (nI n)), (5, .int (nI i)), (6, .int (nI (j + 1))), (7, .int (nI 1))]) rfl (nI_1 _) (by decide) rfl dX4_looks_109 ?_
                              refine v_goto X (tgt := 51) dX4_looks_112 (by decide) ?_
                              refine v_sub [0, 1, 2, 3, 4, 5, 6] (lv' := [(0, .ref (eA (vE a) 12 0)), (1, .ref (eA (vE a) 2 t)), (2, .int (nI b)), (3, .int (nI k2)), (4, .int (nI n)), (5, .int (nI i)), (6, .int (nI (j + 1)))]) rfl ?_
                              have hone : lkS (ent I t) b n i j = 0 := if_neg (fun q => q.2.2.elim (fun z => by omega) (fun z => absurd z (Int64.not_lt.mpr (by rw [← hval]; exact h102))))
                              exact ih51 (j + 1) k2 (by omega) (by omega) (by rw [sN_v (f := fun j => lkS (ent I t) b n i j) hone, hkj]; rfl)
                            · refine v_iinc X [1, 2, 3, 0, 4, 5, 6, 7] 3 (nI (k2 + 1)) (lv' := [(0, .ref (eA (vE a) 12 0)), (1, .ref (eA (vE a) 2 t)), (2, .int (nI b)), (3, .int (nI (k2 + 1))), (4, .int (nI n)), (5, .int (nI i)), (6, .int (nI j)), (7, .int (nI 1))]) rfl (nI_1 _) (by decide) rfl dX4_looks_106 ?_
                              refine v_iinc X [1, 2, 3, 4, 5, 6, 0, 7] 6 (nI (j + 1)) (lv' := [(0, .ref (eA (vE a) 12 0)), (1, .ref (eA (vE a) 2 t)), (2, .int (nI b)), (3, .int (nI (k2 + 1))), (4, .int (nI n)), (5, .int (nI i)), (6, .int (nI (j + 1))), (7, .int (nI 1))]) rfl (nI_1 _) (by decide) rfl dX4_looks_109 ?_
                              refine v_goto X (tgt := 51) dX4_looks_112 (by decide) ?_
                              refine v_sub [0, 1, 2, 3, 4, 5, 6] (lv' := [(0, .ref (eA (vE a) 12 0)), (1, .ref (eA (vE a) 2 t)), (2, .int (nI b)), (3, .int (nI (k2 + 1))), (4, .int (nI n)), (5, .int (nI i)), (6, .int (nI (j + 1)))]) rfl ?_
                              have hone : lkS (ent I t) b n i j = 1 := if_pos ⟨hn, by omega, Or.inr (by rw [← hval]; exact Int64.not_le.mp h102)⟩
                              exact ih51 (j + 1) (k2 + 1) (by omega) (by omega) (by rw [sN_v (f := fun j => lkS (ent I t) b n i j) hone, hkj]; rfl)
              exact loop51 _ 0 k1 (Nat.lt_succ_self _) (Nat.zero_le _) rfl
        exact loop24 _ 0 k I1 L1 (Nat.lt_succ_self _) (Nat.zero_le _) hF hFL rfl
  exact loop5 _ 1 0 I L (Nat.lt_succ_self _) (by decide) (by omega) Fr.rf FL.rf (by rw [sN_v (f := fun n => sN (r + 1 - n) (fun i => sN (c + 1 - n) (fun j => lkS (ent I t) b n i j))) (lkS_0 _ _ _ _)]; rfl)
