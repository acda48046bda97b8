theorem vw_2 (M : QM) (i j : Nat) : vw 2 M i j = M i j := if_neg (by decide)
theorem repS_nil {I : TI} {L : TL} (h : I 17 0 4 = nI 0) : repS I L [] := ⟨h, fun i q hq => by simp at hq⟩
theorem i64_iL (x : Int32) : x.toInt64 = iL x.toInt := by
  apply Int64.toInt_inj.mp
  have h1 := Int32.le_toInt x
  have h2 := Int32.toInt_lt x
  rw [iL_ti (by omega), Int32.toInt_toInt64]
def M0of (I : TI) (t : Nat) : QM := fun i j => ((I 3 t (5 * i + j)).toInt : Rat)
set_option maxHeartbeats 4000000 in
set_option maxRecDepth 100000 in
theorem c_X1_standOnLine (l : Launch) (E : VE) (hE : EOk E) (I : TI) (L : TL) (n : Nat) (hn3 : n ≤ 3) (M : QM) (S0 : SL) (Z : Option SL) (hsz : I 17 0 5 = nI n) (hM0 : repM n L M) (hS0 : repS I L S0) (hlen0 : S0.length + n ≤ 9) (hX0 : runO n 0 M S0 = Z) (hrg : ∀ i, i < n → (M i i).num.natAbs < 2 ^ 63) : Ct l E yX1_standOnLine cX1_standOnLine 3 (some .boolean) rm_X1_standOnLine [.ref (eA E 17 0)] I L (fun r9 I' L' => Fr [(17, 0), (18, 0), (19, 0)] I I' ∧ FL [(20, 0), (21, 0)] L L' ∧ ((Z = none ∧ r9 = some (.int (nI 0))) ∨ (∃ S', Z = some S' ∧ r9 = some (.int (nI 1)) ∧ repS I' L' S'))) := by
  refine ct_of (by decide +kernel) (Nat.le_of_ble_eq_true rfl) hE ?_
  intro a X Y hl hEE
  subst hl; subst hEE
  show V a 0 [(0, .ref (eA (vE a) 17 0))] [] I L
  refine v_iconst X (v := (nI 0)) dX1_standOnLine_0 (by decide) ?_
  refine v_istore_n X [1, 0] (lv' := [(0, .ref (eA (vE a) 17 0)), (1, .int (nI 0))]) (by decide) rfl dX1_standOnLine_1 ?_
  have loop2 : ∀ (fu : Nat) (i : Nat) (S : SL) (I1 : TI) (L1 : TL), 4 - i < fu → (i ≤ n) → (Fr [(17, 0), (18, 0), (19, 0)] I I1) → (I1 17 0 5 = nI n) → (FL [(20, 0), (21, 0)] L L1) → (repS I1 L1 S) → (S.length + (n - i) ≤ 9) → (runO (n - i) i M S = Z) → V a 2 [(0, .ref (eA (vE a) 17 0)), (1, .int (nI i))] [] I1 L1 := by
    intro fu
    induction fu with
    | zero => intro i S I1 L1 hm _ _ _ _ _ _ _; exact absurd hm (Nat.not_lt_zero _)
    | succ fu ih2 =>
      intro i S I1 L1 hm2 hi hFr hs5 hFLM hS hlen hX
      refine v_iload_n X 1 rfl dX1_standOnLine_2 ?_
      refine v_aload_n X 0 rfl dX1_standOnLine_3 ?_
      refine gf_X1_58 X dX1_standOnLine_4 ?_
      refine v_eqi (y := (nI n)) (hs5) ?_
      refine v_icmp_ge_n X (by omega) (by omega) dX1_standOnLine_7 (tgt := 54) (by decide) (fun h7 => ?_) (fun h7 => ?_)
      · refine v_iconst X (v := (nI 1)) dX1_standOnLine_54 (by decide) ?_
        exact v_zret X Y (rfl) dX1_standOnLine_55 (⟨hFr, hFLM, Or.inr ⟨S, by rw [show n - i = 0 by omega] at hX; exact hX.symm, rfl, hS⟩⟩)
      · have hv := repM_v (k := 2) (repM_fr hM0 (hFLM 22 0 (by simp)) (hFLM 23 0 (by simp))) (show i < n by omega) (show i < n by omega)
        rw [vw_2] at hv
        refine v_iconst X (v := (nI 2)) dX1_standOnLine_10 (by decide) ?_
        refine v_iload_n X 1 rfl dX1_standOnLine_11 ?_
        refine v_iload_n X 1 rfl dX1_standOnLine_12 ?_
        refine v_callS X (c_X1_placeOf _ _ hE _ _ 2 i i (by omega) (by omega) (by omega)) k_X1_61 ⟨rfl, rfl, Nat.le_of_ble_eq_true rfl, Nat.le_of_ble_eq_true rfl⟩ (As := [.int (nI 2), .int (nI i), .int (nI i)]) (rest := []) rfl rfl (Nat.le_of_ble_eq_true rfl) dX1_standOnLine_13 (fun r13 I13 L13 hp13 => ?_)
        obtain ⟨rfl, e1, e2⟩ := hp13
        have e1 := e1.symm
        have e2 := e2.symm
        subst e1; subst e2
        refine v_st (st' := [.int (nI (pl3 2 i i))]) rfl ?_
        refine v_istore_n X [1, 2, 0] (lv' := [(0, .ref (eA (vE a) 17 0)), (1, .int (nI i)), (2, .int (nI (pl3 2 i i)))]) (by decide) rfl dX1_standOnLine_16 ?_
        refine v_aload_n X 0 rfl dX1_standOnLine_17 ?_
        refine gf_X1_25 X dX1_standOnLine_18 ?_
        refine v_iload_n X 2 rfl dX1_standOnLine_21 ?_
        refine v_lald_n X dl_22 (fun _ _ => rfl) (n := 9) (pl3_lt (by omega) (by omega)) (by decide) dX1_standOnLine_22 ?_
        refine v_eql (y := (iL (M i i).num)) (hv.1) ?_
        refine v_lconst X (v := 0) dX1_standOnLine_23 rfl ?_
        refine v_lcmp_gt X dX1_standOnLine_24 dX1_standOnLine_25 (tgt := 30) (by decide) (fun h24 => ?_) (fun h24 => ?_)
        · have hpos : 0 < (M i i).num := (iL_lt (by decide) (hrg i (by omega))).mp h24
          have hs9 : S.length < 9 := by omega
          refine v_aload_n X 0 rfl dX1_standOnLine_30 ?_
          refine v_iconst X (v := (nI 2)) dX1_standOnLine_31 (by decide) ?_
          refine v_iload_n X 1 rfl dX1_standOnLine_32 ?_
          refine v_aload_n X 0 rfl dX1_standOnLine_33 ?_
          refine gf_X1_25 X dX1_standOnLine_34 ?_
          refine v_iload_n X 2 rfl dX1_standOnLine_37 ?_
          refine v_lald_n X dl_22 (fun _ _ => rfl) (n := 9) (pl3_lt (by omega) (by omega)) (by decide) dX1_standOnLine_38 ?_
          refine v_eql (y := (iL (M i i).num)) (hv.1) ?_
          refine v_aload_n X 0 rfl dX1_standOnLine_39 ?_
          refine gf_X1_28 X dX1_standOnLine_40 ?_
          refine v_iload_n X 2 rfl dX1_standOnLine_43 ?_
          refine v_lald_n X dl_23 (fun _ _ => rfl) (n := 9) (pl3_lt (by omega) (by omega)) (by decide) dX1_standOnLine_44 ?_
          refine v_eql (y := (iL ((M i i).den : Int))) (hv.2) ?_
          refine v_callV X (c_X1_note _ _ hE _ _ S.length (hS.1) hs9 (nI 2) (nI i) (iL (M i i).num) (iL ((M i i).den : Int))) k_X1_79 dl_17 (cef_17 _ _ _ _) rfl ⟨rfl, rfl, Nat.le_of_ble_eq_true rfl, Nat.le_of_ble_eq_true rfl⟩ (As := [.int (nI 2), .int (nI i), .long (iL (M i i).num), .long (iL ((M i i).den : Int))]) (rest := []) rfl rfl (Nat.le_of_ble_eq_true rfl) dX1_standOnLine_45 (fun r45 I45 L45 hp45 => ?_)
          obtain ⟨rfl, e1, e2⟩ := hp45
          have e1 := e1.symm
          have e2 := e2.symm
          subst e1; subst e2
          refine v_st (st' := []) rfl ?_
          have hS45 := repS_add (k := 2) (ln := i) (q := M i i) hS
          have hX2 : runO (n - (i + 1)) (i + 1) M (S ++ [(2, i, M i i)]) = Z := by
            rw [show n - i = (n - (i + 1)) + 1 by omega] at hX
            exact (if_pos hpos).symm.trans hX
          refine v_iinc X [1, 0, 2] 1 (nI (i + 1)) (lv' := [(0, .ref (eA (vE a) 17 0)), (1, .int (nI (i + 1))), (2, .int (nI (pl3 2 i i)))]) rfl (nI_1 _) (by decide) rfl dX1_standOnLine_48 ?_
          refine v_goto X (tgt := 2) dX1_standOnLine_51 (by decide) ?_
          refine v_sub [0, 1] (lv' := [(0, .ref (eA (vE a) 17 0)), (1, .int (nI (i + 1)))]) rfl ?_
          exact ih2 (i + 1) (S ++ [(2, i, M i i)]) (upI (upI (upI I1 18 0 S.length (nI 2)) 19 0 S.length (nI i)) 17 0 4 (nI (S.length + 1))) (upL (upL L1 20 0 S.length (iL (M i i).num)) 21 0 S.length (iL ((M i i).den : Int))) (by omega) (by omega) (((hFr.up (by simp)).up (by simp)).up (by simp)) ((upI_x (by decide)).trans ((upI_k (by decide)).trans ((upI_k (by decide)).trans hs5))) ((hFLM.up (by simp)).up (by simp)) hS45 (by simp only [List.length_append, List.length_cons, List.length_nil]; omega) hX2
        · refine v_iconst X (v := (nI 0)) dX1_standOnLine_28 (by decide) ?_
          exact v_zret X Y (rfl) dX1_standOnLine_29 (⟨hFr, hFLM, Or.inl ⟨by
                rw [show n - i = (n - (i + 1)) + 1 by omega] at hX
                exact hX.symm.trans (if_neg (fun q => h24 ((iL_lt (a := 0) (by decide) (hrg i (by omega))).mpr q))), rfl⟩⟩)
  exact loop2 _ 0 S0 I L (Nat.lt_succ_self _) (Nat.zero_le _) Fr.rf hsz FL.rf hS0 (by omega) hX0
set_option maxHeartbeats 4000000 in
set_option maxRecDepth 100000 in
theorem c_X1_begin (l : Launch) (E : VE) (hE : EOk E) (I : TI) (L : TL) (t : Nat) (ht12t : t < 12) (n : Nat) (hn3 : n ≤ 3) (hrt : I 2 t 1 = nI n) (hct : I 2 t 2 = nI n) : Ct l E yX1_begin cX1_begin 4 none rm_X1_begin [.ref (eA E 17 0), .ref (eA E 2 t)] I L (fun r9 I' L' => r9 = none ∧ Fr [(17, 0)] I I' ∧ I' 17 0 4 = nI 0 ∧ I' 17 0 5 = nI n ∧ FL [(22, 0), (23, 0)] L L' ∧ repM n L' (M0of I t)) := by
  refine ct_of (by decide +kernel) (Nat.le_of_ble_eq_true rfl) hE ?_
  intro a X Y hl hEE
  subst hl; subst hEE
  show V a 0 [(0, .ref (eA (vE a) 17 0)), (1, .ref (eA (vE a) 2 t))] [] I L
  refine v_aload_n X 0 rfl dX1_begin_0 ?_
  refine v_aload_n X 1 rfl dX1_begin_1 ?_
  refine gf_X1_47 X ht12t dX1_begin_2 ?_
  refine v_eqi (y := (nI n)) (hrt) ?_
  refine v_iconst X (v := (nI 3)) dX1_begin_5 (by decide) ?_
  refine v_min X mw_X1_52.1 mw_X1_52.2.1 mw_X1_52.2.2.1 mw_X1_52.2.2.2 (Nat.le_of_ble_eq_true rfl) (Nat.le_of_ble_eq_true rfl) dX1_begin_6 ?_
  refine v_eqi (y := (nI (min n 3))) (min_n (by omega) (by omega)) ?_
  refine v_eqi (y := (nI n)) (congrArg nI (Nat.min_eq_left hn3)) ?_
  refine pf_X1_58 X dX1_begin_9 ?_
  refine v_aload_n X 0 rfl dX1_begin_12 ?_
  refine v_iconst X (v := (nI 0)) dX1_begin_13 (by decide) ?_
  refine pf_X1_43 X dX1_begin_14 ?_
  obtain ⟨I1, eI1⟩ : ∃ z, z = (upI (upI I 17 0 5 (nI n)) 17 0 4 (nI 0)) := ⟨_, rfl⟩
  refine v_eqI eI1.symm ?_
  have hF : Fr [(17, 0)] I I1 := by rw [eI1]; exact (Fr.rf.up (by simp)).up (by simp)
  have h4 : I1 17 0 4 = nI 0 := by rw [eI1]; exact upI_eq
  have h5 : I1 17 0 5 = nI n := by rw [eI1]; exact (upI_x (by decide)).trans upI_eq
  refine v_iconst X (v := (nI 0)) dX1_begin_17 (by decide) ?_
  refine v_istore_n X [1, 2, 0] (lv' := [(0, .ref (eA (vE a) 17 0)), (1, .ref (eA (vE a) 2 t)), (2, .int (nI 0))]) (by decide) rfl dX1_begin_18 ?_
  have loop19 : ∀ (fu : Nat) (i : Nat) (L1 : TL), 4 - i < fu → (i ≤ n) → (FL [(22, 0), (23, 0)] L L1) → (∀ a b, b < n → (a < i ∨ (a = i ∧ b < 0)) → L1 22 0 (3 * a + b) = iL (I 3 t (5 * a + b)).toInt ∧ L1 23 0 (3 * a + b) = iL 1) → V a 19 [(0, .ref (eA (vE a) 17 0)), (1, .ref (eA (vE a) 2 t)), (2, .int (nI i))] [] I1 L1 := by
    intro fu
    induction fu with
    | zero => intro i L1 hm _ _ _; exact absurd hm (Nat.not_lt_zero _)
    | succ fu ih19 =>
      intro i L1 hm19 hi hFL hv
      refine v_iload_n X 2 rfl dX1_begin_19 ?_
      refine v_aload_n X 0 rfl dX1_begin_20 ?_
      refine gf_X1_58 X dX1_begin_21 ?_
      refine v_eqi (y := (nI n)) (h5) ?_
      refine v_icmp_ge_n X (by omega) (by omega) dX1_begin_24 (tgt := 79) (by decide) (fun h24 => ?_) (fun h24 => ?_)
      · exact v_vret X Y dX1_begin_79 (⟨rfl, hF, h4, h5, hFL, fun a b ha hb => by
              have g := hv a b hb (by omega)
              unfold M0of
              rw [Rat.num_intCast, Rat.den_intCast]
              exact g⟩)
      · refine v_iconst X (v := (nI 0)) dX1_begin_27 (by decide) ?_
        refine v_istore_n X [1, 2, 3, 0] (lv' := [(0, .ref (eA (vE a) 17 0)), (1, .ref (eA (vE a) 2 t)), (2, .int (nI i)), (3, .int (nI 0))]) (by decide) rfl dX1_begin_28 ?_
        have loop29 : ∀ (fu : Nat) (j : Nat) (L1 : TL), 4 - j < fu → (j ≤ n) → (FL [(22, 0), (23, 0)] L L1) → (∀ a b, b < n → (a < i ∨ (a = i ∧ b < j)) → L1 22 0 (3 * a + b) = iL (I 3 t (5 * a + b)).toInt ∧ L1 23 0 (3 * a + b) = iL 1) → V a 29 [(0, .ref (eA (vE a) 17 0)), (1, .ref (eA (vE a) 2 t)), (2, .int (nI i)), (3, .int (nI j))] [] I1 L1 := by
          intro fu
          induction fu with
          | zero => intro j L1 hm _ _ _; exact absurd hm (Nat.not_lt_zero _)
          | succ fu ih29 =>
            intro j L1 hm29 hj hFL hv
            refine v_iload_n X 3 rfl dX1_begin_29 ?_
            refine v_aload_n X 0 rfl dX1_begin_30 ?_
            refine gf_X1_58 X dX1_begin_31 ?_
            refine v_eqi (y := (nI n)) (h5) ?_
            refine v_icmp_ge_n X (by omega) (by omega) dX1_begin_34 (tgt := 73) (by decide) (fun h34 => ?_) (fun h34 => ?_)
            · refine v_iinc X [1, 2, 0, 3] 2 (nI (i + 1)) (lv' := [(0, .ref (eA (vE a) 17 0)), (1, .ref (eA (vE a) 2 t)), (2, .int (nI (i + 1))), (3, .int (nI j))]) rfl (nI_1 _) (by decide) rfl dX1_begin_73 ?_
              refine v_goto X (tgt := 19) dX1_begin_76 (by decide) ?_
              refine v_sub [0, 1, 2] (lv' := [(0, .ref (eA (vE a) 17 0)), (1, .ref (eA (vE a) 2 t)), (2, .int (nI (i + 1)))]) rfl ?_
              exact ih19 (i + 1) L1 (by omega) (by omega) hFL (fun a b hb h => hv a b hb (by omega))
            · refine v_aload_n X 0 rfl dX1_begin_37 ?_
              refine gf_X1_25 X dX1_begin_38 ?_
              refine v_iconst X (v := (nI 1)) dX1_begin_41 (by decide) ?_
              refine v_iload_n X 2 rfl dX1_begin_42 ?_
              refine v_iload_n X 3 rfl dX1_begin_43 ?_
              refine v_callS X (c_X1_placeOf _ _ hE _ _ 1 i j (by omega) (by omega) (by omega)) k_X1_61 ⟨rfl, rfl, Nat.le_of_ble_eq_true rfl, Nat.le_of_ble_eq_true rfl⟩ (As := [.int (nI 1), .int (nI i), .int (nI j)]) (rest := [.ref (eA (vE a) 22 0)]) rfl rfl (Nat.le_of_ble_eq_true rfl) dX1_begin_44 (fun r44 I44 L44 hp44 => ?_)
              obtain ⟨rfl, e1, e2⟩ := hp44
              have e1 := e1.symm
              have e2 := e2.symm
              subst e1; subst e2
              refine v_st (st' := [.int (nI (pl3 1 i j)), .ref (eA (vE a) 22 0)]) rfl ?_
              refine v_aload_n X 1 rfl dX1_begin_47 ?_
              refine v_iload_n X 2 rfl dX1_begin_48 ?_
              refine v_iload_n X 3 rfl dX1_begin_49 ?_
              refine v_callV X (c_X0_number _ _ hE _ _ t ht12t n n ((Fr.at hF (by simp) _).trans (hrt)) ((Fr.at hF (by simp) _).trans (hct)) (by omega) (by omega) i j (by omega) (by omega)) k_X1_65 (dl_2 ht12t) (cef_2 _ _ _ _) rfl ⟨rfl, rfl, Nat.le_of_ble_eq_true rfl, Nat.le_of_ble_eq_true rfl⟩ (As := [.int (nI i), .int (nI j)]) (rest := [.int (nI (pl3 1 i j)), .ref (eA (vE a) 22 0)]) rfl rfl (Nat.le_of_ble_eq_true rfl) dX1_begin_50 (fun r50 I50 L50 hp50 => ?_)
              obtain ⟨rfl, e1, e2⟩ := hp50
              have e1 := e1.symm
              have e2 := e2.symm
              subst e1; subst e2
              refine v_st (st' := [.int (I1 3 t (5 * i + j)), .int (nI (pl3 1 i j)), .ref (eA (vE a) 22 0)]) rfl ?_
              refine v_i2l X dX1_begin_53 rfl ?_
              refine v_last_n X dl_22 (fun _ _ => rfl) (n := 9) (pl3_lt (by omega) (by omega)) (by decide) dX1_begin_54 ?_
              refine v_aload_n X 0 rfl dX1_begin_55 ?_
              refine gf_X1_28 X dX1_begin_56 ?_
              refine v_iconst X (v := (nI 1)) dX1_begin_59 (by decide) ?_
              refine v_iload_n X 2 rfl dX1_begin_60 ?_
              refine v_iload_n X 3 rfl dX1_begin_61 ?_
              refine v_callS X (c_X1_placeOf _ _ hE _ _ 1 i j (by omega) (by omega) (by omega)) k_X1_61 ⟨rfl, rfl, Nat.le_of_ble_eq_true rfl, Nat.le_of_ble_eq_true rfl⟩ (As := [.int (nI 1), .int (nI i), .int (nI j)]) (rest := [.ref (eA (vE a) 23 0)]) rfl rfl (Nat.le_of_ble_eq_true rfl) dX1_begin_62 (fun r62 I62 L62 hp62 => ?_)
              obtain ⟨rfl, e1, e2⟩ := hp62
              have e1 := e1.symm
              have e2 := e2.symm
              subst e1; subst e2
              refine v_st (st' := [.int (nI (pl3 1 i j)), .ref (eA (vE a) 23 0)]) rfl ?_
              refine v_lconst X (v := 1) dX1_begin_65 rfl ?_
              refine v_last_n X dl_23 (fun _ _ => rfl) (n := 9) (pl3_lt (by omega) (by omega)) (by decide) dX1_begin_66 ?_
              refine v_iinc X [1, 2, 3, 0] 3 (nI (j + 1)) (lv' := [(0, .ref (eA (vE a) 17 0)), (1, .ref (eA (vE a) 2 t)), (2, .int (nI i)), (3, .int (nI (j + 1)))]) rfl (nI_1 _) (by decide) rfl dX1_begin_67 ?_
              refine v_goto X (tgt := 29) dX1_begin_70 (by decide) ?_
              have hnew : ∀ a b, b < n → (a < i ∨ (a = i ∧ b < j + 1)) → (upL (upL L1 22 0 (pl3 1 i j) ((I1 3 t (5 * i + j)).toInt64)) 23 0 (pl3 1 i j) 1) 22 0 (3 * a + b) = iL (I 3 t (5 * a + b)).toInt ∧ (upL (upL L1 22 0 (pl3 1 i j) ((I1 3 t (5 * i + j)).toInt64)) 23 0 (pl3 1 i j) 1) 23 0 (3 * a + b) = iL 1 := fun a b hb hab => by
                have hp : pl3 1 i j = 3 * i + j := if_neg (by decide)
                rw [hp]
                by_cases e : a = i ∧ b = j
                · obtain ⟨ea, eb⟩ := e
                  rw [ea, eb]
                  refine ⟨((upL_k (by decide)).trans upL_eq).trans ?_, upL_eq⟩
                  rw [hF 3 t (by simp)]
                  exact i64_iL _
                · have hne : 3 * a + b ≠ 3 * i + j := by omega
                  rw [upL_k (by decide), upL_x hne, upL_x hne, upL_k (by decide)]
                  exact hv a b hb (by omega)
              exact ih29 (j + 1) (upL (upL L1 22 0 (pl3 1 i j) ((I1 3 t (5 * i + j)).toInt64)) 23 0 (pl3 1 i j) 1) (by omega) (by omega) ((hFL.up (by simp)).up (by simp)) hnew
        exact loop29 _ 0 L1 (Nat.lt_succ_self _) (Nat.zero_le _) hFL hv
  exact loop19 _ 0 L (Nat.lt_succ_self _) (Nat.zero_le _) FL.rf (fun a b _ h => by omega)
set_option maxHeartbeats 4000000 in
set_option maxRecDepth 100000 in
theorem c_X1_takeApart (l : Launch) (E : VE) (hE : EOk E) (I : TI) (L : TL) (t : Nat) (ht12t : t < 12) (n : Nat) (hn3 : n ≤ 3) (hrt : I 2 t 1 = nI n) (hct : I 2 t 2 = nI n) (hn1 : 1 ≤ n) (hb : ∀ i j, i < n → j < n → (I 3 t (5 * i + j)).toInt.natAbs ≤ 1000) : Ct l E yX1_takeApart cX1_takeApart 3 (some .int) rm_X1_takeApart [.ref (eA E 17 0), .ref (eA E 2 t)] I L (fun r9 I' L' => Fr [(17, 0), (18, 0), (19, 0)] I I' ∧ FL [(17, 0), (20, 0), (21, 0), (22, 0), (23, 0)] L L' ∧ r9 = some (.int (nI (mkS n (M0of I t)).length)) ∧ repS I' L' (mkS n (M0of I t))) := by
  refine ct_of (by decide +kernel) (Nat.le_of_ble_eq_true rfl) hE ?_
  intro a X Y hl hEE
  subst hl; subst hEE
  show V a 0 [(0, .ref (eA (vE a) 17 0)), (1, .ref (eA (vE a) 2 t))] [] I L
  refine v_aload_n X 0 rfl dX1_takeApart_0 ?_
  refine v_aload_n X 1 rfl dX1_takeApart_1 ?_
  refine v_callV X (c_X1_begin _ _ hE _ _ t ht12t n hn3 (hrt) (hct)) k_X1_31 dl_17 (cef_17 _ _ _ _) rfl ⟨rfl, rfl, Nat.le_of_ble_eq_true rfl, Nat.le_of_ble_eq_true rfl⟩ (As := [.ref (eA (vE a) 2 t)]) (rest := []) rfl rfl (Nat.le_of_ble_eq_true rfl) dX1_takeApart_2 (fun r2 I2 L2 hp2 => ?_)
  obtain ⟨rfl, hF2, h42, h52, hL2, hM2⟩ := hp2
  have hg2 := good_0 (M := M0of I t) hn3 (fun i j hi hj => ⟨by rw [show (M0of I t i j).num = (I 3 t (5 * i + j)).toInt from Rat.num_intCast _]; exact hb i j hi hj, Rat.den_intCast _⟩)
  have hcl := cl1_len n (by omega)
  refine v_st (st' := []) rfl ?_
  refine v_aload_n X 0 rfl dX1_takeApart_5 ?_
  refine v_iconst X (v := (nI 1)) dX1_takeApart_6 (by decide) ?_
  refine v_callV X (c_X1_clear _ _ hE _ _ n 1 3 (by decide) hn1 hn3 (by decide) (M0of I t) [] _ h52 hM2 (repS_nil h42) hg2 (by simp only [List.length_nil]; omega) rfl) k_X1_35 dl_17 (cef_17 _ _ _ _) rfl ⟨rfl, rfl, Nat.le_of_ble_eq_true rfl, Nat.le_of_ble_eq_true rfl⟩ (As := [.int (nI 1)]) (rest := []) rfl rfl (Nat.le_of_ble_eq_true rfl) dX1_takeApart_7 (fun r7 I7 L7 hp7 => ?_)
  obtain ⟨hF7, h57, hL7, ho7⟩ := hp7
  rcases ho7 with ⟨hX7, rfl⟩ | ⟨M7, S7, hX7, rfl, hM7, hS7, hg7, hl7⟩
  · refine v_st (st' := [.int (nI 0)]) rfl ?_
    refine v_if_eq_n X (by omega) dX1_takeApart_10 (tgt := 32) (by decide) (fun h10 => ?_) (fun h10 => ?_)
    · refine v_iconst X (v := (nI 0)) dX1_takeApart_32 (by decide) ?_
      refine v_istore_n X [1, 2, 0] (lv' := [(0, .ref (eA (vE a) 17 0)), (1, .ref (eA (vE a) 2 t)), (2, .int (nI 0))]) (by decide) rfl dX1_takeApart_33 ?_
      refine v_iload_n X 2 rfl dX1_takeApart_34 ?_
      refine v_if_ne_n X (by omega) dX1_takeApart_35 (tgt := 43) (by decide) (fun h35 => ?_) (fun h35 => ?_)
      · exact absurd h35 (by decide)
      · refine v_aload_n X 0 rfl dX1_takeApart_38 ?_
        refine v_iconst X (v := (nI 0)) dX1_takeApart_39 (by decide) ?_
        refine pf_X1_43 X dX1_takeApart_40 ?_
        refine v_aload_n X 0 rfl dX1_takeApart_43 ?_
        refine gf_X1_43 X dX1_takeApart_44 ?_
        refine v_eqi (y := (nI 0)) (upI_eq) ?_
        exact v_iret X Y dX1_takeApart_47 (⟨(Fr.tr (Fr.mono (S' := [(17, 0), (18, 0), (19, 0)]) hF2 (by simp)) hF7).up (by simp), (FL.tr (FL.mono (S' := [(17, 0), (20, 0), (21, 0), (22, 0), (23, 0)]) hL2 (by simp)) hL7), by unfold mkS; rw [hX7]; rfl, by
              have e : mkS n (M0of I t) = [] := by unfold mkS; rw [hX7]
              rw [e]; exact repS_nil upI_eq⟩)
    · exact absurd h10 (by decide)
  · refine v_st (st' := [.int (nI 1)]) rfl ?_
    refine v_if_eq_n X (by omega) dX1_takeApart_10 (tgt := 32) (by decide) (fun h10 => ?_) (fun h10 => ?_)
    · exact absurd h10 (by decide)
    · refine v_aload_n X 0 rfl dX1_takeApart_13 ?_
      refine v_iconst X (v := (nI 0)) dX1_takeApart_14 (by decide) ?_
      refine v_callV X (c_X1_clear _ _ hE _ _ n 0 6 (by decide) hn1 hn3 (by decide) M7 S7 _ h57 hM7 hS7 (good_up hn3 hn1 hg7) (by omega) rfl) k_X1_35 dl_17 (cef_17 _ _ _ _) rfl ⟨rfl, rfl, Nat.le_of_ble_eq_true rfl, Nat.le_of_ble_eq_true rfl⟩ (As := [.int (nI 0)]) (rest := []) rfl rfl (Nat.le_of_ble_eq_true rfl) dX1_takeApart_15 (fun r15 I15 L15 hp15 => ?_)
      obtain ⟨hF15, h515, hL15, ho15⟩ := hp15
      rcases ho15 with ⟨hX15, rfl⟩ | ⟨M15, S15, hX15, rfl, hM15, hS15, hg15, hl15⟩
      · refine v_st (st' := [.int (nI 0)]) rfl ?_
        refine v_if_eq_n X (by omega) dX1_takeApart_18 (tgt := 32) (by decide) (fun h18 => ?_) (fun h18 => ?_)
        · refine v_iconst X (v := (nI 0)) dX1_takeApart_32 (by decide) ?_
          refine v_istore_n X [1, 2, 0] (lv' := [(0, .ref (eA (vE a) 17 0)), (1, .ref (eA (vE a) 2 t)), (2, .int (nI 0))]) (by decide) rfl dX1_takeApart_33 ?_
          refine v_iload_n X 2 rfl dX1_takeApart_34 ?_
          refine v_if_ne_n X (by omega) dX1_takeApart_35 (tgt := 43) (by decide) (fun h35 => ?_) (fun h35 => ?_)
          · exact absurd h35 (by decide)
          · refine v_aload_n X 0 rfl dX1_takeApart_38 ?_
            refine v_iconst X (v := (nI 0)) dX1_takeApart_39 (by decide) ?_
            refine pf_X1_43 X dX1_takeApart_40 ?_
            refine v_aload_n X 0 rfl dX1_takeApart_43 ?_
            refine gf_X1_43 X dX1_takeApart_44 ?_
            refine v_eqi (y := (nI 0)) (upI_eq) ?_
            exact v_iret X Y dX1_takeApart_47 (⟨(Fr.tr (Fr.tr (Fr.mono (S' := [(17, 0), (18, 0), (19, 0)]) hF2 (by simp)) hF7) hF15).up (by simp), (FL.tr (FL.tr (FL.mono (S' := [(17, 0), (20, 0), (21, 0), (22, 0), (23, 0)]) hL2 (by simp)) hL7) hL15), by unfold mkS; rw [hX7]; dsimp only; rw [hX15]; rfl, by
                  have e : mkS n (M0of I t) = [] := by unfold mkS; rw [hX7]; dsimp only; rw [hX15]
                  rw [e]; exact repS_nil upI_eq⟩)
        · exact absurd h18 (by decide)
      · refine v_st (st' := [.int (nI 1)]) rfl ?_
        refine v_if_eq_n X (by omega) dX1_takeApart_18 (tgt := 32) (by decide) (fun h18 => ?_) (fun h18 => ?_)
        · exact absurd h18 (by decide)
        · refine v_aload_n X 0 rfl dX1_takeApart_21 ?_
          refine v_callV X (c_X1_standOnLine _ _ hE _ _ n hn3 M15 S15 _ h515 hM15 hS15 (by omega) rfl (fun i hi => (good_rg (k := 0) (by decide) hn3 (by decide) hg15 hi hi).1)) k_X1_39 dl_17 (cef_17 _ _ _ _) rfl ⟨rfl, rfl, Nat.le_of_ble_eq_true rfl, Nat.le_of_ble_eq_true rfl⟩ (As := []) (rest := []) rfl rfl (Nat.le_of_ble_eq_true rfl) dX1_takeApart_22 (fun r22 I22 L22 hp22 => ?_)
          obtain ⟨hF22, hL22, ho22⟩ := hp22
          rcases ho22 with ⟨hX22, rfl⟩ | ⟨S22, hX22, rfl, hS22⟩
          · refine v_st (st' := [.int (nI 0)]) rfl ?_
            refine v_if_eq_n X (by omega) dX1_takeApart_25 (tgt := 32) (by decide) (fun h25 => ?_) (fun h25 => ?_)
            · refine v_iconst X (v := (nI 0)) dX1_takeApart_32 (by decide) ?_
              refine v_istore_n X [1, 2, 0] (lv' := [(0, .ref (eA (vE a) 17 0)), (1, .ref (eA (vE a) 2 t)), (2, .int (nI 0))]) (by decide) rfl dX1_takeApart_33 ?_
              refine v_iload_n X 2 rfl dX1_takeApart_34 ?_
              refine v_if_ne_n X (by omega) dX1_takeApart_35 (tgt := 43) (by decide) (fun h35 => ?_) (fun h35 => ?_)
              · exact absurd h35 (by decide)
              · refine v_aload_n X 0 rfl dX1_takeApart_38 ?_
                refine v_iconst X (v := (nI 0)) dX1_takeApart_39 (by decide) ?_
                refine pf_X1_43 X dX1_takeApart_40 ?_
                refine v_aload_n X 0 rfl dX1_takeApart_43 ?_
                refine gf_X1_43 X dX1_takeApart_44 ?_
                refine v_eqi (y := (nI 0)) (upI_eq) ?_
                exact v_iret X Y dX1_takeApart_47 (⟨(Fr.tr (Fr.tr (Fr.tr (Fr.mono (S' := [(17, 0), (18, 0), (19, 0)]) hF2 (by simp)) hF7) hF15) hF22).up (by simp), (FL.tr (FL.tr (FL.tr (FL.mono (S' := [(17, 0), (20, 0), (21, 0), (22, 0), (23, 0)]) hL2 (by simp)) hL7) hL15) (hL22.mono (by simp))), by unfold mkS; rw [hX7]; dsimp only; rw [hX15]; dsimp only; rw [hX22]; rfl, by
                      have e : mkS n (M0of I t) = [] := by unfold mkS; rw [hX7]; dsimp only; rw [hX15]; dsimp only; rw [hX22]; rfl
                      rw [e]; exact repS_nil upI_eq⟩)
            · exact absurd h25 (by decide)
          · refine v_st (st' := [.int (nI 1)]) rfl ?_
            refine v_if_eq_n X (by omega) dX1_takeApart_25 (tgt := 32) (by decide) (fun h25 => ?_) (fun h25 => ?_)
            · exact absurd h25 (by decide)
            · refine v_iconst X (v := (nI 1)) dX1_takeApart_28 (by decide) ?_
              refine v_goto X (tgt := 33) dX1_takeApart_29 (by decide) ?_
              refine v_istore_n X [1, 2, 0] (lv' := [(0, .ref (eA (vE a) 17 0)), (1, .ref (eA (vE a) 2 t)), (2, .int (nI 1))]) (by decide) rfl dX1_takeApart_33 ?_
              refine v_iload_n X 2 rfl dX1_takeApart_34 ?_
              refine v_if_ne_n X (by omega) dX1_takeApart_35 (tgt := 43) (by decide) (fun h35 => ?_) (fun h35 => ?_)
              · refine v_aload_n X 0 rfl dX1_takeApart_43 ?_
                refine gf_X1_43 X dX1_takeApart_44 ?_
                refine v_eqi (y := (nI S22.length)) (hS22.1) ?_
                exact v_iret X Y dX1_takeApart_47 (⟨(Fr.tr (Fr.tr (Fr.tr (Fr.mono (S' := [(17, 0), (18, 0), (19, 0)]) hF2 (by simp)) hF7) hF15) hF22), (FL.tr (FL.tr (FL.tr (FL.mono (S' := [(17, 0), (20, 0), (21, 0), (22, 0), (23, 0)]) hL2 (by simp)) hL7) hL15) (hL22.mono (by simp))), by unfold mkS; rw [hX7]; dsimp only; rw [hX15]; dsimp only; rw [hX22]; rfl, by
                      have e : mkS n (M0of I t) = S22 := by unfold mkS; rw [hX7]; dsimp only; rw [hX15]; dsimp only; rw [hX22]; rfl
                      rw [e]; exact hS22⟩)
              · exact absurd h35 (by decide)
set_option maxHeartbeats 4000000 in
set_option maxRecDepth 100000 in
theorem c_X5_make (l : Launch) (E : VE) (hE : EOk E) (I : TI) (L : TL) (c : Nat) (ro co : Nat → Nat) (hT : CT I c ro co) (x : Int32) (hbd : ∀ t, t < c → ∀ i j, i < ro t → j < ro t → (I 3 t (5 * i + j)).toInt.natAbs ≤ 1000) : Ct l E yX5_make cX5_make 3 (some .int) rm_X5_make [.ref (eA E 0 0), .int x] I L (fun r I' L' => (¬ isT c x ∧ REF I I' r 3 ∧ L' = L) ∨ (∃ t, t < c ∧ x = nI t ∧ ((¬ (ro t = co t ∧ ro t ≤ 3) ∧ REF I I' r 7 ∧ L' = L) ∨ (ro t = co t ∧ ro t ≤ 3 ∧ Fr [(17, 0), (18, 0), (19, 0)] I I' ∧ FL [(17, 0), (20, 0), (21, 0), (22, 0), (23, 0)] L L' ∧ r = some (.int (nI (mkS (ro t) (M0of I t)).length)) ∧ repS I' L' (mkS (ro t) (M0of I t)))))) := by
  refine ct_of (by decide +kernel) (Nat.le_of_ble_eq_true rfl) hE ?_
  intro a X Y hl hEE
  subst hl; subst hEE
  show V a 0 [(0, .ref (eA (vE a) 0 0)), (1, .int x)] [] I L
  refine v_aload_n X 0 rfl dX5_make_0 ?_
  refine v_iload_n X 1 rfl dX5_make_1 ?_
  refine v_callV X (c_X5_gridOf _ _ hE _ _ c hT.1 hT.2.1 x) k_X5_74 dl_0 (cef_0 _ _ _ _) rfl ⟨rfl, rfl, Nat.le_of_ble_eq_true rfl, Nat.le_of_ble_eq_true rfl⟩ (As := [.int x]) (rest := []) rfl rfl (Nat.le_of_ble_eq_true rfl) dX5_make_2 (fun r2 I2 L2 hp2 => ?_)
  obtain ⟨ho2, e1, e2⟩ := hp2
  have e1 := e1.symm
  have e2 := e2.symm
  subst e1; subst e2
  rcases ho2 with ⟨t, htt, rfl, rfl⟩ | ⟨hnot, rfl⟩
  · have hc12 := hT.2.1
    obtain ⟨hrt, hct, hr1t, hr5t, hc1t, hc5t⟩ := hT.2.2 t htt
    have ht12t : t < 12 := by omega
    have hnet : t ≠ c := by omega
    refine v_st (st' := [.ref (eA (vE a) 2 t)]) rfl ?_
    refine v_astore_n X [1, 2, 0] (lv' := [(0, .ref (eA (vE a) 0 0)), (1, .int (nI t)), (2, .ref (eA (vE a) 2 t))]) (by decide) rfl dX5_make_5 ?_
    refine v_aload_n X 2 rfl dX5_make_6 ?_
    refine v_ifnonnull X (tgt := 17) dX5_make_7 (by decide) ?_
    refine v_aload_n X 2 rfl dX5_make_17 ?_
    refine gf_X5_101 X ht12t dX5_make_18 ?_
    refine v_eqi (y := (nI (ro t))) (hrt) ?_
    refine v_aload_n X 2 rfl dX5_make_21 ?_
    refine gf_X5_104 X ht12t dX5_make_22 ?_
    refine v_eqi (y := (nI (co t))) (hct) ?_
    refine v_icmp_ne_n X (by omega) (by omega) dX5_make_25 (tgt := 36) (by decide) (fun h25 => ?_) (fun h25 => ?_)
    · refine v_aload_n X 0 rfl dX5_make_36 ?_
      refine v_bipush X (v := (-7)) dX5_make_37 (by decide) ?_
      refine v_callV X (c_X5_refused _ _ hE _ _ 7 (by decide) (by decide)) k_X5_58 dl_0 (cef_0 _ _ _ _) rfl ⟨rfl, rfl, Nat.le_of_ble_eq_true rfl, Nat.le_of_ble_eq_true rfl⟩ (As := [.int (-7)]) (rest := []) rfl rfl (Nat.le_of_ble_eq_true rfl) dX5_make_39 (fun r39 I39 L39 hp39 => ?_)
      obtain ⟨rfl, e1, e2⟩ := hp39
      have e1 := e1.symm
      have e2 := e2.symm
      subst e1; subst e2
      refine v_st (st' := [.int (-7)]) rfl ?_
      exact v_iret X Y dX5_make_42 (Or.inr ⟨t, htt, rfl, Or.inl ⟨fun q => h25 q.1, ⟨rfl, rfl⟩, rfl⟩⟩)
    · refine v_aload_n X 2 rfl dX5_make_28 ?_
      refine gf_X5_101 X ht12t dX5_make_29 ?_
      refine v_eqi (y := (nI (ro t))) (hrt) ?_
      refine v_iconst X (v := (nI 3)) dX5_make_32 (by decide) ?_
      refine v_icmp_le_n X (by omega) (by omega) dX5_make_33 (tgt := 43) (by decide) (fun h33 => ?_) (fun h33 => ?_)
      · refine v_aload_n X 0 rfl dX5_make_43 ?_
        refine gf_X5_48 X dX5_make_44 ?_
        refine v_aload_n X 2 rfl dX5_make_47 ?_
        refine v_callV X (c_X1_takeApart _ _ hE _ _ t ht12t (ro t) h33 (hrt) (by rw [h25]; exact hct) hr1t (hbd t htt)) k_X5_210 dl_17 (cef_17 _ _ _ _) rfl ⟨rfl, rfl, Nat.le_of_ble_eq_true rfl, Nat.le_of_ble_eq_true rfl⟩ (As := [.ref (eA (vE a) 2 t)]) (rest := []) rfl rfl (Nat.le_of_ble_eq_true rfl) dX5_make_48 (fun r48 I48 L48 hp48 => ?_)
        obtain ⟨hF48, hL48, rfl, hS48⟩ := hp48
        refine v_st (st' := [.int (nI ((mkS (ro t) (M0of I t)).length))]) rfl ?_
        exact v_iret X Y dX5_make_51 (Or.inr ⟨t, htt, rfl, Or.inr ⟨h25, h33, hF48, hL48, rfl, hS48⟩⟩)
      · refine v_aload_n X 0 rfl dX5_make_36 ?_
        refine v_bipush X (v := (-7)) dX5_make_37 (by decide) ?_
        refine v_callV X (c_X5_refused _ _ hE _ _ 7 (by decide) (by decide)) k_X5_58 dl_0 (cef_0 _ _ _ _) rfl ⟨rfl, rfl, Nat.le_of_ble_eq_true rfl, Nat.le_of_ble_eq_true rfl⟩ (As := [.int (-7)]) (rest := []) rfl rfl (Nat.le_of_ble_eq_true rfl) dX5_make_39 (fun r39 I39 L39 hp39 => ?_)
        obtain ⟨rfl, e1, e2⟩ := hp39
        have e1 := e1.symm
        have e2 := e2.symm
        subst e1; subst e2
        refine v_st (st' := [.int (-7)]) rfl ?_
        exact v_iret X Y dX5_make_42 (Or.inr ⟨t, htt, rfl, Or.inl ⟨fun q => by omega, ⟨rfl, rfl⟩, rfl⟩⟩)
  · refine v_st (st' := [.null]) rfl ?_
    refine v_astore_nN X [1, 2, 0] (lv' := [(0, .ref (eA (vE a) 0 0)), (1, .int x), (2, .null)]) (by decide) rfl dX5_make_5 ?_
    refine v_aload_nN X 2 rfl dX5_make_6 ?_
    refine v_ifnonnullN X dX5_make_7 ?_
    refine v_aload_n X 0 rfl dX5_make_10 ?_
    refine v_bipush X (v := (-3)) dX5_make_11 (by decide) ?_
    refine v_callV X (c_X5_refused _ _ hE _ _ 3 (by decide) (by decide)) k_X5_58 dl_0 (cef_0 _ _ _ _) rfl ⟨rfl, rfl, Nat.le_of_ble_eq_true rfl, Nat.le_of_ble_eq_true rfl⟩ (As := [.int (-3)]) (rest := []) rfl rfl (Nat.le_of_ble_eq_true rfl) dX5_make_13 (fun r13 I13 L13 hp13 => ?_)
    obtain ⟨rfl, e1, e2⟩ := hp13
    have e1 := e1.symm
    have e2 := e2.symm
    subst e1; subst e2
    refine v_st (st' := [.int (-3)]) rfl ?_
    exact v_iret X Y dX5_make_16 (Or.inl ⟨hnot, ⟨rfl, rfl⟩, rfl⟩)
def mkgA (q : Nat × Nat × Rat) : Nat → Int64
  | 0 => (nI q.1).toInt64
  | 1 => (nI q.2.1).toInt64
  | 2 => iL q.2.2.num
  | _ => iL (q.2.2.den : Int)
set_option maxHeartbeats 4000000 in
set_option maxRecDepth 100000 in
theorem c_X5_making (l : Launch) (E : VE) (hE : EOk E) (I : TI) (L : TL) (S : SL) (hS : repS I L S) (hS9 : S.length ≤ 9) (i what : Int32) : Ct l E yX5_making cX5_making 3 (some .long) rm_X5_making [.ref (eA E 0 0), .int i, .int what] I L (fun r I' L' => (¬ (0 ≤ i ∧ i < nI S.length) ∧ r = some (.long 0) ∧ I' = rfI I 3 ∧ L' = L) ∨ (∃ i' q, i = nI i' ∧ S[i']? = some q ∧ (∀ k, k < 4 → what = nI k → r = some (.long (mkgA q k)) ∧ I' = I ∧ L' = L) ∧ ((∀ k, k < 4 → what ≠ nI k) → r = some (.long 0) ∧ I' = rfI I 7 ∧ L' = L))) := by
  refine ct_of (by decide +kernel) (Nat.le_of_ble_eq_true rfl) hE ?_
  intro a X Y hl hEE
  subst hl; subst hEE
  show V a 0 [(0, .ref (eA (vE a) 0 0)), (1, .int i), (2, .int what)] [] I L
  refine v_iload_n X 1 rfl dX5_making_0 ?_
  refine v_if_lt X dX5_making_1 (tgt := 15) (by decide) (fun h1 => ?_) (fun h1 => ?_)
  · refine v_aload_n X 0 rfl dX5_making_15 ?_
    refine v_bipush X (v := (-3)) dX5_making_16 (by decide) ?_
    refine v_callV X (c_X5_nought _ _ hE _ _ 3 (by decide) (by decide)) k_X5_82 dl_0 (cef_0 _ _ _ _) rfl ⟨rfl, rfl, Nat.le_of_ble_eq_true rfl, Nat.le_of_ble_eq_true rfl⟩ (As := [.int (-3)]) (rest := []) rfl rfl (Nat.le_of_ble_eq_true rfl) dX5_making_18 (fun r18 I18 L18 hp18 => ?_)
    obtain ⟨rfl, e1, e2⟩ := hp18
    have e1 := e1.symm
    have e2 := e2.symm
    subst e1; subst e2
    refine v_st (st' := [.int (nI 0)]) rfl ?_
    refine v_i2l X dX5_making_21 rfl ?_
    exact v_lret X Y dX5_making_22 (Or.inl ⟨fun q => absurd q.1 (Int32.not_le.mpr h1), rfl, rfl, rfl⟩)
  · refine v_iload_n X 1 rfl dX5_making_4 ?_
    refine v_aload_n X 0 rfl dX5_making_5 ?_
    refine gf_X5_48 X dX5_making_6 ?_
    refine gf_X5_213 X dX5_making_9 ?_
    refine v_eqi (y := (nI S.length)) (hS.1) ?_
    refine v_icmp_lt X dX5_making_12 (tgt := 23) (by decide) (fun h12 => ?_) (fun h12 => ?_)
    · obtain ⟨i', hi', rfl⟩ := ix_of (Int32.not_lt.mp h1) h12 (by omega)
      obtain ⟨q, hq⟩ : ∃ q, S[i']? = some q := ⟨S[i'], List.getElem?_eq_getElem hi'⟩
      obtain ⟨hq1, hq2, hq3, hq4⟩ := hS.2 i' q hq
      refine v_iload_n X 2 rfl dX5_making_23 ?_
      rcases tsw what (n := 3) (m := 3) rfl (by decide) with ⟨k, hk, rfl⟩ | ⟨hout, hno⟩
      · rcases (show k = 0 ∨ k = 1 ∨ k = 2 ∨ k = 3 by omega) with rfl | rfl | rfl | rfl
        · refine v_tableIn X dX5_making_24 (by decide) (by decide) (off := 32) rfl (tgt := 56) (by decide) ?_
          refine v_aload_n X 0 rfl dX5_making_56 ?_
          refine gf_X5_48 X dX5_making_57 ?_
          refine gf_X5_214 X dX5_making_60 ?_
          refine v_iload_n X 1 rfl dX5_making_63 ?_
          refine v_iald_n X dl_18 (fun _ _ => rfl) (n := 9) (by omega) (by decide) dX5_making_64 ?_
          refine v_eqi (y := (nI q.1)) (hq1) ?_
          refine v_i2l X dX5_making_65 rfl ?_
          exact v_lret X Y dX5_making_66 (Or.inr ⟨i', q, rfl, hq, fun k hk e => by
                have e := (nI_eq (by decide) (by omega)).mp e
                subst e
                exact ⟨rfl, rfl, rfl⟩, fun h => absurd rfl (h 0 (by decide))⟩)
        · refine v_tableIn X dX5_making_24 (by decide) (by decide) (off := 43) rfl (tgt := 67) (by decide) ?_
          refine v_aload_n X 0 rfl dX5_making_67 ?_
          refine gf_X5_48 X dX5_making_68 ?_
          refine gf_X5_217 X dX5_making_71 ?_
          refine v_iload_n X 1 rfl dX5_making_74 ?_
          refine v_iald_n X dl_19 (fun _ _ => rfl) (n := 9) (by omega) (by decide) dX5_making_75 ?_
          refine v_eqi (y := (nI q.2.1)) (hq2) ?_
          refine v_i2l X dX5_making_76 rfl ?_
          exact v_lret X Y dX5_making_77 (Or.inr ⟨i', q, rfl, hq, fun k hk e => by
                have e := (nI_eq (by decide) (by omega)).mp e
                subst e
                exact ⟨rfl, rfl, rfl⟩, fun h => absurd rfl (h 1 (by decide))⟩)
        · refine v_tableIn X dX5_making_24 (by decide) (by decide) (off := 54) rfl (tgt := 78) (by decide) ?_
          refine v_aload_n X 0 rfl dX5_making_78 ?_
          refine gf_X5_48 X dX5_making_79 ?_
          refine gf_X5_219 X dX5_making_82 ?_
          refine v_iload_n X 1 rfl dX5_making_85 ?_
          refine v_lald_n X dl_20 (fun _ _ => rfl) (n := 9) (by omega) (by decide) dX5_making_86 ?_
          refine v_eql (y := (iL q.2.2.num)) (hq3) ?_
          exact v_lret X Y dX5_making_87 (Or.inr ⟨i', q, rfl, hq, fun k hk e => by
                have e := (nI_eq (by decide) (by omega)).mp e
                subst e
                exact ⟨rfl, rfl, rfl⟩, fun h => absurd rfl (h 2 (by decide))⟩)
        · refine v_tableIn X dX5_making_24 (by decide) (by decide) (off := 64) rfl (tgt := 88) (by decide) ?_
          refine v_aload_n X 0 rfl dX5_making_88 ?_
          refine gf_X5_48 X dX5_making_89 ?_
          refine gf_X5_223 X dX5_making_92 ?_
          refine v_iload_n X 1 rfl dX5_making_95 ?_
          refine v_lald_n X dl_21 (fun _ _ => rfl) (n := 9) (by omega) (by decide) dX5_making_96 ?_
          refine v_eql (y := (iL (q.2.2.den : Int))) (hq4) ?_
          exact v_lret X Y dX5_making_97 (Or.inr ⟨i', q, rfl, hq, fun k hk e => by
                have e := (nI_eq (by decide) (by omega)).mp e
                subst e
                exact ⟨rfl, rfl, rfl⟩, fun h => absurd rfl (h 3 (by decide))⟩)
      · refine v_tableOut X dX5_making_24 hout (tgt := 98) (by decide) ?_
        refine v_aload_n X 0 rfl dX5_making_98 ?_
        refine v_bipush X (v := (-7)) dX5_making_99 (by decide) ?_
        refine v_callV X (c_X5_nought _ _ hE _ _ 7 (by decide) (by decide)) k_X5_82 dl_0 (cef_0 _ _ _ _) rfl ⟨rfl, rfl, Nat.le_of_ble_eq_true rfl, Nat.le_of_ble_eq_true rfl⟩ (As := [.int (-7)]) (rest := []) rfl rfl (Nat.le_of_ble_eq_true rfl) dX5_making_101 (fun r101 I101 L101 hp101 => ?_)
        obtain ⟨rfl, e1, e2⟩ := hp101
        have e1 := e1.symm
        have e2 := e2.symm
        subst e1; subst e2
        refine v_st (st' := [.int (nI 0)]) rfl ?_
        refine v_i2l X dX5_making_104 rfl ?_
        exact v_lret X Y dX5_making_105 (Or.inr ⟨i', q, rfl, hq, fun k hk e => absurd e (hno k (by omega)), fun _ => ⟨rfl, rfl, rfl⟩⟩)
    · refine v_aload_n X 0 rfl dX5_making_15 ?_
      refine v_bipush X (v := (-3)) dX5_making_16 (by decide) ?_
      refine v_callV X (c_X5_nought _ _ hE _ _ 3 (by decide) (by decide)) k_X5_82 dl_0 (cef_0 _ _ _ _) rfl ⟨rfl, rfl, Nat.le_of_ble_eq_true rfl, Nat.le_of_ble_eq_true rfl⟩ (As := [.int (-3)]) (rest := []) rfl rfl (Nat.le_of_ble_eq_true rfl) dX5_making_18 (fun r18 I18 L18 hp18 => ?_)
      obtain ⟨rfl, e1, e2⟩ := hp18
      have e1 := e1.symm
      have e2 := e2.symm
      subst e1; subst e2
      refine v_st (st' := [.int (nI 0)]) rfl ?_
      refine v_i2l X dX5_making_21 rfl ?_
      exact v_lret X Y dX5_making_22 (Or.inl ⟨fun q => h12 q.2, rfl, rfl, rfl⟩)
