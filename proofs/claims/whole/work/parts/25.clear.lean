abbrev SL : Type := List (Nat × Nat × Rat)
def repS (I : TI) (L : TL) (S : SL) : Prop := I 17 0 4 = nI S.length ∧ ∀ i q, S[i]? = some q → I 18 0 i = nI q.1 ∧ I 19 0 i = nI q.2.1 ∧ L 20 0 i = iL q.2.2.num ∧ L 21 0 i = iL (q.2.2.den : Int)
theorem repS_add {I : TI} {L : TL} {S : SL} {k ln : Nat} {q : Rat} (h : repS I L S) : repS (upI (upI (upI I 18 0 S.length (nI k)) 19 0 S.length (nI ln)) 17 0 4 (nI (S.length + 1))) (upL (upL L 20 0 S.length (iL q.num)) 21 0 S.length (iL (q.den : Int))) (S ++ [(k, ln, q)]) := by
  refine ⟨by rw [upI_eq, List.length_append]; rfl, fun i p hp => ?_⟩
  by_cases hi : i < S.length
  · rw [List.getElem?_append_left hi] at hp
    have g := h.2 i p hp
    have hne : i ≠ S.length := by omega
    exact ⟨((upI_k (by decide)).trans ((upI_k (by decide)).trans (upI_x hne))).trans g.1, ((upI_k (by decide)).trans (upI_x hne)).trans ((upI_k (by decide)).trans g.2.1), ((upL_k (by decide)).trans (upL_x hne)).trans g.2.2.1, (upL_x hne).trans ((upL_k (by decide)).trans g.2.2.2)⟩
  · rw [List.getElem?_append_right (by omega)] at hp
    have hi2 : i - S.length < 1 := (List.getElem?_eq_some_iff.mp hp).1
    have e : i = S.length := by omega
    rw [e, Nat.sub_self] at hp
    have hp := (Option.some.inj hp).symm
    subst hp
    rw [e]
    exact ⟨(upI_k (by decide)).trans ((upI_k (by decide)).trans upI_eq), (upI_k (by decide)).trans upI_eq, (upL_k (by decide)).trans upL_eq, upL_eq⟩
theorem repS_fr {I I' : TI} {L L' : TL} {S : SL} (h : repS I L S) (h0 : I' 17 0 4 = I 17 0 4) (h1 : I' 18 0 = I 18 0) (h2 : I' 19 0 = I 19 0) (h3 : L' 20 0 = L 20 0) (h4 : L' 21 0 = L 21 0) : repS I' L' S := by
  unfold repS
  rw [h0, h1, h2, h3, h4]
  exact h
theorem repM_fr {n : Nat} {L L' : TL} {M : QM} (h : repM n L M) (h1 : L' 22 0 = L 22 0) (h2 : L' 23 0 = L 23 0) : repM n L' M := by
  unfold repM
  rw [h1, h2]
  exact h
def rl1 (c : Nat) : Nat → List (Nat × Nat)
  | 0 => []
  | r + 1 => if c < r + 1 then (c, r + 1) :: rl1 c r else []
def cl1 (n : Nat) : Nat → Nat → List (Nat × Nat)
  | 0, _ => []
  | f + 1, c => rl1 c (n - 1) ++ cl1 n f (c + 1)
def runC (k n : Nat) : List (Nat × Nat) → QM → SL → Option (QM × SL)
  | [], M, S => some (M, S)
  | (c, r) :: l, M, S => if vw k M r c = 0 then runC k n l M S else if 0 < (vw k M r c).num * (vw k M (r - 1) c).num then runC k n l (rwJ k M r (vw k M r c / vw k M (r - 1) c) n) (S ++ [(k, r - 1, vw k M r c / vw k M (r - 1) c)]) else none
def runO : Nat → Nat → QM → SL → Option SL
  | 0, _, _, S => some S
  | f + 1, i, M, S => if 0 < (M i i).num then runO f (i + 1) M (S ++ [(2, i, M i i)]) else none
def mkS (n : Nat) (M : QM) : SL := match runC 1 n (cl1 n n 0) M [] with
  | none => []
  | some (M1, S1) => match runC 0 n (cl1 n n 0) M1 S1 with
    | none => []
    | some (M2, S2) => (runO n 0 M2 S2).getD []
theorem rl1_no {c r : Nat} (h : r ≤ c) : rl1 c r = [] := by
  cases r with
  | zero => rfl
  | succ r => exact if_neg (by omega)
theorem rl1_yes {c r : Nat} (h : c < r) : rl1 c r = (c, r) :: rl1 c (r - 1) := by
  cases r with
  | zero => omega
  | succ r => exact if_pos h
theorem cl1_yes {n c : Nat} (h : c < n) : cl1 n (n - c) c = rl1 c (n - 1) ++ cl1 n (n - (c + 1)) (c + 1) := by
  obtain ⟨f, hf⟩ : ∃ f, n - c = f + 1 := ⟨n - c - 1, by omega⟩
  rw [hf, show n - (c + 1) = f by omega]
  rfl
theorem cl1_len : ∀ n, n < 4 → (cl1 n n 0).length ≤ 3 := by decide +kernel
theorem chg2_L {L L' : TL} {h : Nat} {u l : Int64} (c : chg2 L L' h u l) : FL [(22, 0), (23, 0)] L L' := fun k j hn => by
  funext x
  refine c.2.2 k j x (fun q => hn ?_)
  rcases q.2.2 with e | e
  · rw [q.1, e]; simp
  · rw [q.1, e]; simp
set_option maxHeartbeats 4000000 in
set_option maxRecDepth 100000 in
theorem c_X1_takeRowAbove (l : Launch) (E : VE) (hE : EOk E) (I : TI) (L : TL) (n k r c : Nat) (M : QM) (Q : Rat) (hk : k < 2) (hn : n ≤ 3) (hcr : c < r) (hrn : r < n) (hsz : I 17 0 5 = nI n) (hM : repM n L M) (hQ1 : L 17 0 8 = iL Q.num) (hQ2 : L 17 0 9 = iL (Q.den : Int)) (hz : ∀ j, j < c → vw k M r j = 0 ∧ vw k M (r - 1) j = 0) (hcc : vw k M r c - Q * vw k M (r - 1) c = 0) (hQn : Q.num.natAbs < 2 ^ 63) (hQd : Q.den < 2 ^ 63) (hrg : ∀ i j, i < n → j < n → (vw k M i j).num.natAbs < 2 ^ 63 ∧ (vw k M i j).den < 2 ^ 63) (hts : ∀ j, c < j → j < n → (vw k M (r - 1) j).num ≠ 0 → ((vw k M r j).num * ((Q.den / Nat.gcd (vw k M (r - 1) j).num.natAbs Q.den * ((vw k M (r - 1) j).den / Nat.gcd Q.num.natAbs (vw k M (r - 1) j).den) : Nat) : Int) - (Q.num / (Nat.gcd Q.num.natAbs (vw k M (r - 1) j).den : Int) * ((vw k M (r - 1) j).num / (Nat.gcd (vw k M (r - 1) j).num.natAbs Q.den : Int))) * ((vw k M r j).den : Int)).natAbs < 2 ^ 63 ∧ (vw k M r j).den * (Q.den / Nat.gcd (vw k M (r - 1) j).num.natAbs Q.den * ((vw k M (r - 1) j).den / Nat.gcd Q.num.natAbs (vw k M (r - 1) j).den)) < 2 ^ 63) : Ct l E yX1_takeRowAbove cX1_takeRowAbove 5 none rm_X1_takeRowAbove [.ref (eA E 17 0), .int (nI k), .int (nI r), .int (nI c)] I L (fun r9 I' L' => r9 = none ∧ I' = I ∧ repM n L' (rwJ k M r Q n) ∧ FL [(22, 0), (23, 0)] L L') := by
  refine ct_of (by decide +kernel) (Nat.le_of_ble_eq_true rfl) hE ?_
  intro a X Y hl hEE
  subst hl; subst hEE
  show V a 0 [(0, .ref (eA (vE a) 17 0)), (1, .int (nI k)), (2, .int (nI r)), (3, .int (nI c))] [] I L
  refine v_aload_n X 0 rfl dX1_takeRowAbove_0 ?_
  refine gf_X1_25 X dX1_takeRowAbove_1 ?_
  refine v_iload_n X 1 rfl dX1_takeRowAbove_4 ?_
  refine v_iload_n X 2 rfl dX1_takeRowAbove_5 ?_
  refine v_iload_n X 3 rfl dX1_takeRowAbove_6 ?_
  refine v_callS X (c_X1_placeOf _ _ hE _ _ k r c (by omega) (by omega) (by omega)) k_X1_61 ⟨rfl, rfl, Nat.le_of_ble_eq_true rfl, Nat.le_of_ble_eq_true rfl⟩ (As := [.int (nI k), .int (nI r), .int (nI c)]) (rest := [.ref (eA (vE a) 22 0)]) rfl rfl (Nat.le_of_ble_eq_true rfl) dX1_takeRowAbove_7 (fun r7 I7 L7 hp7 => ?_)
  obtain ⟨rfl, e1, e2⟩ := hp7
  have e1 := e1.symm
  have e2 := e2.symm
  subst e1; subst e2
  refine v_st (st' := [.int (nI (pl3 k r c)), .ref (eA (vE a) 22 0)]) rfl ?_
  refine v_lconst X (v := 0) dX1_takeRowAbove_10 rfl ?_
  refine v_last_n X dl_22 (fun _ _ => rfl) (n := 9) (pl3_lt (by omega) (by omega)) (by decide) dX1_takeRowAbove_11 ?_
  refine v_aload_n X 0 rfl dX1_takeRowAbove_12 ?_
  refine gf_X1_28 X dX1_takeRowAbove_13 ?_
  refine v_iload_n X 1 rfl dX1_takeRowAbove_16 ?_
  refine v_iload_n X 2 rfl dX1_takeRowAbove_17 ?_
  refine v_iload_n X 3 rfl dX1_takeRowAbove_18 ?_
  refine v_callS X (c_X1_placeOf _ _ hE _ _ k r c (by omega) (by omega) (by omega)) k_X1_61 ⟨rfl, rfl, Nat.le_of_ble_eq_true rfl, Nat.le_of_ble_eq_true rfl⟩ (As := [.int (nI k), .int (nI r), .int (nI c)]) (rest := [.ref (eA (vE a) 23 0)]) rfl rfl (Nat.le_of_ble_eq_true rfl) dX1_takeRowAbove_19 (fun r19 I19 L19 hp19 => ?_)
  obtain ⟨rfl, e1, e2⟩ := hp19
  have e1 := e1.symm
  have e2 := e2.symm
  subst e1; subst e2
  refine v_st (st' := [.int (nI (pl3 k r c)), .ref (eA (vE a) 23 0)]) rfl ?_
  refine v_lconst X (v := 1) dX1_takeRowAbove_22 rfl ?_
  refine v_last_n X dl_23 (fun _ _ => rfl) (n := 9) (pl3_lt (by omega) (by omega)) (by decide) dX1_takeRowAbove_23 ?_
  have hc0 : chg2 L (upL (upL L 22 0 (pl3 k r c) 0) 23 0 (pl3 k r c) 1) (pl3 k r c) (iL (vw k M r c - Q * vw k M (r - 1) c).num) (iL ((vw k M r c - Q * vw k M (r - 1) c).den : Int)) := by
    rw [hcc]
    exact chg2_up
  have hM0 : repM n L (rwJ k M r Q c) := repM_of (k := k) (fun i j hi hj => by
    rw [vw_rwJ]
    by_cases e : i = r ∧ j < c
    · obtain ⟨ei, ej⟩ := e
      subst ei
      rw [if_pos ⟨rfl, ej⟩, (hz j ej).2, Rat.mul_zero, Rat.sub_eq_add_neg, Rat.neg_zero, Rat.add_zero]
      exact repM_v hM hi hj
    · rw [if_neg e]
      exact repM_v hM hi hj)
  have hM1 := repM_set hn hrn (by omega) hM0 hc0
  refine v_iload_n X 3 rfl dX1_takeRowAbove_24 ?_
  refine v_iconst X (v := (nI 1)) dX1_takeRowAbove_25 (by decide) ?_
  refine v_iadd X dX1_takeRowAbove_26 ?_
  refine v_eqi (y := (nI (c + 1))) (nI_add _ _) ?_
  refine v_istore X [1, 2, 3, 4, 0] (lv' := [(0, .ref (eA (vE a) 17 0)), (1, .int (nI k)), (2, .int (nI r)), (3, .int (nI c)), (4, .int (nI (c + 1)))]) (by decide) rfl dX1_takeRowAbove_27 ?_
  have loop29 : ∀ (fu : Nat) (j : Nat) (L1 : TL), 4 - j < fu → (c < j) → (j ≤ n) → (repM n L1 (rwJ k M r Q j)) → (FL [(22, 0), (23, 0)] L L1) → V a 29 [(0, .ref (eA (vE a) 17 0)), (1, .int (nI k)), (2, .int (nI r)), (3, .int (nI c)), (4, .int (nI j))] [] I L1 := by
    intro fu
    induction fu with
    | zero => intro j L1 hm _ _ _ _; exact absurd hm (Nat.not_lt_zero _)
    | succ fu ih29 =>
      intro j L1 hm29 hcj hj hMj hFL
      refine v_iload X 4 rfl dX1_takeRowAbove_29 ?_
      refine v_aload_n X 0 rfl dX1_takeRowAbove_31 ?_
      refine gf_X1_58 X dX1_takeRowAbove_32 ?_
      refine v_eqi (y := (nI n)) (hsz) ?_
      refine v_icmp_ge_n X (by omega) (by omega) dX1_takeRowAbove_35 (tgt := 64) (by decide) (fun h35 => ?_) (fun h35 => ?_)
      · exact v_vret X Y dX1_takeRowAbove_64 (⟨rfl, rfl, by rw [show n = j by omega] at hMj ⊢; exact hMj, hFL⟩)
      · have hv1 := repM_v (k := k) hMj hrn (show j < n by omega)
        have hv2 := repM_v (k := k) hMj (show r - 1 < n by omega) (show j < n by omega)
        rw [vw_rwJ, if_neg (by omega)] at hv1 hv2
        have hq1 : L1 17 0 8 = iL Q.num := (hFL.at (by simp) 8).trans hQ1
        have hq2 : L1 17 0 9 = iL (Q.den : Int) := (hFL.at (by simp) 9).trans hQ2
        refine v_aload_n X 0 rfl dX1_takeRowAbove_38 ?_
        refine v_iload_n X 1 rfl dX1_takeRowAbove_39 ?_
        refine v_iload_n X 2 rfl dX1_takeRowAbove_40 ?_
        refine v_iload X 4 rfl dX1_takeRowAbove_41 ?_
        refine v_callS X (c_X1_placeOf _ _ hE _ _ k r j (by omega) (by omega) (by omega)) k_X1_61 ⟨rfl, rfl, Nat.le_of_ble_eq_true rfl, Nat.le_of_ble_eq_true rfl⟩ (As := [.int (nI k), .int (nI r), .int (nI j)]) (rest := [.ref (eA (vE a) 17 0)]) rfl rfl (Nat.le_of_ble_eq_true rfl) dX1_takeRowAbove_43 (fun r43 I43 L43 hp43 => ?_)
        obtain ⟨rfl, e1, e2⟩ := hp43
        have e1 := e1.symm
        have e2 := e2.symm
        subst e1; subst e2
        refine v_st (st' := [.int (nI (pl3 k r j)), .ref (eA (vE a) 17 0)]) rfl ?_
        refine v_iload_n X 1 rfl dX1_takeRowAbove_46 ?_
        refine v_iload_n X 2 rfl dX1_takeRowAbove_47 ?_
        refine v_iconst X (v := (nI 1)) dX1_takeRowAbove_48 (by decide) ?_
        refine v_isub X dX1_takeRowAbove_49 ?_
        refine v_eqi (y := (nI (r - 1))) (pk_sub (by omega)) ?_
        refine v_iload X 4 rfl dX1_takeRowAbove_50 ?_
        refine v_callS X (c_X1_placeOf _ _ hE _ _ k (r - 1) j (by omega) (by omega) (by omega)) k_X1_61 ⟨rfl, rfl, Nat.le_of_ble_eq_true rfl, Nat.le_of_ble_eq_true rfl⟩ (As := [.int (nI k), .int (nI (r - 1)), .int (nI j)]) (rest := [.int (nI (pl3 k r j)), .ref (eA (vE a) 17 0)]) rfl rfl (Nat.le_of_ble_eq_true rfl) dX1_takeRowAbove_52 (fun r52 I52 L52 hp52 => ?_)
        obtain ⟨rfl, e1, e2⟩ := hp52
        have e1 := e1.symm
        have e2 := e2.symm
        subst e1; subst e2
        refine v_st (st' := [.int (nI (pl3 k (r - 1) j)), .int (nI (pl3 k r j)), .ref (eA (vE a) 17 0)]) rfl ?_
        refine v_callV X (c_X1_takeShare _ _ hE _ _ Q (vw k M r j) (vw k M (r - 1) j) (pl3 k r j) (pl3 k (r - 1) j) (pl3_lt (by omega) (by omega)) (pl3_lt (by omega) (by omega)) (fun e => by have := (pl3_inj (by omega) (by omega) (by omega) (by omega) e).1; omega) hv1.1 hv1.2 hv2.1 hv2.2 (hrg r j hrn (by omega)).1 (hrg r j hrn (by omega)).2 (hrg (r - 1) j (by omega) (by omega)).1 (hrg (r - 1) j (by omega) (by omega)).2 hq1 hq2 hQn hQd (hts j (by omega) (by omega))) k_X1_102 dl_17 (cef_17 _ _ _ _) rfl ⟨rfl, rfl, Nat.le_of_ble_eq_true rfl, Nat.le_of_ble_eq_true rfl⟩ (As := [.int (nI (pl3 k r j)), .int (nI (pl3 k (r - 1) j))]) (rest := []) rfl rfl (Nat.le_of_ble_eq_true rfl) dX1_takeRowAbove_55 (fun r55 I55 L55 hp55 => ?_)
        obtain ⟨rfl, e1, hch55⟩ := hp55
        have e1 := e1.symm
        subst e1
        refine v_st (st' := []) rfl ?_
        refine v_iinc X [1, 2, 3, 4, 0] 4 (nI (j + 1)) (lv' := [(0, .ref (eA (vE a) 17 0)), (1, .int (nI k)), (2, .int (nI r)), (3, .int (nI c)), (4, .int (nI (j + 1)))]) rfl (nI_1 _) (by decide) rfl dX1_takeRowAbove_58 ?_
        refine v_goto X (tgt := 29) dX1_takeRowAbove_61 (by decide) ?_
        exact ih29 (j + 1) L55 (by omega) (by omega) (by omega) (repM_set hn hrn (by omega) hMj hch55) (hFL.tr (chg2_L hch55))
  exact loop29 _ (c + 1) (upL (upL L 22 0 (pl3 k r c) 0) 23 0 (pl3 k r c) 1) (Nat.lt_succ_self _) (by omega) (by omega) hM1 ((FL.rf.up (by simp)).up (by simp))
set_option maxHeartbeats 4000000 in
set_option maxRecDepth 100000 in
theorem c_X1_clear (l : Launch) (E : VE) (hE : EOk E) (I : TI) (L : TL) (n k B : Nat) (hk : k < 2) (hn1 : 1 ≤ n) (hn3 : n ≤ 3) (hB : B ≤ 6) (M0 : QM) (S0 : SL) (Z : Option (QM × SL)) (hsz : I 17 0 5 = nI n) (hM0 : repM n L M0) (hS0 : repS I L S0) (hg0 : good k (stg 0 (n - 1)) n M0) (hlen0 : S0.length + (cl1 n n 0).length ≤ B) (hX0 : runC k n (cl1 n n 0) M0 S0 = Z) : Ct l E yX1_clear cX1_clear 5 (some .boolean) rm_X1_clear [.ref (eA E 17 0), .int (nI k)] I L (fun r9 I' L' => Fr [(17, 0), (18, 0), (19, 0)] I I' ∧ I' 17 0 5 = nI n ∧ FL [(17, 0), (20, 0), (21, 0), (22, 0), (23, 0)] L L' ∧ ((Z = none ∧ r9 = some (.int (nI 0))) ∨ (∃ M' S', Z = some (M', S') ∧ r9 = some (.int (nI 1)) ∧ repM n L' M' ∧ repS I' L' S' ∧ good k 3 n M' ∧ S'.length ≤ B))) := by
  refine ct_of (by decide +kernel) (Nat.le_of_ble_eq_true rfl) hE ?_
  intro a X Y hl hEE
  subst hl; subst hEE
  show V a 0 [(0, .ref (eA (vE a) 17 0)), (1, .int (nI k))] [] I L
  refine v_iconst X (v := (nI 0)) dX1_clear_0 (by decide) ?_
  refine v_istore_n X [1, 2, 0] (lv' := [(0, .ref (eA (vE a) 17 0)), (1, .int (nI k)), (2, .int (nI 0))]) (by decide) rfl dX1_clear_1 ?_
  have loop2 : ∀ (fu : Nat) (c : Nat) (M : QM) (S : SL) (I1 : TI) (L1 : TL), 4 - c < fu → (c ≤ n) → (Fr [(17, 0), (18, 0), (19, 0)] I I1) → (I1 17 0 5 = nI n) → (FL [(17, 0), (20, 0), (21, 0), (22, 0), (23, 0)] L L1) → (repM n L1 M) → (repS I1 L1 S) → (good k (stg c (n - 1)) n M) → (S.length + (cl1 n (n - c) c).length ≤ B) → (runC k n (cl1 n (n - c) c) M S = Z) → V a 2 [(0, .ref (eA (vE a) 17 0)), (1, .int (nI k)), (2, .int (nI c))] [] I1 L1 := by
    intro fu
    induction fu with
    | zero => intro c M S I1 L1 hm _ _ _ _ _ _ _ _ _; exact absurd hm (Nat.not_lt_zero _)
    | succ fu ih2 =>
      intro c M S I1 L1 hm2 hc hFr hs5 hFL hM hS hg hlen hX
      refine v_iload_n X 2 rfl dX1_clear_2 ?_
      refine v_aload_n X 0 rfl dX1_clear_3 ?_
      refine gf_X1_58 X dX1_clear_4 ?_
      refine v_eqi (y := (nI n)) (hs5) ?_
      refine v_icmp_ge_n X (by omega) (by omega) dX1_clear_7 (tgt := 99) (by decide) (fun h7 => ?_) (fun h7 => ?_)
      · refine v_iconst X (v := (nI 1)) dX1_clear_99 (by decide) ?_
        exact v_zret X Y (rfl) dX1_clear_100 (⟨hFr, hs5, hFL, Or.inr ⟨M, S, by rw [show n - c = 0 by omega] at hX; exact hX.symm, rfl, hM, hS, by rw [show c = n by omega, tb_e n (by omega) hn1] at hg; exact hg, by omega⟩⟩)
      · refine v_aload_n X 0 rfl dX1_clear_10 ?_
        refine gf_X1_58 X dX1_clear_11 ?_
        refine v_eqi (y := (nI n)) (hs5) ?_
        refine v_iconst X (v := (nI 1)) dX1_clear_14 (by decide) ?_
        refine v_isub X dX1_clear_15 ?_
        refine v_eqi (y := (nI (n - 1))) (pk_sub (by omega)) ?_
        refine v_istore_n X [1, 2, 3, 0] (lv' := [(0, .ref (eA (vE a) 17 0)), (1, .int (nI k)), (2, .int (nI c)), (3, .int (nI (n - 1)))]) (by decide) rfl dX1_clear_16 ?_
        have loop17 : ∀ (fu : Nat) (r : Nat) (M : QM) (S : SL) (I1 : TI) (L1 : TL), r < fu → (c ≤ r) → (r ≤ n - 1) → (Fr [(17, 0), (18, 0), (19, 0)] I I1) → (I1 17 0 5 = nI n) → (FL [(17, 0), (20, 0), (21, 0), (22, 0), (23, 0)] L L1) → (repM n L1 M) → (repS I1 L1 S) → (good k (stg c r) n M) → (S.length + (rl1 c r ++ cl1 n (n - (c + 1)) (c + 1)).length ≤ B) → (runC k n (rl1 c r ++ cl1 n (n - (c + 1)) (c + 1)) M S = Z) → V a 17 [(0, .ref (eA (vE a) 17 0)), (1, .int (nI k)), (2, .int (nI c)), (3, .int (nI r))] [] I1 L1 := by
          intro fu
          induction fu with
          | zero => intro r M S I1 L1 hm _ _ _ _ _ _ _ _ _ _; exact absurd hm (Nat.not_lt_zero _)
          | succ fu ih17 =>
            intro r M S I1 L1 hm17 hcr hrn1 hFr hs5 hFL hM hS hg hlen hX
            refine v_iload_n X 3 rfl dX1_clear_17 ?_
            refine v_iload_n X 2 rfl dX1_clear_18 ?_
            refine v_icmp_le_n X (by omega) (by omega) dX1_clear_19 (tgt := 93) (by decide) (fun h19 => ?_) (fun h19 => ?_)
            · refine v_iinc X [1, 2, 0, 3] 2 (nI (c + 1)) (lv' := [(0, .ref (eA (vE a) 17 0)), (1, .int (nI k)), (2, .int (nI (c + 1))), (3, .int (nI r))]) rfl (nI_1 _) (by decide) rfl dX1_clear_93 ?_
              refine v_goto X (tgt := 2) dX1_clear_96 (by decide) ?_
              refine v_sub [0, 1, 2] (lv' := [(0, .ref (eA (vE a) 17 0)), (1, .int (nI k)), (2, .int (nI (c + 1)))]) rfl ?_
              rw [rl1_no h19, List.nil_append] at hX hlen
              exact ih2 (c + 1) M S I1 L1 (by omega) (by omega) hFr hs5 hFL hM hS (good_col hk hn3 (by omega) (by rw [show r = c by omega] at hg; exact hg)) hlen hX
            · have hrn : r < n := by omega
              have hvH := repM_v (k := k) hM hrn (show c < n by omega)
              have hvA := repM_v (k := k) hM (show r - 1 < n by omega) (show c < n by omega)
              have hgH := good_rg hk hn3 (stg_lt _ _) hg hrn (show c < n by omega)
              have hgA := good_rg hk hn3 (stg_lt _ _) hg (show r - 1 < n by omega) (show c < n by omega)
              refine v_iload_n X 1 rfl dX1_clear_22 ?_
              refine v_iload_n X 3 rfl dX1_clear_23 ?_
              refine v_iload_n X 2 rfl dX1_clear_24 ?_
              refine v_callS X (c_X1_placeOf _ _ hE _ _ k r c (by omega) (by omega) (by omega)) k_X1_61 ⟨rfl, rfl, Nat.le_of_ble_eq_true rfl, Nat.le_of_ble_eq_true rfl⟩ (As := [.int (nI k), .int (nI r), .int (nI c)]) (rest := []) rfl rfl (Nat.le_of_ble_eq_true rfl) dX1_clear_25 (fun r25 I25 L25 hp25 => ?_)
              obtain ⟨rfl, e1, e2⟩ := hp25
              have e1 := e1.symm
              have e2 := e2.symm
              subst e1; subst e2
              refine v_st (st' := [.int (nI (pl3 k r c))]) rfl ?_
              refine v_istore X [1, 2, 3, 4, 0] (lv' := [(0, .ref (eA (vE a) 17 0)), (1, .int (nI k)), (2, .int (nI c)), (3, .int (nI r)), (4, .int (nI (pl3 k r c)))]) (by decide) rfl dX1_clear_28 ?_
              refine v_aload_n X 0 rfl dX1_clear_30 ?_
              refine gf_X1_25 X dX1_clear_31 ?_
              refine v_iload X 4 rfl dX1_clear_34 ?_
              refine v_lald_n X dl_22 (fun _ _ => rfl) (n := 9) (pl3_lt (by omega) (by omega)) (by decide) dX1_clear_36 ?_
              refine v_lconst X (v := 0) dX1_clear_37 rfl ?_
              refine v_lcmp_ne X dX1_clear_38 dX1_clear_39 (tgt := 45) (by decide) (fun h38 => ?_) (fun h38 => ?_)
              · have hH0 : ¬ vw k M r c = 0 := fun e => h38 (by rw [hvH.1, e]; rfl)
                refine v_aload_n X 0 rfl dX1_clear_45 ?_
                refine v_iload X 4 rfl dX1_clear_46 ?_
                refine v_iload_n X 1 rfl dX1_clear_48 ?_
                refine v_iload_n X 3 rfl dX1_clear_49 ?_
                refine v_iconst X (v := (nI 1)) dX1_clear_50 (by decide) ?_
                refine v_isub X dX1_clear_51 ?_
                refine v_eqi (y := (nI (r - 1))) (pk_sub (by omega)) ?_
                refine v_iload_n X 2 rfl dX1_clear_52 ?_
                refine v_callS X (c_X1_placeOf _ _ hE _ _ k (r - 1) c (by omega) (by omega) (by omega)) k_X1_61 ⟨rfl, rfl, Nat.le_of_ble_eq_true rfl, Nat.le_of_ble_eq_true rfl⟩ (As := [.int (nI k), .int (nI (r - 1)), .int (nI c)]) (rest := [.int (nI (pl3 k r c)), .ref (eA (vE a) 17 0)]) rfl rfl (Nat.le_of_ble_eq_true rfl) dX1_clear_53 (fun r53 I53 L53 hp53 => ?_)
                obtain ⟨rfl, e1, e2⟩ := hp53
                have e1 := e1.symm
                have e2 := e2.symm
                subst e1; subst e2
                refine v_st (st' := [.int (nI (pl3 k (r - 1) c)), .int (nI (pl3 k r c)), .ref (eA (vE a) 17 0)]) rfl ?_
                refine v_callV X (c_X1_findShare _ _ hE _ _ (vw k M r c) (vw k M (r - 1) c) (pl3 k r c) (pl3 k (r - 1) c) (pl3_lt (by omega) (by omega)) (pl3_lt (by omega) (by omega)) hvH.1 hvH.2 hvA.1 hvA.2 hgH.1 hgH.2 hgA.1 hgA.2) k_X1_68 dl_17 (cef_17 _ _ _ _) rfl ⟨rfl, rfl, Nat.le_of_ble_eq_true rfl, Nat.le_of_ble_eq_true rfl⟩ (As := [.int (nI (pl3 k r c)), .int (nI (pl3 k (r - 1) c))]) (rest := []) rfl rfl (Nat.le_of_ble_eq_true rfl) dX1_clear_56 (fun r56 I56 L56 hp56 => ?_)
                obtain ⟨ho, e1⟩ := hp56
                have e1 := e1.symm
                subst e1
                rcases ho with ⟨hneg, rfl, e2⟩ | ⟨hpos, rfl, e2⟩
                · have e2 := e2.symm
                  subst e2
                  refine v_st (st' := [.int (nI 0)]) rfl ?_
                  refine v_if_ne_n X (by omega) dX1_clear_59 (tgt := 64) (by decide) (fun h59 => ?_) (fun h59 => ?_)
                  · exact absurd h59 (by decide)
                  · refine v_iconst X (v := (nI 0)) dX1_clear_62 (by decide) ?_
                    exact v_zret X Y (rfl) dX1_clear_63 (⟨hFr, hs5, hFL, Or.inl ⟨by rw [rl1_yes h19] at hX; exact hX.symm.trans ((if_neg hH0).trans (if_neg hneg)), rfl⟩⟩)
                · have e2 := e2.symm
                  subst e2
                  refine v_st (st' := [.int (nI 1)]) rfl ?_
                  refine v_if_ne_n X (by omega) dX1_clear_59 (tgt := 64) (by decide) (fun h59 => ?_) (fun h59 => ?_)
                  · obtain ⟨gQn, gQd, gts, gz, gcc, ggood⟩ := good_step hk hn3 h19 hrn hg hpos
                    have hs9 : S.length < 9 := by rw [rl1_yes h19, List.cons_append, List.length_cons] at hlen; omega
                    refine v_aload_n X 0 rfl dX1_clear_64 ?_
                    refine v_iload_n X 1 rfl dX1_clear_65 ?_
                    refine v_iload_n X 3 rfl dX1_clear_66 ?_
                    refine v_iconst X (v := (nI 1)) dX1_clear_67 (by decide) ?_
                    refine v_isub X dX1_clear_68 ?_
                    refine v_eqi (y := (nI (r - 1))) (pk_sub (by omega)) ?_
                    refine v_aload_n X 0 rfl dX1_clear_69 ?_
                    refine gf_X1_72 X dX1_clear_70 ?_
                    refine v_eql (y := (iL (vw k M r c / vw k M (r - 1) c).num)) ((upL_x (by decide)).trans (upL_eq)) ?_
                    refine v_aload_n X 0 rfl dX1_clear_73 ?_
                    refine gf_X1_76 X dX1_clear_74 ?_
                    refine v_eql (y := (iL ((vw k M r c / vw k M (r - 1) c).den : Int))) (upL_eq) ?_
                    refine v_callV X (c_X1_note _ _ hE _ _ S.length (hS.1) hs9 (nI k) (nI (r - 1)) (iL (vw k M r c / vw k M (r - 1) c).num) (iL ((vw k M r c / vw k M (r - 1) c).den : Int))) k_X1_79 dl_17 (cef_17 _ _ _ _) rfl ⟨rfl, rfl, Nat.le_of_ble_eq_true rfl, Nat.le_of_ble_eq_true rfl⟩ (As := [.int (nI k), .int (nI (r - 1)), .long (iL (vw k M r c / vw k M (r - 1) c).num), .long (iL ((vw k M r c / vw k M (r - 1) c).den : Int))]) (rest := []) rfl rfl (Nat.le_of_ble_eq_true rfl) dX1_clear_77 (fun r77 I77 L77 hp77 => ?_)
                    obtain ⟨rfl, e1, e2⟩ := hp77
                    have e1 := e1.symm
                    have e2 := e2.symm
                    subst e1; subst e2
                    refine v_st (st' := []) rfl ?_
                    have hS64 : repS I1 (upL (upL L1 17 0 8 (iL (vw k M r c / vw k M (r - 1) c).num)) 17 0 9 (iL ((vw k M r c / vw k M (r - 1) c).den : Int))) S := repS_fr hS rfl rfl rfl ((upL_off _ 17 0 9 _ (by simp)).trans (upL_off _ 17 0 8 _ (by simp))) ((upL_off _ 17 0 9 _ (by simp)).trans (upL_off _ 17 0 8 _ (by simp)))
                    have hS77 := repS_add (k := k) (ln := r - 1) (q := (vw k M r c / vw k M (r - 1) c)) hS64
                    have hM84 : repM n (upL (upL (upL (upL L1 17 0 8 (iL (vw k M r c / vw k M (r - 1) c).num)) 17 0 9 (iL ((vw k M r c / vw k M (r - 1) c).den : Int))) 20 0 S.length (iL (vw k M r c / vw k M (r - 1) c).num)) 21 0 S.length (iL ((vw k M r c / vw k M (r - 1) c).den : Int))) M := repM_fr hM (by rw [upL_off _ _ _ _ _ (by simp), upL_off _ _ _ _ _ (by simp), upL_off _ _ _ _ _ (by simp), upL_off _ _ _ _ _ (by simp)]) (by rw [upL_off _ _ _ _ _ (by simp), upL_off _ _ _ _ _ (by simp), upL_off _ _ _ _ _ (by simp), upL_off _ _ _ _ _ (by simp)])
                    refine v_aload_n X 0 rfl dX1_clear_80 ?_
                    refine v_iload_n X 1 rfl dX1_clear_81 ?_
                    refine v_iload_n X 3 rfl dX1_clear_82 ?_
                    refine v_iload_n X 2 rfl dX1_clear_83 ?_
                    refine v_callV X (c_X1_takeRowAbove _ _ hE _ _ n k r c M (vw k M r c / vw k M (r - 1) c) hk hn3 h19 hrn ((upI_x (by decide)).trans ((upI_k (by decide)).trans ((upI_k (by decide)).trans (hs5)))) hM84 ((upL_k (by decide)).trans ((upL_k (by decide)).trans ((upL_x (by decide)).trans upL_eq))) ((upL_k (by decide)).trans ((upL_k (by decide)).trans upL_eq)) gz gcc gQn gQd (fun i j hi hj => good_rg hk hn3 (stg_lt _ _) hg hi hj) gts) k_X1_83 dl_17 (cef_17 _ _ _ _) rfl ⟨rfl, rfl, Nat.le_of_ble_eq_true rfl, Nat.le_of_ble_eq_true rfl⟩ (As := [.int (nI k), .int (nI r), .int (nI c)]) (rest := []) rfl rfl (Nat.le_of_ble_eq_true rfl) dX1_clear_84 (fun r84 I84 L84 hp84 => ?_)
                    obtain ⟨rfl, e1, hM84, hL84⟩ := hp84
                    have e1 := e1.symm
                    subst e1
                    refine v_st (st' := []) rfl ?_
                    refine v_iinc X [1, 2, 3, 0, 4] 3 (nI (r - 1)) (lv' := [(0, .ref (eA (vE a) 17 0)), (1, .int (nI k)), (2, .int (nI c)), (3, .int (nI (r - 1))), (4, .int (nI (pl3 k r c)))]) rfl (nI_dec (by omega)) (by decide) rfl dX1_clear_87 ?_
                    refine v_goto X (tgt := 17) dX1_clear_90 (by decide) ?_
                    refine v_sub [0, 1, 2, 3] (lv' := [(0, .ref (eA (vE a) 17 0)), (1, .int (nI k)), (2, .int (nI c)), (3, .int (nI (r - 1)))]) rfl ?_
                    rw [rl1_yes h19] at hX hlen
                    have hX2 : runC k n (rl1 c (r - 1) ++ cl1 n (n - (c + 1)) (c + 1)) (rwJ k M r (vw k M r c / vw k M (r - 1) c) n) (S ++ [(k, r - 1, (vw k M r c / vw k M (r - 1) c))]) = Z := ((if_neg hH0).trans (if_pos hpos)).symm.trans hX
                    exact ih17 (r - 1) (rwJ k M r (vw k M r c / vw k M (r - 1) c) n) (S ++ [(k, r - 1, (vw k M r c / vw k M (r - 1) c))]) (upI (upI (upI I1 18 0 S.length (nI k)) 19 0 S.length (nI (r - 1))) 17 0 4 (nI (S.length + 1))) L84 (by omega) (by omega) (by omega) (((hFr.up (by simp)).up (by simp)).up (by simp)) ((upI_x (by decide)).trans ((upI_k (by decide)).trans ((upI_k (by decide)).trans hs5))) (((((hFL.up (by simp)).up (by simp)).up (by simp)).up (by simp)).tr (hL84.mono (by simp))) hM84 (repS_fr hS77 rfl rfl rfl (hL84 20 0 (by simp)) (hL84 21 0 (by simp))) ggood (by simp only [List.cons_append, List.length_cons, List.length_append, List.length_nil] at hlen ⊢; omega) hX2
                  · exact absurd h59 (by decide)
              · have hH0 : vw k M r c = 0 := Rat.num_eq_zero.mp ((iL_eq hgH.1 (by decide)).mp (hvH.1.symm.trans h38))
                refine v_goto X (tgt := 87) dX1_clear_42 (by decide) ?_
                refine v_iinc X [1, 2, 3, 0, 4] 3 (nI (r - 1)) (lv' := [(0, .ref (eA (vE a) 17 0)), (1, .int (nI k)), (2, .int (nI c)), (3, .int (nI (r - 1))), (4, .int (nI (pl3 k r c)))]) rfl (nI_dec (by omega)) (by decide) rfl dX1_clear_87 ?_
                refine v_goto X (tgt := 17) dX1_clear_90 (by decide) ?_
                refine v_sub [0, 1, 2, 3] (lv' := [(0, .ref (eA (vE a) 17 0)), (1, .int (nI k)), (2, .int (nI c)), (3, .int (nI (r - 1)))]) rfl ?_
                rw [rl1_yes h19] at hX hlen
                have hX2 : runC k n (rl1 c (r - 1) ++ cl1 n (n - (c + 1)) (c + 1)) M S = Z := (if_pos hH0).symm.trans hX
                exact ih17 (r - 1) M S I1 L1 (by omega) (by omega) (by omega) hFr hs5 hFL hM hS (good_skip hk hn3 h19 hrn hg hH0) (by simp only [List.cons_append, List.length_cons] at hlen; omega) hX2
        rw [cl1_yes h7] at hX hlen
        exact loop17 _ (n - 1) M S I1 L1 (Nat.lt_succ_self _) (by omega) (Nat.le_refl _) hFr hs5 hFL hM hS hg hlen hX
  exact loop2 _ 0 M0 S0 I L (Nat.lt_succ_self _) (Nat.zero_le _) Fr.rf hsz FL.rf hM0 hS0 hg0 hlen0 hX0
