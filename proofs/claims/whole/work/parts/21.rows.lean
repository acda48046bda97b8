/-! THE ROW -/
def chg (f : Nat → Int32) : Nat → Nat × Int32
  | 0 => (0, 0)
  | k + 1 => (if sgn (f k).toInt64 = -(chg f k).2 ∧ ¬ sgn (f k).toInt64 = 0 then (chg f k).1 + 1 else (chg f k).1, if sgn (f k).toInt64 = 0 then (chg f k).2 else sgn (f k).toInt64)
theorem chg_c {f g : Nat → Int32} : ∀ n, (∀ k, k < n → f k = g k) → chg f n = chg g n
  | 0, _ => rfl
  | n + 1, h => by
    unfold chg
    rw [chg_c n (fun k hk => h k (by omega)), h n (by omega)]
theorem sub16 {i : Nat} (hi : i < 2 ^ 31) : (nI 16 - nI i).toInt = 16 - (i : Int) := by
  rw [Int32.toInt_sub, nI_toInt hi, nI_toInt (by decide)]
  rw [Int.bmod_eq_of_le (by omega) (by omega)]
  rfl
def cpOK (i j n : Int32) : Prop := ∃ i' j' n', i = nI i' ∧ j = nI j' ∧ n = nI n' ∧ i' + n' ≤ 16 ∧ j' + n' ≤ 16
theorem cp_fail {i j n : Nat} (hi : i < 2 ^ 31) (hn : n < 2 ^ 31) (h : nI 16 - nI i < nI n) : ¬ i + n ≤ 16 := by
  have h2 := Int32.lt_iff_toInt_lt.mp h
  rw [sub16 hi, nI_toInt hn] at h2
  omega
theorem cp_ok {i n : Nat} (hi : i < 2 ^ 31) (hn : n < 2 ^ 31) (h : nI n ≤ nI 16 - nI i) : i + n ≤ 16 := by
  have h2 := Int32.le_iff_toInt_le.mp h
  rw [sub16 hi, nI_toInt hn] at h2
  omega
set_option maxHeartbeats 4000000 in
set_option maxRecDepth 100000 in
theorem c_X5_tell (l : Launch) (E : VE) (hE : EOk E) (I : TI) (L : TL) (h : Nat) (hh : I 0 0 5 = nI h) (hh2 : h < 2) (i v : Int32) : Ct l E yX5_tell cX5_tell 3 (some .int) rm_X5_tell [.ref (eA E 0 0), .int i, .int v] I L (fun r I' L' => (¬ (0 ≤ i ∧ i < nI 16) ∧ REF I I' r 3 ∧ L' = L) ∨ (∃ i', i' < 16 ∧ i = nI i' ∧ ((¬ nm v.toInt64 ∧ REF I I' r 7 ∧ L' = L) ∨ (nm v.toInt64 ∧ Fr [(9, 0), (0, 0)] I I' ∧ (∀ x, x ≠ 5 → I' 0 0 x = I 0 0 x) ∧ I' 0 0 5 = nI 1 ∧ (∀ x, x < 16 → I' 9 0 x = if x = i' then v else if h = 0 then nI 0 else I 9 0 x) ∧ r = some (.int (nI 1)) ∧ L' = L)))) := by
  refine ct_of (by decide +kernel) (Nat.le_of_ble_eq_true rfl) hE ?_
  intro a X Y hl hEE
  subst hl; subst hEE
  show V a 0 [(0, .ref (eA (vE a) 0 0)), (1, .int i), (2, .int v)] [] I L
  refine v_iload_n X 1 rfl dX5_tell_0 ?_
  refine v_if_lt X dX5_tell_1 (tgt := 10) (by decide) (fun h1 => ?_) (fun h1 => ?_)
  · refine v_aload_n X 0 rfl dX5_tell_10 ?_
    refine v_bipush X (v := (-3)) dX5_tell_11 (by decide) ?_
    refine v_callV X (c_X5_refused _ _ hE _ _ 3 (by decide) (by decide)) k_X5_58 dl_0 (cef_0 _ _ _ _) rfl ⟨rfl, rfl, Nat.le_of_ble_eq_true rfl, Nat.le_of_ble_eq_true rfl⟩ (As := [.int (-3)]) (rest := []) rfl rfl (Nat.le_of_ble_eq_true rfl) dX5_tell_13 (fun r13 I13 L13 hp13 => ?_)
    obtain ⟨rfl, e1, e2⟩ := hp13
    have e1 := e1.symm
    have e2 := e2.symm
    subst e1; subst e2
    refine v_st (st' := [.int (-3)]) rfl ?_
    exact v_iret X Y dX5_tell_16 (Or.inl ⟨fun q => absurd q.1 (Int32.not_le.mpr h1), ⟨rfl, rfl⟩, rfl⟩)
  · refine v_iload_n X 1 rfl dX5_tell_4 ?_
    refine v_bipush X (v := (nI 16)) dX5_tell_5 (by decide) ?_
    refine v_icmp_lt X dX5_tell_7 (tgt := 17) (by decide) (fun h7 => ?_) (fun h7 => ?_)
    · obtain ⟨i', hi', rfl⟩ := ix_of (Int32.not_lt.mp h1) h7 (by decide)
      refine v_iload_n X 2 rfl dX5_tell_17 ?_
      refine v_i2l X dX5_tell_18 rfl ?_
      refine v_callS X (c_X5_isNumber _ _ hE _ _ v.toInt64) k_X5_89 ⟨rfl, rfl, Nat.le_of_ble_eq_true rfl, Nat.le_of_ble_eq_true rfl⟩ (As := [.long v.toInt64]) (rest := []) rfl rfl (Nat.le_of_ble_eq_true rfl) dX5_tell_19 (fun r19 I19 L19 hp19 => ?_)
      obtain ⟨rfl, e1, e2⟩ := hp19
      have e1 := e1.symm
      have e2 := e2.symm
      subst e1; subst e2
      refine v_st (st' := [.int (bI (-1000 ≤ v.toInt64 ∧ v.toInt64 ≤ 1000))]) rfl ?_
      refine v_ifb_ne X dX5_tell_22 (tgt := 32) (by decide) (fun h22 => ?_) (fun h22 => ?_)
      · refine v_aload_n X 0 rfl dX5_tell_32 ?_
        refine gf_X5_199 X dX5_tell_33 ?_
        refine v_eqi (y := (nI h)) (hh) ?_
        refine v_if_ne_n X (by omega) dX5_tell_36 (tgt := 43) (by decide) (fun h36 => ?_) (fun h36 => ?_)
        · refine v_aload_n X 0 rfl dX5_tell_43 ?_
          refine gf_X5_21 X dX5_tell_44 ?_
          refine v_iload_n X 1 rfl dX5_tell_47 ?_
          refine v_iload_n X 2 rfl dX5_tell_48 ?_
          refine v_iast_n X dl_9 (fun _ _ => rfl) (n := 16) (by omega) (by decide) dX5_tell_49 ?_
          refine v_iconst X (v := (nI 1)) dX5_tell_50 (by decide) ?_
          exact v_iret X Y dX5_tell_51 (Or.inr ⟨i', hi', rfl, Or.inr ⟨h22, Fr.rf.up (by simp), fun x hx => upI_k (by decide), (upI_k (by decide)).trans (by rw [hh, show h = 1 by omega]), fun x hx => by
                by_cases e : x = i'
                · rw [if_pos e, e]; exact upI_eq
                · rw [if_neg e, if_neg (by omega)]; exact upI_x e, rfl, rfl⟩⟩)
        · refine v_aload_n X 0 rfl dX5_tell_39 ?_
          refine v_callV X (c_X5_emptyTheRow _ _ hE _ _ ) k_X5_203 dl_0 (cef_0 _ _ _ _) rfl ⟨rfl, rfl, Nat.le_of_ble_eq_true rfl, Nat.le_of_ble_eq_true rfl⟩ (As := []) (rest := []) rfl rfl (Nat.le_of_ble_eq_true rfl) dX5_tell_40 (fun r40 I40 L40 hp40 => ?_)
          obtain ⟨rfl, hF40, hz40, hs40, ho40, e2⟩ := hp40
          have e2 := e2.symm
          subst e2
          refine v_st (st' := []) rfl ?_
          refine v_aload_n X 0 rfl dX5_tell_43 ?_
          refine gf_X5_21 X dX5_tell_44 ?_
          refine v_iload_n X 1 rfl dX5_tell_47 ?_
          refine v_iload_n X 2 rfl dX5_tell_48 ?_
          refine v_iast_n X dl_9 (fun _ _ => rfl) (n := 16) (by omega) (by decide) dX5_tell_49 ?_
          refine v_iconst X (v := (nI 1)) dX5_tell_50 (by decide) ?_
          exact v_iret X Y dX5_tell_51 (Or.inr ⟨i', hi', rfl, Or.inr ⟨h22, hF40.up (by simp), fun x hx => (upI_k (by decide)).trans (ho40 x hx), (upI_k (by decide)).trans hs40, fun x hx => by
                by_cases e : x = i'
                · rw [if_pos e, e]; exact upI_eq
                · rw [if_neg e, if_pos h36]; exact (upI_x e).trans (hz40 x hx), rfl, rfl⟩⟩)
      · refine v_aload_n X 0 rfl dX5_tell_25 ?_
        refine v_bipush X (v := (-7)) dX5_tell_26 (by decide) ?_
        refine v_callV X (c_X5_refused _ _ hE _ _ 7 (by decide) (by decide)) k_X5_58 dl_0 (cef_0 _ _ _ _) rfl ⟨rfl, rfl, Nat.le_of_ble_eq_true rfl, Nat.le_of_ble_eq_true rfl⟩ (As := [.int (-7)]) (rest := []) rfl rfl (Nat.le_of_ble_eq_true rfl) dX5_tell_28 (fun r28 I28 L28 hp28 => ?_)
        obtain ⟨rfl, e1, e2⟩ := hp28
        have e1 := e1.symm
        have e2 := e2.symm
        subst e1; subst e2
        refine v_st (st' := [.int (-7)]) rfl ?_
        exact v_iret X Y dX5_tell_31 (Or.inr ⟨i', hi', rfl, Or.inl ⟨h22, ⟨rfl, rfl⟩, rfl⟩⟩)
    · refine v_aload_n X 0 rfl dX5_tell_10 ?_
      refine v_bipush X (v := (-3)) dX5_tell_11 (by decide) ?_
      refine v_callV X (c_X5_refused _ _ hE _ _ 3 (by decide) (by decide)) k_X5_58 dl_0 (cef_0 _ _ _ _) rfl ⟨rfl, rfl, Nat.le_of_ble_eq_true rfl, Nat.le_of_ble_eq_true rfl⟩ (As := [.int (-3)]) (rest := []) rfl rfl (Nat.le_of_ble_eq_true rfl) dX5_tell_13 (fun r13 I13 L13 hp13 => ?_)
      obtain ⟨rfl, e1, e2⟩ := hp13
      have e1 := e1.symm
      have e2 := e2.symm
      subst e1; subst e2
      refine v_st (st' := [.int (-3)]) rfl ?_
      exact v_iret X Y dX5_tell_16 (Or.inl ⟨fun q => h7 q.2, ⟨rfl, rfl⟩, rfl⟩)
set_option maxHeartbeats 4000000 in
set_option maxRecDepth 100000 in
theorem c_X5_signChanges_9 (l : Launch) (E : VE) (hE : EOk E) (I : TI) (L : TL) (m : Nat) (hm : m ≤ 5) : Ct l E yX5_signChanges cX5_signChanges 6 (some .int) rm_X5_signChanges [.ref (eA E 9 0), .int (nI m)] I L (fun r I' L' => r = some (.int (nI (chg (I 9 0) m).1)) ∧ I' = I ∧ L' = L) := by
  refine ct_of (by decide +kernel) (Nat.le_of_ble_eq_true rfl) hE ?_
  intro a X Y hl hEE
  subst hl; subst hEE
  show V a 0 [(0, .ref (eA (vE a) 9 0)), (1, .int (nI m))] [] I L
  refine v_iconst X (v := (nI 0)) dX5_signChanges_0 (by decide) ?_
  refine v_istore_n X [1, 2, 0] (lv' := [(0, .ref (eA (vE a) 9 0)), (1, .int (nI m)), (2, .int (nI 0))]) (by decide) rfl dX5_signChanges_1 ?_
  refine v_iconst X (v := (nI 0)) dX5_signChanges_2 (by decide) ?_
  refine v_istore_n X [1, 2, 3, 0] (lv' := [(0, .ref (eA (vE a) 9 0)), (1, .int (nI m)), (2, .int (nI 0)), (3, .int (nI 0))]) (by decide) rfl dX5_signChanges_3 ?_
  refine v_iconst X (v := (nI 0)) dX5_signChanges_4 (by decide) ?_
  refine v_istore X [1, 2, 3, 4, 0] (lv' := [(0, .ref (eA (vE a) 9 0)), (1, .int (nI m)), (2, .int (nI 0)), (3, .int (nI 0)), (4, .int (nI 0))]) (by decide) rfl dX5_signChanges_5 ?_
  have loop7 : ∀ (fu : Nat) (k : Nat) (n9 : Nat) (last : Int32), 6 - k < fu → (k ≤ m) → (chg (I 9 0) k = (n9, last)) → V a 7 [(0, .ref (eA (vE a) 9 0)), (1, .int (nI m)), (2, .int (nI n9)), (3, .int last), (4, .int (nI k))] [] I L := by
    intro fu
    induction fu with
    | zero => intro k n9 last hm _ _; exact absurd hm (Nat.not_lt_zero _)
    | succ fu ih7 =>
      intro k n9 last hm7 hk hcn
      refine v_iload X 4 rfl dX5_signChanges_7 ?_
      refine v_iload_n X 1 rfl dX5_signChanges_9 ?_
      refine v_icmp_ge_n X (by omega) (by omega) dX5_signChanges_10 (tgt := 59) (by decide) (fun h10 => ?_) (fun h10 => ?_)
      · refine v_iload_n X 2 rfl dX5_signChanges_59 ?_
        exact v_iret X Y dX5_signChanges_60 (⟨by rw [show m = k by omega, hcn], rfl, rfl⟩)
      · refine v_iload X 4 rfl dX5_signChanges_13 ?_
        refine v_aload_n X 0 rfl dX5_signChanges_15 ?_
        refine v_aleni X dl_9 (fun _ _ => rfl) (v := nI 16) rfl dX5_signChanges_16 ?_
        refine v_icmp_ge_n X (by omega) (by omega) dX5_signChanges_17 (tgt := 59) (by decide) (fun h17 => ?_) (fun h17 => ?_)
        · exact absurd h17 (by omega)
        · refine v_aload_n X 0 rfl dX5_signChanges_20 ?_
          refine v_iload X 4 rfl dX5_signChanges_21 ?_
          refine v_iald_n X dl_9 (fun _ _ => rfl) (n := 16) (by omega) (by decide) dX5_signChanges_23 ?_
          refine v_i2l X dX5_signChanges_24 rfl ?_
          refine v_callS X (c_X5_signOf _ _ hE _ _ ((I 9 0 k).toInt64)) k_X5_245 ⟨rfl, rfl, Nat.le_of_ble_eq_true rfl, Nat.le_of_ble_eq_true rfl⟩ (As := [.long ((I 9 0 k).toInt64)]) (rest := []) rfl rfl (Nat.le_of_ble_eq_true rfl) dX5_signChanges_25 (fun r25 I25 L25 hp25 => ?_)
          obtain ⟨rfl, e1, e2⟩ := hp25
          have e1 := e1.symm
          have e2 := e2.symm
          subst e1; subst e2
          refine v_st (st' := [.int (sgn ((I 9 0 k).toInt64))]) rfl ?_
          refine v_istore X [1, 2, 3, 4, 5, 0] (lv' := [(0, .ref (eA (vE a) 9 0)), (1, .int (nI m)), (2, .int (nI n9)), (3, .int last), (4, .int (nI k)), (5, .int (sgn ((I 9 0 k).toInt64)))]) (by decide) rfl dX5_signChanges_28 ?_
          refine v_iload X 5 rfl dX5_signChanges_30 ?_
          refine v_iload_n X 3 rfl dX5_signChanges_32 ?_
          refine v_ineg X dX5_signChanges_33 ?_
          refine v_icmp_ne X dX5_signChanges_34 (tgt := 45) (by decide) (fun h34 => ?_) (fun h34 => ?_)
          · refine v_iload X 5 rfl dX5_signChanges_45 ?_
            refine v_if_eq X dX5_signChanges_47 (tgt := 53) (by decide) (fun h47 => ?_) (fun h47 => ?_)
            · refine v_iinc X [1, 2, 3, 4, 0, 5] 4 (nI (k + 1)) (lv' := [(0, .ref (eA (vE a) 9 0)), (1, .int (nI m)), (2, .int (nI n9)), (3, .int last), (4, .int (nI (k + 1))), (5, .int (sgn ((I 9 0 k).toInt64)))]) rfl (nI_1 _) (by decide) rfl dX5_signChanges_53 ?_
              refine v_goto X (tgt := 7) dX5_signChanges_56 (by decide) ?_
              refine v_sub [0, 1, 2, 3, 4] (lv' := [(0, .ref (eA (vE a) 9 0)), (1, .int (nI m)), (2, .int (nI n9)), (3, .int last), (4, .int (nI (k + 1)))]) rfl ?_
              have hnx : chg (I 9 0) (k + 1) = (n9, last) := by
                show (_, _) = _
                rw [hcn]
                exact Prod.ext (if_neg (fun z => h34 z.1)) (if_pos h47)
              exact ih7 (k + 1) n9 last (by omega) (by omega) hnx
            · refine v_iload X 5 rfl dX5_signChanges_50 ?_
              refine v_istore_n X [1, 2, 3, 0, 4, 5] (lv' := [(0, .ref (eA (vE a) 9 0)), (1, .int (nI m)), (2, .int (nI n9)), (3, .int (sgn ((I 9 0 k).toInt64))), (4, .int (nI k)), (5, .int (sgn ((I 9 0 k).toInt64)))]) (by decide) rfl dX5_signChanges_52 ?_
              refine v_iinc X [1, 2, 3, 4, 0, 5] 4 (nI (k + 1)) (lv' := [(0, .ref (eA (vE a) 9 0)), (1, .int (nI m)), (2, .int (nI n9)), (3, .int (sgn ((I 9 0 k).toInt64))), (4, .int (nI (k + 1))), (5, .int (sgn ((I 9 0 k).toInt64)))]) rfl (nI_1 _) (by decide) rfl dX5_signChanges_53 ?_
              refine v_goto X (tgt := 7) dX5_signChanges_56 (by decide) ?_
              refine v_sub [0, 1, 2, 3, 4] (lv' := [(0, .ref (eA (vE a) 9 0)), (1, .int (nI m)), (2, .int (nI n9)), (3, .int (sgn ((I 9 0 k).toInt64))), (4, .int (nI (k + 1)))]) rfl ?_
              have hnx : chg (I 9 0) (k + 1) = (n9, (sgn ((I 9 0 k).toInt64))) := by
                show (_, _) = _
                rw [hcn]
                exact Prod.ext (if_neg (fun z => h34 z.1)) (if_neg h47)
              exact ih7 (k + 1) n9 (sgn ((I 9 0 k).toInt64)) (by omega) (by omega) hnx
          · refine v_iload X 5 rfl dX5_signChanges_37 ?_
            refine v_if_eq X dX5_signChanges_39 (tgt := 45) (by decide) (fun h39 => ?_) (fun h39 => ?_)
            · refine v_iload X 5 rfl dX5_signChanges_45 ?_
              refine v_if_eq X dX5_signChanges_47 (tgt := 53) (by decide) (fun h47 => ?_) (fun h47 => ?_)
              · refine v_iinc X [1, 2, 3, 4, 0, 5] 4 (nI (k + 1)) (lv' := [(0, .ref (eA (vE a) 9 0)), (1, .int (nI m)), (2, .int (nI n9)), (3, .int last), (4, .int (nI (k + 1))), (5, .int (sgn ((I 9 0 k).toInt64)))]) rfl (nI_1 _) (by decide) rfl dX5_signChanges_53 ?_
                refine v_goto X (tgt := 7) dX5_signChanges_56 (by decide) ?_
                refine v_sub [0, 1, 2, 3, 4] (lv' := [(0, .ref (eA (vE a) 9 0)), (1, .int (nI m)), (2, .int (nI n9)), (3, .int last), (4, .int (nI (k + 1)))]) rfl ?_
                have hnx : chg (I 9 0) (k + 1) = (n9, last) := by
                  show (_, _) = _
                  rw [hcn]
                  exact Prod.ext (if_neg (fun z => z.2 h39)) (if_pos h47)
                exact ih7 (k + 1) n9 last (by omega) (by omega) hnx
              · refine v_iload X 5 rfl dX5_signChanges_50 ?_
                refine v_istore_n X [1, 2, 3, 0, 4, 5] (lv' := [(0, .ref (eA (vE a) 9 0)), (1, .int (nI m)), (2, .int (nI n9)), (3, .int (sgn ((I 9 0 k).toInt64))), (4, .int (nI k)), (5, .int (sgn ((I 9 0 k).toInt64)))]) (by decide) rfl dX5_signChanges_52 ?_
                refine v_iinc X [1, 2, 3, 4, 0, 5] 4 (nI (k + 1)) (lv' := [(0, .ref (eA (vE a) 9 0)), (1, .int (nI m)), (2, .int (nI n9)), (3, .int (sgn ((I 9 0 k).toInt64))), (4, .int (nI (k + 1))), (5, .int (sgn ((I 9 0 k).toInt64)))]) rfl (nI_1 _) (by decide) rfl dX5_signChanges_53 ?_
                refine v_goto X (tgt := 7) dX5_signChanges_56 (by decide) ?_
                refine v_sub [0, 1, 2, 3, 4] (lv' := [(0, .ref (eA (vE a) 9 0)), (1, .int (nI m)), (2, .int (nI n9)), (3, .int (sgn ((I 9 0 k).toInt64))), (4, .int (nI (k + 1)))]) rfl ?_
                have hnx : chg (I 9 0) (k + 1) = (n9, (sgn ((I 9 0 k).toInt64))) := by
                  show (_, _) = _
                  rw [hcn]
                  exact Prod.ext (if_neg (fun z => z.2 h39)) (if_neg h47)
                exact ih7 (k + 1) n9 (sgn ((I 9 0 k).toInt64)) (by omega) (by omega) hnx
            · refine v_iinc X [1, 2, 0, 3, 4, 5] 2 (nI (n9 + 1)) (lv' := [(0, .ref (eA (vE a) 9 0)), (1, .int (nI m)), (2, .int (nI (n9 + 1))), (3, .int last), (4, .int (nI k)), (5, .int (sgn ((I 9 0 k).toInt64)))]) rfl (nI_1 _) (by decide) rfl dX5_signChanges_42 ?_
              refine v_iload X 5 rfl dX5_signChanges_45 ?_
              refine v_if_eq X dX5_signChanges_47 (tgt := 53) (by decide) (fun h47 => ?_) (fun h47 => ?_)
              · refine v_iinc X [1, 2, 3, 4, 0, 5] 4 (nI (k + 1)) (lv' := [(0, .ref (eA (vE a) 9 0)), (1, .int (nI m)), (2, .int (nI (n9 + 1))), (3, .int last), (4, .int (nI (k + 1))), (5, .int (sgn ((I 9 0 k).toInt64)))]) rfl (nI_1 _) (by decide) rfl dX5_signChanges_53 ?_
                refine v_goto X (tgt := 7) dX5_signChanges_56 (by decide) ?_
                refine v_sub [0, 1, 2, 3, 4] (lv' := [(0, .ref (eA (vE a) 9 0)), (1, .int (nI m)), (2, .int (nI (n9 + 1))), (3, .int last), (4, .int (nI (k + 1)))]) rfl ?_
                have hnx : chg (I 9 0) (k + 1) = ((n9 + 1), last) := by
                  show (_, _) = _
                  rw [hcn]
                  exact Prod.ext (if_pos ⟨h34, h39⟩) (if_pos h47)
                exact ih7 (k + 1) (n9 + 1) last (by omega) (by omega) hnx
              · refine v_iload X 5 rfl dX5_signChanges_50 ?_
                refine v_istore_n X [1, 2, 3, 0, 4, 5] (lv' := [(0, .ref (eA (vE a) 9 0)), (1, .int (nI m)), (2, .int (nI (n9 + 1))), (3, .int (sgn ((I 9 0 k).toInt64))), (4, .int (nI k)), (5, .int (sgn ((I 9 0 k).toInt64)))]) (by decide) rfl dX5_signChanges_52 ?_
                refine v_iinc X [1, 2, 3, 4, 0, 5] 4 (nI (k + 1)) (lv' := [(0, .ref (eA (vE a) 9 0)), (1, .int (nI m)), (2, .int (nI (n9 + 1))), (3, .int (sgn ((I 9 0 k).toInt64))), (4, .int (nI (k + 1))), (5, .int (sgn ((I 9 0 k).toInt64)))]) rfl (nI_1 _) (by decide) rfl dX5_signChanges_53 ?_
                refine v_goto X (tgt := 7) dX5_signChanges_56 (by decide) ?_
                refine v_sub [0, 1, 2, 3, 4] (lv' := [(0, .ref (eA (vE a) 9 0)), (1, .int (nI m)), (2, .int (nI (n9 + 1))), (3, .int (sgn ((I 9 0 k).toInt64))), (4, .int (nI (k + 1)))]) rfl ?_
                have hnx : chg (I 9 0) (k + 1) = ((n9 + 1), (sgn ((I 9 0 k).toInt64))) := by
                  show (_, _) = _
                  rw [hcn]
                  exact Prod.ext (if_pos ⟨h34, h39⟩) (if_neg h47)
                exact ih7 (k + 1) (n9 + 1) (sgn ((I 9 0 k).toInt64)) (by omega) (by omega) hnx
  exact loop7 _ 0 0 (nI 0) (Nat.lt_succ_self _) (Nat.zero_le _) rfl
set_option maxHeartbeats 4000000 in
set_option maxRecDepth 100000 in
theorem c_X5_signChanges_10 (l : Launch) (E : VE) (hE : EOk E) (I : TI) (L : TL) (m : Nat) (hm : m ≤ 5) : Ct l E yX5_signChanges cX5_signChanges 6 (some .int) rm_X5_signChanges [.ref (eA E 10 0), .int (nI m)] I L (fun r I' L' => r = some (.int (nI (chg (I 10 0) m).1)) ∧ I' = I ∧ L' = L) := by
  refine ct_of (by decide +kernel) (Nat.le_of_ble_eq_true rfl) hE ?_
  intro a X Y hl hEE
  subst hl; subst hEE
  show V a 0 [(0, .ref (eA (vE a) 10 0)), (1, .int (nI m))] [] I L
  refine v_iconst X (v := (nI 0)) dX5_signChanges_0 (by decide) ?_
  refine v_istore_n X [1, 2, 0] (lv' := [(0, .ref (eA (vE a) 10 0)), (1, .int (nI m)), (2, .int (nI 0))]) (by decide) rfl dX5_signChanges_1 ?_
  refine v_iconst X (v := (nI 0)) dX5_signChanges_2 (by decide) ?_
  refine v_istore_n X [1, 2, 3, 0] (lv' := [(0, .ref (eA (vE a) 10 0)), (1, .int (nI m)), (2, .int (nI 0)), (3, .int (nI 0))]) (by decide) rfl dX5_signChanges_3 ?_
  refine v_iconst X (v := (nI 0)) dX5_signChanges_4 (by decide) ?_
  refine v_istore X [1, 2, 3, 4, 0] (lv' := [(0, .ref (eA (vE a) 10 0)), (1, .int (nI m)), (2, .int (nI 0)), (3, .int (nI 0)), (4, .int (nI 0))]) (by decide) rfl dX5_signChanges_5 ?_
  have loop7 : ∀ (fu : Nat) (k : Nat) (n9 : Nat) (last : Int32), 6 - k < fu → (k ≤ m) → (chg (I 10 0) k = (n9, last)) → V a 7 [(0, .ref (eA (vE a) 10 0)), (1, .int (nI m)), (2, .int (nI n9)), (3, .int last), (4, .int (nI k))] [] I L := by
    intro fu
    induction fu with
    | zero => intro k n9 last hm _ _; exact absurd hm (Nat.not_lt_zero _)
    | succ fu ih7 =>
      intro k n9 last hm7 hk hcn
      refine v_iload X 4 rfl dX5_signChanges_7 ?_
      refine v_iload_n X 1 rfl dX5_signChanges_9 ?_
      refine v_icmp_ge_n X (by omega) (by omega) dX5_signChanges_10 (tgt := 59) (by decide) (fun h10 => ?_) (fun h10 => ?_)
      · refine v_iload_n X 2 rfl dX5_signChanges_59 ?_
        exact v_iret X Y dX5_signChanges_60 (⟨by rw [show m = k by omega, hcn], rfl, rfl⟩)
      · refine v_iload X 4 rfl dX5_signChanges_13 ?_
        refine v_aload_n X 0 rfl dX5_signChanges_15 ?_
        refine v_aleni X dl_10 (fun _ _ => rfl) (v := nI 5) rfl dX5_signChanges_16 ?_
        refine v_icmp_ge_n X (by omega) (by omega) dX5_signChanges_17 (tgt := 59) (by decide) (fun h17 => ?_) (fun h17 => ?_)
        · exact absurd h17 (by omega)
        · refine v_aload_n X 0 rfl dX5_signChanges_20 ?_
          refine v_iload X 4 rfl dX5_signChanges_21 ?_
          refine v_iald_n X dl_10 (fun _ _ => rfl) (n := 5) (by omega) (by decide) dX5_signChanges_23 ?_
          refine v_i2l X dX5_signChanges_24 rfl ?_
          refine v_callS X (c_X5_signOf _ _ hE _ _ ((I 10 0 k).toInt64)) k_X5_245 ⟨rfl, rfl, Nat.le_of_ble_eq_true rfl, Nat.le_of_ble_eq_true rfl⟩ (As := [.long ((I 10 0 k).toInt64)]) (rest := []) rfl rfl (Nat.le_of_ble_eq_true rfl) dX5_signChanges_25 (fun r25 I25 L25 hp25 => ?_)
          obtain ⟨rfl, e1, e2⟩ := hp25
          have e1 := e1.symm
          have e2 := e2.symm
          subst e1; subst e2
          refine v_st (st' := [.int (sgn ((I 10 0 k).toInt64))]) rfl ?_
          refine v_istore X [1, 2, 3, 4, 5, 0] (lv' := [(0, .ref (eA (vE a) 10 0)), (1, .int (nI m)), (2, .int (nI n9)), (3, .int last), (4, .int (nI k)), (5, .int (sgn ((I 10 0 k).toInt64)))]) (by decide) rfl dX5_signChanges_28 ?_
          refine v_iload X 5 rfl dX5_signChanges_30 ?_
          refine v_iload_n X 3 rfl dX5_signChanges_32 ?_
          refine v_ineg X dX5_signChanges_33 ?_
          refine v_icmp_ne X dX5_signChanges_34 (tgt := 45) (by decide) (fun h34 => ?_) (fun h34 => ?_)
          · refine v_iload X 5 rfl dX5_signChanges_45 ?_
            refine v_if_eq X dX5_signChanges_47 (tgt := 53) (by decide) (fun h47 => ?_) (fun h47 => ?_)
            · refine v_iinc X [1, 2, 3, 4, 0, 5] 4 (nI (k + 1)) (lv' := [(0, .ref (eA (vE a) 10 0)), (1, .int (nI m)), (2, .int (nI n9)), (3, .int last), (4, .int (nI (k + 1))), (5, .int (sgn ((I 10 0 k).toInt64)))]) rfl (nI_1 _) (by decide) rfl dX5_signChanges_53 ?_
              refine v_goto X (tgt := 7) dX5_signChanges_56 (by decide) ?_
              refine v_sub [0, 1, 2, 3, 4] (lv' := [(0, .ref (eA (vE a) 10 0)), (1, .int (nI m)), (2, .int (nI n9)), (3, .int last), (4, .int (nI (k + 1)))]) rfl ?_
              have hnx : chg (I 10 0) (k + 1) = (n9, last) := by
                show (_, _) = _
                rw [hcn]
                exact Prod.ext (if_neg (fun z => h34 z.1)) (if_pos h47)
              exact ih7 (k + 1) n9 last (by omega) (by omega) hnx
            · refine v_iload X 5 rfl dX5_signChanges_50 ?_
              refine v_istore_n X [1, 2, 3, 0, 4, 5] (lv' := [(0, .ref (eA (vE a) 10 0)), (1, .int (nI m)), (2, .int (nI n9)), (3, .int (sgn ((I 10 0 k).toInt64))), (4, .int (nI k)), (5, .int (sgn ((I 10 0 k).toInt64)))]) (by decide) rfl dX5_signChanges_52 ?_
              refine v_iinc X [1, 2, 3, 4, 0, 5] 4 (nI (k + 1)) (lv' := [(0, .ref (eA (vE a) 10 0)), (1, .int (nI m)), (2, .int (nI n9)), (3, .int (sgn ((I 10 0 k).toInt64))), (4, .int (nI (k + 1))), (5, .int (sgn ((I 10 0 k).toInt64)))]) rfl (nI_1 _) (by decide) rfl dX5_signChanges_53 ?_
              refine v_goto X (tgt := 7) dX5_signChanges_56 (by decide) ?_
              refine v_sub [0, 1, 2, 3, 4] (lv' := [(0, .ref (eA (vE a) 10 0)), (1, .int (nI m)), (2, .int (nI n9)), (3, .int (sgn ((I 10 0 k).toInt64))), (4, .int (nI (k + 1)))]) rfl ?_
              have hnx : chg (I 10 0) (k + 1) = (n9, (sgn ((I 10 0 k).toInt64))) := by
                show (_, _) = _
                rw [hcn]
                exact Prod.ext (if_neg (fun z => h34 z.1)) (if_neg h47)
              exact ih7 (k + 1) n9 (sgn ((I 10 0 k).toInt64)) (by omega) (by omega) hnx
          · refine v_iload X 5 rfl dX5_signChanges_37 ?_
            refine v_if_eq X dX5_signChanges_39 (tgt := 45) (by decide) (fun h39 => ?_) (fun h39 => ?_)
            · refine v_iload X 5 rfl dX5_signChanges_45 ?_
              refine v_if_eq X dX5_signChanges_47 (tgt := 53) (by decide) (fun h47 => ?_) (fun h47 => ?_)
              · refine v_iinc X [1, 2, 3, 4, 0, 5] 4 (nI (k + 1)) (lv' := [(0, .ref (eA (vE a) 10 0)), (1, .int (nI m)), (2, .int (nI n9)), (3, .int last), (4, .int (nI (k + 1))), (5, .int (sgn ((I 10 0 k).toInt64)))]) rfl (nI_1 _) (by decide) rfl dX5_signChanges_53 ?_
                refine v_goto X (tgt := 7) dX5_signChanges_56 (by decide) ?_
                refine v_sub [0, 1, 2, 3, 4] (lv' := [(0, .ref (eA (vE a) 10 0)), (1, .int (nI m)), (2, .int (nI n9)), (3, .int last), (4, .int (nI (k + 1)))]) rfl ?_
                have hnx : chg (I 10 0) (k + 1) = (n9, last) := by
                  show (_, _) = _
                  rw [hcn]
                  exact Prod.ext (if_neg (fun z => z.2 h39)) (if_pos h47)
                exact ih7 (k + 1) n9 last (by omega) (by omega) hnx
              · refine v_iload X 5 rfl dX5_signChanges_50 ?_
                refine v_istore_n X [1, 2, 3, 0, 4, 5] (lv' := [(0, .ref (eA (vE a) 10 0)), (1, .int (nI m)), (2, .int (nI n9)), (3, .int (sgn ((I 10 0 k).toInt64))), (4, .int (nI k)), (5, .int (sgn ((I 10 0 k).toInt64)))]) (by decide) rfl dX5_signChanges_52 ?_
                refine v_iinc X [1, 2, 3, 4, 0, 5] 4 (nI (k + 1)) (lv' := [(0, .ref (eA (vE a) 10 0)), (1, .int (nI m)), (2, .int (nI n9)), (3, .int (sgn ((I 10 0 k).toInt64))), (4, .int (nI (k + 1))), (5, .int (sgn ((I 10 0 k).toInt64)))]) rfl (nI_1 _) (by decide) rfl dX5_signChanges_53 ?_
                refine v_goto X (tgt := 7) dX5_signChanges_56 (by decide) ?_
                refine v_sub [0, 1, 2, 3, 4] (lv' := [(0, .ref (eA (vE a) 10 0)), (1, .int (nI m)), (2, .int (nI n9)), (3, .int (sgn ((I 10 0 k).toInt64))), (4, .int (nI (k + 1)))]) rfl ?_
                have hnx : chg (I 10 0) (k + 1) = (n9, (sgn ((I 10 0 k).toInt64))) := by
                  show (_, _) = _
                  rw [hcn]
                  exact Prod.ext (if_neg (fun z => z.2 h39)) (if_neg h47)
                exact ih7 (k + 1) n9 (sgn ((I 10 0 k).toInt64)) (by omega) (by omega) hnx
            · refine v_iinc X [1, 2, 0, 3, 4, 5] 2 (nI (n9 + 1)) (lv' := [(0, .ref (eA (vE a) 10 0)), (1, .int (nI m)), (2, .int (nI (n9 + 1))), (3, .int last), (4, .int (nI k)), (5, .int (sgn ((I 10 0 k).toInt64)))]) rfl (nI_1 _) (by decide) rfl dX5_signChanges_42 ?_
              refine v_iload X 5 rfl dX5_signChanges_45 ?_
              refine v_if_eq X dX5_signChanges_47 (tgt := 53) (by decide) (fun h47 => ?_) (fun h47 => ?_)
              · refine v_iinc X [1, 2, 3, 4, 0, 5] 4 (nI (k + 1)) (lv' := [(0, .ref (eA (vE a) 10 0)), (1, .int (nI m)), (2, .int (nI (n9 + 1))), (3, .int last), (4, .int (nI (k + 1))), (5, .int (sgn ((I 10 0 k).toInt64)))]) rfl (nI_1 _) (by decide) rfl dX5_signChanges_53 ?_
                refine v_goto X (tgt := 7) dX5_signChanges_56 (by decide) ?_
                refine v_sub [0, 1, 2, 3, 4] (lv' := [(0, .ref (eA (vE a) 10 0)), (1, .int (nI m)), (2, .int (nI (n9 + 1))), (3, .int last), (4, .int (nI (k + 1)))]) rfl ?_
                have hnx : chg (I 10 0) (k + 1) = ((n9 + 1), last) := by
                  show (_, _) = _
                  rw [hcn]
                  exact Prod.ext (if_pos ⟨h34, h39⟩) (if_pos h47)
                exact ih7 (k + 1) (n9 + 1) last (by omega) (by omega) hnx
              · refine v_iload X 5 rfl dX5_signChanges_50 ?_
                refine v_istore_n X [1, 2, 3, 0, 4, 5] (lv' := [(0, .ref (eA (vE a) 10 0)), (1, .int (nI m)), (2, .int (nI (n9 + 1))), (3, .int (sgn ((I 10 0 k).toInt64))), (4, .int (nI k)), (5, .int (sgn ((I 10 0 k).toInt64)))]) (by decide) rfl dX5_signChanges_52 ?_
                refine v_iinc X [1, 2, 3, 4, 0, 5] 4 (nI (k + 1)) (lv' := [(0, .ref (eA (vE a) 10 0)), (1, .int (nI m)), (2, .int (nI (n9 + 1))), (3, .int (sgn ((I 10 0 k).toInt64))), (4, .int (nI (k + 1))), (5, .int (sgn ((I 10 0 k).toInt64)))]) rfl (nI_1 _) (by decide) rfl dX5_signChanges_53 ?_
                refine v_goto X (tgt := 7) dX5_signChanges_56 (by decide) ?_
                refine v_sub [0, 1, 2, 3, 4] (lv' := [(0, .ref (eA (vE a) 10 0)), (1, .int (nI m)), (2, .int (nI (n9 + 1))), (3, .int (sgn ((I 10 0 k).toInt64))), (4, .int (nI (k + 1)))]) rfl ?_
                have hnx : chg (I 10 0) (k + 1) = ((n9 + 1), (sgn ((I 10 0 k).toInt64))) := by
                  show (_, _) = _
                  rw [hcn]
                  exact Prod.ext (if_pos ⟨h34, h39⟩) (if_neg h47)
                exact ih7 (k + 1) (n9 + 1) (sgn ((I 10 0 k).toInt64)) (by omega) (by omega) hnx
  exact loop7 _ 0 0 (nI 0) (Nat.lt_succ_self _) (Nat.zero_le _) rfl
set_option maxHeartbeats 4000000 in
set_option maxRecDepth 100000 in
theorem c_X5_changes (l : Launch) (E : VE) (hE : EOk E) (I : TI) (L : TL) (c : Nat) (ro co : Nat → Nat) (hT : CT I c ro co) (h : Nat) (hh : I 0 0 5 = nI h) (hh2 : h < 2) (x : Int32) : Ct l E yX5_changes cX5_changes 5 (some .int) rm_X5_changes [.ref (eA E 0 0), .int x] I L (fun r I' L' => (¬ isT c x ∧ REF I I' r 3 ∧ L' = L) ∨ (∃ t, t < c ∧ x = nI t ∧ ((h = 0 ∧ REF I I' r 2 ∧ L' = L) ∨ (0 < h ∧ Fr [(10, 0)] I I' ∧ r = some (.int (nI (10 * (chg (I 9 0) (co t)).1 + (chg (fun i => rbc (fun k => I 3 t (5 * i + k)) (fun k => I 9 0 k) (co t)) (ro t)).1))) ∧ L' = L)))) := by
  refine ct_of (by decide +kernel) (Nat.le_of_ble_eq_true rfl) hE ?_
  intro a X Y hl hEE
  subst hl; subst hEE
  show V a 0 [(0, .ref (eA (vE a) 0 0)), (1, .int x)] [] I L
  refine v_aload_n X 0 rfl dX5_changes_0 ?_
  refine v_iload_n X 1 rfl dX5_changes_1 ?_
  refine v_callV X (c_X5_gridOf _ _ hE _ _ c hT.1 hT.2.1 x) k_X5_74 dl_0 (cef_0 _ _ _ _) rfl ⟨rfl, rfl, Nat.le_of_ble_eq_true rfl, Nat.le_of_ble_eq_true rfl⟩ (As := [.int x]) (rest := []) rfl rfl (Nat.le_of_ble_eq_true rfl) dX5_changes_2 (fun r2 I2 L2 hp2 => ?_)
  obtain ⟨ho2, e1, e2⟩ := hp2
  have e1 := e1.symm
  have e2 := e2.symm
  subst e1; subst e2
  rcases ho2 with ⟨t, htt, rfl, rfl⟩ | ⟨hnot, rfl⟩
  · have hc12 := hT.2.1
    obtain ⟨hrt, hct, hr1t, hr5t, hc1t, hc5t⟩ := hT.2.2 t htt
    have ht12t : t < 12 := by omega
    have hnet : t ≠ c := by omega
    refine v_st (st' := [.ref (eA (vE a) 2 t)]) rfl ?_
    refine v_astore_n X [1, 2, 0] (lv' := [(0, .ref (eA (vE a) 0 0)), (1, .int (nI t)), (2, .ref (eA (vE a) 2 t))]) (by decide) rfl dX5_changes_5 ?_
    refine v_aload_n X 2 rfl dX5_changes_6 ?_
    refine v_ifnonnull X (tgt := 17) dX5_changes_7 (by decide) ?_
    refine v_aload_n X 0 rfl dX5_changes_17 ?_
    refine gf_X5_199 X dX5_changes_18 ?_
    refine v_eqi (y := (nI h)) (hh) ?_
    refine v_if_ne_n X (by omega) dX5_changes_21 (tgt := 31) (by decide) (fun h21 => ?_) (fun h21 => ?_)
    · refine v_iconst X (v := (nI 0)) dX5_changes_31 (by decide) ?_
      refine v_istore_n X [1, 2, 3, 0] (lv' := [(0, .ref (eA (vE a) 0 0)), (1, .int (nI t)), (2, .ref (eA (vE a) 2 t)), (3, .int (nI 0))]) (by decide) rfl dX5_changes_32 ?_
      have loop33 : ∀ (fu : Nat) (i : Nat) (I1 : TI), 6 - i < fu → (i ≤ ro t) → (Fr [(10, 0)] I I1) → (∀ k, k < i → I1 10 0 k = (fun i => rbc (fun k => I 3 t (5 * i + k)) (fun k => I 9 0 k) (co t)) k) → V a 33 [(0, .ref (eA (vE a) 0 0)), (1, .int (nI t)), (2, .ref (eA (vE a) 2 t)), (3, .int (nI i))] [] I1 L := by
        intro fu
        induction fu with
        | zero => intro i I1 hm _ _ _; exact absurd hm (Nat.not_lt_zero _)
        | succ fu ih33 =>
          intro i I1 hm33 hi hF hv
          refine v_iload_n X 3 rfl dX5_changes_33 ?_
          refine v_aload_n X 2 rfl dX5_changes_34 ?_
          refine gf_X5_101 X ht12t dX5_changes_35 ?_
          refine v_eqi (y := (nI (ro t))) ((Fr.at hF (by simp) _).trans (hrt)) ?_
          refine v_icmp_ge_n X (by omega) (by omega) dX5_changes_38 (tgt := 96) (by decide) (fun h38 => ?_) (fun h38 => ?_)
          · refine v_bipush X (v := (nI 10)) dX5_changes_96 (by decide) ?_
            refine v_aload_n X 0 rfl dX5_changes_98 ?_
            refine gf_X5_21 X dX5_changes_99 ?_
            refine v_aload_n X 2 rfl dX5_changes_102 ?_
            refine gf_X5_104 X ht12t dX5_changes_103 ?_
            refine v_eqi (y := (nI (co t))) ((Fr.at hF (by simp) _).trans (hct)) ?_
            refine v_callS X (c_X5_signChanges_9 _ _ hE _ _ (co t) (by omega)) k_X5_206 ⟨rfl, rfl, Nat.le_of_ble_eq_true rfl, Nat.le_of_ble_eq_true rfl⟩ (As := [.ref (eA (vE a) 9 0), .int (nI (co t))]) (rest := [.int (nI 10)]) rfl rfl (Nat.le_of_ble_eq_true rfl) dX5_changes_106 (fun r106 I106 L106 hp106 => ?_)
            obtain ⟨rfl, e1, e2⟩ := hp106
            have e1 := e1.symm
            have e2 := e2.symm
            subst e1; subst e2
            refine v_st (st' := [.int (nI ((chg (I1 9 0) (co t)).1)), .int (nI 10)]) rfl ?_
            refine v_imul X dX5_changes_109 ?_
            refine v_eqi (y := (nI (10 * ((chg (I1 9 0) (co t)).1)))) (pk_mul _ _) ?_
            refine v_aload_n X 0 rfl dX5_changes_110 ?_
            refine gf_X5_25 X dX5_changes_111 ?_
            refine v_aload_n X 2 rfl dX5_changes_114 ?_
            refine gf_X5_101 X ht12t dX5_changes_115 ?_
            refine v_eqi (y := (nI (ro t))) ((Fr.at hF (by simp) _).trans (hrt)) ?_
            refine v_callS X (c_X5_signChanges_10 _ _ hE _ _ (ro t) (by omega)) k_X5_206 ⟨rfl, rfl, Nat.le_of_ble_eq_true rfl, Nat.le_of_ble_eq_true rfl⟩ (As := [.ref (eA (vE a) 10 0), .int (nI (ro t))]) (rest := [.int (nI (10 * ((chg (I1 9 0) (co t)).1)))]) rfl rfl (Nat.le_of_ble_eq_true rfl) dX5_changes_118 (fun r118 I118 L118 hp118 => ?_)
            obtain ⟨rfl, e1, e2⟩ := hp118
            have e1 := e1.symm
            have e2 := e2.symm
            subst e1; subst e2
            refine v_st (st' := [.int (nI ((chg (I1 10 0) (ro t)).1)), .int (nI (10 * ((chg (I1 9 0) (co t)).1)))]) rfl ?_
            refine v_iadd X dX5_changes_121 ?_
            refine v_eqi (y := (nI ((10 * ((chg (I1 9 0) (co t)).1)) + ((chg (I1 10 0) (ro t)).1)))) (nI_add _ _) ?_
            exact v_iret X Y dX5_changes_122 (Or.inr ⟨t, htt, rfl, Or.inr ⟨h21, hF, by rw [chg_c (ro t) (fun k hk => hv k (by omega)), hF 9 0 (by simp)], rfl⟩⟩)
          · refine v_aload_n X 0 rfl dX5_changes_41 ?_
            refine gf_X5_25 X dX5_changes_42 ?_
            refine v_iload_n X 3 rfl dX5_changes_45 ?_
            refine v_iconst X (v := (nI 0)) dX5_changes_46 (by decide) ?_
            refine v_iast_n X dl_10 (fun _ _ => rfl) (n := 5) (by omega) (by decide) dX5_changes_47 ?_
            refine v_iconst X (v := (nI 0)) dX5_changes_48 (by decide) ?_
            refine v_istore X [1, 2, 3, 4, 0] (lv' := [(0, .ref (eA (vE a) 0 0)), (1, .int (nI t)), (2, .ref (eA (vE a) 2 t)), (3, .int (nI i)), (4, .int (nI 0))]) (by decide) rfl dX5_changes_49 ?_
            have loop51 : ∀ (fu : Nat) (j : Nat) (I1 : TI), 6 - j < fu → (j ≤ co t) → (Fr [(10, 0)] I I1) → (∀ k, k < i → I1 10 0 k = (fun i => rbc (fun k => I 3 t (5 * i + k)) (fun k => I 9 0 k) (co t)) k) → (I1 10 0 i = rbc (fun k => I 3 t (5 * i + k)) (fun k => I 9 0 k) j) → V a 51 [(0, .ref (eA (vE a) 0 0)), (1, .int (nI t)), (2, .ref (eA (vE a) 2 t)), (3, .int (nI i)), (4, .int (nI j))] [] I1 L := by
              intro fu
              induction fu with
              | zero => intro j I1 hm _ _ _ _; exact absurd hm (Nat.not_lt_zero _)
              | succ fu ih51 =>
                intro j I1 hm51 hj hF hv hw
                refine v_iload X 4 rfl dX5_changes_51 ?_
                refine v_aload_n X 2 rfl dX5_changes_53 ?_
                refine gf_X5_104 X ht12t dX5_changes_54 ?_
                refine v_eqi (y := (nI (co t))) ((Fr.at hF (by simp) _).trans (hct)) ?_
                refine v_icmp_ge_n X (by omega) (by omega) dX5_changes_57 (tgt := 90) (by decide) (fun h57 => ?_) (fun h57 => ?_)
                · refine v_iinc X [1, 2, 3, 0, 4] 3 (nI (i + 1)) (lv' := [(0, .ref (eA (vE a) 0 0)), (1, .int (nI t)), (2, .ref (eA (vE a) 2 t)), (3, .int (nI (i + 1))), (4, .int (nI j))]) rfl (nI_1 _) (by decide) rfl dX5_changes_90 ?_
                  refine v_goto X (tgt := 33) dX5_changes_93 (by decide) ?_
                  refine v_sub [0, 1, 2, 3] (lv' := [(0, .ref (eA (vE a) 0 0)), (1, .int (nI t)), (2, .ref (eA (vE a) 2 t)), (3, .int (nI (i + 1)))]) rfl ?_
                  have hnew : ∀ k, k < i + 1 → I1 10 0 k = (fun i => rbc (fun k => I 3 t (5 * i + k)) (fun k => I 9 0 k) (co t)) k := fun k hk => by
                    rcases Nat.lt_or_ge k i with z | z
                    · exact hv k z
                    · rw [show k = i by omega, hw, show j = co t by omega]
                  exact ih33 (i + 1) I1 (by omega) (by omega) hF hnew
                · refine v_aload_n X 0 rfl dX5_changes_60 ?_
                  refine gf_X5_25 X dX5_changes_61 ?_
                  refine v_iload_n X 3 rfl dX5_changes_64 ?_
                  refine v_dup2_11 X dX5_changes_65 rfl rfl ?_
                  refine v_iald_n X dl_10 (fun _ _ => rfl) (n := 5) (by omega) (by decide) dX5_changes_66 ?_
                  refine v_aload_n X 2 rfl dX5_changes_67 ?_
                  refine v_iload_n X 3 rfl dX5_changes_68 ?_
                  refine v_iload X 4 rfl dX5_changes_69 ?_
                  refine v_callV X (c_X0_number _ _ hE _ _ t ht12t (ro t) (co t) ((Fr.at hF (by simp) _).trans (hrt)) ((Fr.at hF (by simp) _).trans (hct)) hr5t hc5t i j (by omega) (by omega)) k_X5_93 (dl_2 ht12t) (cef_2 _ _ _ _) rfl ⟨rfl, rfl, Nat.le_of_ble_eq_true rfl, Nat.le_of_ble_eq_true rfl⟩ (As := [.int (nI i), .int (nI j)]) (rest := [.int (I1 10 0 i), .int (nI i), .ref (eA (vE a) 10 0)]) rfl rfl (Nat.le_of_ble_eq_true rfl) dX5_changes_71 (fun r71 I71 L71 hp71 => ?_)
                  obtain ⟨rfl, e1, e2⟩ := hp71
                  have e1 := e1.symm
                  have e2 := e2.symm
                  subst e1; subst e2
                  refine v_st (st' := [.int (I1 3 t (5 * i + j)), .int (I1 10 0 i), .int (nI i), .ref (eA (vE a) 10 0)]) rfl ?_
                  refine v_aload_n X 0 rfl dX5_changes_74 ?_
                  refine gf_X5_21 X dX5_changes_75 ?_
                  refine v_iload X 4 rfl dX5_changes_78 ?_
                  refine v_iald_n X dl_9 (fun _ _ => rfl) (n := 16) (by omega) (by decide) dX5_changes_80 ?_
                  refine v_imul X dX5_changes_81 ?_
                  refine v_iadd X dX5_changes_82 ?_
                  refine v_iast_n X dl_10 (fun _ _ => rfl) (n := 5) (by omega) (by decide) dX5_changes_83 ?_
                  refine v_iinc X [1, 2, 3, 4, 0] 4 (nI (j + 1)) (lv' := [(0, .ref (eA (vE a) 0 0)), (1, .int (nI t)), (2, .ref (eA (vE a) 2 t)), (3, .int (nI i)), (4, .int (nI (j + 1)))]) rfl (nI_1 _) (by decide) rfl dX5_changes_84 ?_
                  refine v_goto X (tgt := 51) dX5_changes_87 (by decide) ?_
                  exact ih51 (j + 1) (upI I1 10 0 i ((I1 10 0 i) + ((I1 3 t (5 * i + j)) * (I1 9 0 j)))) (by omega) (by omega) (hF.up (by simp)) (fun k hk => (upI_x (by omega)).trans (hv k hk)) (by rw [upI_eq, hw, hF 3 t (by simp), hF 9 0 (by simp)]; rfl)
            exact loop51 _ 0 (upI I1 10 0 i (nI 0)) (Nat.lt_succ_self _) (Nat.zero_le _) (hF.up (by simp)) (fun k hk => (upI_x (by omega)).trans (hv k hk)) upI_eq
      exact loop33 _ 0 I (Nat.lt_succ_self _) (Nat.zero_le _) Fr.rf (fun k hk => absurd hk (Nat.not_lt_zero _))
    · refine v_aload_n X 0 rfl dX5_changes_24 ?_
      refine v_bipush X (v := (-2)) dX5_changes_25 (by decide) ?_
      refine v_callV X (c_X5_refused _ _ hE _ _ 2 (by decide) (by decide)) k_X5_58 dl_0 (cef_0 _ _ _ _) rfl ⟨rfl, rfl, Nat.le_of_ble_eq_true rfl, Nat.le_of_ble_eq_true rfl⟩ (As := [.int (-2)]) (rest := []) rfl rfl (Nat.le_of_ble_eq_true rfl) dX5_changes_27 (fun r27 I27 L27 hp27 => ?_)
      obtain ⟨rfl, e1, e2⟩ := hp27
      have e1 := e1.symm
      have e2 := e2.symm
      subst e1; subst e2
      refine v_st (st' := [.int (-2)]) rfl ?_
      exact v_iret X Y dX5_changes_30 (Or.inr ⟨t, htt, rfl, Or.inl ⟨h21, ⟨rfl, rfl⟩, rfl⟩⟩)
  · refine v_st (st' := [.null]) rfl ?_
    refine v_astore_nN X [1, 2, 0] (lv' := [(0, .ref (eA (vE a) 0 0)), (1, .int x), (2, .null)]) (by decide) rfl dX5_changes_5 ?_
    refine v_aload_nN X 2 rfl dX5_changes_6 ?_
    refine v_ifnonnullN X dX5_changes_7 ?_
    refine v_aload_n X 0 rfl dX5_changes_10 ?_
    refine v_bipush X (v := (-3)) dX5_changes_11 (by decide) ?_
    refine v_callV X (c_X5_refused _ _ hE _ _ 3 (by decide) (by decide)) k_X5_58 dl_0 (cef_0 _ _ _ _) rfl ⟨rfl, rfl, Nat.le_of_ble_eq_true rfl, Nat.le_of_ble_eq_true rfl⟩ (As := [.int (-3)]) (rest := []) rfl rfl (Nat.le_of_ble_eq_true rfl) dX5_changes_13 (fun r13 I13 L13 hp13 => ?_)
    obtain ⟨rfl, e1, e2⟩ := hp13
    have e1 := e1.symm
    have e2 := e2.symm
    subst e1; subst e2
    refine v_st (st' := [.int (-3)]) rfl ?_
    exact v_iret X Y dX5_changes_16 (Or.inl ⟨hnot, ⟨rfl, rfl⟩, rfl⟩)
theorem bd_put {n k i j a b : Nat} (hj : j < n) (hij : i ≤ j) (hk : j - i < k) : (a ≤ b ∧ b - a < k ∧ DR n i (j + 1) a b) ↔ ((a ≤ b ∧ b - a < k ∧ DR n i j a b) ∨ (a = i ∧ b = j)) := by unfold DR; omega
theorem bd_row {n k i j a b : Nat} (h : n ≤ j ∨ k ≤ j - i) : (a ≤ b ∧ b - a < k ∧ DR n i j a b) ↔ (a ≤ b ∧ b - a < k ∧ DR n (i + 1) 0 a b) := by unfold DR; omega
theorem bd_start {n k i a b : Nat} : (a ≤ b ∧ b - a < k ∧ DR n i 0 a b) ↔ (a ≤ b ∧ b - a < k ∧ DR n i i a b) := by unfold DR; omega
set_option maxHeartbeats 4000000 in
set_option maxRecDepth 100000 in
theorem c_X5_band (l : Launch) (E : VE) (hE : EOk E) (I : TI) (L : TL) (c : Nat) (hc0 : I 0 0 1 = nI c) (hc12 : c ≤ 12) (h : Nat) (hh : I 0 0 5 = nI h) (hh2 : h < 2) (n k : Int32) : Ct l E yX5_band cX5_band 6 (some .int) rm_X5_band [.ref (eA E 0 0), .int n, .int k] I L (fun r I' L' => (h = 0 ∧ REF I I' r 2 ∧ L' = L) ∨ (0 < h ∧ ((¬ (isD n ∧ isD k) ∧ REF I I' r 7 ∧ L' = L) ∨ (∃ n' k', 1 ≤ n' ∧ n' ≤ 5 ∧ 1 ≤ k' ∧ k' ≤ 5 ∧ n = nI n' ∧ k = nI k' ∧ ((c = 12 ∧ REF I I' r 8 ∧ L' = L) ∨ (c < 12 ∧ ResT I I' r c n' n' (nI 2) (-1) (fun a b => if a ≤ b ∧ b - a < k' then (I 9 0 (b - a)).toInt64 else 0) ∧ L' = L)))))) := by
  refine ct_of (by decide +kernel) (Nat.le_of_ble_eq_true rfl) hE ?_
  intro a X Y hl hEE
  subst hl; subst hEE
  show V a 0 [(0, .ref (eA (vE a) 0 0)), (1, .int n), (2, .int k)] [] I L
  refine v_aload_n X 0 rfl dX5_band_0 ?_
  refine gf_X5_199 X dX5_band_1 ?_
  refine v_eqi (y := (nI h)) (hh) ?_
  refine v_if_ne_n X (by omega) dX5_band_4 (tgt := 14) (by decide) (fun h4 => ?_) (fun h4 => ?_)
  · refine v_iload_n X 1 rfl dX5_band_14 ?_
    refine v_callS X (c_X5_isSide _ _ hE _ _ n) k_X5_54 ⟨rfl, rfl, Nat.le_of_ble_eq_true rfl, Nat.le_of_ble_eq_true rfl⟩ (As := [.int n]) (rest := []) rfl rfl (Nat.le_of_ble_eq_true rfl) dX5_band_15 (fun r15 I15 L15 hp15 => ?_)
    obtain ⟨rfl, e1, e2⟩ := hp15
    have e1 := e1.symm
    have e2 := e2.symm
    subst e1; subst e2
    refine v_st (st' := [.int (bI (nI 1 ≤ n ∧ n ≤ nI 5))]) rfl ?_
    refine v_ifb_eq X dX5_band_18 (tgt := 28) (by decide) (fun h18 => ?_) (fun h18 => ?_)
    · refine v_aload_n X 0 rfl dX5_band_28 ?_
      refine v_bipush X (v := (-7)) dX5_band_29 (by decide) ?_
      refine v_callV X (c_X5_refused _ _ hE _ _ 7 (by decide) (by decide)) k_X5_58 dl_0 (cef_0 _ _ _ _) rfl ⟨rfl, rfl, Nat.le_of_ble_eq_true rfl, Nat.le_of_ble_eq_true rfl⟩ (As := [.int (-7)]) (rest := []) rfl rfl (Nat.le_of_ble_eq_true rfl) dX5_band_31 (fun r31 I31 L31 hp31 => ?_)
      obtain ⟨rfl, e1, e2⟩ := hp31
      have e1 := e1.symm
      have e2 := e2.symm
      subst e1; subst e2
      refine v_st (st' := [.int (-7)]) rfl ?_
      exact v_iret X Y dX5_band_34 (Or.inr ⟨h4, Or.inl ⟨fun q => h18 (isD_iff.mp q.1), ⟨rfl, rfl⟩, rfl⟩⟩)
    · refine v_iload_n X 2 rfl dX5_band_21 ?_
      refine v_callS X (c_X5_isSide _ _ hE _ _ k) k_X5_54 ⟨rfl, rfl, Nat.le_of_ble_eq_true rfl, Nat.le_of_ble_eq_true rfl⟩ (As := [.int k]) (rest := []) rfl rfl (Nat.le_of_ble_eq_true rfl) dX5_band_22 (fun r22 I22 L22 hp22 => ?_)
      obtain ⟨rfl, e1, e2⟩ := hp22
      have e1 := e1.symm
      have e2 := e2.symm
      subst e1; subst e2
      refine v_st (st' := [.int (bI (nI 1 ≤ k ∧ k ≤ nI 5))]) rfl ?_
      refine v_ifb_ne X dX5_band_25 (tgt := 35) (by decide) (fun h25 => ?_) (fun h25 => ?_)
      · obtain ⟨n', hn1, hn5, rfl⟩ := isD_iff.mpr h18
        obtain ⟨k', hk1, hk5, rfl⟩ := isD_iff.mpr h25
        refine v_aload_n X 0 rfl dX5_band_35 ?_
        refine v_callV X (c_X5_freeGrid _ _ hE _ _ c (hc0) hc12) k_X5_62 dl_0 (cef_0 _ _ _ _) rfl ⟨rfl, rfl, Nat.le_of_ble_eq_true rfl, Nat.le_of_ble_eq_true rfl⟩ (As := []) (rest := []) rfl rfl (Nat.le_of_ble_eq_true rfl) dX5_band_36 (fun r36 I36 L36 hp36 => ?_)
        obtain ⟨hg36, e1, e2⟩ := hp36
        have e1 := e1.symm
        have e2 := e2.symm
        subst e1; subst e2
        rcases hg36 with ⟨hcl, rfl⟩ | ⟨hfull, rfl⟩
        · refine v_st (st' := [.ref (eA (vE a) 2 c)]) rfl ?_
          refine v_astore_n X [1, 2, 3, 0] (lv' := [(0, .ref (eA (vE a) 0 0)), (1, .int (nI n')), (2, .int (nI k')), (3, .ref (eA (vE a) 2 c))]) (by decide) rfl dX5_band_39 ?_
          refine v_aload_n X 3 rfl dX5_band_40 ?_
          refine v_ifnonnull X (tgt := 51) dX5_band_41 (by decide) ?_
          refine v_aload_n X 3 rfl dX5_band_51 ?_
          refine v_iload_n X 1 rfl dX5_band_52 ?_
          refine v_iload_n X 1 rfl dX5_band_53 ?_
          refine v_iconst X (v := (nI 2)) dX5_band_54 (by decide) ?_
          refine v_callV X (c_X0_begin _ _ hE _ _ c hcl (nI n') (nI n') (nI 2)) k_X5_66 (dl_2 hcl) (cef_2 _ _ _ _) rfl ⟨rfl, rfl, Nat.le_of_ble_eq_true rfl, Nat.le_of_ble_eq_true rfl⟩ (As := [.int (nI n'), .int (nI n'), .int (nI 2)]) (rest := []) rfl rfl (Nat.le_of_ble_eq_true rfl) dX5_band_55 (fun r55 I55 L55 hp55 => ?_)
          obtain ⟨rfl, hF55, hb1, hb2, hb3, hb4, hb5, hb6, e2⟩ := hp55
          have e2 := e2.symm
          subst e2
          have hB : Bld I I55 c n' n' (nI 2) (-1) (fun a b => a ≤ b ∧ b - a < k' ∧ DR n' 0 0 a b) (fun a b => if a ≤ b ∧ b - a < k' then (I 9 0 (b - a)).toInt64 else 0) := Bld.zero hF55 hb1 hb2 hb3 hb4 hb5 hb6 (fun a b h => DR_0 a b h.2.2)
          refine v_st (st' := []) rfl ?_
          refine v_iconst X (v := (nI 0)) dX5_band_58 (by decide) ?_
          refine v_istore X [1, 2, 3, 4, 0] (lv' := [(0, .ref (eA (vE a) 0 0)), (1, .int (nI n')), (2, .int (nI k')), (3, .ref (eA (vE a) 2 c)), (4, .int (nI 0))]) (by decide) rfl dX5_band_59 ?_
          have loop61 : ∀ (fu : Nat) (i : Nat) (I1 : TI), 6 - i < fu → (i ≤ n') → (Bld I I1 c n' n' (nI 2) (-1) (fun a b => a ≤ b ∧ b - a < k' ∧ DR n' i 0 a b) (fun a b => if a ≤ b ∧ b - a < k' then (I 9 0 (b - a)).toInt64 else 0)) → V a 61 [(0, .ref (eA (vE a) 0 0)), (1, .int (nI n')), (2, .int (nI k')), (3, .ref (eA (vE a) 2 c)), (4, .int (nI i))] [] I1 L := by
            intro fu
            induction fu with
            | zero => intro i I1 hm _ _; exact absurd hm (Nat.not_lt_zero _)
            | succ fu ih61 =>
              intro i I1 hm61 hi hB
              refine v_iload X 4 rfl dX5_band_61 ?_
              refine v_iload_n X 1 rfl dX5_band_63 ?_
              refine v_icmp_ge_n X (by omega) (by omega) dX5_band_64 (tgt := 117) (by decide) (fun h64 => ?_) (fun h64 => ?_)
              · have hB0 := hB
                replace hB := hB0.ext (D' := fun a b => a < n' ∧ b < n') (fun a b h1 h2 h => ((DR_end (by omega) a b h1 h2).mp h.2.2)) (fun a b h1 h2 h hn => if_neg (fun q => hn ⟨q.1, q.2, (DR_end (by omega) a b h1 h2).mpr h⟩))
                refine v_aload_n X 0 rfl dX5_band_117 ?_
                refine v_aload_n X 3 rfl dX5_band_118 ?_
                obtain ⟨f, hf2, hf1⟩ := hB.f
                refine v_callV X (c_X5_come _ _ hE _ _ c ((Fr.at hB.1 (by simp) _).trans (hc0)) hcl f hf1 hf2) k_X5_70 dl_0 (cef_0 _ _ _ _) rfl ⟨rfl, rfl, Nat.le_of_ble_eq_true rfl, Nat.le_of_ble_eq_true rfl⟩ (As := [.ref (eA (vE a) 2 c)]) (rest := []) rfl rfl (Nat.le_of_ble_eq_true rfl) dX5_band_119 (fun r119 I119 L119 hp119 => ?_)
                obtain ⟨ho, e2⟩ := hp119
                have e2 := e2.symm
                subst e2
                have hres := hB.res (by omega) (by omega) (fun _ _ _ _ => Iff.rfl) hf2 hf1 ho
                rcases ho with ⟨-, rfl, -⟩ | ⟨-, rfl, -⟩
                · refine v_st (st' := [.int (-nI 8)]) rfl ?_
                  exact v_iret X Y dX5_band_122 (Or.inr ⟨h4, Or.inr ⟨n', k', hn1, hn5, hk1, hk5, rfl, rfl, Or.inr ⟨hcl, hres, rfl⟩⟩⟩)
                · refine v_st (st' := [.int (nI c)]) rfl ?_
                  exact v_iret X Y dX5_band_122 (Or.inr ⟨h4, Or.inr ⟨n', k', hn1, hn5, hk1, hk5, rfl, rfl, Or.inr ⟨hcl, hres, rfl⟩⟩⟩)
              · refine v_iload X 4 rfl dX5_band_67 ?_
                refine v_istore X [1, 2, 3, 4, 5, 0] (lv' := [(0, .ref (eA (vE a) 0 0)), (1, .int (nI n')), (2, .int (nI k')), (3, .ref (eA (vE a) 2 c)), (4, .int (nI i)), (5, .int (nI i))]) (by decide) rfl dX5_band_69 ?_
                have loop71 : ∀ (fu : Nat) (j : Nat) (I1 : TI), 6 - j < fu → (i ≤ j) → (j ≤ n') → (Bld I I1 c n' n' (nI 2) (-1) (fun a b => a ≤ b ∧ b - a < k' ∧ DR n' i j a b) (fun a b => if a ≤ b ∧ b - a < k' then (I 9 0 (b - a)).toInt64 else 0)) → V a 71 [(0, .ref (eA (vE a) 0 0)), (1, .int (nI n')), (2, .int (nI k')), (3, .ref (eA (vE a) 2 c)), (4, .int (nI i)), (5, .int (nI j))] [] I1 L := by
                  intro fu
                  induction fu with
                  | zero => intro j I1 hm _ _ _; exact absurd hm (Nat.not_lt_zero _)
                  | succ fu ih71 =>
                    intro j I1 hm71 hij hj hB
                    refine v_iload X 5 rfl dX5_band_71 ?_
                    refine v_iload_n X 1 rfl dX5_band_73 ?_
                    refine v_icmp_ge_n X (by omega) (by omega) dX5_band_74 (tgt := 111) (by decide) (fun h74 => ?_) (fun h74 => ?_)
                    · refine v_iinc X [1, 2, 3, 4, 0, 5] 4 (nI (i + 1)) (lv' := [(0, .ref (eA (vE a) 0 0)), (1, .int (nI n')), (2, .int (nI k')), (3, .ref (eA (vE a) 2 c)), (4, .int (nI (i + 1))), (5, .int (nI j))]) rfl (nI_1 _) (by decide) rfl dX5_band_111 ?_
                      refine v_goto X (tgt := 61) dX5_band_114 (by decide) ?_
                      refine v_sub [0, 1, 2, 3, 4] (lv' := [(0, .ref (eA (vE a) 0 0)), (1, .int (nI n')), (2, .int (nI k')), (3, .ref (eA (vE a) 2 c)), (4, .int (nI (i + 1)))]) rfl ?_
                      exact ih61 (i + 1) I1 (by omega) (by omega) (hB.cg (fun a b h1 h2 => bd_row (Or.inl h74)))
                    · refine v_iload X 5 rfl dX5_band_77 ?_
                      refine v_iload X 4 rfl dX5_band_79 ?_
                      refine v_isub X dX5_band_81 ?_
                      refine v_eqi (y := (nI (j - i))) (pk_sub (by omega)) ?_
                      refine v_iload_n X 2 rfl dX5_band_82 ?_
                      refine v_icmp_ge_n X (by omega) (by omega) dX5_band_83 (tgt := 111) (by decide) (fun h83 => ?_) (fun h83 => ?_)
                      · refine v_iinc X [1, 2, 3, 4, 0, 5] 4 (nI (i + 1)) (lv' := [(0, .ref (eA (vE a) 0 0)), (1, .int (nI n')), (2, .int (nI k')), (3, .ref (eA (vE a) 2 c)), (4, .int (nI (i + 1))), (5, .int (nI j))]) rfl (nI_1 _) (by decide) rfl dX5_band_111 ?_
                        refine v_goto X (tgt := 61) dX5_band_114 (by decide) ?_
                        refine v_sub [0, 1, 2, 3, 4] (lv' := [(0, .ref (eA (vE a) 0 0)), (1, .int (nI n')), (2, .int (nI k')), (3, .ref (eA (vE a) 2 c)), (4, .int (nI (i + 1)))]) rfl ?_
                        exact ih61 (i + 1) I1 (by omega) (by omega) (hB.cg (fun a b h1 h2 => bd_row (Or.inr h83)))
                      · refine v_aload_n X 3 rfl dX5_band_86 ?_
                        refine v_iload X 4 rfl dX5_band_87 ?_
                        refine v_iload X 5 rfl dX5_band_89 ?_
                        refine v_aload_n X 0 rfl dX5_band_91 ?_
                        refine gf_X5_21 X dX5_band_92 ?_
                        refine v_iload X 5 rfl dX5_band_95 ?_
                        refine v_iload X 4 rfl dX5_band_97 ?_
                        refine v_isub X dX5_band_99 ?_
                        refine v_eqi (y := (nI (j - i))) (pk_sub (by omega)) ?_
                        refine v_iald_n X dl_9 (fun _ _ => rfl) (n := 16) (by omega) (by decide) dX5_band_100 ?_
                        refine v_i2l X dX5_band_101 rfl ?_
                        refine v_callV X (c_X0_put _ _ hE _ _ c hcl n' n' (hB.2.1) (hB.2.2.1) (by omega) (by omega) i j (by omega) (by omega) ((I1 9 0 (j - i)).toInt64)) k_X5_97 (dl_2 hcl) (cef_2 _ _ _ _) rfl ⟨rfl, rfl, Nat.le_of_ble_eq_true rfl, Nat.le_of_ble_eq_true rfl⟩ (As := [.int (nI i), .int (nI j), .long ((I1 9 0 (j - i)).toInt64)]) (rest := []) rfl rfl (Nat.le_of_ble_eq_true rfl) dX5_band_102 (fun r102 I102 L102 hp102 => ?_)
                        obtain ⟨rfl, e1, e2⟩ := hp102
                        have e2 := e2.symm
                        subst e2
                        have e39 : I1 9 0 = I 9 0 := hB.1 9 0 (by simp)
                        have hB102 := hB.put (D' := (fun a b => a ≤ b ∧ b - a < k' ∧ DR n' i (j + 1) a b)) (i := i) (j := j) (by omega) (by omega) (fun h => DR_no h.2.2) (fun a b h1 h2 => bd_put (by omega) hij (by omega)) (v := (I1 9 0 (j - i)).toInt64) (by rw [if_pos ⟨hij, by omega⟩, e39])
                        rw [← e1] at hB102
                        refine v_st (st' := []) rfl ?_
                        refine v_iinc X [1, 2, 3, 4, 5, 0] 5 (nI (j + 1)) (lv' := [(0, .ref (eA (vE a) 0 0)), (1, .int (nI n')), (2, .int (nI k')), (3, .ref (eA (vE a) 2 c)), (4, .int (nI i)), (5, .int (nI (j + 1)))]) rfl (nI_1 _) (by decide) rfl dX5_band_105 ?_
                        refine v_goto X (tgt := 71) dX5_band_108 (by decide) ?_
                        exact ih71 (j + 1) I102 (by omega) (by omega) (by omega) hB102
                exact loop71 _ i I1 (Nat.lt_succ_self _) (Nat.le_refl _) (by omega) (hB.cg (fun a b h1 h2 => bd_start))
          exact loop61 _ 0 I55 (Nat.lt_succ_self _) (Nat.zero_le _) hB
        · refine v_st (st' := [.null]) rfl ?_
          refine v_astore_nN X [1, 2, 3, 0] (lv' := [(0, .ref (eA (vE a) 0 0)), (1, .int (nI n')), (2, .int (nI k')), (3, .null)]) (by decide) rfl dX5_band_39 ?_
          refine v_aload_nN X 3 rfl dX5_band_40 ?_
          refine v_ifnonnullN X dX5_band_41 ?_
          refine v_aload_n X 0 rfl dX5_band_44 ?_
          refine v_bipush X (v := (-8)) dX5_band_45 (by decide) ?_
          refine v_callV X (c_X5_refused _ _ hE _ _ 8 (by decide) (by decide)) k_X5_58 dl_0 (cef_0 _ _ _ _) rfl ⟨rfl, rfl, Nat.le_of_ble_eq_true rfl, Nat.le_of_ble_eq_true rfl⟩ (As := [.int (-8)]) (rest := []) rfl rfl (Nat.le_of_ble_eq_true rfl) dX5_band_47 (fun r47 I47 L47 hp47 => ?_)
          obtain ⟨rfl, e1, e2⟩ := hp47
          have e1 := e1.symm
          have e2 := e2.symm
          subst e1; subst e2
          refine v_st (st' := [.int (-8)]) rfl ?_
          exact v_iret X Y dX5_band_50 (Or.inr ⟨h4, Or.inr ⟨n', k', hn1, hn5, hk1, hk5, rfl, rfl, Or.inl ⟨hfull, ⟨rfl, rfl⟩, rfl⟩⟩⟩)
      · refine v_aload_n X 0 rfl dX5_band_28 ?_
        refine v_bipush X (v := (-7)) dX5_band_29 (by decide) ?_
        refine v_callV X (c_X5_refused _ _ hE _ _ 7 (by decide) (by decide)) k_X5_58 dl_0 (cef_0 _ _ _ _) rfl ⟨rfl, rfl, Nat.le_of_ble_eq_true rfl, Nat.le_of_ble_eq_true rfl⟩ (As := [.int (-7)]) (rest := []) rfl rfl (Nat.le_of_ble_eq_true rfl) dX5_band_31 (fun r31 I31 L31 hp31 => ?_)
        obtain ⟨rfl, e1, e2⟩ := hp31
        have e1 := e1.symm
        have e2 := e2.symm
        subst e1; subst e2
        refine v_st (st' := [.int (-7)]) rfl ?_
        exact v_iret X Y dX5_band_34 (Or.inr ⟨h4, Or.inl ⟨fun q => h25 (isD_iff.mp q.2), ⟨rfl, rfl⟩, rfl⟩⟩)
  · refine v_aload_n X 0 rfl dX5_band_7 ?_
    refine v_bipush X (v := (-2)) dX5_band_8 (by decide) ?_
    refine v_callV X (c_X5_refused _ _ hE _ _ 2 (by decide) (by decide)) k_X5_58 dl_0 (cef_0 _ _ _ _) rfl ⟨rfl, rfl, Nat.le_of_ble_eq_true rfl, Nat.le_of_ble_eq_true rfl⟩ (As := [.int (-2)]) (rest := []) rfl rfl (Nat.le_of_ble_eq_true rfl) dX5_band_10 (fun r10 I10 L10 hp10 => ?_)
    obtain ⟨rfl, e1, e2⟩ := hp10
    have e1 := e1.symm
    have e2 := e2.symm
    subst e1; subst e2
    refine v_st (st' := [.int (-2)]) rfl ?_
    exact v_iret X Y dX5_band_13 (Or.inl ⟨h4, ⟨rfl, rfl⟩, rfl⟩)
set_option maxHeartbeats 4000000 in
set_option maxRecDepth 100000 in
theorem c_X5_lay (l : Launch) (E : VE) (hE : EOk E) (I : TI) (L : TL) (c : Nat) (ro co : Nat → Nat) (hT : CT I c ro co) (x i : Int32) : Ct l E yX5_lay cX5_lay 5 (some .int) rm_X5_lay [.ref (eA E 0 0), .int x, .int i] I L (fun r I' L' => (¬ (∃ t, t < c ∧ x = nI t ∧ isT (ro t) i) ∧ REF I I' r 3 ∧ L' = L) ∨ (∃ t i', t < c ∧ x = nI t ∧ i' < ro t ∧ i = nI i' ∧ Fr [(9, 0), (0, 0)] I I' ∧ (∀ x, x ≠ 5 → I' 0 0 x = I 0 0 x) ∧ I' 0 0 5 = nI 1 ∧ (∀ x, x < 16 → I' 9 0 x = if x < co t then I 3 t (5 * i' + x) else nI 0) ∧ r = some (.int (nI (co t))) ∧ L' = L)) := by
  refine ct_of (by decide +kernel) (Nat.le_of_ble_eq_true rfl) hE ?_
  intro a X Y hl hEE
  subst hl; subst hEE
  show V a 0 [(0, .ref (eA (vE a) 0 0)), (1, .int x), (2, .int i)] [] I L
  refine v_aload_n X 0 rfl dX5_lay_0 ?_
  refine v_iload_n X 1 rfl dX5_lay_1 ?_
  refine v_callV X (c_X5_gridOf _ _ hE _ _ c hT.1 hT.2.1 x) k_X5_74 dl_0 (cef_0 _ _ _ _) rfl ⟨rfl, rfl, Nat.le_of_ble_eq_true rfl, Nat.le_of_ble_eq_true rfl⟩ (As := [.int x]) (rest := []) rfl rfl (Nat.le_of_ble_eq_true rfl) dX5_lay_2 (fun r2 I2 L2 hp2 => ?_)
  obtain ⟨ho2, e1, e2⟩ := hp2
  have e1 := e1.symm
  have e2 := e2.symm
  subst e1; subst e2
  rcases ho2 with ⟨t, htt, rfl, rfl⟩ | ⟨hnot, rfl⟩
  · have hc12 := hT.2.1
    obtain ⟨hrt, hct, hr1t, hr5t, hc1t, hc5t⟩ := hT.2.2 t htt
    have ht12t : t < 12 := by omega
    have hnet : t ≠ c := by omega
    refine v_st (st' := [.ref (eA (vE a) 2 t)]) rfl ?_
    refine v_astore_n X [1, 2, 3, 0] (lv' := [(0, .ref (eA (vE a) 0 0)), (1, .int (nI t)), (2, .int i), (3, .ref (eA (vE a) 2 t))]) (by decide) rfl dX5_lay_5 ?_
    refine v_aload_n X 3 rfl dX5_lay_6 ?_
    refine v_ifnull X dX5_lay_7 ?_
    refine v_aload_n X 3 rfl dX5_lay_10 ?_
    refine v_iload_n X 2 rfl dX5_lay_11 ?_
    refine v_iconst X (v := (nI 0)) dX5_lay_12 (by decide) ?_
    refine v_callV X (c_X0_reaches _ _ hE _ _ t ht12t (ro t) (co t) (hrt) (hct) i (nI 0)) k_X5_78 (dl_2 ht12t) (cef_2 _ _ _ _) rfl ⟨rfl, rfl, Nat.le_of_ble_eq_true rfl, Nat.le_of_ble_eq_true rfl⟩ (As := [.int i, .int (nI 0)]) (rest := []) rfl rfl (Nat.le_of_ble_eq_true rfl) dX5_lay_13 (fun r13 I13 L13 hp13 => ?_)
    obtain ⟨rfl, e1, e2⟩ := hp13
    have e1 := e1.symm
    have e2 := e2.symm
    subst e1; subst e2
    refine v_st (st' := [.int (bI (inR (ro t) i ∧ inR (co t) (nI 0)))]) rfl ?_
    refine v_ifb_ne X dX5_lay_16 (tgt := 26) (by decide) (fun h16 => ?_) (fun h16 => ?_)
    · obtain ⟨i', hi', rfl⟩ := inR_of (by omega) h16.1
      refine v_aload_n X 0 rfl dX5_lay_26 ?_
      refine v_callV X (c_X5_emptyTheRow _ _ hE _ _ ) k_X5_203 dl_0 (cef_0 _ _ _ _) rfl ⟨rfl, rfl, Nat.le_of_ble_eq_true rfl, Nat.le_of_ble_eq_true rfl⟩ (As := []) (rest := []) rfl rfl (Nat.le_of_ble_eq_true rfl) dX5_lay_27 (fun r27 I27 L27 hp27 => ?_)
      obtain ⟨rfl, hF27, hz27, hs27, ho27, e2⟩ := hp27
      have e2 := e2.symm
      subst e2
      refine v_st (st' := []) rfl ?_
      refine v_iconst X (v := (nI 0)) dX5_lay_30 (by decide) ?_
      refine v_istore X [1, 2, 3, 4, 0] (lv' := [(0, .ref (eA (vE a) 0 0)), (1, .int (nI t)), (2, .int (nI i')), (3, .ref (eA (vE a) 2 t)), (4, .int (nI 0))]) (by decide) rfl dX5_lay_31 ?_
      have loop33 : ∀ (fu : Nat) (j : Nat) (I1 : TI), 6 - j < fu → (j ≤ co t) → (Fr [(9, 0), (0, 0)] I I1) → (∀ x, x ≠ 5 → I1 0 0 x = I 0 0 x) → (I1 0 0 5 = nI 1) → (∀ x, x < 16 → I1 9 0 x = if x < j then I 3 t (5 * i' + x) else nI 0) → V a 33 [(0, .ref (eA (vE a) 0 0)), (1, .int (nI t)), (2, .int (nI i')), (3, .ref (eA (vE a) 2 t)), (4, .int (nI j))] [] I1 L := by
        intro fu
        induction fu with
        | zero => intro j I1 hm _ _ _ _ _; exact absurd hm (Nat.not_lt_zero _)
        | succ fu ih33 =>
          intro j I1 hm33 hj hFr hso hs5 hv
          refine v_iload X 4 rfl dX5_lay_33 ?_
          refine v_aload_n X 3 rfl dX5_lay_35 ?_
          refine gf_X5_104 X ht12t dX5_lay_36 ?_
          refine v_eqi (y := (nI (co t))) ((Fr.at hFr (by simp) _).trans (hct)) ?_
          refine v_icmp_ge_n X (by omega) (by omega) dX5_lay_39 (tgt := 62) (by decide) (fun h39 => ?_) (fun h39 => ?_)
          · refine v_aload_n X 3 rfl dX5_lay_62 ?_
            refine gf_X5_104 X ht12t dX5_lay_63 ?_
            refine v_eqi (y := (nI (co t))) ((Fr.at hFr (by simp) _).trans (hct)) ?_
            exact v_iret X Y dX5_lay_66 (Or.inr ⟨t, i', htt, rfl, hi', rfl, hFr, hso, hs5, fun x hx => by rw [hv x hx, show j = co t by omega], rfl, rfl⟩)
          · refine v_aload_n X 0 rfl dX5_lay_42 ?_
            refine gf_X5_21 X dX5_lay_43 ?_
            refine v_iload X 4 rfl dX5_lay_46 ?_
            refine v_aload_n X 3 rfl dX5_lay_48 ?_
            refine v_iload_n X 2 rfl dX5_lay_49 ?_
            refine v_iload X 4 rfl dX5_lay_50 ?_
            refine v_callV X (c_X0_number _ _ hE _ _ t ht12t (ro t) (co t) ((Fr.at hFr (by simp) _).trans (hrt)) ((Fr.at hFr (by simp) _).trans (hct)) hr5t hc5t i' j (by omega) (by omega)) k_X5_93 (dl_2 ht12t) (cef_2 _ _ _ _) rfl ⟨rfl, rfl, Nat.le_of_ble_eq_true rfl, Nat.le_of_ble_eq_true rfl⟩ (As := [.int (nI i'), .int (nI j)]) (rest := [.int (nI j), .ref (eA (vE a) 9 0)]) rfl rfl (Nat.le_of_ble_eq_true rfl) dX5_lay_52 (fun r52 I52 L52 hp52 => ?_)
            obtain ⟨rfl, e1, e2⟩ := hp52
            have e1 := e1.symm
            have e2 := e2.symm
            subst e1; subst e2
            refine v_st (st' := [.int (I1 3 t (5 * i' + j)), .int (nI j), .ref (eA (vE a) 9 0)]) rfl ?_
            refine v_iast_n X dl_9 (fun _ _ => rfl) (n := 16) (by omega) (by decide) dX5_lay_55 ?_
            refine v_iinc X [1, 2, 3, 4, 0] 4 (nI (j + 1)) (lv' := [(0, .ref (eA (vE a) 0 0)), (1, .int (nI t)), (2, .int (nI i')), (3, .ref (eA (vE a) 2 t)), (4, .int (nI (j + 1)))]) rfl (nI_1 _) (by decide) rfl dX5_lay_56 ?_
            refine v_goto X (tgt := 33) dX5_lay_59 (by decide) ?_
            have hnew : ∀ x, x < 16 → (upI I1 9 0 j (I1 3 t (5 * i' + j))) 9 0 x = if x < j + 1 then I 3 t (5 * i' + x) else nI 0 := fun x hx => by
              by_cases e : x = j
              · rw [e, upI_eq, if_pos (by omega), hFr.at (by simp)]
              · rw [upI_x e, hv x hx]
                by_cases e2 : x < j
                · rw [if_pos e2, if_pos (by omega)]
                · rw [if_neg e2, if_neg (by omega)]
            exact ih33 (j + 1) (upI I1 9 0 j (I1 3 t (5 * i' + j))) (by omega) (by omega) (hFr.up (by simp)) (fun x hx => (upI_k (by decide)).trans (hso x hx)) ((upI_k (by decide)).trans hs5) hnew
      exact loop33 _ 0 I27 (Nat.lt_succ_self _) (Nat.zero_le _) hF27 ho27 hs27 (fun x hx => (hz27 x hx).trans (if_neg (Nat.not_lt_zero _)).symm)
    · refine v_aload_n X 0 rfl dX5_lay_19 ?_
      refine v_bipush X (v := (-3)) dX5_lay_20 (by decide) ?_
      refine v_callV X (c_X5_refused _ _ hE _ _ 3 (by decide) (by decide)) k_X5_58 dl_0 (cef_0 _ _ _ _) rfl ⟨rfl, rfl, Nat.le_of_ble_eq_true rfl, Nat.le_of_ble_eq_true rfl⟩ (As := [.int (-3)]) (rest := []) rfl rfl (Nat.le_of_ble_eq_true rfl) dX5_lay_22 (fun r22 I22 L22 hp22 => ?_)
      obtain ⟨rfl, e1, e2⟩ := hp22
      have e1 := e1.symm
      have e2 := e2.symm
      subst e1; subst e2
      refine v_st (st' := [.int (-3)]) rfl ?_
      exact v_iret X Y dX5_lay_25 (Or.inl ⟨fun ⟨u, hu, e, hq⟩ => by
            have e := (nI_eq (by omega) (by omega)).mp e
            subst e
            exact h16 ⟨(inR_T (by omega)).mpr hq, (inR_n (by omega) (by omega)).mpr (by omega)⟩, ⟨rfl, rfl⟩, rfl⟩)
  · refine v_st (st' := [.null]) rfl ?_
    refine v_astore_nN X [1, 2, 3, 0] (lv' := [(0, .ref (eA (vE a) 0 0)), (1, .int x), (2, .int i), (3, .null)]) (by decide) rfl dX5_lay_5 ?_
    refine v_aload_nN X 3 rfl dX5_lay_6 ?_
    refine v_ifnullN X (tgt := 19) dX5_lay_7 (by decide) ?_
    refine v_aload_n X 0 rfl dX5_lay_19 ?_
    refine v_bipush X (v := (-3)) dX5_lay_20 (by decide) ?_
    refine v_callV X (c_X5_refused _ _ hE _ _ 3 (by decide) (by decide)) k_X5_58 dl_0 (cef_0 _ _ _ _) rfl ⟨rfl, rfl, Nat.le_of_ble_eq_true rfl, Nat.le_of_ble_eq_true rfl⟩ (As := [.int (-3)]) (rest := []) rfl rfl (Nat.le_of_ble_eq_true rfl) dX5_lay_22 (fun r22 I22 L22 hp22 => ?_)
    obtain ⟨rfl, e1, e2⟩ := hp22
    have e1 := e1.symm
    have e2 := e2.symm
    subst e1; subst e2
    refine v_st (st' := [.int (-3)]) rfl ?_
    exact v_iret X Y dX5_lay_25 (Or.inl ⟨fun ⟨t, ht, e, _⟩ => hnot ⟨t, ht, e⟩, ⟨rfl, rfl⟩, rfl⟩)
set_option maxHeartbeats 4000000 in
set_option maxRecDepth 100000 in
theorem c_X5_tear (l : Launch) (E : VE) (hE : EOk E) (I : TI) (L : TL) (h : Nat) (hh : I 0 0 5 = nI h) (hh2 : h < 2) : Ct l E yX5_tear cX5_tear 2 (some .int) rm_X5_tear [.ref (eA E 0 0)] I L (fun r I' L' => r = some (.int (nI h)) ∧ I' = upI I 0 0 5 (nI 0) ∧ L' = L) := by
  refine ct_of (by decide +kernel) (Nat.le_of_ble_eq_true rfl) hE ?_
  intro a X Y hl hEE
  subst hl; subst hEE
  show V a 0 [(0, .ref (eA (vE a) 0 0))] [] I L
  refine v_aload_n X 0 rfl dX5_tear_0 ?_
  refine gf_X5_199 X dX5_tear_1 ?_
  refine v_eqi (y := (nI h)) (hh) ?_
  refine v_if_eq_n X (by omega) dX5_tear_4 (tgt := 11) (by decide) (fun h4 => ?_) (fun h4 => ?_)
  · refine v_iconst X (v := (nI 0)) dX5_tear_11 (by decide) ?_
    refine v_istore_n X [1, 0] (lv' := [(0, .ref (eA (vE a) 0 0)), (1, .int (nI 0))]) (by decide) rfl dX5_tear_12 ?_
    refine v_aload_n X 0 rfl dX5_tear_13 ?_
    refine v_iconst X (v := (nI 0)) dX5_tear_14 (by decide) ?_
    refine pf_X5_199 X rfl dX5_tear_15 ?_
    refine v_iload_n X 1 rfl dX5_tear_18 ?_
    exact v_iret X Y dX5_tear_19 (⟨by rw [show h = 0 by omega], rfl, rfl⟩)
  · refine v_iconst X (v := (nI 1)) dX5_tear_7 (by decide) ?_
    refine v_goto X (tgt := 12) dX5_tear_8 (by decide) ?_
    refine v_istore_n X [1, 0] (lv' := [(0, .ref (eA (vE a) 0 0)), (1, .int (nI 1))]) (by decide) rfl dX5_tear_12 ?_
    refine v_aload_n X 0 rfl dX5_tear_13 ?_
    refine v_iconst X (v := (nI 0)) dX5_tear_14 (by decide) ?_
    refine pf_X5_199 X rfl dX5_tear_15 ?_
    refine v_iload_n X 1 rfl dX5_tear_18 ?_
    exact v_iret X Y dX5_tear_19 (⟨by rw [show h = 1 by omega], rfl, rfl⟩)
set_option maxHeartbeats 4000000 in
set_option maxRecDepth 100000 in
theorem c_X5_row (l : Launch) (E : VE) (hE : EOk E) (I : TI) (L : TL) (h : Nat) (hh : I 0 0 5 = nI h) (hh2 : h < 2) (i : Int32) : Ct l E yX5_row cX5_row 2 (some .int) rm_X5_row [.ref (eA E 0 0), .int i] I L (fun r I' L' => ((h = 0 ∧ RE0 I I' r 2) ∨ (0 < h ∧ ((¬ (0 ≤ i ∧ i < nI 16) ∧ RE0 I I' r 3) ∨ (∃ i', i' < 16 ∧ i = nI i' ∧ r = some (.int (I 9 0 i')) ∧ I' = I)))) ∧ L' = L) := by
  refine ct_of (by decide +kernel) (Nat.le_of_ble_eq_true rfl) hE ?_
  intro a X Y hl hEE
  subst hl; subst hEE
  show V a 0 [(0, .ref (eA (vE a) 0 0)), (1, .int i)] [] I L
  refine v_aload_n X 0 rfl dX5_row_0 ?_
  refine gf_X5_199 X dX5_row_1 ?_
  refine v_eqi (y := (nI h)) (hh) ?_
  refine v_if_ne_n X (by omega) dX5_row_4 (tgt := 14) (by decide) (fun h4 => ?_) (fun h4 => ?_)
  · refine v_iload_n X 1 rfl dX5_row_14 ?_
    refine v_if_lt X dX5_row_15 (tgt := 24) (by decide) (fun h15 => ?_) (fun h15 => ?_)
    · refine v_aload_n X 0 rfl dX5_row_24 ?_
      refine v_bipush X (v := (-3)) dX5_row_25 (by decide) ?_
      refine v_callV X (c_X5_nought _ _ hE _ _ 3 (by decide) (by decide)) k_X5_82 dl_0 (cef_0 _ _ _ _) rfl ⟨rfl, rfl, Nat.le_of_ble_eq_true rfl, Nat.le_of_ble_eq_true rfl⟩ (As := [.int (-3)]) (rest := []) rfl rfl (Nat.le_of_ble_eq_true rfl) dX5_row_27 (fun r27 I27 L27 hp27 => ?_)
      obtain ⟨rfl, e1, e2⟩ := hp27
      have e1 := e1.symm
      have e2 := e2.symm
      subst e1; subst e2
      refine v_st (st' := [.int (nI 0)]) rfl ?_
      exact v_iret X Y dX5_row_30 (⟨Or.inr ⟨h4, Or.inl ⟨fun q => absurd q.1 (Int32.not_le.mpr h15), rfl, rfl⟩⟩, rfl⟩)
    · refine v_iload_n X 1 rfl dX5_row_18 ?_
      refine v_bipush X (v := (nI 16)) dX5_row_19 (by decide) ?_
      refine v_icmp_lt X dX5_row_21 (tgt := 31) (by decide) (fun h21 => ?_) (fun h21 => ?_)
      · obtain ⟨i', hi', rfl⟩ := ix_of (Int32.not_lt.mp h15) h21 (by decide)
        refine v_aload_n X 0 rfl dX5_row_31 ?_
        refine gf_X5_21 X dX5_row_32 ?_
        refine v_iload_n X 1 rfl dX5_row_35 ?_
        refine v_iald_n X dl_9 (fun _ _ => rfl) (n := 16) (by omega) (by decide) dX5_row_36 ?_
        exact v_iret X Y dX5_row_37 (⟨Or.inr ⟨h4, Or.inr ⟨i', hi', rfl, rfl, rfl⟩⟩, rfl⟩)
      · refine v_aload_n X 0 rfl dX5_row_24 ?_
        refine v_bipush X (v := (-3)) dX5_row_25 (by decide) ?_
        refine v_callV X (c_X5_nought _ _ hE _ _ 3 (by decide) (by decide)) k_X5_82 dl_0 (cef_0 _ _ _ _) rfl ⟨rfl, rfl, Nat.le_of_ble_eq_true rfl, Nat.le_of_ble_eq_true rfl⟩ (As := [.int (-3)]) (rest := []) rfl rfl (Nat.le_of_ble_eq_true rfl) dX5_row_27 (fun r27 I27 L27 hp27 => ?_)
        obtain ⟨rfl, e1, e2⟩ := hp27
        have e1 := e1.symm
        have e2 := e2.symm
        subst e1; subst e2
        refine v_st (st' := [.int (nI 0)]) rfl ?_
        exact v_iret X Y dX5_row_30 (⟨Or.inr ⟨h4, Or.inl ⟨fun q => h21 q.2, rfl, rfl⟩⟩, rfl⟩)
  · refine v_aload_n X 0 rfl dX5_row_7 ?_
    refine v_bipush X (v := (-2)) dX5_row_8 (by decide) ?_
    refine v_callV X (c_X5_nought _ _ hE _ _ 2 (by decide) (by decide)) k_X5_82 dl_0 (cef_0 _ _ _ _) rfl ⟨rfl, rfl, Nat.le_of_ble_eq_true rfl, Nat.le_of_ble_eq_true rfl⟩ (As := [.int (-2)]) (rest := []) rfl rfl (Nat.le_of_ble_eq_true rfl) dX5_row_10 (fun r10 I10 L10 hp10 => ?_)
    obtain ⟨rfl, e1, e2⟩ := hp10
    have e1 := e1.symm
    have e2 := e2.symm
    subst e1; subst e2
    refine v_st (st' := [.int (nI 0)]) rfl ?_
    exact v_iret X Y dX5_row_13 (⟨Or.inl ⟨h4, rfl, rfl⟩, rfl⟩)
set_option maxHeartbeats 4000000 in
set_option maxRecDepth 100000 in
theorem c_X5_copy (l : Launch) (E : VE) (hE : EOk E) (I : TI) (L : TL) (h : Nat) (hh : I 0 0 5 = nI h) (hh2 : h < 2) (i j n : Int32) : Ct l E yX5_copy cX5_copy 4 (some .int) rm_X5_copy [.ref (eA E 0 0), .int i, .int j, .int n] I L (fun r I' L' => ((h = 0 ∧ REF I I' r 2) ∨ (0 < h ∧ ((n < 0 ∧ REF I I' r 4) ∨ (¬ n < 0 ∧ ((¬ cpOK i j n ∧ REF I I' r 6) ∨ (∃ i' j' n', i = nI i' ∧ j = nI j' ∧ n = nI n' ∧ i' + n' ≤ 16 ∧ j' + n' ≤ 16 ∧ r = some (.int n) ∧ I' = rowI I 9 0 (va_cpy (I 9 0) (I 9 0) i' j' n'))))))) ∧ L' = L) := by
  refine ct_of (by decide +kernel) (Nat.le_of_ble_eq_true rfl) hE ?_
  intro a X Y hl hEE
  subst hl; subst hEE
  show V a 0 [(0, .ref (eA (vE a) 0 0)), (1, .int i), (2, .int j), (3, .int n)] [] I L
  refine v_aload_n X 0 rfl dX5_copy_0 ?_
  refine gf_X5_199 X dX5_copy_1 ?_
  refine v_eqi (y := (nI h)) (hh) ?_
  refine v_if_ne_n X (by omega) dX5_copy_4 (tgt := 14) (by decide) (fun h4 => ?_) (fun h4 => ?_)
  · refine v_iload_n X 3 rfl dX5_copy_14 ?_
    refine v_if_ge X dX5_copy_15 (tgt := 25) (by decide) (fun h15 => ?_) (fun h15 => ?_)
    · refine v_iload_n X 1 rfl dX5_copy_25 ?_
      refine v_if_lt X dX5_copy_26 (tgt := 49) (by decide) (fun h26 => ?_) (fun h26 => ?_)
      · refine v_aload_n X 0 rfl dX5_copy_49 ?_
        refine v_bipush X (v := (-6)) dX5_copy_50 (by decide) ?_
        refine v_callV X (c_X5_refused _ _ hE _ _ 6 (by decide) (by decide)) k_X5_58 dl_0 (cef_0 _ _ _ _) rfl ⟨rfl, rfl, Nat.le_of_ble_eq_true rfl, Nat.le_of_ble_eq_true rfl⟩ (As := [.int (-6)]) (rest := []) rfl rfl (Nat.le_of_ble_eq_true rfl) dX5_copy_52 (fun r52 I52 L52 hp52 => ?_)
        obtain ⟨rfl, e1, e2⟩ := hp52
        have e1 := e1.symm
        have e2 := e2.symm
        subst e1; subst e2
        refine v_st (st' := [.int (-6)]) rfl ?_
        exact v_iret X Y dX5_copy_55 (⟨Or.inr ⟨h4, Or.inr ⟨Int32.not_lt.mpr h15, Or.inl ⟨fun ⟨a, b, d, e1, _, e3, q1, _⟩ => nI_pos (n := a) (by omega) (e1 ▸ h26), rfl, rfl⟩⟩⟩, rfl⟩)
      · refine v_iload_n X 2 rfl dX5_copy_29 ?_
        refine v_if_lt X dX5_copy_30 (tgt := 49) (by decide) (fun h30 => ?_) (fun h30 => ?_)
        · refine v_aload_n X 0 rfl dX5_copy_49 ?_
          refine v_bipush X (v := (-6)) dX5_copy_50 (by decide) ?_
          refine v_callV X (c_X5_refused _ _ hE _ _ 6 (by decide) (by decide)) k_X5_58 dl_0 (cef_0 _ _ _ _) rfl ⟨rfl, rfl, Nat.le_of_ble_eq_true rfl, Nat.le_of_ble_eq_true rfl⟩ (As := [.int (-6)]) (rest := []) rfl rfl (Nat.le_of_ble_eq_true rfl) dX5_copy_52 (fun r52 I52 L52 hp52 => ?_)
          obtain ⟨rfl, e1, e2⟩ := hp52
          have e1 := e1.symm
          have e2 := e2.symm
          subst e1; subst e2
          refine v_st (st' := [.int (-6)]) rfl ?_
          exact v_iret X Y dX5_copy_55 (⟨Or.inr ⟨h4, Or.inr ⟨Int32.not_lt.mpr h15, Or.inl ⟨fun ⟨a, b, d, _, e2, e3, _, q2⟩ => nI_pos (n := b) (by omega) (e2 ▸ h30), rfl, rfl⟩⟩⟩, rfl⟩)
        · obtain ⟨i', hi31, rfl⟩ := nI_of h26
          obtain ⟨j', hj31, rfl⟩ := nI_of h30
          obtain ⟨n', hn31, rfl⟩ := nI_of (Int32.not_lt.mpr h15)
          refine v_iload_n X 3 rfl dX5_copy_33 ?_
          refine v_bipush X (v := (nI 16)) dX5_copy_34 (by decide) ?_
          refine v_iload_n X 1 rfl dX5_copy_36 ?_
          refine v_isub X dX5_copy_37 ?_
          refine v_icmp_gt X dX5_copy_38 (tgt := 49) (by decide) (fun h38 => ?_) (fun h38 => ?_)
          · refine v_aload_n X 0 rfl dX5_copy_49 ?_
            refine v_bipush X (v := (-6)) dX5_copy_50 (by decide) ?_
            refine v_callV X (c_X5_refused _ _ hE _ _ 6 (by decide) (by decide)) k_X5_58 dl_0 (cef_0 _ _ _ _) rfl ⟨rfl, rfl, Nat.le_of_ble_eq_true rfl, Nat.le_of_ble_eq_true rfl⟩ (As := [.int (-6)]) (rest := []) rfl rfl (Nat.le_of_ble_eq_true rfl) dX5_copy_52 (fun r52 I52 L52 hp52 => ?_)
            obtain ⟨rfl, e1, e2⟩ := hp52
            have e1 := e1.symm
            have e2 := e2.symm
            subst e1; subst e2
            refine v_st (st' := [.int (-6)]) rfl ?_
            exact v_iret X Y dX5_copy_55 (⟨Or.inr ⟨h4, Or.inr ⟨Int32.not_lt.mpr h15, Or.inl ⟨fun ⟨a, b, d, e1, e2, e3, q1, q2⟩ => by
                  have e1 := (nI_eq hi31 (by omega)).mp e1
                  have e3 := (nI_eq hn31 (by omega)).mp e3
                  exact cp_fail (j := 0) hi31 hn31 h38 (by omega), rfl, rfl⟩⟩⟩, rfl⟩)
          · refine v_iload_n X 3 rfl dX5_copy_41 ?_
            refine v_bipush X (v := (nI 16)) dX5_copy_42 (by decide) ?_
            refine v_iload_n X 2 rfl dX5_copy_44 ?_
            refine v_isub X dX5_copy_45 ?_
            refine v_icmp_le X dX5_copy_46 (tgt := 56) (by decide) (fun h46 => ?_) (fun h46 => ?_)
            · refine v_aload_n X 0 rfl dX5_copy_56 ?_
              refine gf_X5_21 X dX5_copy_57 ?_
              refine v_iload_n X 1 rfl dX5_copy_60 ?_
              refine v_aload_n X 0 rfl dX5_copy_61 ?_
              refine gf_X5_21 X dX5_copy_62 ?_
              refine v_iload_n X 2 rfl dX5_copy_65 ?_
              refine v_iload_n X 3 rfl dX5_copy_66 ?_
              have hci := cp_ok hi31 hn31 (Int32.not_lt.mp h38)
              have hcj := cp_ok hj31 hn31 h46
              refine v_copy9 X (index := 226) (ws_of (i := 565) (by decide +kernel) (by decide +kernel)) ⟨ws_tbl (ws_of (i := 567) (by decide +kernel) (by decide +kernel)), ws_of (i := 567) (by decide +kernel) (by decide +kernel)⟩ (ws_of (i := 566) (by decide +kernel) (by decide +kernel)) (ws_of (i := 52) (by decide +kernel) (by decide +kernel)) (Nat.le_of_ble_eq_true rfl) (by decide +kernel) (nI_pos hi31) (nI_pos hj31) (nI_pos hn31) (by rw [nI_clamp hi31, nI_clamp hn31]; exact hci) (by rw [nI_clamp hj31, nI_clamp hn31]; exact hcj) dX5_copy_67 ?_
              refine v_eqI (I' := rowI I 9 0 (va_cpy (I 9 0) (I 9 0) i' j' n')) (by rw [nI_clamp hi31, nI_clamp hj31, nI_clamp hn31]) ?_
              refine v_iload_n X 3 rfl dX5_copy_70 ?_
              exact v_iret X Y dX5_copy_71 (⟨Or.inr ⟨h4, Or.inr ⟨Int32.not_lt.mpr h15, Or.inr ⟨i', j', n', rfl, rfl, rfl, hci, hcj, rfl, rfl⟩⟩⟩, rfl⟩)
            · refine v_aload_n X 0 rfl dX5_copy_49 ?_
              refine v_bipush X (v := (-6)) dX5_copy_50 (by decide) ?_
              refine v_callV X (c_X5_refused _ _ hE _ _ 6 (by decide) (by decide)) k_X5_58 dl_0 (cef_0 _ _ _ _) rfl ⟨rfl, rfl, Nat.le_of_ble_eq_true rfl, Nat.le_of_ble_eq_true rfl⟩ (As := [.int (-6)]) (rest := []) rfl rfl (Nat.le_of_ble_eq_true rfl) dX5_copy_52 (fun r52 I52 L52 hp52 => ?_)
              obtain ⟨rfl, e1, e2⟩ := hp52
              have e1 := e1.symm
              have e2 := e2.symm
              subst e1; subst e2
              refine v_st (st' := [.int (-6)]) rfl ?_
              exact v_iret X Y dX5_copy_55 (⟨Or.inr ⟨h4, Or.inr ⟨Int32.not_lt.mpr h15, Or.inl ⟨fun ⟨a, b, d, e1, e2, e3, q1, q2⟩ => by
                    have e2 := (nI_eq hj31 (by omega)).mp e2
                    have e3 := (nI_eq hn31 (by omega)).mp e3
                    exact cp_fail (j := 0) hj31 hn31 (Int32.not_le.mp h46) (by omega), rfl, rfl⟩⟩⟩, rfl⟩)
    · refine v_aload_n X 0 rfl dX5_copy_18 ?_
      refine v_bipush X (v := (-4)) dX5_copy_19 (by decide) ?_
      refine v_callV X (c_X5_refused _ _ hE _ _ 4 (by decide) (by decide)) k_X5_58 dl_0 (cef_0 _ _ _ _) rfl ⟨rfl, rfl, Nat.le_of_ble_eq_true rfl, Nat.le_of_ble_eq_true rfl⟩ (As := [.int (-4)]) (rest := []) rfl rfl (Nat.le_of_ble_eq_true rfl) dX5_copy_21 (fun r21 I21 L21 hp21 => ?_)
      obtain ⟨rfl, e1, e2⟩ := hp21
      have e1 := e1.symm
      have e2 := e2.symm
      subst e1; subst e2
      refine v_st (st' := [.int (-4)]) rfl ?_
      exact v_iret X Y dX5_copy_24 (⟨Or.inr ⟨h4, Or.inl ⟨Int32.not_le.mp h15, rfl, rfl⟩⟩, rfl⟩)
  · refine v_aload_n X 0 rfl dX5_copy_7 ?_
    refine v_bipush X (v := (-2)) dX5_copy_8 (by decide) ?_
    refine v_callV X (c_X5_refused _ _ hE _ _ 2 (by decide) (by decide)) k_X5_58 dl_0 (cef_0 _ _ _ _) rfl ⟨rfl, rfl, Nat.le_of_ble_eq_true rfl, Nat.le_of_ble_eq_true rfl⟩ (As := [.int (-2)]) (rest := []) rfl rfl (Nat.le_of_ble_eq_true rfl) dX5_copy_10 (fun r10 I10 L10 hp10 => ?_)
    obtain ⟨rfl, e1, e2⟩ := hp10
    have e1 := e1.symm
    have e2 := e2.symm
    subst e1; subst e2
    refine v_st (st' := [.int (-2)]) rfl ?_
    exact v_iret X Y dX5_copy_13 (⟨Or.inl ⟨h4, rfl, rfl⟩, rfl⟩)
theorem by_in : ∀ x : Int32, ¬ x < (-8 : Int32) → x ≤ (-2 : Int32) → ∃ w, 2 ≤ w ∧ w < 9 ∧ x = -nI w := fun x h1 h2 => by
  have a1 := Int32.le_iff_toInt_le.mp (Int32.not_lt.mp h1)
  have a2 := Int32.le_iff_toInt_le.mp h2
  have c1 : (-8 : Int32).toInt = -8 := by decide
  have c2 : (-2 : Int32).toInt = -2 := by decide
  rw [c1] at a1
  rw [c2] at a2
  refine ⟨(-x.toInt).toNat, by omega, by omega, ?_⟩
  have key : ∀ w, w < 9 → (-nI w).toInt = -(w : Int) := by decide +kernel
  apply Int32.toInt_inj.mp
  rw [key _ (by omega)]
  omega
set_option maxHeartbeats 4000000 in
set_option maxRecDepth 100000 in
theorem c_X5_status (l : Launch) (E : VE) (hE : EOk E) (I : TI) (L : TL) (b : Int32) : Ct l E yX5_status cX5_status 2 (some .int) rm_X5_status [.ref (eA E 0 0), .int b] I L (fun r I' L' => ((¬ (-8 ≤ b ∧ b ≤ -2) ∧ REF I I' r 7) ∨ (∃ w, 2 ≤ w ∧ w < 9 ∧ b = -nI w ∧ r = some (.int (I 11 0 w)) ∧ I' = I)) ∧ L' = L) := by
  refine ct_of (by decide +kernel) (Nat.le_of_ble_eq_true rfl) hE ?_
  intro a X Y hl hEE
  subst hl; subst hEE
  show V a 0 [(0, .ref (eA (vE a) 0 0)), (1, .int b)] [] I L
  refine v_iload_n X 1 rfl dX5_status_0 ?_
  refine v_bipush X (v := (-8)) dX5_status_1 (by decide) ?_
  refine v_icmp_lt X dX5_status_3 (tgt := 12) (by decide) (fun h3 => ?_) (fun h3 => ?_)
  · refine v_aload_n X 0 rfl dX5_status_12 ?_
    refine v_bipush X (v := (-7)) dX5_status_13 (by decide) ?_
    refine v_callV X (c_X5_refused _ _ hE _ _ 7 (by decide) (by decide)) k_X5_58 dl_0 (cef_0 _ _ _ _) rfl ⟨rfl, rfl, Nat.le_of_ble_eq_true rfl, Nat.le_of_ble_eq_true rfl⟩ (As := [.int (-7)]) (rest := []) rfl rfl (Nat.le_of_ble_eq_true rfl) dX5_status_15 (fun r15 I15 L15 hp15 => ?_)
    obtain ⟨rfl, e1, e2⟩ := hp15
    have e1 := e1.symm
    have e2 := e2.symm
    subst e1; subst e2
    refine v_st (st' := [.int (-7)]) rfl ?_
    exact v_iret X Y dX5_status_18 (⟨Or.inl ⟨fun q => absurd q.1 (Int32.not_le.mpr h3), rfl, rfl⟩, rfl⟩)
  · refine v_iload_n X 1 rfl dX5_status_6 ?_
    refine v_bipush X (v := (-2)) dX5_status_7 (by decide) ?_
    refine v_icmp_le X dX5_status_9 (tgt := 19) (by decide) (fun h9 => ?_) (fun h9 => ?_)
    · obtain ⟨w, hw2, hw9, rfl⟩ := by_in b h3 h9
      refine v_aload_n X 0 rfl dX5_status_19 ?_
      refine gf_X5_28 X dX5_status_20 ?_
      refine v_iload_n X 1 rfl dX5_status_23 ?_
      refine v_ineg X dX5_status_24 ?_
      refine v_eqi (y := (nI w)) (Int32.neg_neg) ?_
      refine v_iald_n X dl_11 (fun _ _ => rfl) (n := 9) (by omega) (by decide) dX5_status_25 ?_
      exact v_iret X Y dX5_status_26 (⟨Or.inr ⟨w, hw2, hw9, rfl, rfl, rfl⟩, rfl⟩)
    · refine v_aload_n X 0 rfl dX5_status_12 ?_
      refine v_bipush X (v := (-7)) dX5_status_13 (by decide) ?_
      refine v_callV X (c_X5_refused _ _ hE _ _ 7 (by decide) (by decide)) k_X5_58 dl_0 (cef_0 _ _ _ _) rfl ⟨rfl, rfl, Nat.le_of_ble_eq_true rfl, Nat.le_of_ble_eq_true rfl⟩ (As := [.int (-7)]) (rest := []) rfl rfl (Nat.le_of_ble_eq_true rfl) dX5_status_15 (fun r15 I15 L15 hp15 => ?_)
      obtain ⟨rfl, e1, e2⟩ := hp15
      have e1 := e1.symm
      have e2 := e2.symm
      subst e1; subst e2
      refine v_st (st' := [.int (-7)]) rfl ?_
      exact v_iret X Y dX5_status_18 (⟨Or.inl ⟨fun q => h9 q.2, rfl, rfl⟩, rfl⟩)
