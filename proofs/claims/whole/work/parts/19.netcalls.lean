/-! the class's nets -/
def CN (I : TI) (n : Nat) (ln sc : Nat → Nat) (kd pl wt : Nat → Nat → Nat) : Prop := I 0 0 3 = nI n ∧ n ≤ 4 ∧ ∀ w, w < n → webR I w (ln w) (sc w) (kd w) (pl w) (wt w) ∧ netOk (ln w) (sc w) (kd w) (pl w) (wt w)
theorem webR_fr {S : List (Nat × Nat)} {I I1 : TI} {w ln sc : Nat} {kd pl wt : Nat → Nat} (h : Fr S I I1) (h5 : (5, w) ∉ S) (h6 : (6, w) ∉ S) (h7 : (7, w) ∉ S) (h8 : (8, w) ∉ S) (g : webR I w ln sc kd pl wt) : webR I1 w ln sc kd pl wt := by
  unfold webR
  rw [h 5 w h5, h 6 w h6, h 7 w h7, h 8 w h8]
  exact g
theorem frs_lN {k p : Nat} {v : Int64} {g : Nat → Int64} {T a M B : Nat} (hv : v = lN a) (ha : a ≤ B) (hg : ∀ T', ∃ q, q ≤ M ∧ g T' = lN q) (hB : 1 ≤ B) : ∃ q, q ≤ M * (B + 1) ∧ frs k p v g T = lN q := by
  obtain ⟨q1, h1, e1⟩ := hg T
  obtain ⟨q2, h2, e2⟩ := hg (aft k p T)
  have m1 : a * q1 ≤ B * M := Nat.mul_le_mul ha h1
  have m2 : a * q2 ≤ B * M := Nat.mul_le_mul ha h2
  have m3 : M * (B + 1) = B * M + M := by rw [Nat.mul_add, Nat.mul_one, Nat.mul_comm]
  have m4 : M ≤ B * M := Nat.le_mul_of_pos_left M hB
  unfold frs
  split
  · exact ⟨a * q1, by omega, by rw [hv, e1, lN_mul]⟩
  · split
    · exact ⟨q1, by omega, e1⟩
    · exact ⟨q1 + a * q2, by omega, by rw [hv, e1, e2, lN_mul, lN_add]⟩
theorem wy_lN {sc : Nat} {kd pl : Nat → Nat} {wv : Nat → Int64} {to B : Nat} (hB : 1 ≤ B) (hv : ∀ s, s < sc → ∃ a, a ≤ B ∧ wv s = lN a) : ∀ m, m ≤ sc → ∀ T, ∃ q, q ≤ (B + 1) ^ m ∧ wy sc kd pl wv to m T = lN q
  | 0, _, T => by
    by_cases h : T = to
    · exact ⟨1, Nat.le_refl _, if_pos h⟩
    · exact ⟨0, Nat.zero_le _, if_neg h⟩
  | m + 1, hm, T => by
    obtain ⟨a, ha, e⟩ := hv (sc - (m + 1)) (by omega)
    obtain ⟨q, h1, h2⟩ := frs_lN (k := kd (sc - (m + 1))) (p := pl (sc - (m + 1))) (T := T) e ha (fun T' => wy_lN hB hv m (by omega) T') hB
    exact ⟨q, by rw [Nat.pow_succ]; exact h1, h2⟩
theorem wvl_lN {b sc ln : Nat} {kd pl wt : Nat → Nat} (h : netOk ln sc kd pl wt) (s : Nat) (hs : s < sc) : ∃ a, a ≤ 9 ∧ wvl b wt s = lN a := by
  unfold wvl
  split
  · exact ⟨1, by decide, rfl⟩
  · obtain ⟨-, -, -, -, h9⟩ := h.2.2.2 s hs
    exact ⟨wt s, h9, nI_l (by omega)⟩
theorem wy_b {b sc ln to : Nat} {kd pl wt : Nat → Nat} (h : netOk ln sc kd pl wt) (T : Nat) : ∃ q, q < 2 ^ 62 ∧ wy sc kd pl (wvl b wt) to sc T = lN q := by
  obtain ⟨q, h1, h2⟩ := wy_lN (B := 9) (to := to) (pl := pl) (kd := kd) (by decide) (fun s hs => wvl_lN h s hs) sc (Nat.le_refl _) T
  have h3 : (9 + 1) ^ sc ≤ 10 ^ 16 := Nat.pow_le_pow_right (by decide) h.2.2.1
  exact ⟨q, by have : 10 ^ 16 < 2 ^ 62 := by decide
               omega, h2⟩
theorem wy_0 {b sc ln to : Nat} {kd pl wt : Nat → Nat} (h : netOk ln sc kd pl wt) (T : Nat) : ¬ wy sc kd pl (wvl b wt) to sc T < 0 := by
  obtain ⟨q, h1, h2⟩ := wy_b (b := b) (to := to) h T
  rw [h2]
  intro z
  have := Int64.lt_iff_toInt_lt.mp z
  rw [pk_lT (by omega)] at this
  have e0 : (0 : Int64).toInt = 0 := by decide
  omega
theorem shr_neg {x : Int32} (h : x < 0) : x >>> (nI 20 &&& 31) < 0 := by
  have e := pk_shr x (nI 20 &&& 31) 20 (sh_amt 20 (by decide))
  have h2 := Int32.lt_iff_toInt_lt.mp h
  have e0 : (0 : Int32).toInt = 0 := by decide
  apply Int32.lt_iff_toInt_lt.mpr
  rw [e, e0, Int.shiftRight_eq_div_pow]
  omega
set_option maxHeartbeats 4000000 in
set_option maxRecDepth 100000 in
theorem c_X5_net (l : Launch) (E : VE) (hE : EOk E) (I : TI) (L : TL) (n : Nat) (hn : I 0 0 3 = nI n) (hn4 : n ≤ 4) (x : Int32) : Ct l E yX5_net cX5_net 3 (some .int) rm_X5_net [.ref (eA E 0 0), .int x] I L (fun r I' L' => ((¬ isD x ∧ REF I I' r 7) ∨ (isD x ∧ n = 4 ∧ REF I I' r 8) ∨ (isD x ∧ n < 4 ∧ r = some (.int (nI n)) ∧ I' = upI (upI (upI I 5 n 3 x) 5 n 4 (nI 0)) 0 0 3 (nI (n + 1)))) ∧ L' = L) := by
  refine ct_of (by decide +kernel) (Nat.le_of_ble_eq_true rfl) hE ?_
  intro a X Y hl hEE
  subst hl; subst hEE
  show V a 0 [(0, .ref (eA (vE a) 0 0)), (1, .int x)] [] I L
  refine v_iload_n X 1 rfl dX5_net_0 ?_
  refine v_callS X (c_X5_isSide _ _ hE _ _ x) k_X5_54 ⟨rfl, rfl, Nat.le_of_ble_eq_true rfl, Nat.le_of_ble_eq_true rfl⟩ (As := [.int x]) (rest := []) rfl rfl (Nat.le_of_ble_eq_true rfl) dX5_net_1 (fun r1 I1 L1 hp1 => ?_)
  obtain ⟨rfl, e1, e2⟩ := hp1
  have e1 := e1.symm
  have e2 := e2.symm
  subst e1; subst e2
  refine v_st (st' := [.int (bI (nI 1 ≤ x ∧ x ≤ nI 5))]) rfl ?_
  refine v_ifb_ne X dX5_net_4 (tgt := 14) (by decide) (fun h4 => ?_) (fun h4 => ?_)
  · refine v_aload_n X 0 rfl dX5_net_14 ?_
    refine gf_X5_158 X dX5_net_15 ?_
    refine v_eqi (y := (nI n)) (hn) ?_
    refine v_iconst X (v := (nI 4)) dX5_net_18 (by decide) ?_
    refine v_icmp_lt_n X (by omega) (by omega) dX5_net_19 (tgt := 29) (by decide) (fun h19 => ?_) (fun h19 => ?_)
    · refine v_aload_n X 0 rfl dX5_net_29 ?_
      refine gf_X5_17 X dX5_net_30 ?_
      refine v_aload_n X 0 rfl dX5_net_33 ?_
      refine gf_X5_158 X dX5_net_34 ?_
      refine v_eqi (y := (nI n)) (hn) ?_
      refine v_aaldW_n X (by omega) dX5_net_37 ?_
      refine v_astore_n X [1, 2, 0] (lv' := [(0, .ref (eA (vE a) 0 0)), (1, .int x), (2, .ref (eA (vE a) 5 n))]) (by decide) rfl dX5_net_38 ?_
      refine v_aload_n X 2 rfl dX5_net_39 ?_
      refine v_ifnonnull X (tgt := 50) dX5_net_40 (by decide) ?_
      refine v_aload_n X 2 rfl dX5_net_50 ?_
      refine v_iload_n X 1 rfl dX5_net_51 ?_
      refine v_callV X (c_X3_begin _ _ hE _ _ n h19 x) k_X5_161 (dl_5 h19) (cef_5 _ _ _ _) rfl ⟨rfl, rfl, Nat.le_of_ble_eq_true rfl, Nat.le_of_ble_eq_true rfl⟩ (As := [.int x]) (rest := []) rfl rfl (Nat.le_of_ble_eq_true rfl) dX5_net_52 (fun r52 I52 L52 hp52 => ?_)
      obtain ⟨rfl, e1, e2⟩ := hp52
      have e1 := e1.symm
      have e2 := e2.symm
      subst e1; subst e2
      refine v_st (st' := []) rfl ?_
      refine v_aload_n X 0 rfl dX5_net_55 ?_
      refine v_dup X dX5_net_56 rfl ?_
      refine gf_X5_158 X dX5_net_57 ?_
      refine v_eqi (y := (nI n)) ((upI_k (by decide)).trans ((upI_k (by decide)).trans (hn))) ?_
      refine v_iconst X (v := (nI 1)) dX5_net_60 (by decide) ?_
      refine v_iadd X dX5_net_61 ?_
      refine v_eqi (y := (nI (n + 1))) (nI_add _ _) ?_
      refine pf_X5_158 X dX5_net_62 ?_
      refine v_aload_n X 0 rfl dX5_net_65 ?_
      refine gf_X5_158 X dX5_net_66 ?_
      refine v_eqi (y := (nI (n + 1))) (upI_eq) ?_
      refine v_iconst X (v := (nI 1)) dX5_net_69 (by decide) ?_
      refine v_isub X dX5_net_70 ?_
      refine v_eqi (y := (nI ((n + 1) - 1))) (pk_sub (by omega)) ?_
      exact v_iret X Y dX5_net_71 (⟨Or.inr (Or.inr ⟨isD_iff.mpr h4, h19, rfl, rfl⟩), rfl⟩)
    · refine v_aload_n X 0 rfl dX5_net_22 ?_
      refine v_bipush X (v := (-8)) dX5_net_23 (by decide) ?_
      refine v_callV X (c_X5_refused _ _ hE _ _ 8 (by decide) (by decide)) k_X5_58 dl_0 (cef_0 _ _ _ _) rfl ⟨rfl, rfl, Nat.le_of_ble_eq_true rfl, Nat.le_of_ble_eq_true rfl⟩ (As := [.int (-8)]) (rest := []) rfl rfl (Nat.le_of_ble_eq_true rfl) dX5_net_25 (fun r25 I25 L25 hp25 => ?_)
      obtain ⟨rfl, e1, e2⟩ := hp25
      have e1 := e1.symm
      have e2 := e2.symm
      subst e1; subst e2
      refine v_st (st' := [.int (-8)]) rfl ?_
      exact v_iret X Y dX5_net_28 (⟨Or.inr (Or.inl ⟨isD_iff.mpr h4, by omega, rfl, rfl⟩), rfl⟩)
  · refine v_aload_n X 0 rfl dX5_net_7 ?_
    refine v_bipush X (v := (-7)) dX5_net_8 (by decide) ?_
    refine v_callV X (c_X5_refused _ _ hE _ _ 7 (by decide) (by decide)) k_X5_58 dl_0 (cef_0 _ _ _ _) rfl ⟨rfl, rfl, Nat.le_of_ble_eq_true rfl, Nat.le_of_ble_eq_true rfl⟩ (As := [.int (-7)]) (rest := []) rfl rfl (Nat.le_of_ble_eq_true rfl) dX5_net_10 (fun r10 I10 L10 hp10 => ?_)
    obtain ⟨rfl, e1, e2⟩ := hp10
    have e1 := e1.symm
    have e2 := e2.symm
    subst e1; subst e2
    refine v_st (st' := [.int (-7)]) rfl ?_
    exact v_iret X Y dX5_net_13 (⟨Or.inl ⟨fun q => h4 (isD_iff.mp q), rfl, rfl⟩, rfl⟩)
set_option maxHeartbeats 4000000 in
set_option maxRecDepth 100000 in
theorem c_X5_step (l : Launch) (E : VE) (hE : EOk E) (I : TI) (L : TL) (n : Nat) (ln sc : Nat → Nat) (kd pl wt : Nat → Nat → Nat) (hN : CN I n ln sc kd pl wt) (x k i v : Int32) : Ct l E yX5_step cX5_step 6 (some .int) rm_X5_step [.ref (eA E 0 0), .int x, .int k, .int i, .int v] I L (fun r I' L' => (¬ isT n x ∧ REF I I' r 3 ∧ L' = L) ∨ (∃ w, w < n ∧ x = nI w ∧ ((¬ (tkP (ln w) k i ∧ nI 1 ≤ v ∧ v ≤ nI 9) ∧ REF I I' r 7 ∧ L' = L) ∨ ((tkP (ln w) k i ∧ nI 1 ≤ v ∧ v ≤ nI 9) ∧ ((sc w = 16 ∧ REF I I' r 8 ∧ L' = L) ∨ (sc w < 16 ∧ r = some (.int (nI (sc w + 1))) ∧ I' = upI (upI (upI (upI I 6 w (sc w) k) 7 w (sc w) i) 8 w (sc w) v) 5 w 4 (nI (sc w + 1)) ∧ L' = L)))))) := by
  refine ct_of (by decide +kernel) (Nat.le_of_ble_eq_true rfl) hE ?_
  intro a X Y hl hEE
  subst hl; subst hEE
  show V a 0 [(0, .ref (eA (vE a) 0 0)), (1, .int x), (2, .int k), (3, .int i), (4, .int v)] [] I L
  refine v_aload_n X 0 rfl dX5_step_0 ?_
  refine v_iload_n X 1 rfl dX5_step_1 ?_
  refine v_callV X (c_X5_webOf _ _ hE _ _ n hN.1 hN.2.1 x) k_X5_164 dl_0 (cef_0 _ _ _ _) rfl ⟨rfl, rfl, Nat.le_of_ble_eq_true rfl, Nat.le_of_ble_eq_true rfl⟩ (As := [.int x]) (rest := []) rfl rfl (Nat.le_of_ble_eq_true rfl) dX5_step_2 (fun r2 I2 L2 hp2 => ?_)
  obtain ⟨ho2, e1, e2⟩ := hp2
  have e1 := e1.symm
  have e2 := e2.symm
  subst e1; subst e2
  rcases ho2 with ⟨w, htw, rfl, rfl⟩ | ⟨hno, rfl⟩
  · have hn4 := hN.2.1
    obtain ⟨hW, hn⟩ := hN.2.2 w htw
    obtain ⟨hl1, hl5, hsc16, hst⟩ := id hn
    have hw4 : w < 4 := by omega
    refine v_st (st' := [.ref (eA (vE a) 5 w)]) rfl ?_
    refine v_astore X [1, 2, 3, 4, 5, 0] (lv' := [(0, .ref (eA (vE a) 0 0)), (1, .int (nI w)), (2, .int k), (3, .int i), (4, .int v), (5, .ref (eA (vE a) 5 w))]) (by decide) rfl dX5_step_5 ?_
    refine v_aload X 5 rfl dX5_step_7 ?_
    refine v_ifnonnull X (tgt := 19) dX5_step_9 (by decide) ?_
    refine v_aload X 5 rfl dX5_step_19 ?_
    refine v_iload_n X 2 rfl dX5_step_21 ?_
    refine v_iload_n X 3 rfl dX5_step_22 ?_
    refine v_callV X (c_X3_takes _ _ hE _ _ w hw4 (ln w) (hW.1) hl1 hl5 k i) k_X5_168 (dl_5 hw4) (cef_5 _ _ _ _) rfl ⟨rfl, rfl, Nat.le_of_ble_eq_true rfl, Nat.le_of_ble_eq_true rfl⟩ (As := [.int k, .int i]) (rest := []) rfl rfl (Nat.le_of_ble_eq_true rfl) dX5_step_23 (fun r23 I23 L23 hp23 => ?_)
    obtain ⟨rfl, e1, e2⟩ := hp23
    have e1 := e1.symm
    have e2 := e2.symm
    subst e1; subst e2
    refine v_st (st' := [.int (bI (tkP (ln w) k i))]) rfl ?_
    refine v_ifb_eq X dX5_step_26 (tgt := 42) (by decide) (fun h26 => ?_) (fun h26 => ?_)
    · refine v_aload_n X 0 rfl dX5_step_42 ?_
      refine v_bipush X (v := (-7)) dX5_step_43 (by decide) ?_
      refine v_callV X (c_X5_refused _ _ hE _ _ 7 (by decide) (by decide)) k_X5_58 dl_0 (cef_0 _ _ _ _) rfl ⟨rfl, rfl, Nat.le_of_ble_eq_true rfl, Nat.le_of_ble_eq_true rfl⟩ (As := [.int (-7)]) (rest := []) rfl rfl (Nat.le_of_ble_eq_true rfl) dX5_step_45 (fun r45 I45 L45 hp45 => ?_)
      obtain ⟨rfl, e1, e2⟩ := hp45
      have e1 := e1.symm
      have e2 := e2.symm
      subst e1; subst e2
      refine v_st (st' := [.int (-7)]) rfl ?_
      exact v_iret X Y dX5_step_48 (Or.inr ⟨w, htw, rfl, Or.inl ⟨fun q => h26 q.1, ⟨rfl, rfl⟩, rfl⟩⟩)
    · refine v_iload X 4 rfl dX5_step_29 ?_
      refine v_iconst X (v := (nI 1)) dX5_step_31 (by decide) ?_
      refine v_icmp_lt X dX5_step_32 (tgt := 42) (by decide) (fun h32 => ?_) (fun h32 => ?_)
      · refine v_aload_n X 0 rfl dX5_step_42 ?_
        refine v_bipush X (v := (-7)) dX5_step_43 (by decide) ?_
        refine v_callV X (c_X5_refused _ _ hE _ _ 7 (by decide) (by decide)) k_X5_58 dl_0 (cef_0 _ _ _ _) rfl ⟨rfl, rfl, Nat.le_of_ble_eq_true rfl, Nat.le_of_ble_eq_true rfl⟩ (As := [.int (-7)]) (rest := []) rfl rfl (Nat.le_of_ble_eq_true rfl) dX5_step_45 (fun r45 I45 L45 hp45 => ?_)
        obtain ⟨rfl, e1, e2⟩ := hp45
        have e1 := e1.symm
        have e2 := e2.symm
        subst e1; subst e2
        refine v_st (st' := [.int (-7)]) rfl ?_
        exact v_iret X Y dX5_step_48 (Or.inr ⟨w, htw, rfl, Or.inl ⟨fun q => absurd q.2.1 (Int32.not_le.mpr h32), ⟨rfl, rfl⟩, rfl⟩⟩)
      · refine v_iload X 4 rfl dX5_step_35 ?_
        refine v_bipush X (v := (nI 9)) dX5_step_37 (by decide) ?_
        refine v_icmp_le X dX5_step_39 (tgt := 49) (by decide) (fun h39 => ?_) (fun h39 => ?_)
        · refine v_aload X 5 rfl dX5_step_49 ?_
          refine gf_X5_171 X hw4 dX5_step_51 ?_
          refine v_eqi (y := (nI (sc w))) (hW.2.1) ?_
          refine v_bipush X (v := (nI 16)) dX5_step_54 (by decide) ?_
          refine v_icmp_lt_n X (by omega) (by omega) dX5_step_56 (tgt := 66) (by decide) (fun h56 => ?_) (fun h56 => ?_)
          · refine v_aload X 5 rfl dX5_step_66 ?_
            refine v_iload_n X 2 rfl dX5_step_68 ?_
            refine v_iload_n X 3 rfl dX5_step_69 ?_
            refine v_iload X 4 rfl dX5_step_70 ?_
            refine v_callV X (c_X3_add _ _ hE _ _ w hw4 (sc w) (hW.2.1) h56 k i v) k_X5_174 (dl_5 hw4) (cef_5 _ _ _ _) rfl ⟨rfl, rfl, Nat.le_of_ble_eq_true rfl, Nat.le_of_ble_eq_true rfl⟩ (As := [.int k, .int i, .int v]) (rest := []) rfl rfl (Nat.le_of_ble_eq_true rfl) dX5_step_72 (fun r72 I72 L72 hp72 => ?_)
            obtain ⟨rfl, e1, e2⟩ := hp72
            have e1 := e1.symm
            have e2 := e2.symm
            subst e1; subst e2
            refine v_st (st' := []) rfl ?_
            refine v_aload X 5 rfl dX5_step_75 ?_
            refine gf_X5_171 X hw4 dX5_step_77 ?_
            refine v_eqi (y := (nI (sc w + 1))) (upI_eq) ?_
            exact v_iret X Y dX5_step_80 (Or.inr ⟨w, htw, rfl, Or.inr ⟨⟨h26, Int32.not_lt.mp h32, h39⟩, Or.inr ⟨h56, rfl, rfl, rfl⟩⟩⟩)
          · refine v_aload_n X 0 rfl dX5_step_59 ?_
            refine v_bipush X (v := (-8)) dX5_step_60 (by decide) ?_
            refine v_callV X (c_X5_refused _ _ hE _ _ 8 (by decide) (by decide)) k_X5_58 dl_0 (cef_0 _ _ _ _) rfl ⟨rfl, rfl, Nat.le_of_ble_eq_true rfl, Nat.le_of_ble_eq_true rfl⟩ (As := [.int (-8)]) (rest := []) rfl rfl (Nat.le_of_ble_eq_true rfl) dX5_step_62 (fun r62 I62 L62 hp62 => ?_)
            obtain ⟨rfl, e1, e2⟩ := hp62
            have e1 := e1.symm
            have e2 := e2.symm
            subst e1; subst e2
            refine v_st (st' := [.int (-8)]) rfl ?_
            exact v_iret X Y dX5_step_65 (Or.inr ⟨w, htw, rfl, Or.inr ⟨⟨h26, Int32.not_lt.mp h32, h39⟩, Or.inl ⟨by omega, ⟨rfl, rfl⟩, rfl⟩⟩⟩)
        · refine v_aload_n X 0 rfl dX5_step_42 ?_
          refine v_bipush X (v := (-7)) dX5_step_43 (by decide) ?_
          refine v_callV X (c_X5_refused _ _ hE _ _ 7 (by decide) (by decide)) k_X5_58 dl_0 (cef_0 _ _ _ _) rfl ⟨rfl, rfl, Nat.le_of_ble_eq_true rfl, Nat.le_of_ble_eq_true rfl⟩ (As := [.int (-7)]) (rest := []) rfl rfl (Nat.le_of_ble_eq_true rfl) dX5_step_45 (fun r45 I45 L45 hp45 => ?_)
          obtain ⟨rfl, e1, e2⟩ := hp45
          have e1 := e1.symm
          have e2 := e2.symm
          subst e1; subst e2
          refine v_st (st' := [.int (-7)]) rfl ?_
          exact v_iret X Y dX5_step_48 (Or.inr ⟨w, htw, rfl, Or.inl ⟨fun q => h39 q.2.2, ⟨rfl, rfl⟩, rfl⟩⟩)
  · refine v_st (st' := [.null]) rfl ?_
    refine v_astoreN X [1, 2, 3, 4, 5, 0] (lv' := [(0, .ref (eA (vE a) 0 0)), (1, .int x), (2, .int k), (3, .int i), (4, .int v), (5, .null)]) (by decide) rfl dX5_step_5 ?_
    refine v_aloadN X 5 rfl dX5_step_7 ?_
    refine v_ifnonnullN X dX5_step_9 ?_
    refine v_aload_n X 0 rfl dX5_step_12 ?_
    refine v_bipush X (v := (-3)) dX5_step_13 (by decide) ?_
    refine v_callV X (c_X5_refused _ _ hE _ _ 3 (by decide) (by decide)) k_X5_58 dl_0 (cef_0 _ _ _ _) rfl ⟨rfl, rfl, Nat.le_of_ble_eq_true rfl, Nat.le_of_ble_eq_true rfl⟩ (As := [.int (-3)]) (rest := []) rfl rfl (Nat.le_of_ble_eq_true rfl) dX5_step_15 (fun r15 I15 L15 hp15 => ?_)
    obtain ⟨rfl, e1, e2⟩ := hp15
    have e1 := e1.symm
    have e2 := e2.symm
    subst e1; subst e2
    refine v_st (st' := [.int (-3)]) rfl ?_
    exact v_iret X Y dX5_step_18 (Or.inl ⟨hno, ⟨rfl, rfl⟩, rfl⟩)
set_option maxHeartbeats 4000000 in
set_option maxRecDepth 100000 in
theorem c_X5_back (l : Launch) (E : VE) (hE : EOk E) (I : TI) (L : TL) (n : Nat) (ln sc : Nat → Nat) (kd pl wt : Nat → Nat → Nat) (hN : CN I n ln sc kd pl wt) (x : Int32) : Ct l E yX5_back cX5_back 3 (some .int) rm_X5_back [.ref (eA E 0 0), .int x] I L (fun r I' L' => (¬ isT n x ∧ REF I I' r 3 ∧ L' = L) ∨ (∃ w, w < n ∧ x = nI w ∧ ((sc w = 0 ∧ REF I I' r 2 ∧ L' = L) ∨ (0 < sc w ∧ r = some (.int (nI (sc w - 1))) ∧ I' = upI I 5 w 4 (nI (sc w - 1)) ∧ L' = L)))) := by
  refine ct_of (by decide +kernel) (Nat.le_of_ble_eq_true rfl) hE ?_
  intro a X Y hl hEE
  subst hl; subst hEE
  show V a 0 [(0, .ref (eA (vE a) 0 0)), (1, .int x)] [] I L
  refine v_aload_n X 0 rfl dX5_back_0 ?_
  refine v_iload_n X 1 rfl dX5_back_1 ?_
  refine v_callV X (c_X5_webOf _ _ hE _ _ n hN.1 hN.2.1 x) k_X5_164 dl_0 (cef_0 _ _ _ _) rfl ⟨rfl, rfl, Nat.le_of_ble_eq_true rfl, Nat.le_of_ble_eq_true rfl⟩ (As := [.int x]) (rest := []) rfl rfl (Nat.le_of_ble_eq_true rfl) dX5_back_2 (fun r2 I2 L2 hp2 => ?_)
  obtain ⟨ho2, e1, e2⟩ := hp2
  have e1 := e1.symm
  have e2 := e2.symm
  subst e1; subst e2
  rcases ho2 with ⟨w, htw, rfl, rfl⟩ | ⟨hno, rfl⟩
  · have hn4 := hN.2.1
    obtain ⟨hW, hn⟩ := hN.2.2 w htw
    obtain ⟨hl1, hl5, hsc16, hst⟩ := id hn
    have hw4 : w < 4 := by omega
    refine v_st (st' := [.ref (eA (vE a) 5 w)]) rfl ?_
    refine v_astore_n X [1, 2, 0] (lv' := [(0, .ref (eA (vE a) 0 0)), (1, .int (nI w)), (2, .ref (eA (vE a) 5 w))]) (by decide) rfl dX5_back_5 ?_
    refine v_aload_n X 2 rfl dX5_back_6 ?_
    refine v_ifnonnull X (tgt := 17) dX5_back_7 (by decide) ?_
    refine v_aload_n X 2 rfl dX5_back_17 ?_
    refine gf_X5_171 X hw4 dX5_back_18 ?_
    refine v_eqi (y := (nI (sc w))) (hW.2.1) ?_
    refine v_if_ne_n X (by omega) dX5_back_21 (tgt := 31) (by decide) (fun h21 => ?_) (fun h21 => ?_)
    · refine v_aload_n X 2 rfl dX5_back_31 ?_
      refine v_dup X dX5_back_32 rfl ?_
      refine gf_X5_171 X hw4 dX5_back_33 ?_
      refine v_eqi (y := (nI (sc w))) (hW.2.1) ?_
      refine v_iconst X (v := (nI 1)) dX5_back_36 (by decide) ?_
      refine v_isub X dX5_back_37 ?_
      refine v_eqi (y := (nI ((sc w) - 1))) (pk_sub (by omega)) ?_
      refine pf_X5_171 X hw4 dX5_back_38 ?_
      refine v_aload_n X 2 rfl dX5_back_41 ?_
      refine gf_X5_171 X hw4 dX5_back_42 ?_
      refine v_eqi (y := (nI ((sc w) - 1))) (upI_eq) ?_
      exact v_iret X Y dX5_back_45 (Or.inr ⟨w, htw, rfl, Or.inr ⟨h21, rfl, rfl, rfl⟩⟩)
    · refine v_aload_n X 0 rfl dX5_back_24 ?_
      refine v_bipush X (v := (-2)) dX5_back_25 (by decide) ?_
      refine v_callV X (c_X5_refused _ _ hE _ _ 2 (by decide) (by decide)) k_X5_58 dl_0 (cef_0 _ _ _ _) rfl ⟨rfl, rfl, Nat.le_of_ble_eq_true rfl, Nat.le_of_ble_eq_true rfl⟩ (As := [.int (-2)]) (rest := []) rfl rfl (Nat.le_of_ble_eq_true rfl) dX5_back_27 (fun r27 I27 L27 hp27 => ?_)
      obtain ⟨rfl, e1, e2⟩ := hp27
      have e1 := e1.symm
      have e2 := e2.symm
      subst e1; subst e2
      refine v_st (st' := [.int (-2)]) rfl ?_
      exact v_iret X Y dX5_back_30 (Or.inr ⟨w, htw, rfl, Or.inl ⟨h21, ⟨rfl, rfl⟩, rfl⟩⟩)
  · refine v_st (st' := [.null]) rfl ?_
    refine v_astore_nN X [1, 2, 0] (lv' := [(0, .ref (eA (vE a) 0 0)), (1, .int x), (2, .null)]) (by decide) rfl dX5_back_5 ?_
    refine v_aload_nN X 2 rfl dX5_back_6 ?_
    refine v_ifnonnullN X dX5_back_7 ?_
    refine v_aload_n X 0 rfl dX5_back_10 ?_
    refine v_bipush X (v := (-3)) dX5_back_11 (by decide) ?_
    refine v_callV X (c_X5_refused _ _ hE _ _ 3 (by decide) (by decide)) k_X5_58 dl_0 (cef_0 _ _ _ _) rfl ⟨rfl, rfl, Nat.le_of_ble_eq_true rfl, Nat.le_of_ble_eq_true rfl⟩ (As := [.int (-3)]) (rest := []) rfl rfl (Nat.le_of_ble_eq_true rfl) dX5_back_13 (fun r13 I13 L13 hp13 => ?_)
    obtain ⟨rfl, e1, e2⟩ := hp13
    have e1 := e1.symm
    have e2 := e2.symm
    subst e1; subst e2
    refine v_st (st' := [.int (-3)]) rfl ?_
    exact v_iret X Y dX5_back_16 (Or.inl ⟨hno, ⟨rfl, rfl⟩, rfl⟩)
set_option maxHeartbeats 4000000 in
set_option maxRecDepth 100000 in
theorem c_X5_unnet (l : Launch) (E : VE) (hE : EOk E) (I : TI) (L : TL) (n : Nat) (hn : I 0 0 3 = nI n) (hn4 : n ≤ 4) : Ct l E yX5_unnet cX5_unnet 1 (some .int) rm_X5_unnet [.ref (eA E 0 0)] I L (fun r I' L' => ((n = 0 ∧ REF I I' r 2) ∨ (0 < n ∧ r = some (.int (nI (n - 1))) ∧ I' = upI I 0 0 3 (nI (n - 1)))) ∧ L' = L) := by
  refine ct_of (by decide +kernel) (Nat.le_of_ble_eq_true rfl) hE ?_
  intro a X Y hl hEE
  subst hl; subst hEE
  show V a 0 [(0, .ref (eA (vE a) 0 0))] [] I L
  refine v_aload_n X 0 rfl dX5_unnet_0 ?_
  refine gf_X5_158 X dX5_unnet_1 ?_
  refine v_eqi (y := (nI n)) (hn) ?_
  refine v_if_ne_n X (by omega) dX5_unnet_4 (tgt := 14) (by decide) (fun h4 => ?_) (fun h4 => ?_)
  · refine v_aload_n X 0 rfl dX5_unnet_14 ?_
    refine v_dup X dX5_unnet_15 rfl ?_
    refine gf_X5_158 X dX5_unnet_16 ?_
    refine v_eqi (y := (nI n)) (hn) ?_
    refine v_iconst X (v := (nI 1)) dX5_unnet_19 (by decide) ?_
    refine v_isub X dX5_unnet_20 ?_
    refine v_eqi (y := (nI (n - 1))) (pk_sub (by omega)) ?_
    refine pf_X5_158 X dX5_unnet_21 ?_
    refine v_aload_n X 0 rfl dX5_unnet_24 ?_
    refine gf_X5_158 X dX5_unnet_25 ?_
    refine v_eqi (y := (nI (n - 1))) (upI_eq) ?_
    exact v_iret X Y dX5_unnet_28 (⟨Or.inr ⟨h4, rfl, rfl⟩, rfl⟩)
  · refine v_aload_n X 0 rfl dX5_unnet_7 ?_
    refine v_bipush X (v := (-2)) dX5_unnet_8 (by decide) ?_
    refine v_callV X (c_X5_refused _ _ hE _ _ 2 (by decide) (by decide)) k_X5_58 dl_0 (cef_0 _ _ _ _) rfl ⟨rfl, rfl, Nat.le_of_ble_eq_true rfl, Nat.le_of_ble_eq_true rfl⟩ (As := [.int (-2)]) (rest := []) rfl rfl (Nat.le_of_ble_eq_true rfl) dX5_unnet_10 (fun r10 I10 L10 hp10 => ?_)
    obtain ⟨rfl, e1, e2⟩ := hp10
    have e1 := e1.symm
    have e2 := e2.symm
    subst e1; subst e2
    refine v_st (st' := [.int (-2)]) rfl ?_
    exact v_iret X Y dX5_unnet_13 (⟨Or.inl ⟨h4, rfl, rfl⟩, rfl⟩)
theorem inS_noN {c : Nat} {ro : Nat → Nat} {t : Nat} {R C : Int32} (hr : ro t ≤ 5) (hc4 : c ≤ 4) (ht : t < c) (h : ¬ (0 < R ∧ R < nI (2 ^ ro t)) ∨ ¬ (0 < C ∧ C < nI (2 ^ ro t))) : ¬ inS c ro ro (nI t) R C := inS_no hr hr (by omega) ht h
set_option maxHeartbeats 4000000 in
set_option maxRecDepth 100000 in
theorem c_X5_leading (l : Launch) (E : VE) (hE : EOk E) (I : TI) (L : TL) (n : Nat) (ln sc : Nat → Nat) (kd pl wt : Nat → Nat → Nat) (hN : CN I n ln sc kd pl wt) (x f t : Int32) (b : Nat) (hb : b < 2) : Ct l E yX5_leading cX5_leading 6 (some .long) rm_X5_leading [.ref (eA E 0 0), .int x, .int f, .int t, .int (nI b)] I L (fun r I' L' => (¬ inS n ln ln x f t ∧ r = some (.long (-nI 3).toInt64) ∧ I' = rfI I 3 ∧ L' = L) ∨ (∃ w f' t', w < n ∧ x = nI w ∧ 1 ≤ f' ∧ f' < 2 ^ ln w ∧ 1 ≤ t' ∧ t' < 2 ^ ln w ∧ f = nI f' ∧ t = nI t' ∧ ((¬ pc5 f' = pc5 t' ∧ r = some (.long (-nI 7).toInt64) ∧ I' = rfI I 7 ∧ L' = L) ∨ (pc5 f' = pc5 t' ∧ r = some (.long (wy (sc w) (kd w) (pl w) (wvl b (wt w)) t' (sc w) f')) ∧ I' = I ∧ FL [(16, 0)] L L' ∧ ∀ s, s ≤ sc w → ∀ T', T' < 32 → L' 16 0 (s * 32 + T') = wy (sc w) (kd w) (pl w) (wvl b (wt w)) t' (sc w - s) T')))) := by
  refine ct_of (by decide +kernel) (Nat.le_of_ble_eq_true rfl) hE ?_
  intro a X Y hl hEE
  subst hl; subst hEE
  show V a 0 [(0, .ref (eA (vE a) 0 0)), (1, .int x), (2, .int f), (3, .int t), (4, .int (nI b))] [] I L
  refine v_aload_n X 0 rfl dX5_leading_0 ?_
  refine v_iload_n X 1 rfl dX5_leading_1 ?_
  refine v_callV X (c_X5_webOf _ _ hE _ _ n hN.1 hN.2.1 x) k_X5_164 dl_0 (cef_0 _ _ _ _) rfl ⟨rfl, rfl, Nat.le_of_ble_eq_true rfl, Nat.le_of_ble_eq_true rfl⟩ (As := [.int x]) (rest := []) rfl rfl (Nat.le_of_ble_eq_true rfl) dX5_leading_2 (fun r2 I2 L2 hp2 => ?_)
  obtain ⟨ho2, e1, e2⟩ := hp2
  have e1 := e1.symm
  have e2 := e2.symm
  subst e1; subst e2
  rcases ho2 with ⟨w, htw, rfl, rfl⟩ | ⟨hno, rfl⟩
  · have hn4 := hN.2.1
    obtain ⟨hW, hn⟩ := hN.2.2 w htw
    obtain ⟨hl1, hl5, hsc16, hst⟩ := id hn
    have hw4 : w < 4 := by omega
    refine v_st (st' := [.ref (eA (vE a) 5 w)]) rfl ?_
    refine v_astore X [1, 2, 3, 4, 5, 0] (lv' := [(0, .ref (eA (vE a) 0 0)), (1, .int (nI w)), (2, .int f), (3, .int t), (4, .int (nI b)), (5, .ref (eA (vE a) 5 w))]) (by decide) rfl dX5_leading_5 ?_
    refine v_aload X 5 rfl dX5_leading_7 ?_
    refine v_ifnull X dX5_leading_9 ?_
    refine v_iload_n X 2 rfl dX5_leading_12 ?_
    refine v_aload X 5 rfl dX5_leading_13 ?_
    refine gf_X5_177 X hw4 dX5_leading_15 ?_
    refine v_eqi (y := (nI (ln w))) (hW.1) ?_
    refine v_callS X (c_X5_areSome _ _ hE _ _ f (ln w) (by omega)) k_X5_120 ⟨rfl, rfl, Nat.le_of_ble_eq_true rfl, Nat.le_of_ble_eq_true rfl⟩ (As := [.int f, .int (nI (ln w))]) (rest := []) rfl rfl (Nat.le_of_ble_eq_true rfl) dX5_leading_18 (fun r18 I18 L18 hp18 => ?_)
    obtain ⟨rfl, e1, e2⟩ := hp18
    have e1 := e1.symm
    have e2 := e2.symm
    subst e1; subst e2
    refine v_st (st' := [.int (bI (0 < f ∧ f < nI (2 ^ (ln w))))]) rfl ?_
    refine v_ifb_eq X dX5_leading_21 (tgt := 36) (by decide) (fun h21 => ?_) (fun h21 => ?_)
    · refine v_aload_n X 0 rfl dX5_leading_36 ?_
      refine v_bipush X (v := (-3)) dX5_leading_37 (by decide) ?_
      refine v_callV X (c_X5_refused _ _ hE _ _ 3 (by decide) (by decide)) k_X5_58 dl_0 (cef_0 _ _ _ _) rfl ⟨rfl, rfl, Nat.le_of_ble_eq_true rfl, Nat.le_of_ble_eq_true rfl⟩ (As := [.int (-3)]) (rest := []) rfl rfl (Nat.le_of_ble_eq_true rfl) dX5_leading_39 (fun r39 I39 L39 hp39 => ?_)
      obtain ⟨rfl, e1, e2⟩ := hp39
      have e1 := e1.symm
      have e2 := e2.symm
      subst e1; subst e2
      refine v_st (st' := [.int (-3)]) rfl ?_
      refine v_i2l X dX5_leading_42 rfl ?_
      exact v_lret X Y dX5_leading_43 (Or.inl ⟨inS_noN hl5 hn4 htw (Or.inl h21), rfl, rfl, rfl⟩)
    · refine v_iload_n X 3 rfl dX5_leading_24 ?_
      refine v_aload X 5 rfl dX5_leading_25 ?_
      refine gf_X5_177 X hw4 dX5_leading_27 ?_
      refine v_eqi (y := (nI (ln w))) (hW.1) ?_
      refine v_callS X (c_X5_areSome _ _ hE _ _ t (ln w) (by omega)) k_X5_120 ⟨rfl, rfl, Nat.le_of_ble_eq_true rfl, Nat.le_of_ble_eq_true rfl⟩ (As := [.int t, .int (nI (ln w))]) (rest := []) rfl rfl (Nat.le_of_ble_eq_true rfl) dX5_leading_30 (fun r30 I30 L30 hp30 => ?_)
      obtain ⟨rfl, e1, e2⟩ := hp30
      have e1 := e1.symm
      have e2 := e2.symm
      subst e1; subst e2
      refine v_st (st' := [.int (bI (0 < t ∧ t < nI (2 ^ (ln w))))]) rfl ?_
      refine v_ifb_ne X dX5_leading_33 (tgt := 44) (by decide) (fun h33 => ?_) (fun h33 => ?_)
      · obtain ⟨f', hR1, hR2, rfl⟩ := (isS_iff hl5).mpr h21
        obtain ⟨t', hC1, hC2, rfl⟩ := (isS_iff hl5).mpr h33
        have hpr := pow32 hl5
        refine v_iload_n X 2 rfl dX5_leading_44 ?_
        refine v_iload_n X 3 rfl dX5_leading_45 ?_
        refine v_callS X (c_X5_areAsMany _ _ hE _ _ f' t' (by omega) (by omega)) k_X5_123 ⟨rfl, rfl, Nat.le_of_ble_eq_true rfl, Nat.le_of_ble_eq_true rfl⟩ (As := [.int (nI f'), .int (nI t')]) (rest := []) rfl rfl (Nat.le_of_ble_eq_true rfl) dX5_leading_46 (fun r46 I46 L46 hp46 => ?_)
        obtain ⟨rfl, e1, e2⟩ := hp46
        have e1 := e1.symm
        have e2 := e2.symm
        subst e1; subst e2
        refine v_st (st' := [.int (bI (pc5 f' = pc5 t'))]) rfl ?_
        refine v_ifb_ne X dX5_leading_49 (tgt := 60) (by decide) (fun h49 => ?_) (fun h49 => ?_)
        · refine v_aload_n X 0 rfl dX5_leading_60 ?_
          refine gf_X5_41 X dX5_leading_61 ?_
          refine v_aload X 5 rfl dX5_leading_64 ?_
          refine v_iload_n X 2 rfl dX5_leading_66 ?_
          refine v_iload_n X 3 rfl dX5_leading_67 ?_
          refine v_iload X 4 rfl dX5_leading_68 ?_
          refine v_callV X (c_X2_lead _ _ hE _ _ w hw4 (ln w) (sc w) (kd w) (pl w) (wt w) hn hW f' t' b (by omega) (by omega) hb) k_X5_180 dl_15 (cef_15 _ _ _ _) rfl ⟨rfl, rfl, Nat.le_of_ble_eq_true rfl, Nat.le_of_ble_eq_true rfl⟩ (As := [.ref (eA (vE a) 5 w), .int (nI f'), .int (nI t'), .int (nI b)]) (rest := []) rfl rfl (Nat.le_of_ble_eq_true rfl) dX5_leading_70 (fun r70 I70 L70 hp70 => ?_)
          obtain ⟨rfl, e1, hL70, hah70⟩ := hp70
          have e1 := e1.symm
          subst e1
          refine v_st (st' := [.long (wy (sc w) (kd w) (pl w) (wvl b (wt w)) t' (sc w) f')]) rfl ?_
          exact v_lret X Y dX5_leading_73 (Or.inr ⟨w, f', t', htw, rfl, hR1, hR2, hC1, hC2, rfl, rfl, Or.inr ⟨h49, rfl, rfl, hL70, hah70⟩⟩)
        · refine v_aload_n X 0 rfl dX5_leading_52 ?_
          refine v_bipush X (v := (-7)) dX5_leading_53 (by decide) ?_
          refine v_callV X (c_X5_refused _ _ hE _ _ 7 (by decide) (by decide)) k_X5_58 dl_0 (cef_0 _ _ _ _) rfl ⟨rfl, rfl, Nat.le_of_ble_eq_true rfl, Nat.le_of_ble_eq_true rfl⟩ (As := [.int (-7)]) (rest := []) rfl rfl (Nat.le_of_ble_eq_true rfl) dX5_leading_55 (fun r55 I55 L55 hp55 => ?_)
          obtain ⟨rfl, e1, e2⟩ := hp55
          have e1 := e1.symm
          have e2 := e2.symm
          subst e1; subst e2
          refine v_st (st' := [.int (-7)]) rfl ?_
          refine v_i2l X dX5_leading_58 rfl ?_
          exact v_lret X Y dX5_leading_59 (Or.inr ⟨w, f', t', htw, rfl, hR1, hR2, hC1, hC2, rfl, rfl, Or.inl ⟨h49, rfl, rfl, rfl⟩⟩)
      · refine v_aload_n X 0 rfl dX5_leading_36 ?_
        refine v_bipush X (v := (-3)) dX5_leading_37 (by decide) ?_
        refine v_callV X (c_X5_refused _ _ hE _ _ 3 (by decide) (by decide)) k_X5_58 dl_0 (cef_0 _ _ _ _) rfl ⟨rfl, rfl, Nat.le_of_ble_eq_true rfl, Nat.le_of_ble_eq_true rfl⟩ (As := [.int (-3)]) (rest := []) rfl rfl (Nat.le_of_ble_eq_true rfl) dX5_leading_39 (fun r39 I39 L39 hp39 => ?_)
        obtain ⟨rfl, e1, e2⟩ := hp39
        have e1 := e1.symm
        have e2 := e2.symm
        subst e1; subst e2
        refine v_st (st' := [.int (-3)]) rfl ?_
        refine v_i2l X dX5_leading_42 rfl ?_
        exact v_lret X Y dX5_leading_43 (Or.inl ⟨inS_noN hl5 hn4 htw (Or.inr h33), rfl, rfl, rfl⟩)
  · refine v_st (st' := [.null]) rfl ?_
    refine v_astoreN X [1, 2, 3, 4, 5, 0] (lv' := [(0, .ref (eA (vE a) 0 0)), (1, .int x), (2, .int f), (3, .int t), (4, .int (nI b)), (5, .null)]) (by decide) rfl dX5_leading_5 ?_
    refine v_aloadN X 5 rfl dX5_leading_7 ?_
    refine v_ifnullN X (tgt := 36) dX5_leading_9 (by decide) ?_
    refine v_aload_n X 0 rfl dX5_leading_36 ?_
    refine v_bipush X (v := (-3)) dX5_leading_37 (by decide) ?_
    refine v_callV X (c_X5_refused _ _ hE _ _ 3 (by decide) (by decide)) k_X5_58 dl_0 (cef_0 _ _ _ _) rfl ⟨rfl, rfl, Nat.le_of_ble_eq_true rfl, Nat.le_of_ble_eq_true rfl⟩ (As := [.int (-3)]) (rest := []) rfl rfl (Nat.le_of_ble_eq_true rfl) dX5_leading_39 (fun r39 I39 L39 hp39 => ?_)
    obtain ⟨rfl, e1, e2⟩ := hp39
    have e1 := e1.symm
    have e2 := e2.symm
    subst e1; subst e2
    refine v_st (st' := [.int (-3)]) rfl ?_
    refine v_i2l X dX5_leading_42 rfl ?_
    exact v_lret X Y dX5_leading_43 (Or.inl ⟨inS_no' hno, rfl, rfl, rfl⟩)
theorem neg_32 : ∀ w, w < 9 → (-nI w).toInt64.toInt32 = -nI w := by decide +kernel
theorem neg_mx : ∀ w, w < 9 → 0 < w → (if (-nI w).toInt64 < 0 then (0 : Int64) else (-nI w).toInt64) = 0 := by decide +kernel
theorem neg_lt : ∀ w, w < 9 → 0 < w → ¬ (0 : Int64) ≤ (-nI w).toInt64 := by decide +kernel
set_option maxHeartbeats 4000000 in
set_option maxRecDepth 100000 in
theorem c_X5_families (l : Launch) (E : VE) (hE : EOk E) (I : TI) (L : TL) (n : Nat) (ln sc : Nat → Nat) (kd pl wt : Nat → Nat → Nat) (hN : CN I n ln sc kd pl wt) (x f t : Int32) : Ct l E yX5_families cX5_families 4 (some .int) rm_X5_families [.ref (eA E 0 0), .int x, .int f, .int t] I L (fun r I' L' => (¬ inS n ln ln x f t ∧ r = some (.int (-nI 3)) ∧ I' = rfI I 3 ∧ L' = L) ∨ (∃ w f' t', w < n ∧ x = nI w ∧ 1 ≤ f' ∧ f' < 2 ^ ln w ∧ 1 ≤ t' ∧ t' < 2 ^ ln w ∧ f = nI f' ∧ t = nI t' ∧ ((¬ pc5 f' = pc5 t' ∧ r = some (.int (-nI 7)) ∧ I' = rfI I 7 ∧ L' = L) ∨ (pc5 f' = pc5 t' ∧ r = some (.int (wy (sc w) (kd w) (pl w) (wvl 0 (wt w)) t' (sc w) f').toInt32) ∧ I' = I ∧ FL [(16, 0)] L L')))) := by
  refine ct_of (by decide +kernel) (Nat.le_of_ble_eq_true rfl) hE ?_
  intro a X Y hl hEE
  subst hl; subst hEE
  show V a 0 [(0, .ref (eA (vE a) 0 0)), (1, .int x), (2, .int f), (3, .int t)] [] I L
  refine v_aload_n X 0 rfl dX5_families_0 ?_
  refine v_iload_n X 1 rfl dX5_families_1 ?_
  refine v_iload_n X 2 rfl dX5_families_2 ?_
  refine v_iload_n X 3 rfl dX5_families_3 ?_
  refine v_iconst X (v := (nI 0)) dX5_families_4 (by decide) ?_
  refine v_callV X (c_X5_leading _ _ hE _ _ n ln sc kd pl wt hN x f t 0 (by decide)) k_X5_184 dl_0 (cef_0 _ _ _ _) rfl ⟨rfl, rfl, Nat.le_of_ble_eq_true rfl, Nat.le_of_ble_eq_true rfl⟩ (As := [.int x, .int f, .int t, .int (nI 0)]) (rest := []) rfl rfl (Nat.le_of_ble_eq_true rfl) dX5_families_5 (fun r5 I5 L5 hp5 => ?_)
  rcases hp5 with ⟨hno, rfl, e1, e2⟩ | ⟨w, f', t', htw, rfl, hR1, hR2, hC1, hC2, rfl, rfl, ⟨hpc, rfl, e1, e2⟩ | ⟨hpc, rfl, e1, hL5, hah5⟩⟩
  · have e1 := e1.symm
    subst e1
    have e2 := e2.symm
    subst e2
    refine v_st (st' := [.long ((-nI 3).toInt64)]) rfl ?_
    refine v_l2i X dX5_families_8 rfl ?_
    exact v_iret X Y dX5_families_9 (Or.inl ⟨hno, by rw [neg_32 3 (by decide)], rfl, rfl⟩)
  · have e1 := e1.symm
    subst e1
    have e2 := e2.symm
    subst e2
    refine v_st (st' := [.long ((-nI 7).toInt64)]) rfl ?_
    refine v_l2i X dX5_families_8 rfl ?_
    exact v_iret X Y dX5_families_9 (Or.inr ⟨w, f', t', htw, rfl, hR1, hR2, hC1, hC2, rfl, rfl, Or.inl ⟨hpc, by rw [neg_32 7 (by decide)], rfl, rfl⟩⟩)
  · have e1 := e1.symm
    subst e1
    have hn4 := hN.2.1
    obtain ⟨hW, hn⟩ := hN.2.2 w htw
    obtain ⟨hl1, hl5, hsc16, hst⟩ := id hn
    have hw4 : w < 4 := by omega
    have hpr := pow32 hl5
    refine v_st (st' := [.long (wy (sc w) (kd w) (pl w) (wvl 0 (wt w)) t' (sc w) f')]) rfl ?_
    refine v_l2i X dX5_families_8 rfl ?_
    exact v_iret X Y dX5_families_9 (Or.inr ⟨w, f', t', htw, rfl, hR1, hR2, hC1, hC2, rfl, rfl, Or.inr ⟨hpc, rfl, rfl, hL5⟩⟩)
set_option maxHeartbeats 4000000 in
set_option maxRecDepth 100000 in
theorem c_X5_weight (l : Launch) (E : VE) (hE : EOk E) (I : TI) (L : TL) (n : Nat) (ln sc : Nat → Nat) (kd pl wt : Nat → Nat → Nat) (hN : CN I n ln sc kd pl wt) (x f t : Int32) : Ct l E yX5_weight cX5_weight 4 (some .long) rm_X5_weight [.ref (eA E 0 0), .int x, .int f, .int t] I L (fun r I' L' => (¬ inS n ln ln x f t ∧ r = some (.long 0) ∧ I' = rfI I 3 ∧ L' = L) ∨ (∃ w f' t', w < n ∧ x = nI w ∧ 1 ≤ f' ∧ f' < 2 ^ ln w ∧ 1 ≤ t' ∧ t' < 2 ^ ln w ∧ f = nI f' ∧ t = nI t' ∧ ((¬ pc5 f' = pc5 t' ∧ r = some (.long 0) ∧ I' = rfI I 7 ∧ L' = L) ∨ (pc5 f' = pc5 t' ∧ r = some (.long (wy (sc w) (kd w) (pl w) (wvl 1 (wt w)) t' (sc w) f')) ∧ I' = I ∧ FL [(16, 0)] L L')))) := by
  refine ct_of (by decide +kernel) (Nat.le_of_ble_eq_true rfl) hE ?_
  intro a X Y hl hEE
  subst hl; subst hEE
  show V a 0 [(0, .ref (eA (vE a) 0 0)), (1, .int x), (2, .int f), (3, .int t)] [] I L
  refine v_lconst X (v := 0) dX5_weight_0 rfl ?_
  refine v_aload_n X 0 rfl dX5_weight_1 ?_
  refine v_iload_n X 1 rfl dX5_weight_2 ?_
  refine v_iload_n X 2 rfl dX5_weight_3 ?_
  refine v_iload_n X 3 rfl dX5_weight_4 ?_
  refine v_iconst X (v := (nI 1)) dX5_weight_5 (by decide) ?_
  refine v_callV X (c_X5_leading _ _ hE _ _ n ln sc kd pl wt hN x f t 1 (by decide)) k_X5_184 dl_0 (cef_0 _ _ _ _) rfl ⟨rfl, rfl, Nat.le_of_ble_eq_true rfl, Nat.le_of_ble_eq_true rfl⟩ (As := [.int x, .int f, .int t, .int (nI 1)]) (rest := [.long 0]) rfl rfl (Nat.le_of_ble_eq_true rfl) dX5_weight_6 (fun r6 I6 L6 hp6 => ?_)
  rcases hp6 with ⟨hno, rfl, e1, e2⟩ | ⟨w, f', t', htw, rfl, hR1, hR2, hC1, hC2, rfl, rfl, ⟨hpc, rfl, e1, e2⟩ | ⟨hpc, rfl, e1, hL6, hah6⟩⟩
  · have e1 := e1.symm
    subst e1
    have e2 := e2.symm
    subst e2
    refine v_st (st' := [.long ((-nI 3).toInt64), .long 0]) rfl ?_
    refine v_lmax X mw_X5_188.1 mw_X5_188.2.1 mw_X5_188.2.2.1 mw_X5_188.2.2.2 (Nat.le_of_ble_eq_true rfl) (Nat.le_of_ble_eq_true rfl) dX5_weight_9 ?_
    exact v_lret X Y dX5_weight_12 (Or.inl ⟨hno, by rw [neg_mx 3 (by decide) (by decide)], rfl, rfl⟩)
  · have e1 := e1.symm
    subst e1
    have e2 := e2.symm
    subst e2
    refine v_st (st' := [.long ((-nI 7).toInt64), .long 0]) rfl ?_
    refine v_lmax X mw_X5_188.1 mw_X5_188.2.1 mw_X5_188.2.2.1 mw_X5_188.2.2.2 (Nat.le_of_ble_eq_true rfl) (Nat.le_of_ble_eq_true rfl) dX5_weight_9 ?_
    exact v_lret X Y dX5_weight_12 (Or.inr ⟨w, f', t', htw, rfl, hR1, hR2, hC1, hC2, rfl, rfl, Or.inl ⟨hpc, by rw [neg_mx 7 (by decide) (by decide)], rfl, rfl⟩⟩)
  · have e1 := e1.symm
    subst e1
    have hn4 := hN.2.1
    obtain ⟨hW, hn⟩ := hN.2.2 w htw
    obtain ⟨hl1, hl5, hsc16, hst⟩ := id hn
    have hw4 : w < 4 := by omega
    have hpr := pow32 hl5
    refine v_st (st' := [.long (wy (sc w) (kd w) (pl w) (wvl 1 (wt w)) t' (sc w) f'), .long 0]) rfl ?_
    refine v_lmax X mw_X5_188.1 mw_X5_188.2.1 mw_X5_188.2.2.1 mw_X5_188.2.2.2 (Nat.le_of_ble_eq_true rfl) (Nat.le_of_ble_eq_true rfl) dX5_weight_9 ?_
    exact v_lret X Y dX5_weight_12 (Or.inr ⟨w, f', t', htw, rfl, hR1, hR2, hC1, hC2, rfl, rfl, Or.inr ⟨hpc, by rw [if_neg (wy_0 hn _)], rfl, hL6⟩⟩)
