/-! the model -/
def rfM (I : TI) (w : Nat) : TI := upI I 41 0 w (I 41 0 w + 1)
def MEF (I I' : TI) (r : Option Value) (w : Nat) : Prop := r = some (.int (-nI w)) ∧ I' = rfM I w
def ME0 (I I' : TI) (r : Option Value) (w : Nat) : Prop := r = some (.int (nI 0)) ∧ I' = rfM I w
def MT (I : TI) (c : Nat) (ro co : Nat → Nat) : Prop := I 30 0 5 = nI c ∧ c ≤ 12 ∧ ∀ t, t < c → I 32 0 t = nI (ro t) ∧ I 33 0 t = nI (co t) ∧ 1 ≤ ro t ∧ ro t ≤ 5 ∧ 1 ≤ co t ∧ co t ≤ 5
theorem wide_le (a b : Int32) : a.toInt64 ≤ b.toInt64 ↔ a ≤ b := by
  rw [Int64.le_iff_toInt_le, Int32.le_iff_toInt_le, Int32.toInt_toInt64, Int32.toInt_toInt64]
theorem in_D {x : Int32} : (1 ≤ x.toInt64 ∧ x.toInt64 ≤ 5) ↔ isD x := by
  rw [isD_iff, show (1 : Int64) = (nI 1).toInt64 by decide, show (5 : Int64) = (nI 5).toInt64 by decide, wide_le, wide_le]
theorem in_T {x : Int32} {r : Nat} (h1 : 1 ≤ r) (hr : r < 2 ^ 31) : (0 ≤ x.toInt64 ∧ x.toInt64 ≤ (nI (r - 1)).toInt64) ↔ isT r x := by
  rw [show (0 : Int64) = (nI 0).toInt64 by decide, wide_le, wide_le]
  constructor
  · rintro ⟨a, b⟩
    obtain ⟨j, hj, rfl⟩ := ix_of' a b (by omega)
    exact ⟨j, by omega, rfl⟩
  · rintro ⟨j, hj, rfl⟩
    exact ⟨(nI_leI (by decide) (by omega)).mpr (Nat.zero_le _), (nI_leI (by omega) (by omega)).mpr (by omega)⟩
theorem inR_iff {r : Nat} {x : Int32} (hr : r < 2 ^ 31) : inR r x ↔ isT r x := inR_T hr
def pcp (n : Nat) : Nat → Nat
  | 0 => 0
  | k + 1 => pcp n k + n / 2 ^ k % 2
theorem pcp_5 (n : Nat) : pcp n 5 = pc5 n := by
  unfold pc5
  simp [pcp]
theorem pcp_le (n : Nat) : ∀ k, pcp n k ≤ k
  | 0 => Nat.le_refl 0
  | k + 1 => by
    have := pcp_le n k
    have := Nat.mod_lt (n / 2 ^ k) (show 0 < 2 by decide)
    show pcp n k + n / 2 ^ k % 2 ≤ k + 1
    omega
set_option maxHeartbeats 4000000 in
set_option maxRecDepth 100000 in
theorem c_X6_isIn (l : Launch) (E : VE) (hE : EOk E) (I : TI) (L : TL) (v lo hi : Int64) : Ct l E yX6_isIn cX6_isIn 6 (some .boolean) rm_X6_isIn [.long v, .long lo, .long hi] I L (fun r I' L' => r = some (.int (bI (lo ≤ v ∧ v ≤ hi))) ∧ I' = I ∧ L' = L) := by
  refine ct_of (by decide +kernel) (Nat.le_of_ble_eq_true rfl) hE ?_
  intro a X Y hl hEE
  subst hl; subst hEE
  show V a 0 [(0, .long v), (2, .long lo), (4, .long hi)] [] I L
  refine v_lload_n X 0 rfl dX6_isIn_0 ?_
  refine v_lload_n X 1 rfl dX6_isIn_1 ?_
  refine v_lcmp_lt X dX6_isIn_2 dX6_isIn_3 (tgt := 17) (by decide) (fun h2 => ?_) (fun h2 => ?_)
  · refine v_iconst X (v := (nI 0)) dX6_isIn_17 (by decide) ?_
    exact v_zret X Y (rfl) dX6_isIn_18 (⟨retF fun q => absurd q.1 (Int64.not_le.mpr h2), rfl, rfl⟩)
  · refine v_lload_n X 0 rfl dX6_isIn_6 ?_
    refine v_lload X 2 rfl dX6_isIn_7 ?_
    refine v_lcmp_gt X dX6_isIn_9 dX6_isIn_10 (tgt := 17) (by decide) (fun h9 => ?_) (fun h9 => ?_)
    · refine v_iconst X (v := (nI 0)) dX6_isIn_17 (by decide) ?_
      exact v_zret X Y (rfl) dX6_isIn_18 (⟨retF fun q => absurd q.2 (Int64.not_le.mpr h9), rfl, rfl⟩)
    · refine v_iconst X (v := (nI 1)) dX6_isIn_13 (by decide) ?_
      refine v_goto X (tgt := 18) dX6_isIn_14 (by decide) ?_
      exact v_zret X Y (rfl) dX6_isIn_18 (⟨retT ⟨Int64.not_lt.mp h2, Int64.not_lt.mp h9⟩, rfl, rfl⟩)
set_option maxHeartbeats 4000000 in
set_option maxRecDepth 100000 in
theorem c_X6_no (l : Launch) (E : VE) (hE : EOk E) (I : TI) (L : TL) (w : Nat) (hw : 2 ≤ w) (hw9 : w < 9) : Ct l E yX6_no cX6_no 2 (some .int) rm_X6_no [.ref (eA E 30 0), .int (-nI w)] I L (fun r I' L' => r = some (.int (-nI w)) ∧ I' = rfM I w ∧ L' = L) := by
  refine ct_of (by decide +kernel) (Nat.le_of_ble_eq_true rfl) hE ?_
  intro a X Y hl hEE
  subst hl; subst hEE
  show V a 0 [(0, .ref (eA (vE a) 30 0)), (1, .int (-nI w))] [] I L
  refine v_aload_n X 0 rfl dX6_no_0 ?_
  refine gf_X6_40 X dX6_no_1 ?_
  refine v_iload_n X 1 rfl dX6_no_4 ?_
  refine v_ineg X dX6_no_5 ?_
  refine v_eqi (y := (nI w)) (Int32.neg_neg) ?_
  refine v_dup2_11 X dX6_no_6 rfl rfl ?_
  refine v_iald_n X dl_41 (fun _ _ => rfl) (n := 9) (by omega) (by decide) dX6_no_7 ?_
  refine v_iconst X (v := (nI 1)) dX6_no_8 (by decide) ?_
  refine v_iadd X dX6_no_9 ?_
  refine v_iast_n X dl_41 (fun _ _ => rfl) (n := 9) (by omega) (by decide) dX6_no_10 ?_
  refine v_iload_n X 1 rfl dX6_no_11 ?_
  exact v_iret X Y dX6_no_12 (⟨rfl, rfl, rfl⟩)
set_option maxHeartbeats 4000000 in
set_option maxRecDepth 100000 in
theorem c_X6_none (l : Launch) (E : VE) (hE : EOk E) (I : TI) (L : TL) (w : Nat) (hw : 2 ≤ w) (hw9 : w < 9) : Ct l E yX6_none cX6_none 3 (some .int) rm_X6_none [.ref (eA E 30 0), .int (-nI w)] I L (fun r I' L' => r = some (.int (nI 0)) ∧ I' = rfM I w ∧ L' = L) := by
  refine ct_of (by decide +kernel) (Nat.le_of_ble_eq_true rfl) hE ?_
  intro a X Y hl hEE
  subst hl; subst hEE
  show V a 0 [(0, .ref (eA (vE a) 30 0)), (1, .int (-nI w))] [] I L
  refine v_aload_n X 0 rfl dX6_none_0 ?_
  refine v_iload_n X 1 rfl dX6_none_1 ?_
  refine v_callV X (c_X6_no _ _ hE _ _ w hw hw9) k_X6_80 dl_30 (cef_30 _ _ _ _) rfl ⟨rfl, rfl, Nat.le_of_ble_eq_true rfl, Nat.le_of_ble_eq_true rfl⟩ (As := [.int (-nI w)]) (rest := []) rfl rfl (Nat.le_of_ble_eq_true rfl) dX6_none_2 (fun r2 I2 L2 hp2 => ?_)
  obtain ⟨rfl, e1, e2⟩ := hp2
  have e1 := e1.symm
  have e2 := e2.symm
  subst e1; subst e2
  refine v_st (st' := [.int (-nI w)]) rfl ?_
  refine v_istore_n X [1, 2, 0] (lv' := [(0, .ref (eA (vE a) 30 0)), (1, .int (-nI w)), (2, .int (-nI w))]) (by decide) rfl dX6_none_5 ?_
  refine v_iconst X (v := (nI 0)) dX6_none_6 (by decide) ?_
  exact v_iret X Y dX6_none_7 (⟨rfl, rfl, rfl⟩)
set_option maxHeartbeats 4000000 in
set_option maxRecDepth 100000 in
theorem c_X6_isTable (l : Launch) (E : VE) (hE : EOk E) (I : TI) (L : TL) (c : Nat) (hc : I 30 0 5 = nI c) (x : Int32) : Ct l E yX6_isTable cX6_isTable 2 (some .boolean) rm_X6_isTable [.ref (eA E 30 0), .int x] I L (fun r I' L' => r = some (.int (bI (inR c x))) ∧ I' = I ∧ L' = L) := by
  refine ct_of (by decide +kernel) (Nat.le_of_ble_eq_true rfl) hE ?_
  intro a X Y hl hEE
  subst hl; subst hEE
  show V a 0 [(0, .ref (eA (vE a) 30 0)), (1, .int x)] [] I L
  refine v_iload_n X 1 rfl dX6_isTable_0 ?_
  refine v_if_lt X dX6_isTable_1 (tgt := 16) (by decide) (fun h1 => ?_) (fun h1 => ?_)
  · refine v_iconst X (v := (nI 0)) dX6_isTable_16 (by decide) ?_
    exact v_zret X Y (rfl) dX6_isTable_17 (⟨retF fun q => absurd q.1 (Int32.not_le.mpr h1), rfl, rfl⟩)
  · refine v_iload_n X 1 rfl dX6_isTable_4 ?_
    refine v_aload_n X 0 rfl dX6_isTable_5 ?_
    refine gf_X6_84 X dX6_isTable_6 ?_
    refine v_eqi (y := (nI c)) (hc) ?_
    refine v_icmp_ge X dX6_isTable_9 (tgt := 16) (by decide) (fun h9 => ?_) (fun h9 => ?_)
    · refine v_iconst X (v := (nI 0)) dX6_isTable_16 (by decide) ?_
      exact v_zret X Y (rfl) dX6_isTable_17 (⟨retF fun q => absurd q.2 (Int32.not_lt.mpr h9), rfl, rfl⟩)
    · refine v_iconst X (v := (nI 1)) dX6_isTable_12 (by decide) ?_
      refine v_goto X (tgt := 17) dX6_isTable_13 (by decide) ?_
      exact v_zret X Y (rfl) dX6_isTable_17 (⟨retT ⟨Int32.not_lt.mp h1, Int32.not_le.mp h9⟩, rfl, rfl⟩)
set_option maxHeartbeats 4000000 in
set_option maxRecDepth 100000 in
theorem c_X6_bits (l : Launch) (E : VE) (hE : EOk E) (I : TI) (L : TL) (n : Nat) (hn : n < 2 ^ 31) : Ct l E yX6_bits cX6_bits 3 (some .int) rm_X6_bits [.int (nI n)] I L (fun r I' L' => r = some (.int (nI (pc5 n))) ∧ I' = I ∧ L' = L) := by
  refine ct_of (by decide +kernel) (Nat.le_of_ble_eq_true rfl) hE ?_
  intro a X Y hl hEE
  subst hl; subst hEE
  show V a 0 [(0, .int (nI n))] [] I L
  refine v_iconst X (v := (nI 0)) dX6_bits_0 (by decide) ?_
  refine v_istore_n X [1, 0] (lv' := [(0, .int (nI n)), (1, .int (nI 0))]) (by decide) rfl dX6_bits_1 ?_
  refine v_iconst X (v := (nI 0)) dX6_bits_2 (by decide) ?_
  refine v_istore_n X [1, 2, 0] (lv' := [(0, .int (nI n)), (1, .int (nI 0)), (2, .int (nI 0))]) (by decide) rfl dX6_bits_3 ?_
  have loop4 : ∀ (fu : Nat) (k : Nat) (a9 : Nat), 6 - k < fu → (k ≤ 5) → (a9 = pcp n k) → V a 4 [(0, .int (nI n)), (1, .int (nI a9)), (2, .int (nI k))] [] I L := by
    intro fu
    induction fu with
    | zero => intro k a9 hm _ _; exact absurd hm (Nat.not_lt_zero _)
    | succ fu ih4 =>
      intro k a9 hm4 hk ha
      refine v_iload_n X 2 rfl dX6_bits_4 ?_
      refine v_iconst X (v := (nI 5)) dX6_bits_5 (by decide) ?_
      refine v_icmp_ge_n X (by omega) (by omega) dX6_bits_6 (tgt := 23) (by decide) (fun h6 => ?_) (fun h6 => ?_)
      · refine v_iload_n X 1 rfl dX6_bits_23 ?_
        exact v_iret X Y dX6_bits_24 (⟨by rw [ha, show k = 5 by omega, pcp_5], rfl, rfl⟩)
      · refine v_iload_n X 1 rfl dX6_bits_9 ?_
        refine v_iload_n X 0 rfl dX6_bits_10 ?_
        refine v_iload_n X 2 rfl dX6_bits_11 ?_
        refine v_ishr X dX6_bits_12 ?_
        refine v_eqi (y := (nI (n / 2 ^ k))) (sh_r (by omega) (by omega)) ?_
        refine v_iconst X (v := (nI 1)) dX6_bits_13 (by decide) ?_
        refine v_iand X dX6_bits_14 ?_
        refine v_eqi (y := (nI ((n / 2 ^ k) &&& 1))) (an_and _ _) ?_
        refine v_eqi (y := (nI (n / 2 ^ k % 2))) (congrArg nI (Nat.and_one_is_mod _)) ?_
        refine v_iadd X dX6_bits_15 ?_
        refine v_eqi (y := (nI (a9 + (n / 2 ^ k % 2)))) (nI_add _ _) ?_
        refine v_istore_n X [1, 0, 2] (lv' := [(0, .int (nI n)), (1, .int (nI (a9 + (n / 2 ^ k % 2)))), (2, .int (nI k))]) (by decide) rfl dX6_bits_16 ?_
        refine v_iinc X [1, 2, 0] 2 (nI (k + 1)) (lv' := [(0, .int (nI n)), (1, .int (nI (a9 + (n / 2 ^ k % 2)))), (2, .int (nI (k + 1)))]) rfl (nI_1 _) (by decide) rfl dX6_bits_17 ?_
        refine v_goto X (tgt := 4) dX6_bits_20 (by decide) ?_
        exact ih4 (k + 1) (a9 + (n / 2 ^ k % 2)) (by omega) (by omega) (by rw [ha]; rfl)
  exact loop4 _ 0 0 (Nat.lt_succ_self _) (by decide) rfl
set_option maxHeartbeats 4000000 in
set_option maxRecDepth 100000 in
theorem c_X6_place (l : Launch) (E : VE) (hE : EOk E) (I : TI) (L : TL) (t i j : Nat) : Ct l E yX6_place cX6_place 3 (some .int) rm_X6_place [.int (nI t), .int (nI i), .int (nI j)] I L (fun r I' L' => r = some (.int (nI (25 * t + 5 * i + j))) ∧ I' = I ∧ L' = L) := by
  refine ct_of (by decide +kernel) (Nat.le_of_ble_eq_true rfl) hE ?_
  intro a X Y hl hEE
  subst hl; subst hEE
  show V a 0 [(0, .int (nI t)), (1, .int (nI i)), (2, .int (nI j))] [] I L
  refine v_bipush X (v := (nI 25)) dX6_place_0 (by decide) ?_
  refine v_iload_n X 0 rfl dX6_place_2 ?_
  refine v_imul X dX6_place_3 ?_
  refine v_eqi (y := (nI (25 * t))) (pk_mul _ _) ?_
  refine v_iconst X (v := (nI 5)) dX6_place_4 (by decide) ?_
  refine v_iload_n X 1 rfl dX6_place_5 ?_
  refine v_imul X dX6_place_6 ?_
  refine v_eqi (y := (nI (5 * i))) (pk_mul _ _) ?_
  refine v_iadd X dX6_place_7 ?_
  refine v_eqi (y := (nI ((25 * t) + (5 * i)))) (nI_add _ _) ?_
  refine v_iload_n X 2 rfl dX6_place_8 ?_
  refine v_iadd X dX6_place_9 ?_
  refine v_eqi (y := (nI (((25 * t) + (5 * i)) + j))) (nI_add _ _) ?_
  exact v_iret X Y dX6_place_10 (⟨rfl, rfl, rfl⟩)
set_option maxHeartbeats 4000000 in
set_option maxRecDepth 100000 in
theorem c_X6_isSome (l : Launch) (E : VE) (hE : EOk E) (I : TI) (L : TL) (b : Int32) (m : Nat) (hm : m < 31) : Ct l E yX6_isSome cX6_isSome 2 (some .boolean) rm_X6_isSome [.int b, .int (nI m)] I L (fun r I' L' => r = some (.int (bI (0 < b ∧ b < nI (2 ^ m)))) ∧ I' = I ∧ L' = L) := by
  refine ct_of (by decide +kernel) (Nat.le_of_ble_eq_true rfl) hE ?_
  intro a X Y hl hEE
  subst hl; subst hEE
  show V a 0 [(0, .int b), (1, .int (nI m))] [] I L
  refine v_iload_n X 0 rfl dX6_isSome_0 ?_
  refine v_if_le X dX6_isSome_1 (tgt := 15) (by decide) (fun h1 => ?_) (fun h1 => ?_)
  · refine v_iconst X (v := (nI 0)) dX6_isSome_15 (by decide) ?_
    exact v_zret X Y (rfl) dX6_isSome_16 (⟨retF fun q => absurd q.1 (Int32.not_lt.mpr h1), rfl, rfl⟩)
  · refine v_iload_n X 0 rfl dX6_isSome_4 ?_
    refine v_iconst X (v := (nI 1)) dX6_isSome_5 (by decide) ?_
    refine v_iload_n X 1 rfl dX6_isSome_6 ?_
    refine v_ishl X dX6_isSome_7 ?_
    refine v_eqi (y := (nI (2 ^ m))) (sh_one hm) ?_
    refine v_icmp_ge X dX6_isSome_8 (tgt := 15) (by decide) (fun h8 => ?_) (fun h8 => ?_)
    · refine v_iconst X (v := (nI 0)) dX6_isSome_15 (by decide) ?_
      exact v_zret X Y (rfl) dX6_isSome_16 (⟨retF fun q => absurd q.2 (Int32.not_lt.mpr h8), rfl, rfl⟩)
    · refine v_iconst X (v := (nI 1)) dX6_isSome_11 (by decide) ?_
      refine v_goto X (tgt := 16) dX6_isSome_12 (by decide) ?_
      exact v_zret X Y (rfl) dX6_isSome_16 (⟨retT ⟨Int32.not_le.mp h1, Int32.not_le.mp h8⟩, rfl, rfl⟩)
set_option maxHeartbeats 4000000 in
set_option maxRecDepth 100000 in
theorem c_X6_span (l : Launch) (E : VE) (hE : EOk E) (I : TI) (L : TL) (i n : Nat) (hi : i < 6) (hn : n < 6) : Ct l E yX6_span cX6_span 2 (some .int) rm_X6_span [.int (nI i), .int (nI n)] I L (fun r9 I' L' => r9 = some (.int (nI (spn i n))) ∧ I' = I ∧ L' = L) := by
  refine ct_of (by decide +kernel) (Nat.le_of_ble_eq_true rfl) hE ?_
  intro a X Y hl hEE
  subst hl; subst hEE
  have hpn : 1 ≤ 2 ^ n := Nat.one_le_two_pow
  show V a 0 [(0, .int (nI i)), (1, .int (nI n))] [] I L
  refine v_iconst X (v := (nI 1)) dX6_span_0 (by decide) ?_
  refine v_iload_n X 1 rfl dX6_span_1 ?_
  refine v_ishl X dX6_span_2 ?_
  refine v_eqi (y := (nI (2 ^ n))) (sh_one (by omega)) ?_
  refine v_iconst X (v := (nI 1)) dX6_span_3 (by decide) ?_
  refine v_isub X dX6_span_4 ?_
  refine v_eqi (y := (nI ((2 ^ n) - 1))) (pk_sub (by omega)) ?_
  refine v_iload_n X 0 rfl dX6_span_5 ?_
  refine v_ishl X dX6_span_6 ?_
  refine v_eqi (y := (nI (((2 ^ n) - 1) * 2 ^ i))) (sh_l (by omega) (st_lt n hn i hi)) ?_
  exact v_iret X Y dX6_span_7 (⟨rfl, rfl, rfl⟩)
def BegM (I I' : TI) (c : Nat) (n m kd : Int32) : Prop := Fr [(30, 0), (31, 0), (32, 0), (33, 0), (34, 0)] I I' ∧ (∀ x, x ≠ 5 → I' 30 0 x = I 30 0 x) ∧ I' 30 0 5 = nI (c + 1) ∧ (∀ x, I' 32 0 x = if x = c then n else I 32 0 x) ∧ (∀ x, I' 33 0 x = if x = c then m else I 33 0 x) ∧ (∀ x, I' 34 0 x = if x = c then kd else I 34 0 x) ∧ (∀ x, x < 25 * c ∨ 25 * c + 25 ≤ x → I' 31 0 x = I 31 0 x) ∧ (∀ x, x < 25 → I' 31 0 (25 * c + x) = nI 0)
set_option maxHeartbeats 4000000 in
set_option maxRecDepth 100000 in
theorem c_X6_begins (l : Launch) (E : VE) (hE : EOk E) (I : TI) (L : TL) (c : Nat) (hc : I 30 0 5 = nI c) (hc12 : c ≤ 12) (n m kd : Int32) : Ct l E yX6_begins cX6_begins 5 (some .int) rm_X6_begins [.ref (eA E 30 0), .int n, .int m, .int kd] I L (fun r I' L' => ((c = 12 ∧ MEF I I' r 8) ∨ (c < 12 ∧ r = some (.int (nI c)) ∧ BegM I I' c n m kd)) ∧ L' = L) := by
  refine ct_of (by decide +kernel) (Nat.le_of_ble_eq_true rfl) hE ?_
  intro a X Y hl hEE
  subst hl; subst hEE
  show V a 0 [(0, .ref (eA (vE a) 30 0)), (1, .int n), (2, .int m), (3, .int kd)] [] I L
  refine v_aload_n X 0 rfl dX6_begins_0 ?_
  refine gf_X6_84 X dX6_begins_1 ?_
  refine v_eqi (y := (nI c)) (hc) ?_
  refine v_bipush X (v := (nI 12)) dX6_begins_4 (by decide) ?_
  refine v_icmp_ne_n X (by omega) (by omega) dX6_begins_6 (tgt := 16) (by decide) (fun h6 => ?_) (fun h6 => ?_)
  · refine v_aload_n X 0 rfl dX6_begins_16 ?_
    refine gf_X6_13 X dX6_begins_17 ?_
    refine v_aload_n X 0 rfl dX6_begins_20 ?_
    refine gf_X6_84 X dX6_begins_21 ?_
    refine v_eqi (y := (nI c)) (hc) ?_
    refine v_iload_n X 1 rfl dX6_begins_24 ?_
    refine v_iast_n X dl_32 (fun _ _ => rfl) (n := 12) (by omega) (by decide) dX6_begins_25 ?_
    refine v_aload_n X 0 rfl dX6_begins_26 ?_
    refine gf_X6_16 X dX6_begins_27 ?_
    refine v_aload_n X 0 rfl dX6_begins_30 ?_
    refine gf_X6_84 X dX6_begins_31 ?_
    refine v_eqi (y := (nI c)) ((upI_k (by decide)).trans (hc)) ?_
    refine v_iload_n X 2 rfl dX6_begins_34 ?_
    refine v_iast_n X dl_33 (fun _ _ => rfl) (n := 12) (by omega) (by decide) dX6_begins_35 ?_
    refine v_aload_n X 0 rfl dX6_begins_36 ?_
    refine gf_X6_19 X dX6_begins_37 ?_
    refine v_aload_n X 0 rfl dX6_begins_40 ?_
    refine gf_X6_84 X dX6_begins_41 ?_
    refine v_eqi (y := (nI c)) ((upI_k (by decide)).trans ((upI_k (by decide)).trans (hc))) ?_
    refine v_iload_n X 3 rfl dX6_begins_44 ?_
    refine v_iast_n X dl_34 (fun _ _ => rfl) (n := 12) (by omega) (by decide) dX6_begins_45 ?_
    obtain ⟨I1, eI1⟩ : ∃ z, z = (upI (upI (upI I 32 0 c n) 33 0 c m) 34 0 c kd) := ⟨_, rfl⟩
    refine v_eqI eI1.symm ?_
    have hF : Fr [(31, 0), (32, 0), (33, 0), (34, 0)] I I1 := by rw [eI1]; exact ((Fr.rf.up (by simp)).up (by simp)).up (by simp)
    have hb1 : ∀ x, I1 32 0 x = if x = c then n else I 32 0 x := by intro x; rw [eI1]; simp [upI]
    have hb2 : ∀ x, I1 33 0 x = if x = c then m else I 33 0 x := by intro x; rw [eI1]; simp [upI]
    have hb3 : ∀ x, I1 34 0 x = if x = c then kd else I 34 0 x := by intro x; rw [eI1]; simp [upI]
    have hb4 : ∀ x, I1 31 0 x = I 31 0 x := by intro x; rw [eI1]; simp [upI]
    refine v_iconst X (v := (nI 0)) dX6_begins_46 (by decide) ?_
    refine v_istore X [1, 2, 3, 4, 0] (lv' := [(0, .ref (eA (vE a) 30 0)), (1, .int n), (2, .int m), (3, .int kd), (4, .int (nI 0))]) (by decide) rfl dX6_begins_47 ?_
    have loop49 : ∀ (fu : Nat) (k : Nat) (I2 : TI), 26 - k < fu → (k ≤ 25) → (Fr [(31, 0)] I1 I2) → (∀ x, x < k → I2 31 0 (25 * c + x) = nI 0) → (∀ x, x < 25 * c ∨ 25 * c + 25 ≤ x → I2 31 0 x = I1 31 0 x) → V a 49 [(0, .ref (eA (vE a) 30 0)), (1, .int n), (2, .int m), (3, .int kd), (4, .int (nI k))] [] I2 L := by
      intro fu
      induction fu with
      | zero => intro k I2 hm _ _ _ _; exact absurd hm (Nat.not_lt_zero _)
      | succ fu ih49 =>
        intro k I2 hm49 hk hF2 hz ho
        refine v_iload X 4 rfl dX6_begins_49 ?_
        refine v_bipush X (v := (nI 25)) dX6_begins_51 (by decide) ?_
        refine v_icmp_ge_n X (by omega) (by omega) dX6_begins_53 (tgt := 78) (by decide) (fun h53 => ?_) (fun h53 => ?_)
        · refine v_aload_n X 0 rfl dX6_begins_78 ?_
          refine v_dup X dX6_begins_79 rfl ?_
          refine gf_X6_84 X dX6_begins_80 ?_
          refine v_eqi (y := (nI c)) ((Fr.at hF2 (by simp) _).trans ((Fr.at hF (by simp) _).trans (hc))) ?_
          refine v_iconst X (v := (nI 1)) dX6_begins_83 (by decide) ?_
          refine v_iadd X dX6_begins_84 ?_
          refine v_eqi (y := (nI (c + 1))) (nI_add _ _) ?_
          refine pf_X6_84 X dX6_begins_85 ?_
          refine v_aload_n X 0 rfl dX6_begins_88 ?_
          refine gf_X6_84 X dX6_begins_89 ?_
          refine v_eqi (y := (nI (c + 1))) (upI_eq) ?_
          refine v_iconst X (v := (nI 1)) dX6_begins_92 (by decide) ?_
          refine v_isub X dX6_begins_93 ?_
          refine v_eqi (y := (nI ((c + 1) - 1))) (pk_sub (by omega)) ?_
          exact v_iret X Y dX6_begins_94 (⟨Or.inr ⟨by omega, rfl, ((hF.mono (by simp)).tr (hF2.mono (by simp))).up (by simp), fun x hx => (upI_x hx).trans ((hF2.at (by simp) x).trans (hF.at (by simp) x)), upI_eq, fun x => (upI_k (by decide)).trans ((hF2.at (by simp) x).trans (hb1 x)), fun x => (upI_k (by decide)).trans ((hF2.at (by simp) x).trans (hb2 x)), fun x => (upI_k (by decide)).trans ((hF2.at (by simp) x).trans (hb3 x)), fun x hx => (upI_k (by decide)).trans ((ho x hx).trans (hb4 x)), fun x hx => (upI_k (by decide)).trans (hz x (by omega))⟩, rfl⟩)
        · refine v_aload_n X 0 rfl dX6_begins_56 ?_
          refine gf_X6_7 X dX6_begins_57 ?_
          refine v_bipush X (v := (nI 25)) dX6_begins_60 (by decide) ?_
          refine v_aload_n X 0 rfl dX6_begins_62 ?_
          refine gf_X6_84 X dX6_begins_63 ?_
          refine v_eqi (y := (nI c)) ((Fr.at hF2 (by simp) _).trans ((Fr.at hF (by simp) _).trans (hc))) ?_
          refine v_imul X dX6_begins_66 ?_
          refine v_eqi (y := (nI (25 * c))) (pk_mul _ _) ?_
          refine v_iload X 4 rfl dX6_begins_67 ?_
          refine v_iadd X dX6_begins_69 ?_
          refine v_eqi (y := (nI ((25 * c) + k))) (nI_add _ _) ?_
          refine v_iconst X (v := (nI 0)) dX6_begins_70 (by decide) ?_
          refine v_iast_n X dl_31 (fun _ _ => rfl) (n := 300) (by omega) (by decide) dX6_begins_71 ?_
          refine v_iinc X [1, 2, 3, 4, 0] 4 (nI (k + 1)) (lv' := [(0, .ref (eA (vE a) 30 0)), (1, .int n), (2, .int m), (3, .int kd), (4, .int (nI (k + 1)))]) rfl (nI_1 _) (by decide) rfl dX6_begins_72 ?_
          refine v_goto X (tgt := 49) dX6_begins_75 (by decide) ?_
          have hnew : ∀ x, x < k + 1 → upI I2 31 0 (25 * c + k) (nI 0) 31 0 (25 * c + x) = nI 0 := fun x hx => by
            by_cases e : x = k
            · rw [e]; exact upI_eq
            · rw [upI_x (by omega)]; exact hz x (by omega)
          exact ih49 (k + 1) (upI I2 31 0 ((25 * c) + k) (nI 0)) (by omega) (by omega) (hF2.up (by simp)) hnew (fun x hx => (upI_x (by omega)).trans (ho x hx))
    exact loop49 _ 0 I1 (Nat.lt_succ_self _) (by decide) Fr.rf (fun x h => absurd h (Nat.not_lt_zero _)) (fun _ _ => rfl)
  · refine v_aload_n X 0 rfl dX6_begins_9 ?_
    refine v_bipush X (v := (-8)) dX6_begins_10 (by decide) ?_
    refine v_callV X (c_X6_no _ _ hE _ _ 8 (by decide) (by decide)) k_X6_80 dl_30 (cef_30 _ _ _ _) rfl ⟨rfl, rfl, Nat.le_of_ble_eq_true rfl, Nat.le_of_ble_eq_true rfl⟩ (As := [.int (-8)]) (rest := []) rfl rfl (Nat.le_of_ble_eq_true rfl) dX6_begins_12 (fun r12 I12 L12 hp12 => ?_)
    obtain ⟨rfl, e1, e2⟩ := hp12
    have e1 := e1.symm
    have e2 := e2.symm
    subst e1; subst e2
    refine v_st (st' := [.int (-8)]) rfl ?_
    exact v_iret X Y dX6_begins_15 (⟨Or.inl ⟨h6, rfl, rfl⟩, rfl⟩)
theorem inP_iff {c : Nat} {ro co : Nat → Nat} {x i j : Int32} : inP c ro co x i j ↔ ∃ t, t < c ∧ x = nI t ∧ isT (ro t) i ∧ isT (co t) j := Iff.rfl
set_option maxHeartbeats 4000000 in
set_option maxRecDepth 100000 in
theorem c_X6_isPlace (l : Launch) (E : VE) (hE : EOk E) (I : TI) (L : TL) (c : Nat) (ro co : Nat → Nat) (hT : MT I c ro co) (x i j : Int32) : Ct l E yX6_isPlace cX6_isPlace 4 (some .boolean) rm_X6_isPlace [.ref (eA E 30 0), .int x, .int i, .int j] I L (fun r I' L' => ((inP c ro co x i j ∧ r = some (.int (nI 1))) ∨ (¬ inP c ro co x i j ∧ r = some (.int (nI 0)))) ∧ I' = I ∧ L' = L) := by
  refine ct_of (by decide +kernel) (Nat.le_of_ble_eq_true rfl) hE ?_
  intro a X Y hl hEE
  subst hl; subst hEE
  show V a 0 [(0, .ref (eA (vE a) 30 0)), (1, .int x), (2, .int i), (3, .int j)] [] I L
  refine v_aload_n X 0 rfl dX6_isPlace_0 ?_
  refine v_iload_n X 1 rfl dX6_isPlace_1 ?_
  refine v_callV X (c_X6_isTable _ _ hE _ _ c (hT.1) x) k_X6_98 dl_30 (cef_30 _ _ _ _) rfl ⟨rfl, rfl, Nat.le_of_ble_eq_true rfl, Nat.le_of_ble_eq_true rfl⟩ (As := [.int x]) (rest := []) rfl rfl (Nat.le_of_ble_eq_true rfl) dX6_isPlace_2 (fun r2 I2 L2 hp2 => ?_)
  obtain ⟨rfl, e1, e2⟩ := hp2
  have e1 := e1.symm
  have e2 := e2.symm
  subst e1; subst e2
  refine v_st (st' := [.int (bI (inR c x))]) rfl ?_
  refine v_ifb_eq X dX6_isPlace_5 (tgt := 48) (by decide) (fun h5 => ?_) (fun h5 => ?_)
  · refine v_iconst X (v := (nI 0)) dX6_isPlace_48 (by decide) ?_
    exact v_zret X Y (rfl) dX6_isPlace_49 (⟨Or.inr ⟨fun ⟨t, ht, e, _⟩ => h5 ((inR_T (by have := hT.2.1; omega)).mpr ⟨t, ht, e⟩), rfl⟩, rfl, rfl⟩)
  · obtain ⟨t, htt, rfl⟩ := inR_of (by have := hT.2.1; omega) h5
    have hc12 := hT.2.1
    obtain ⟨hrt, hct, hr1t, hr5t, hc1t, hc5t⟩ := hT.2.2 t htt
    have ht12t : t < 12 := by omega
    refine v_iload_n X 2 rfl dX6_isPlace_8 ?_
    refine v_i2l X dX6_isPlace_9 rfl ?_
    refine v_lconst X (v := 0) dX6_isPlace_10 rfl ?_
    refine v_aload_n X 0 rfl dX6_isPlace_11 ?_
    refine gf_X6_13 X dX6_isPlace_12 ?_
    refine v_iload_n X 1 rfl dX6_isPlace_15 ?_
    refine v_iald_n X dl_32 (fun _ _ => rfl) (n := 12) (by omega) (by decide) dX6_isPlace_16 ?_
    refine v_eqi (y := (nI (ro t))) (hrt) ?_
    refine v_iconst X (v := (nI 1)) dX6_isPlace_17 (by decide) ?_
    refine v_isub X dX6_isPlace_18 ?_
    refine v_eqi (y := (nI ((ro t) - 1))) (pk_sub (by omega)) ?_
    refine v_i2l X dX6_isPlace_19 rfl ?_
    refine v_callS X (c_X6_isIn _ _ hE _ _ i.toInt64 0 ((nI ((ro t) - 1)).toInt64)) k_X6_90 ⟨rfl, rfl, Nat.le_of_ble_eq_true rfl, Nat.le_of_ble_eq_true rfl⟩ (As := [.long i.toInt64, .long 0, .long ((nI ((ro t) - 1)).toInt64)]) (rest := []) rfl rfl (Nat.le_of_ble_eq_true rfl) dX6_isPlace_20 (fun r20 I20 L20 hp20 => ?_)
    obtain ⟨rfl, e1, e2⟩ := hp20
    have e1 := e1.symm
    have e2 := e2.symm
    subst e1; subst e2
    refine v_st (st' := [.int (bI (0 ≤ i.toInt64 ∧ i.toInt64 ≤ (nI ((ro t) - 1)).toInt64))]) rfl ?_
    refine v_ifb_eq X dX6_isPlace_23 (tgt := 48) (by decide) (fun h23 => ?_) (fun h23 => ?_)
    · refine v_iconst X (v := (nI 0)) dX6_isPlace_48 (by decide) ?_
      exact v_zret X Y (rfl) dX6_isPlace_49 (⟨Or.inr ⟨fun ⟨u, hu, e, q1, q2⟩ => by
            have e := (nI_eq (by omega) (by omega)).mp e
            subst e
            exact h23 ((in_T (by omega) (by omega)).mpr q1), rfl⟩, rfl, rfl⟩)
    · refine v_iload_n X 3 rfl dX6_isPlace_26 ?_
      refine v_i2l X dX6_isPlace_27 rfl ?_
      refine v_lconst X (v := 0) dX6_isPlace_28 rfl ?_
      refine v_aload_n X 0 rfl dX6_isPlace_29 ?_
      refine gf_X6_16 X dX6_isPlace_30 ?_
      refine v_iload_n X 1 rfl dX6_isPlace_33 ?_
      refine v_iald_n X dl_33 (fun _ _ => rfl) (n := 12) (by omega) (by decide) dX6_isPlace_34 ?_
      refine v_eqi (y := (nI (co t))) (hct) ?_
      refine v_iconst X (v := (nI 1)) dX6_isPlace_35 (by decide) ?_
      refine v_isub X dX6_isPlace_36 ?_
      refine v_eqi (y := (nI ((co t) - 1))) (pk_sub (by omega)) ?_
      refine v_i2l X dX6_isPlace_37 rfl ?_
      refine v_callS X (c_X6_isIn _ _ hE _ _ j.toInt64 0 ((nI ((co t) - 1)).toInt64)) k_X6_90 ⟨rfl, rfl, Nat.le_of_ble_eq_true rfl, Nat.le_of_ble_eq_true rfl⟩ (As := [.long j.toInt64, .long 0, .long ((nI ((co t) - 1)).toInt64)]) (rest := []) rfl rfl (Nat.le_of_ble_eq_true rfl) dX6_isPlace_38 (fun r38 I38 L38 hp38 => ?_)
      obtain ⟨rfl, e1, e2⟩ := hp38
      have e1 := e1.symm
      have e2 := e2.symm
      subst e1; subst e2
      refine v_st (st' := [.int (bI (0 ≤ j.toInt64 ∧ j.toInt64 ≤ (nI ((co t) - 1)).toInt64))]) rfl ?_
      refine v_ifb_eq X dX6_isPlace_41 (tgt := 48) (by decide) (fun h41 => ?_) (fun h41 => ?_)
      · refine v_iconst X (v := (nI 0)) dX6_isPlace_48 (by decide) ?_
        exact v_zret X Y (rfl) dX6_isPlace_49 (⟨Or.inr ⟨fun ⟨u, hu, e, q1, q2⟩ => by
              have e := (nI_eq (by omega) (by omega)).mp e
              subst e
              exact h41 ((in_T (by omega) (by omega)).mpr q2), rfl⟩, rfl, rfl⟩)
      · refine v_iconst X (v := (nI 1)) dX6_isPlace_44 (by decide) ?_
        refine v_goto X (tgt := 49) dX6_isPlace_45 (by decide) ?_
        exact v_zret X Y (rfl) dX6_isPlace_49 (⟨Or.inl ⟨⟨t, htt, rfl, (in_T (by omega) (by omega)).mp h23, (in_T (by omega) (by omega)).mp h41⟩, rfl⟩, rfl, rfl⟩)
set_option maxHeartbeats 4000000 in
set_option maxRecDepth 100000 in
theorem c_X6_at (l : Launch) (E : VE) (hE : EOk E) (I : TI) (L : TL) (c : Nat) (ro co : Nat → Nat) (hT : MT I c ro co) (x i j : Int32) : Ct l E yX6_at cX6_at 4 (some .int) rm_X6_at [.ref (eA E 30 0), .int x, .int i, .int j] I L (fun r I' L' => ((∃ t i' j', t < c ∧ i' < ro t ∧ j' < co t ∧ x = nI t ∧ i = nI i' ∧ j = nI j' ∧ r = some (.int (I 31 0 (25 * t + 5 * i' + j'))) ∧ I' = I) ∨ (¬ inP c ro co x i j ∧ ME0 I I' r 3)) ∧ L' = L) := by
  refine ct_of (by decide +kernel) (Nat.le_of_ble_eq_true rfl) hE ?_
  intro a X Y hl hEE
  subst hl; subst hEE
  show V a 0 [(0, .ref (eA (vE a) 30 0)), (1, .int x), (2, .int i), (3, .int j)] [] I L
  refine v_aload_n X 0 rfl dX6_at_0 ?_
  refine v_iload_n X 1 rfl dX6_at_1 ?_
  refine v_iload_n X 2 rfl dX6_at_2 ?_
  refine v_iload_n X 3 rfl dX6_at_3 ?_
  refine v_callV X (c_X6_isPlace _ _ hE _ _ c ro co hT x i j) k_X6_102 dl_30 (cef_30 _ _ _ _) rfl ⟨rfl, rfl, Nat.le_of_ble_eq_true rfl, Nat.le_of_ble_eq_true rfl⟩ (As := [.int x, .int i, .int j]) (rest := []) rfl rfl (Nat.le_of_ble_eq_true rfl) dX6_at_4 (fun r4 I4 L4 hp4 => ?_)
  obtain ⟨ho4, e1, e2⟩ := hp4
  have e1 := e1.symm
  have e2 := e2.symm
  subst e1; subst e2
  rcases ho4 with ⟨⟨t, htt, rfl, ⟨i', hi, rfl⟩, ⟨j', hj, rfl⟩⟩, rfl⟩ | ⟨hno, rfl⟩
  · have hc12 := hT.2.1
    obtain ⟨hrt, hct, hr1t, hr5t, hc1t, hc5t⟩ := hT.2.2 t htt
    have ht12t : t < 12 := by omega
    refine v_st (st' := [.int (nI 1)]) rfl ?_
    refine v_if_eq_n X (by omega) dX6_at_7 (tgt := 24) (by decide) (fun h7 => ?_) (fun h7 => ?_)
    · exact absurd h7 (by decide)
    · refine v_aload_n X 0 rfl dX6_at_10 ?_
      refine gf_X6_7 X dX6_at_11 ?_
      refine v_iload_n X 1 rfl dX6_at_14 ?_
      refine v_iload_n X 2 rfl dX6_at_15 ?_
      refine v_iload_n X 3 rfl dX6_at_16 ?_
      refine v_callS X (c_X6_place _ _ hE _ _ t i' j') k_X6_113 ⟨rfl, rfl, Nat.le_of_ble_eq_true rfl, Nat.le_of_ble_eq_true rfl⟩ (As := [.int (nI t), .int (nI i'), .int (nI j')]) (rest := [.ref (eA (vE a) 31 0)]) rfl rfl (Nat.le_of_ble_eq_true rfl) dX6_at_17 (fun r17 I17 L17 hp17 => ?_)
      obtain ⟨rfl, e1, e2⟩ := hp17
      have e1 := e1.symm
      have e2 := e2.symm
      subst e1; subst e2
      refine v_st (st' := [.int (nI (25 * t + 5 * i' + j')), .ref (eA (vE a) 31 0)]) rfl ?_
      refine v_iald_n X dl_31 (fun _ _ => rfl) (n := 300) (by omega) (by decide) dX6_at_20 ?_
      refine v_goto X (tgt := 30) dX6_at_21 (by decide) ?_
      exact v_iret X Y dX6_at_30 (⟨Or.inl ⟨t, i', j', htt, hi, hj, rfl, rfl, rfl, rfl, rfl⟩, rfl⟩)
  · refine v_st (st' := [.int (nI 0)]) rfl ?_
    refine v_if_eq_n X (by omega) dX6_at_7 (tgt := 24) (by decide) (fun h7 => ?_) (fun h7 => ?_)
    · refine v_aload_n X 0 rfl dX6_at_24 ?_
      refine v_bipush X (v := (-3)) dX6_at_25 (by decide) ?_
      refine v_callV X (c_X6_none _ _ hE _ _ 3 (by decide) (by decide)) k_X6_106 dl_30 (cef_30 _ _ _ _) rfl ⟨rfl, rfl, Nat.le_of_ble_eq_true rfl, Nat.le_of_ble_eq_true rfl⟩ (As := [.int (-3)]) (rest := []) rfl rfl (Nat.le_of_ble_eq_true rfl) dX6_at_27 (fun r27 I27 L27 hp27 => ?_)
      obtain ⟨rfl, e1, e2⟩ := hp27
      have e1 := e1.symm
      have e2 := e2.symm
      subst e1; subst e2
      refine v_st (st' := [.int (nI 0)]) rfl ?_
      exact v_iret X Y dX6_at_30 (⟨Or.inr ⟨hno, rfl, rfl⟩, rfl⟩)
    · exact absurd h7 (by decide)
set_option maxHeartbeats 4000000 in
set_option maxRecDepth 100000 in
theorem c_X6_set (l : Launch) (E : VE) (hE : EOk E) (I : TI) (L : TL) (c : Nat) (ro co : Nat → Nat) (hT : MT I c ro co) (x i j v : Int32) : Ct l E yX6_set cX6_set 6 (some .int) rm_X6_set [.ref (eA E 30 0), .int x, .int i, .int j, .int v] I L (fun r I' L' => ((¬ inP c ro co x i j ∧ ME0 I I' r 3) ∨ (∃ t i' j', t < c ∧ i' < ro t ∧ j' < co t ∧ x = nI t ∧ i = nI i' ∧ j = nI j' ∧ ((¬ I 34 0 t = 0 ∧ ME0 I I' r 5) ∨ (I 34 0 t = 0 ∧ ¬ nm v.toInt64 ∧ ME0 I I' r 7) ∨ (I 34 0 t = 0 ∧ nm v.toInt64 ∧ r = some (.int (I 31 0 (25 * t + 5 * i' + j'))) ∧ I' = upI I 31 0 (25 * t + 5 * i' + j') v)))) ∧ L' = L) := by
  refine ct_of (by decide +kernel) (Nat.le_of_ble_eq_true rfl) hE ?_
  intro a X Y hl hEE
  subst hl; subst hEE
  show V a 0 [(0, .ref (eA (vE a) 30 0)), (1, .int x), (2, .int i), (3, .int j), (4, .int v)] [] I L
  refine v_aload_n X 0 rfl dX6_set_0 ?_
  refine v_iload_n X 1 rfl dX6_set_1 ?_
  refine v_iload_n X 2 rfl dX6_set_2 ?_
  refine v_iload_n X 3 rfl dX6_set_3 ?_
  refine v_callV X (c_X6_isPlace _ _ hE _ _ c ro co hT x i j) k_X6_102 dl_30 (cef_30 _ _ _ _) rfl ⟨rfl, rfl, Nat.le_of_ble_eq_true rfl, Nat.le_of_ble_eq_true rfl⟩ (As := [.int x, .int i, .int j]) (rest := []) rfl rfl (Nat.le_of_ble_eq_true rfl) dX6_set_4 (fun r4 I4 L4 hp4 => ?_)
  obtain ⟨ho4, e1, e2⟩ := hp4
  have e1 := e1.symm
  have e2 := e2.symm
  subst e1; subst e2
  rcases ho4 with ⟨⟨t, htt, rfl, ⟨i', hi, rfl⟩, ⟨j', hj, rfl⟩⟩, rfl⟩ | ⟨hno, rfl⟩
  · have hc12 := hT.2.1
    obtain ⟨hrt, hct, hr1t, hr5t, hc1t, hc5t⟩ := hT.2.2 t htt
    have ht12t : t < 12 := by omega
    refine v_st (st' := [.int (nI 1)]) rfl ?_
    refine v_if_ne_n X (by omega) dX6_set_7 (tgt := 17) (by decide) (fun h7 => ?_) (fun h7 => ?_)
    · refine v_aload_n X 0 rfl dX6_set_17 ?_
      refine gf_X6_19 X dX6_set_18 ?_
      refine v_iload_n X 1 rfl dX6_set_21 ?_
      refine v_iald_n X dl_34 (fun _ _ => rfl) (n := 12) (by omega) (by decide) dX6_set_22 ?_
      refine v_if_eq X dX6_set_23 (tgt := 33) (by decide) (fun h23 => ?_) (fun h23 => ?_)
      · refine v_iload X 4 rfl dX6_set_33 ?_
        refine v_i2l X dX6_set_35 rfl ?_
        refine v_ldc2 X kc_X6_109 dX6_set_36 ?_
        refine v_ldc2 X kc_X6_111 dX6_set_39 ?_
        refine v_callS X (c_X6_isIn _ _ hE _ _ v.toInt64 (-1000) 1000) k_X6_90 ⟨rfl, rfl, Nat.le_of_ble_eq_true rfl, Nat.le_of_ble_eq_true rfl⟩ (As := [.long v.toInt64, .long (-1000), .long 1000]) (rest := []) rfl rfl (Nat.le_of_ble_eq_true rfl) dX6_set_42 (fun r42 I42 L42 hp42 => ?_)
        obtain ⟨rfl, e1, e2⟩ := hp42
        have e1 := e1.symm
        have e2 := e2.symm
        subst e1; subst e2
        refine v_st (st' := [.int (bI ((-1000) ≤ v.toInt64 ∧ v.toInt64 ≤ 1000))]) rfl ?_
        refine v_ifb_ne X dX6_set_45 (tgt := 55) (by decide) (fun h45 => ?_) (fun h45 => ?_)
        · refine v_aload_n X 0 rfl dX6_set_55 ?_
          refine gf_X6_7 X dX6_set_56 ?_
          refine v_iload_n X 1 rfl dX6_set_59 ?_
          refine v_iload_n X 2 rfl dX6_set_60 ?_
          refine v_iload_n X 3 rfl dX6_set_61 ?_
          refine v_callS X (c_X6_place _ _ hE _ _ t i' j') k_X6_113 ⟨rfl, rfl, Nat.le_of_ble_eq_true rfl, Nat.le_of_ble_eq_true rfl⟩ (As := [.int (nI t), .int (nI i'), .int (nI j')]) (rest := [.ref (eA (vE a) 31 0)]) rfl rfl (Nat.le_of_ble_eq_true rfl) dX6_set_62 (fun r62 I62 L62 hp62 => ?_)
          obtain ⟨rfl, e1, e2⟩ := hp62
          have e1 := e1.symm
          have e2 := e2.symm
          subst e1; subst e2
          refine v_st (st' := [.int (nI (25 * t + 5 * i' + j')), .ref (eA (vE a) 31 0)]) rfl ?_
          refine v_iald_n X dl_31 (fun _ _ => rfl) (n := 300) (by omega) (by decide) dX6_set_65 ?_
          refine v_istore X [1, 2, 3, 4, 5, 0] (lv' := [(0, .ref (eA (vE a) 30 0)), (1, .int (nI t)), (2, .int (nI i')), (3, .int (nI j')), (4, .int v), (5, .int (I 31 0 (25 * t + 5 * i' + j')))]) (by decide) rfl dX6_set_66 ?_
          refine v_aload_n X 0 rfl dX6_set_68 ?_
          refine gf_X6_7 X dX6_set_69 ?_
          refine v_iload_n X 1 rfl dX6_set_72 ?_
          refine v_iload_n X 2 rfl dX6_set_73 ?_
          refine v_iload_n X 3 rfl dX6_set_74 ?_
          refine v_callS X (c_X6_place _ _ hE _ _ t i' j') k_X6_113 ⟨rfl, rfl, Nat.le_of_ble_eq_true rfl, Nat.le_of_ble_eq_true rfl⟩ (As := [.int (nI t), .int (nI i'), .int (nI j')]) (rest := [.ref (eA (vE a) 31 0)]) rfl rfl (Nat.le_of_ble_eq_true rfl) dX6_set_75 (fun r75 I75 L75 hp75 => ?_)
          obtain ⟨rfl, e1, e2⟩ := hp75
          have e1 := e1.symm
          have e2 := e2.symm
          subst e1; subst e2
          refine v_st (st' := [.int (nI (25 * t + 5 * i' + j')), .ref (eA (vE a) 31 0)]) rfl ?_
          refine v_iload X 4 rfl dX6_set_78 ?_
          refine v_iast_n X dl_31 (fun _ _ => rfl) (n := 300) (by omega) (by decide) dX6_set_80 ?_
          refine v_iload X 5 rfl dX6_set_81 ?_
          exact v_iret X Y dX6_set_83 (⟨Or.inr ⟨t, i', j', htt, hi, hj, rfl, rfl, rfl, Or.inr (Or.inr ⟨h23, h45, rfl, rfl⟩)⟩, rfl⟩)
        · refine v_aload_n X 0 rfl dX6_set_48 ?_
          refine v_bipush X (v := (-7)) dX6_set_49 (by decide) ?_
          refine v_callV X (c_X6_none _ _ hE _ _ 7 (by decide) (by decide)) k_X6_106 dl_30 (cef_30 _ _ _ _) rfl ⟨rfl, rfl, Nat.le_of_ble_eq_true rfl, Nat.le_of_ble_eq_true rfl⟩ (As := [.int (-7)]) (rest := []) rfl rfl (Nat.le_of_ble_eq_true rfl) dX6_set_51 (fun r51 I51 L51 hp51 => ?_)
          obtain ⟨rfl, e1, e2⟩ := hp51
          have e1 := e1.symm
          have e2 := e2.symm
          subst e1; subst e2
          refine v_st (st' := [.int (nI 0)]) rfl ?_
          exact v_iret X Y dX6_set_54 (⟨Or.inr ⟨t, i', j', htt, hi, hj, rfl, rfl, rfl, Or.inr (Or.inl ⟨h23, h45, rfl, rfl⟩)⟩, rfl⟩)
      · refine v_aload_n X 0 rfl dX6_set_26 ?_
        refine v_bipush X (v := (-5)) dX6_set_27 (by decide) ?_
        refine v_callV X (c_X6_none _ _ hE _ _ 5 (by decide) (by decide)) k_X6_106 dl_30 (cef_30 _ _ _ _) rfl ⟨rfl, rfl, Nat.le_of_ble_eq_true rfl, Nat.le_of_ble_eq_true rfl⟩ (As := [.int (-5)]) (rest := []) rfl rfl (Nat.le_of_ble_eq_true rfl) dX6_set_29 (fun r29 I29 L29 hp29 => ?_)
        obtain ⟨rfl, e1, e2⟩ := hp29
        have e1 := e1.symm
        have e2 := e2.symm
        subst e1; subst e2
        refine v_st (st' := [.int (nI 0)]) rfl ?_
        exact v_iret X Y dX6_set_32 (⟨Or.inr ⟨t, i', j', htt, hi, hj, rfl, rfl, rfl, Or.inl ⟨h23, rfl, rfl⟩⟩, rfl⟩)
    · exact absurd h7 (by decide)
  · refine v_st (st' := [.int (nI 0)]) rfl ?_
    refine v_if_ne_n X (by omega) dX6_set_7 (tgt := 17) (by decide) (fun h7 => ?_) (fun h7 => ?_)
    · exact absurd h7 (by decide)
    · refine v_aload_n X 0 rfl dX6_set_10 ?_
      refine v_bipush X (v := (-3)) dX6_set_11 (by decide) ?_
      refine v_callV X (c_X6_none _ _ hE _ _ 3 (by decide) (by decide)) k_X6_106 dl_30 (cef_30 _ _ _ _) rfl ⟨rfl, rfl, Nat.le_of_ble_eq_true rfl, Nat.le_of_ble_eq_true rfl⟩ (As := [.int (-3)]) (rest := []) rfl rfl (Nat.le_of_ble_eq_true rfl) dX6_set_13 (fun r13 I13 L13 hp13 => ?_)
      obtain ⟨rfl, e1, e2⟩ := hp13
      have e1 := e1.symm
      have e2 := e2.symm
      subst e1; subst e2
      refine v_st (st' := [.int (nI 0)]) rfl ?_
      exact v_iret X Y dX6_set_16 (⟨Or.inl ⟨hno, rfl, rfl⟩, rfl⟩)
set_option maxHeartbeats 4000000 in
set_option maxRecDepth 100000 in
theorem c_X6_drop (l : Launch) (E : VE) (hE : EOk E) (I : TI) (L : TL) (c : Nat) (hc : I 30 0 5 = nI c) (hc12 : c ≤ 12) : Ct l E yX6_drop cX6_drop 1 (some .int) rm_X6_drop [.ref (eA E 30 0)] I L (fun r I' L' => ((c = 0 ∧ MEF I I' r 2) ∨ (0 < c ∧ r = some (.int (nI (c - 1))) ∧ I' = upI I 30 0 5 (nI (c - 1)))) ∧ L' = L) := by
  refine ct_of (by decide +kernel) (Nat.le_of_ble_eq_true rfl) hE ?_
  intro a X Y hl hEE
  subst hl; subst hEE
  show V a 0 [(0, .ref (eA (vE a) 30 0))] [] I L
  refine v_aload_n X 0 rfl dX6_drop_0 ?_
  refine gf_X6_84 X dX6_drop_1 ?_
  refine v_eqi (y := (nI c)) (hc) ?_
  refine v_if_ne_n X (by omega) dX6_drop_4 (tgt := 14) (by decide) (fun h4 => ?_) (fun h4 => ?_)
  · refine v_aload_n X 0 rfl dX6_drop_14 ?_
    refine v_dup X dX6_drop_15 rfl ?_
    refine gf_X6_84 X dX6_drop_16 ?_
    refine v_eqi (y := (nI c)) (hc) ?_
    refine v_iconst X (v := (nI 1)) dX6_drop_19 (by decide) ?_
    refine v_isub X dX6_drop_20 ?_
    refine v_eqi (y := (nI (c - 1))) (pk_sub (by omega)) ?_
    refine pf_X6_84 X dX6_drop_21 ?_
    refine v_aload_n X 0 rfl dX6_drop_24 ?_
    refine gf_X6_84 X dX6_drop_25 ?_
    refine v_eqi (y := (nI (c - 1))) (upI_eq) ?_
    exact v_iret X Y dX6_drop_28 (⟨Or.inr ⟨h4, rfl, rfl⟩, rfl⟩)
  · refine v_aload_n X 0 rfl dX6_drop_7 ?_
    refine v_bipush X (v := (-2)) dX6_drop_8 (by decide) ?_
    refine v_callV X (c_X6_no _ _ hE _ _ 2 (by decide) (by decide)) k_X6_80 dl_30 (cef_30 _ _ _ _) rfl ⟨rfl, rfl, Nat.le_of_ble_eq_true rfl, Nat.le_of_ble_eq_true rfl⟩ (As := [.int (-2)]) (rest := []) rfl rfl (Nat.le_of_ble_eq_true rfl) dX6_drop_10 (fun r10 I10 L10 hp10 => ?_)
    obtain ⟨rfl, e1, e2⟩ := hp10
    have e1 := e1.symm
    have e2 := e2.symm
    subst e1; subst e2
    refine v_st (st' := [.int (-2)]) rfl ?_
    exact v_iret X Y dX6_drop_13 (⟨Or.inl ⟨h4, rfl, rfl⟩, rfl⟩)
set_option maxHeartbeats 4000000 in
set_option maxRecDepth 100000 in
theorem c_X6_table (l : Launch) (E : VE) (hE : EOk E) (I : TI) (L : TL) (c : Nat) (ro co : Nat → Nat) (hT : MT I c ro co) (n m : Int32) : Ct l E yX6_table cX6_table 3 (some .int) rm_X6_table [.ref (eA E 30 0), .int n, .int m] I L (fun r I' L' => ((¬ (isD n ∧ isD m) ∧ MEF I I' r 7) ∨ (isD n ∧ isD m ∧ ((c = 12 ∧ MEF I I' r 8) ∨ (c < 12 ∧ r = some (.int (nI c)) ∧ BegM I I' c n m (nI 0))))) ∧ L' = L) := by
  refine ct_of (by decide +kernel) (Nat.le_of_ble_eq_true rfl) hE ?_
  intro a X Y hl hEE
  subst hl; subst hEE
  show V a 0 [(0, .ref (eA (vE a) 30 0)), (1, .int n), (2, .int m)] [] I L
  refine v_iload_n X 1 rfl dX6_table_0 ?_
  refine v_i2l X dX6_table_1 rfl ?_
  refine v_lconst X (v := 1) dX6_table_2 rfl ?_
  refine v_ldc2 X kc_X6_88 dX6_table_3 ?_
  refine v_callS X (c_X6_isIn _ _ hE _ _ n.toInt64 1 5) k_X6_90 ⟨rfl, rfl, Nat.le_of_ble_eq_true rfl, Nat.le_of_ble_eq_true rfl⟩ (As := [.long n.toInt64, .long 1, .long 5]) (rest := []) rfl rfl (Nat.le_of_ble_eq_true rfl) dX6_table_6 (fun r6 I6 L6 hp6 => ?_)
  obtain ⟨rfl, e1, e2⟩ := hp6
  have e1 := e1.symm
  have e2 := e2.symm
  subst e1; subst e2
  refine v_st (st' := [.int (bI (1 ≤ n.toInt64 ∧ n.toInt64 ≤ 5))]) rfl ?_
  refine v_ifb_eq X dX6_table_9 (tgt := 34) (by decide) (fun h9 => ?_) (fun h9 => ?_)
  · refine v_aload_n X 0 rfl dX6_table_34 ?_
    refine v_bipush X (v := (-7)) dX6_table_35 (by decide) ?_
    refine v_callV X (c_X6_no _ _ hE _ _ 7 (by decide) (by decide)) k_X6_80 dl_30 (cef_30 _ _ _ _) rfl ⟨rfl, rfl, Nat.le_of_ble_eq_true rfl, Nat.le_of_ble_eq_true rfl⟩ (As := [.int (-7)]) (rest := []) rfl rfl (Nat.le_of_ble_eq_true rfl) dX6_table_37 (fun r37 I37 L37 hp37 => ?_)
    obtain ⟨rfl, e1, e2⟩ := hp37
    have e1 := e1.symm
    have e2 := e2.symm
    subst e1; subst e2
    refine v_st (st' := [.int (-7)]) rfl ?_
    exact v_iret X Y dX6_table_40 (⟨Or.inl ⟨fun q => h9 (in_D.mpr q.1), rfl, rfl⟩, rfl⟩)
  · refine v_iload_n X 2 rfl dX6_table_12 ?_
    refine v_i2l X dX6_table_13 rfl ?_
    refine v_lconst X (v := 1) dX6_table_14 rfl ?_
    refine v_ldc2 X kc_X6_88 dX6_table_15 ?_
    refine v_callS X (c_X6_isIn _ _ hE _ _ m.toInt64 1 5) k_X6_90 ⟨rfl, rfl, Nat.le_of_ble_eq_true rfl, Nat.le_of_ble_eq_true rfl⟩ (As := [.long m.toInt64, .long 1, .long 5]) (rest := []) rfl rfl (Nat.le_of_ble_eq_true rfl) dX6_table_18 (fun r18 I18 L18 hp18 => ?_)
    obtain ⟨rfl, e1, e2⟩ := hp18
    have e1 := e1.symm
    have e2 := e2.symm
    subst e1; subst e2
    refine v_st (st' := [.int (bI (1 ≤ m.toInt64 ∧ m.toInt64 ≤ 5))]) rfl ?_
    refine v_ifb_eq X dX6_table_21 (tgt := 34) (by decide) (fun h21 => ?_) (fun h21 => ?_)
    · refine v_aload_n X 0 rfl dX6_table_34 ?_
      refine v_bipush X (v := (-7)) dX6_table_35 (by decide) ?_
      refine v_callV X (c_X6_no _ _ hE _ _ 7 (by decide) (by decide)) k_X6_80 dl_30 (cef_30 _ _ _ _) rfl ⟨rfl, rfl, Nat.le_of_ble_eq_true rfl, Nat.le_of_ble_eq_true rfl⟩ (As := [.int (-7)]) (rest := []) rfl rfl (Nat.le_of_ble_eq_true rfl) dX6_table_37 (fun r37 I37 L37 hp37 => ?_)
      obtain ⟨rfl, e1, e2⟩ := hp37
      have e1 := e1.symm
      have e2 := e2.symm
      subst e1; subst e2
      refine v_st (st' := [.int (-7)]) rfl ?_
      exact v_iret X Y dX6_table_40 (⟨Or.inl ⟨fun q => h21 (in_D.mpr q.2), rfl, rfl⟩, rfl⟩)
    · refine v_aload_n X 0 rfl dX6_table_24 ?_
      refine v_iload_n X 1 rfl dX6_table_25 ?_
      refine v_iload_n X 2 rfl dX6_table_26 ?_
      refine v_iconst X (v := (nI 0)) dX6_table_27 (by decide) ?_
      refine v_callV X (c_X6_begins _ _ hE _ _ c (hT.1) hT.2.1 n m (nI 0)) k_X6_94 dl_30 (cef_30 _ _ _ _) rfl ⟨rfl, rfl, Nat.le_of_ble_eq_true rfl, Nat.le_of_ble_eq_true rfl⟩ (As := [.int n, .int m, .int (nI 0)]) (rest := []) rfl rfl (Nat.le_of_ble_eq_true rfl) dX6_table_28 (fun r28 I28 L28 hp28 => ?_)
      obtain ⟨ho28, e2⟩ := hp28
      have e2 := e2.symm
      subst e2
      rcases ho28 with ⟨hfull, rfl, e1⟩ | ⟨hcl, rfl, hB⟩
      · have e1 := e1.symm
        subst e1
        refine v_st (st' := [.int (-nI 8)]) rfl ?_
        refine v_goto X (tgt := 40) dX6_table_31 (by decide) ?_
        exact v_iret X Y dX6_table_40 (⟨Or.inr ⟨in_D.mp h9, in_D.mp h21, Or.inl ⟨hfull, rfl, rfl⟩⟩, rfl⟩)
      · refine v_st (st' := [.int (nI c)]) rfl ?_
        refine v_goto X (tgt := 40) dX6_table_31 (by decide) ?_
        exact v_iret X Y dX6_table_40 (⟨Or.inr ⟨in_D.mp h9, in_D.mp h21, Or.inr ⟨hcl, rfl, hB⟩⟩, rfl⟩)
