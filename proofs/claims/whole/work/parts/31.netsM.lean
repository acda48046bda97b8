/-! the model's nets -/
section MW
variable {I I1 I2 : TI} {L1 L2 : TL} {w ln sc q s T to : Nat} {kd pl wt : Nat → Nat}
def webM (I : TI) (w ln sc : Nat) (kd pl wt : Nat → Nat) : Prop := I 36 0 w = nI ln ∧ I 37 0 w = nI sc ∧ ∀ s, s < sc → I 38 0 (16 * w + s) = nI (kd s) ∧ I 39 0 (16 * w + s) = nI (pl s) ∧ I 40 0 (16 * w + s) = nI (wt s)
def MN (I : TI) (n : Nat) (ln sc : Nat → Nat) (kd pl wt : Nat → Nat → Nat) : Prop := I 30 0 11 = nI n ∧ n ≤ 4 ∧ ∀ w, w < n → webM I w (ln w) (sc w) (kd w) (pl w) (wt w) ∧ netOk (ln w) (sc w) (kd w) (pl w) (wt w)
theorem webM_fr {S : List (Nat × Nat)} (h : Fr S I I1) (h6 : (36, 0) ∉ S) (h7 : (37, 0) ∉ S) (h8 : (38, 0) ∉ S) (h9 : (39, 0) ∉ S) (h0 : (40, 0) ∉ S) (g : webM I w ln sc kd pl wt) : webM I1 w ln sc kd pl wt := by
  unfold webM
  rw [h 36 0 h6, h 37 0 h7, h 38 0 h8, h 39 0 h9, h 40 0 h0]
  exact g
theorem over_ok' : ∀ T, T < 32 → ∀ f, f < 5 → ∀ g, g < 5 → (¬ bitN T f ∨ bitN T g ∨ (((nI T &&& (nI (2 ^ f) ^^^ (-1))) ||| nI (2 ^ g)) = nI (T ^^^ (2 ^ f ||| 2 ^ g)) ∧ T ^^^ (2 ^ f ||| 2 ^ g) ≠ T)) := by decide +kernel
theorem over_ok {f g : Nat} (hT : T < 32) (hf : f < 5) (hg : g < 5) (h1 : bitN T f) (h2 : ¬ bitN T g) : ((nI T &&& (nI (2 ^ f) ^^^ (-1))) ||| nI (2 ^ g)) = nI (T ^^^ (2 ^ f ||| 2 ^ g)) ∧ T ^^^ (2 ^ f ||| 2 ^ g) ≠ T := ((over_ok' T hT f hf g hg).resolve_left (fun z => z h1)).resolve_left h2
theorem in_K {i : Int32} (h1 : 1 ≤ ln) (h5 : ln ≤ 5) : ((0 : Int64) ≤ i.toInt64 ∧ i.toInt64 ≤ (nI ln - nI 2).toInt64) ↔ (0 ≤ i ∧ i < nI (ln - 1)) := by
  rw [show (0 : Int64) = (0 : Int32).toInt64 by decide, wide_le, wide_le, Int32.le_iff_toInt_le, Int32.le_iff_toInt_le, Int32.lt_iff_toInt_lt]
  have e : ∀ n, n < 6 → 1 ≤ n → (nI n - nI 2).toInt = (nI (n - 1)).toInt - 1 := by decide +kernel
  rw [e ln (by omega) h1]
  omega
theorem in_K2 {i : Int32} (h1 : 1 ≤ ln) (h5 : ln ≤ 5) : ((0 : Int64) ≤ i.toInt64 ∧ i.toInt64 ≤ (nI ln - nI 1).toInt64) ↔ (0 ≤ i ∧ i < nI ln) := by
  rw [show (0 : Int64) = (0 : Int32).toInt64 by decide, wide_le, wide_le, Int32.le_iff_toInt_le, Int32.le_iff_toInt_le, Int32.lt_iff_toInt_lt]
  have e : ∀ n, n < 6 → 1 ≤ n → (nI n - nI 1).toInt = (nI n).toInt - 1 := by decide +kernel
  rw [e ln (by omega) h1]
  omega
theorem in_9 {s : Int32} : ((1 : Int64) ≤ s.toInt64 ∧ s.toInt64 ≤ 9) ↔ (nI 1 ≤ s ∧ s ≤ nI 9) := by
  rw [show (1 : Int64) = (nI 1).toInt64 by decide, show (9 : Int64) = (nI 9).toInt64 by decide, wide_le, wide_le]
theorem tk_in {k i : Int32} (h : tkP ln k i) : 0 ≤ k ∧ k ≤ nI 2 := by
  rcases h with ⟨rfl | rfl, -⟩ | ⟨rfl, -⟩ <;> exact ⟨by decide, by decide⟩
theorem tk_2 {i : Int32} : tkP ln (nI 2) i ↔ (0 ≤ i ∧ i < nI ln) := by
  constructor
  · rintro (⟨h | h, -⟩ | ⟨-, h⟩)
    · exact absurd h (by decide)
    · exact absurd h (by decide)
    · exact h
  · intro h
    exact Or.inr ⟨rfl, h⟩
theorem tk_01 {k i : Int32} (h0 : 0 ≤ k ∧ k ≤ nI 2) (h2 : ¬ k = nI 2) : tkP ln k i ↔ (0 ≤ i ∧ i < nI (ln - 1)) := by
  obtain ⟨j, hj, rfl⟩ := ix_of' h0.1 h0.2 (by decide)
  have e : j = 0 ∨ j = 1 := by
    rcases (show j = 0 ∨ j = 1 ∨ j = 2 by omega) with h | h | h
    · exact Or.inl h
    · exact Or.inr h
    · subst h; exact absurd rfl h2
  constructor
  · rintro (⟨-, h⟩ | ⟨h, -⟩)
    · exact h
    · exact absurd h h2
  · intro h
    refine Or.inl ⟨?_, h⟩
    rcases e with rfl | rfl
    · exact Or.inl rfl
    · exact Or.inr rfl
/-- a row of the ways ahead -/
def WR (I1 : TI) (L1 : TL) (sc : Nat) (kd pl wt : Nat → Nat) (to s T : Nat) : Prop := I1 44 0 (32 * s + T) = (wy sc kd pl (wvl 0 wt) to (sc - s) T).toInt32 ∧ L1 45 0 (32 * s + T) = wy sc kd pl (wvl 1 wt) to (sc - s) T
theorem WR.put {v : Int32} {z : Int64} (h : ∀ T', T' < T → WR I1 L1 sc kd pl wt to q T') (hv : v = (wy sc kd pl (wvl 0 wt) to (sc - q) T).toInt32) (hz : z = wy sc kd pl (wvl 1 wt) to (sc - q) T) : ∀ T', T' < T + 1 → WR (upI I1 44 0 (32 * q + T) v) (upL L1 45 0 (32 * q + T) z) sc kd pl wt to q T' := fun T' hT' => by
  by_cases e : T' = T
  · subst e
    exact ⟨upI_eq.trans hv, upL_eq.trans hz⟩
  · exact ⟨(upI_x (by omega)).trans (h T' (by omega)).1, (upL_x (by omega)).trans (h T' (by omega)).2⟩
theorem WR.off {v : Int32} {z : Int64} (hT : T < 32) (h : ∀ s, q + 1 ≤ s → s ≤ sc → ∀ T', T' < 32 → WR I1 L1 sc kd pl wt to s T') : ∀ s, q + 1 ≤ s → s ≤ sc → ∀ T', T' < 32 → WR (upI I1 44 0 (32 * q + T) v) (upL L1 45 0 (32 * q + T) z) sc kd pl wt to s T' := fun s h1 h2 T' h3 =>
  ⟨(upI_x (by omega)).trans (h s h1 h2 T' h3).1, (upL_x (by omega)).trans (h s h1 h2 T' h3).2⟩
theorem tI_add (a b : Int64) : (a + b).toInt32 = a.toInt32 + b.toInt32 := Int64.toInt32_add a b
/-- on a line, weighed -/
theorem WR.on (hq : q < sc) (hr : WR I1 L1 sc kd pl wt to (q + 1) T) (h2 : kd q = 2) (hb : bitN T (pl q)) :
    I1 44 0 (32 * q + T + 32) + nI 0 = (wy sc kd pl (wvl 0 wt) to (sc - q) T).toInt32 ∧ L1 45 0 (32 * q + T + 32) * (nI (wt q)).toInt64 + 0 = wy sc kd pl (wvl 1 wt) to (sc - q) T := by
  unfold WR at hr
  rw [show 32 * q + T + 32 = 32 * (q + 1) + T by omega, hr.1, hr.2, wy_s hq, wy_s hq]
  unfold frs
  rw [if_pos ⟨h2, hb⟩, if_pos ⟨h2, hb⟩]
  constructor
  · show _ + (0 : Int32) = ((1 : Int64) * _).toInt32
    rw [Int64.one_mul, Int32.add_zero]
  · rw [Int64.add_zero, Int64.mul_comm]
    rfl
theorem WR.st (hq : q < sc) (hr : WR I1 L1 sc kd pl wt to (q + 1) T) (h2 : ¬ (kd q = 2 ∧ bitN T (pl q))) (ha : aft (kd q) (pl q) T = T) :
    I1 44 0 (32 * q + T + 32) + nI 0 = (wy sc kd pl (wvl 0 wt) to (sc - q) T).toInt32 ∧ L1 45 0 (32 * q + T + 32) * (nI 1).toInt64 + 0 = wy sc kd pl (wvl 1 wt) to (sc - q) T := by
  unfold WR at hr
  rw [show 32 * q + T + 32 = 32 * (q + 1) + T by omega, hr.1, hr.2, wy_s hq, wy_s hq]
  unfold frs
  rw [if_neg h2, if_neg h2, if_pos ha, if_pos ha]
  constructor
  · show _ + (0 : Int32) = _
    rw [Int32.add_zero]
  · show _ * (1 : Int64) + 0 = _
    rw [Int64.add_zero, Int64.mul_one]
theorem WR.go (hq : q < sc) (hr : WR I1 L1 sc kd pl wt to (q + 1) T) (hs : WR I1 L1 sc kd pl wt to (q + 1) (aft (kd q) (pl q) T)) (h2 : ¬ kd q = 2) (ha : ¬ aft (kd q) (pl q) T = T) :
    I1 44 0 (32 * q + T + 32) + I1 44 0 (32 * q + 32 + aft (kd q) (pl q) T) = (wy sc kd pl (wvl 0 wt) to (sc - q) T).toInt32 ∧ L1 45 0 (32 * q + T + 32) * (nI 1).toInt64 + (nI (wt q)).toInt64 * L1 45 0 (32 * q + 32 + aft (kd q) (pl q) T) = wy sc kd pl (wvl 1 wt) to (sc - q) T := by
  unfold WR at hr hs
  rw [show 32 * q + T + 32 = 32 * (q + 1) + T by omega, show 32 * q + 32 + aft (kd q) (pl q) T = 32 * (q + 1) + aft (kd q) (pl q) T by omega, hr.1, hr.2, hs.1, hs.2, wy_s hq, wy_s hq]
  unfold frs
  have h22 : ¬ (kd q = 2 ∧ bitN T (pl q)) := fun z => h2 z.1
  rw [if_neg h22, if_neg h22, if_neg ha, if_neg ha]
  constructor
  · rw [tI_add]
    show _ = _ + ((1 : Int64) * _).toInt32
    rw [Int64.one_mul]
  · show _ * (1 : Int64) + _ = _
    rw [Int64.mul_one]
    rfl
/-- the ways are few: as a number -/
theorem wy_few {b : Nat} (hb : b = 0) (h : netOk ln sc kd pl wt) {m : Nat} (hm : m ≤ sc) (T : Nat) : ∃ q, q ≤ 65536 ∧ wy sc kd pl (wvl b wt) to m T = lN q := by
  subst hb
  obtain ⟨q, h1, h2⟩ := wy_lN (B := 1) (to := to) (pl := pl) (kd := kd) (wv := wvl 0 wt) (Nat.le_refl 1) (fun s hs => ⟨1, Nat.le_refl 1, rfl⟩) m hm T
  have h3 : (1 + 1) ^ m ≤ 2 ^ 16 := Nat.pow_le_pow_right (by decide) (Nat.le_trans hm h.2.2.1)
  exact ⟨q, by omega, h2⟩
theorem lN_tI {q : Nat} (h : q < 2 ^ 31) : (lN q).toInt32 = nI q := by
  rw [← nI_l h]
  exact Int32.toInt32_toInt64 _
end MW

set_option maxHeartbeats 4000000 in
set_option maxRecDepth 100000 in
theorem c_X6_isNet (l : Launch) (E : VE) (hE : EOk E) (I : TI) (L : TL) (n : Nat) (hc : I 30 0 11 = nI n) (x : Int32) : Ct l E yX6_isNet cX6_isNet 2 (some .boolean) rm_X6_isNet [.ref (eA E 30 0), .int x] I L (fun r I' L' => r = some (.int (bI (inR n x))) ∧ I' = I ∧ L' = L) := by
  refine ct_of (by decide +kernel) (Nat.le_of_ble_eq_true rfl) hE ?_
  intro a X Y hl hEE
  subst hl; subst hEE
  show V a 0 [(0, .ref (eA (vE a) 30 0)), (1, .int x)] [] I L
  refine v_iload_n X 1 rfl dX6_isNet_0 ?_
  refine v_if_lt X dX6_isNet_1 (tgt := 16) (by decide) (fun h1 => ?_) (fun h1 => ?_)
  · refine v_iconst X (v := (nI 0)) dX6_isNet_16 (by decide) ?_
    exact v_zret X Y (rfl) dX6_isNet_17 (⟨retF fun q => absurd q.1 (Int32.not_le.mpr h1), rfl, rfl⟩)
  · refine v_iload_n X 1 rfl dX6_isNet_4 ?_
    refine v_aload_n X 0 rfl dX6_isNet_5 ?_
    refine gf_X6_168 X dX6_isNet_6 ?_
    refine v_eqi (y := (nI n)) (hc) ?_
    refine v_icmp_ge X dX6_isNet_9 (tgt := 16) (by decide) (fun h9 => ?_) (fun h9 => ?_)
    · refine v_iconst X (v := (nI 0)) dX6_isNet_16 (by decide) ?_
      exact v_zret X Y (rfl) dX6_isNet_17 (⟨retF fun q => absurd q.2 (Int32.not_lt.mpr h9), rfl, rfl⟩)
    · refine v_iconst X (v := (nI 1)) dX6_isNet_12 (by decide) ?_
      refine v_goto X (tgt := 17) dX6_isNet_13 (by decide) ?_
      exact v_zret X Y (rfl) dX6_isNet_17 (⟨retT ⟨Int32.not_lt.mp h1, Int32.not_le.mp h9⟩, rfl, rfl⟩)
set_option maxHeartbeats 4000000 in
set_option maxRecDepth 100000 in
theorem c_X6_net (l : Launch) (E : VE) (hE : EOk E) (I : TI) (L : TL) (n : Nat) (hn : I 30 0 11 = nI n) (hn4 : n ≤ 4) (x : Int32) : Ct l E yX6_net cX6_net 2 (some .int) rm_X6_net [.ref (eA E 30 0), .int x] I L (fun r I' L' => ((¬ isD x ∧ MEF I I' r 7) ∨ (isD x ∧ n = 4 ∧ MEF I I' r 8) ∨ (isD x ∧ n < 4 ∧ r = some (.int (nI n)) ∧ I' = upI (upI (upI I 36 0 n x) 37 0 n (nI 0)) 30 0 11 (nI (n + 1)))) ∧ L' = L) := by
  refine ct_of (by decide +kernel) (Nat.le_of_ble_eq_true rfl) hE ?_
  intro a X Y hl hEE
  subst hl; subst hEE
  show V a 0 [(0, .ref (eA (vE a) 30 0)), (1, .int x)] [] I L
  refine v_iload_n X 1 rfl dX6_net_0 ?_
  refine v_i2l X dX6_net_1 rfl ?_
  refine v_lconst X (v := 1) dX6_net_2 rfl ?_
  refine v_ldc2 X kc_X6_88 dX6_net_3 ?_
  refine v_callS X (c_X6_isIn _ _ hE _ _ x.toInt64 1 5) k_X6_90 ⟨rfl, rfl, Nat.le_of_ble_eq_true rfl, Nat.le_of_ble_eq_true rfl⟩ (As := [.long x.toInt64, .long 1, .long 5]) (rest := []) rfl rfl (Nat.le_of_ble_eq_true rfl) dX6_net_6 (fun r6 I6 L6 hp6 => ?_)
  obtain ⟨rfl, e1, e2⟩ := hp6
  have e1 := e1.symm
  have e2 := e2.symm
  subst e1; subst e2
  refine v_st (st' := [.int (bI (1 ≤ x.toInt64 ∧ x.toInt64 ≤ 5))]) rfl ?_
  refine v_ifb_ne X dX6_net_9 (tgt := 19) (by decide) (fun h9 => ?_) (fun h9 => ?_)
  · refine v_aload_n X 0 rfl dX6_net_19 ?_
    refine gf_X6_168 X dX6_net_20 ?_
    refine v_eqi (y := (nI n)) (hn) ?_
    refine v_iconst X (v := (nI 4)) dX6_net_23 (by decide) ?_
    refine v_icmp_ne_n X (by omega) (by omega) dX6_net_24 (tgt := 34) (by decide) (fun h24 => ?_) (fun h24 => ?_)
    · refine v_aload_n X 0 rfl dX6_net_34 ?_
      refine gf_X6_25 X dX6_net_35 ?_
      refine v_aload_n X 0 rfl dX6_net_38 ?_
      refine gf_X6_168 X dX6_net_39 ?_
      refine v_eqi (y := (nI n)) (hn) ?_
      refine v_iload_n X 1 rfl dX6_net_42 ?_
      refine v_iast_n X dl_36 (fun _ _ => rfl) (n := 4) (by omega) (by decide) dX6_net_43 ?_
      refine v_aload_n X 0 rfl dX6_net_44 ?_
      refine gf_X6_28 X dX6_net_45 ?_
      refine v_aload_n X 0 rfl dX6_net_48 ?_
      refine gf_X6_168 X dX6_net_49 ?_
      refine v_eqi (y := (nI n)) ((upI_k (by decide)).trans (hn)) ?_
      refine v_iconst X (v := (nI 0)) dX6_net_52 (by decide) ?_
      refine v_iast_n X dl_37 (fun _ _ => rfl) (n := 4) (by omega) (by decide) dX6_net_53 ?_
      refine v_aload_n X 0 rfl dX6_net_54 ?_
      refine v_dup X dX6_net_55 rfl ?_
      refine gf_X6_168 X dX6_net_56 ?_
      refine v_eqi (y := (nI n)) ((upI_k (by decide)).trans ((upI_k (by decide)).trans (hn))) ?_
      refine v_iconst X (v := (nI 1)) dX6_net_59 (by decide) ?_
      refine v_iadd X dX6_net_60 ?_
      refine v_eqi (y := (nI (n + 1))) (nI_add _ _) ?_
      refine pf_X6_168 X dX6_net_61 ?_
      refine v_aload_n X 0 rfl dX6_net_64 ?_
      refine gf_X6_168 X dX6_net_65 ?_
      refine v_eqi (y := (nI (n + 1))) (upI_eq) ?_
      refine v_iconst X (v := (nI 1)) dX6_net_68 (by decide) ?_
      refine v_isub X dX6_net_69 ?_
      refine v_eqi (y := (nI ((n + 1) - 1))) (pk_sub (by omega)) ?_
      exact v_iret X Y dX6_net_70 (⟨Or.inr (Or.inr ⟨in_D.mp h9, by omega, rfl, rfl⟩), rfl⟩)
    · refine v_aload_n X 0 rfl dX6_net_27 ?_
      refine v_bipush X (v := (-8)) dX6_net_28 (by decide) ?_
      refine v_callV X (c_X6_no _ _ hE _ _ 8 (by decide) (by decide)) k_X6_80 dl_30 (cef_30 _ _ _ _) rfl ⟨rfl, rfl, Nat.le_of_ble_eq_true rfl, Nat.le_of_ble_eq_true rfl⟩ (As := [.int (-8)]) (rest := []) rfl rfl (Nat.le_of_ble_eq_true rfl) dX6_net_30 (fun r30 I30 L30 hp30 => ?_)
      obtain ⟨rfl, e1, e2⟩ := hp30
      have e1 := e1.symm
      have e2 := e2.symm
      subst e1; subst e2
      refine v_st (st' := [.int (-8)]) rfl ?_
      exact v_iret X Y dX6_net_33 (⟨Or.inr (Or.inl ⟨in_D.mp h9, h24, rfl, rfl⟩), rfl⟩)
  · refine v_aload_n X 0 rfl dX6_net_12 ?_
    refine v_bipush X (v := (-7)) dX6_net_13 (by decide) ?_
    refine v_callV X (c_X6_no _ _ hE _ _ 7 (by decide) (by decide)) k_X6_80 dl_30 (cef_30 _ _ _ _) rfl ⟨rfl, rfl, Nat.le_of_ble_eq_true rfl, Nat.le_of_ble_eq_true rfl⟩ (As := [.int (-7)]) (rest := []) rfl rfl (Nat.le_of_ble_eq_true rfl) dX6_net_15 (fun r15 I15 L15 hp15 => ?_)
    obtain ⟨rfl, e1, e2⟩ := hp15
    have e1 := e1.symm
    have e2 := e2.symm
    subst e1; subst e2
    refine v_st (st' := [.int (-7)]) rfl ?_
    exact v_iret X Y dX6_net_18 (⟨Or.inl ⟨fun q => h9 (in_D.mpr q), rfl, rfl⟩, rfl⟩)
set_option maxHeartbeats 4000000 in
set_option maxRecDepth 100000 in
theorem c_X6_step (l : Launch) (E : VE) (hE : EOk E) (I : TI) (L : TL) (n : Nat) (ln sc : Nat → Nat) (kd pl wt : Nat → Nat → Nat) (hN : MN I n ln sc kd pl wt) (x k i v : Int32) : Ct l E yX6_step cX6_step 6 (some .int) rm_X6_step [.ref (eA E 30 0), .int x, .int k, .int i, .int v] I L (fun r I' L' => (¬ isT n x ∧ MEF I I' r 3 ∧ L' = L) ∨ (∃ w, w < n ∧ x = nI w ∧ ((¬ (tkP (ln w) k i ∧ nI 1 ≤ v ∧ v ≤ nI 9) ∧ MEF I I' r 7 ∧ L' = L) ∨ ((tkP (ln w) k i ∧ nI 1 ≤ v ∧ v ≤ nI 9) ∧ ((sc w = 16 ∧ MEF I I' r 8 ∧ L' = L) ∨ (sc w < 16 ∧ r = some (.int (nI (sc w + 1))) ∧ I' = upI (upI (upI (upI I 38 0 (16 * w + sc w) k) 39 0 (16 * w + sc w) i) 40 0 (16 * w + sc w) v) 37 0 w (nI (sc w + 1)) ∧ L' = L)))))) := by
  refine ct_of (by decide +kernel) (Nat.le_of_ble_eq_true rfl) hE ?_
  intro a X Y hl hEE
  subst hl; subst hEE
  show V a 0 [(0, .ref (eA (vE a) 30 0)), (1, .int x), (2, .int k), (3, .int i), (4, .int v)] [] I L
  refine v_aload_n X 0 rfl dX6_step_0 ?_
  refine v_iload_n X 1 rfl dX6_step_1 ?_
  refine v_callV X (c_X6_isNet _ _ hE _ _ n (hN.1) x) k_X6_171 dl_30 (cef_30 _ _ _ _) rfl ⟨rfl, rfl, Nat.le_of_ble_eq_true rfl, Nat.le_of_ble_eq_true rfl⟩ (As := [.int x]) (rest := []) rfl rfl (Nat.le_of_ble_eq_true rfl) dX6_step_2 (fun r2 I2 L2 hp2 => ?_)
  obtain ⟨rfl, e1, e2⟩ := hp2
  have e1 := e1.symm
  have e2 := e2.symm
  subst e1; subst e2
  refine v_st (st' := [.int (bI (inR n x))]) rfl ?_
  refine v_ifb_ne X dX6_step_5 (tgt := 15) (by decide) (fun h5 => ?_) (fun h5 => ?_)
  · obtain ⟨w, hw, rfl⟩ := inR_of (by have := hN.2.1; omega) h5
    have hn4 := hN.2.1
    obtain ⟨hweb, hok⟩ := hN.2.2 w hw
    obtain ⟨hl1, hl5, hsc16, hst⟩ := id hok
    have hw4 : w < 4 := by omega
    refine v_iload_n X 2 rfl dX6_step_15 ?_
    refine v_i2l X dX6_step_16 rfl ?_
    refine v_lconst X (v := 0) dX6_step_17 rfl ?_
    refine v_ldc2 X kc_X6_166 dX6_step_18 ?_
    refine v_callS X (c_X6_isIn _ _ hE _ _ k.toInt64 0 2) k_X6_90 ⟨rfl, rfl, Nat.le_of_ble_eq_true rfl, Nat.le_of_ble_eq_true rfl⟩ (As := [.long k.toInt64, .long 0, .long 2]) (rest := []) rfl rfl (Nat.le_of_ble_eq_true rfl) dX6_step_21 (fun r21 I21 L21 hp21 => ?_)
    obtain ⟨rfl, e1, e2⟩ := hp21
    have e1 := e1.symm
    have e2 := e2.symm
    subst e1; subst e2
    refine v_st (st' := [.int (bI (0 ≤ k.toInt64 ∧ k.toInt64 ≤ 2))]) rfl ?_
    refine v_ifb_eq X dX6_step_24 (tgt := 67) (by decide) (fun h24 => ?_) (fun h24 => ?_)
    · refine v_aload_n X 0 rfl dX6_step_67 ?_
      refine v_bipush X (v := (-7)) dX6_step_68 (by decide) ?_
      refine v_callV X (c_X6_no _ _ hE _ _ 7 (by decide) (by decide)) k_X6_80 dl_30 (cef_30 _ _ _ _) rfl ⟨rfl, rfl, Nat.le_of_ble_eq_true rfl, Nat.le_of_ble_eq_true rfl⟩ (As := [.int (-7)]) (rest := []) rfl rfl (Nat.le_of_ble_eq_true rfl) dX6_step_70 (fun r70 I70 L70 hp70 => ?_)
      obtain ⟨rfl, e1, e2⟩ := hp70
      have e1 := e1.symm
      have e2 := e2.symm
      subst e1; subst e2
      refine v_st (st' := [.int (-7)]) rfl ?_
      exact v_iret X Y dX6_step_73 (Or.inr ⟨w, hw, rfl, Or.inl ⟨fun q => h24 (in_H.mpr (tk_in q.1)), ⟨rfl, rfl⟩, rfl⟩⟩)
    · refine v_iload_n X 3 rfl dX6_step_27 ?_
      refine v_i2l X dX6_step_28 rfl ?_
      refine v_lconst X (v := 0) dX6_step_29 rfl ?_
      refine v_aload_n X 0 rfl dX6_step_30 ?_
      refine gf_X6_25 X dX6_step_31 ?_
      refine v_iload_n X 1 rfl dX6_step_34 ?_
      refine v_iald_n X dl_36 (fun _ _ => rfl) (n := 4) (by omega) (by decide) dX6_step_35 ?_
      refine v_eqi (y := (nI (ln w))) (hweb.1) ?_
      refine v_iload_n X 2 rfl dX6_step_36 ?_
      refine v_iconst X (v := (nI 2)) dX6_step_37 (by decide) ?_
      refine v_icmp_ne X dX6_step_38 (tgt := 45) (by decide) (fun h38 => ?_) (fun h38 => ?_)
      · refine v_iconst X (v := (nI 2)) dX6_step_45 (by decide) ?_
        refine v_isub X dX6_step_46 ?_
        refine v_i2l X dX6_step_47 rfl ?_
        refine v_callS X (c_X6_isIn _ _ hE _ _ i.toInt64 0 (((nI (ln w)) - (nI 2)).toInt64)) k_X6_90 ⟨rfl, rfl, Nat.le_of_ble_eq_true rfl, Nat.le_of_ble_eq_true rfl⟩ (As := [.long i.toInt64, .long 0, .long (((nI (ln w)) - (nI 2)).toInt64)]) (rest := []) rfl rfl (Nat.le_of_ble_eq_true rfl) dX6_step_48 (fun r48 I48 L48 hp48 => ?_)
        obtain ⟨rfl, e1, e2⟩ := hp48
        have e1 := e1.symm
        have e2 := e2.symm
        subst e1; subst e2
        refine v_st (st' := [.int (bI (0 ≤ i.toInt64 ∧ i.toInt64 ≤ ((nI (ln w)) - (nI 2)).toInt64))]) rfl ?_
        refine v_ifb_eq X dX6_step_51 (tgt := 67) (by decide) (fun h51 => ?_) (fun h51 => ?_)
        · refine v_aload_n X 0 rfl dX6_step_67 ?_
          refine v_bipush X (v := (-7)) dX6_step_68 (by decide) ?_
          refine v_callV X (c_X6_no _ _ hE _ _ 7 (by decide) (by decide)) k_X6_80 dl_30 (cef_30 _ _ _ _) rfl ⟨rfl, rfl, Nat.le_of_ble_eq_true rfl, Nat.le_of_ble_eq_true rfl⟩ (As := [.int (-7)]) (rest := []) rfl rfl (Nat.le_of_ble_eq_true rfl) dX6_step_70 (fun r70 I70 L70 hp70 => ?_)
          obtain ⟨rfl, e1, e2⟩ := hp70
          have e1 := e1.symm
          have e2 := e2.symm
          subst e1; subst e2
          refine v_st (st' := [.int (-7)]) rfl ?_
          exact v_iret X Y dX6_step_73 (Or.inr ⟨w, hw, rfl, Or.inl ⟨fun q => h51 ((in_K hl1 hl5).mpr ((tk_01 (in_H.mp h24) h38).mp q.1)), ⟨rfl, rfl⟩, rfl⟩⟩)
        · refine v_iload X 4 rfl dX6_step_54 ?_
          refine v_i2l X dX6_step_56 rfl ?_
          refine v_lconst X (v := 1) dX6_step_57 rfl ?_
          refine v_ldc2 X kc_X6_174 dX6_step_58 ?_
          refine v_callS X (c_X6_isIn _ _ hE _ _ v.toInt64 1 9) k_X6_90 ⟨rfl, rfl, Nat.le_of_ble_eq_true rfl, Nat.le_of_ble_eq_true rfl⟩ (As := [.long v.toInt64, .long 1, .long 9]) (rest := []) rfl rfl (Nat.le_of_ble_eq_true rfl) dX6_step_61 (fun r61 I61 L61 hp61 => ?_)
          obtain ⟨rfl, e1, e2⟩ := hp61
          have e1 := e1.symm
          have e2 := e2.symm
          subst e1; subst e2
          refine v_st (st' := [.int (bI (1 ≤ v.toInt64 ∧ v.toInt64 ≤ 9))]) rfl ?_
          refine v_ifb_ne X dX6_step_64 (tgt := 74) (by decide) (fun h64 => ?_) (fun h64 => ?_)
          · refine v_aload_n X 0 rfl dX6_step_74 ?_
            refine gf_X6_28 X dX6_step_75 ?_
            refine v_iload_n X 1 rfl dX6_step_78 ?_
            refine v_iald_n X dl_37 (fun _ _ => rfl) (n := 4) (by omega) (by decide) dX6_step_79 ?_
            refine v_eqi (y := (nI (sc w))) (hweb.2.1) ?_
            refine v_bipush X (v := (nI 16)) dX6_step_80 (by decide) ?_
            refine v_icmp_ne_n X (by omega) (by omega) dX6_step_82 (tgt := 92) (by decide) (fun h82 => ?_) (fun h82 => ?_)
            · refine v_bipush X (v := (nI 16)) dX6_step_92 (by decide) ?_
              refine v_iload_n X 1 rfl dX6_step_94 ?_
              refine v_imul X dX6_step_95 ?_
              refine v_eqi (y := (nI (16 * w))) (pk_mul _ _) ?_
              refine v_aload_n X 0 rfl dX6_step_96 ?_
              refine gf_X6_28 X dX6_step_97 ?_
              refine v_iload_n X 1 rfl dX6_step_100 ?_
              refine v_iald_n X dl_37 (fun _ _ => rfl) (n := 4) (by omega) (by decide) dX6_step_101 ?_
              refine v_eqi (y := (nI (sc w))) (hweb.2.1) ?_
              refine v_iadd X dX6_step_102 ?_
              refine v_eqi (y := (nI ((16 * w) + (sc w)))) (nI_add _ _) ?_
              refine v_istore X [1, 2, 3, 4, 5, 0] (lv' := [(0, .ref (eA (vE a) 30 0)), (1, .int (nI w)), (2, .int k), (3, .int i), (4, .int v), (5, .int (nI ((16 * w) + (sc w))))]) (by decide) rfl dX6_step_103 ?_
              refine v_aload_n X 0 rfl dX6_step_105 ?_
              refine gf_X6_31 X dX6_step_106 ?_
              refine v_iload X 5 rfl dX6_step_109 ?_
              refine v_iload_n X 2 rfl dX6_step_111 ?_
              refine v_iast_n X dl_38 (fun _ _ => rfl) (n := 64) (by omega) (by decide) dX6_step_112 ?_
              refine v_aload_n X 0 rfl dX6_step_113 ?_
              refine gf_X6_34 X dX6_step_114 ?_
              refine v_iload X 5 rfl dX6_step_117 ?_
              refine v_iload_n X 3 rfl dX6_step_119 ?_
              refine v_iast_n X dl_39 (fun _ _ => rfl) (n := 64) (by omega) (by decide) dX6_step_120 ?_
              refine v_aload_n X 0 rfl dX6_step_121 ?_
              refine gf_X6_37 X dX6_step_122 ?_
              refine v_iload X 5 rfl dX6_step_125 ?_
              refine v_iload X 4 rfl dX6_step_127 ?_
              refine v_iast_n X dl_40 (fun _ _ => rfl) (n := 64) (by omega) (by decide) dX6_step_129 ?_
              refine v_aload_n X 0 rfl dX6_step_130 ?_
              refine gf_X6_28 X dX6_step_131 ?_
              refine v_iload_n X 1 rfl dX6_step_134 ?_
              refine v_dup2_11 X dX6_step_135 rfl rfl ?_
              refine v_iald_n X dl_37 (fun _ _ => rfl) (n := 4) (by omega) (by decide) dX6_step_136 ?_
              refine v_eqi (y := (nI (sc w))) ((upI_k (by decide)).trans ((upI_k (by decide)).trans ((upI_k (by decide)).trans (hweb.2.1)))) ?_
              refine v_iconst X (v := (nI 1)) dX6_step_137 (by decide) ?_
              refine v_iadd X dX6_step_138 ?_
              refine v_eqi (y := (nI ((sc w) + 1))) (nI_add _ _) ?_
              refine v_iast_n X dl_37 (fun _ _ => rfl) (n := 4) (by omega) (by decide) dX6_step_139 ?_
              refine v_aload_n X 0 rfl dX6_step_140 ?_
              refine gf_X6_28 X dX6_step_141 ?_
              refine v_iload_n X 1 rfl dX6_step_144 ?_
              refine v_iald_n X dl_37 (fun _ _ => rfl) (n := 4) (by omega) (by decide) dX6_step_145 ?_
              refine v_eqi (y := (nI ((sc w) + 1))) (upI_eq) ?_
              exact v_iret X Y dX6_step_146 (Or.inr ⟨w, hw, rfl, Or.inr ⟨⟨(tk_01 (in_H.mp h24) h38).mpr ((in_K hl1 hl5).mp h51), (in_9.mp h64).1, (in_9.mp h64).2⟩, Or.inr ⟨by omega, rfl, rfl, rfl⟩⟩⟩)
            · refine v_aload_n X 0 rfl dX6_step_85 ?_
              refine v_bipush X (v := (-8)) dX6_step_86 (by decide) ?_
              refine v_callV X (c_X6_no _ _ hE _ _ 8 (by decide) (by decide)) k_X6_80 dl_30 (cef_30 _ _ _ _) rfl ⟨rfl, rfl, Nat.le_of_ble_eq_true rfl, Nat.le_of_ble_eq_true rfl⟩ (As := [.int (-8)]) (rest := []) rfl rfl (Nat.le_of_ble_eq_true rfl) dX6_step_88 (fun r88 I88 L88 hp88 => ?_)
              obtain ⟨rfl, e1, e2⟩ := hp88
              have e1 := e1.symm
              have e2 := e2.symm
              subst e1; subst e2
              refine v_st (st' := [.int (-8)]) rfl ?_
              exact v_iret X Y dX6_step_91 (Or.inr ⟨w, hw, rfl, Or.inr ⟨⟨(tk_01 (in_H.mp h24) h38).mpr ((in_K hl1 hl5).mp h51), (in_9.mp h64).1, (in_9.mp h64).2⟩, Or.inl ⟨h82, ⟨rfl, rfl⟩, rfl⟩⟩⟩)
          · refine v_aload_n X 0 rfl dX6_step_67 ?_
            refine v_bipush X (v := (-7)) dX6_step_68 (by decide) ?_
            refine v_callV X (c_X6_no _ _ hE _ _ 7 (by decide) (by decide)) k_X6_80 dl_30 (cef_30 _ _ _ _) rfl ⟨rfl, rfl, Nat.le_of_ble_eq_true rfl, Nat.le_of_ble_eq_true rfl⟩ (As := [.int (-7)]) (rest := []) rfl rfl (Nat.le_of_ble_eq_true rfl) dX6_step_70 (fun r70 I70 L70 hp70 => ?_)
            obtain ⟨rfl, e1, e2⟩ := hp70
            have e1 := e1.symm
            have e2 := e2.symm
            subst e1; subst e2
            refine v_st (st' := [.int (-7)]) rfl ?_
            exact v_iret X Y dX6_step_73 (Or.inr ⟨w, hw, rfl, Or.inl ⟨fun q => h64 (in_9.mpr q.2), ⟨rfl, rfl⟩, rfl⟩⟩)
      · subst h38
        refine v_iconst X (v := (nI 1)) dX6_step_41 (by decide) ?_
        refine v_goto X (tgt := 46) dX6_step_42 (by decide) ?_
        refine v_isub X dX6_step_46 ?_
        refine v_i2l X dX6_step_47 rfl ?_
        refine v_callS X (c_X6_isIn _ _ hE _ _ i.toInt64 0 (((nI (ln w)) - (nI 1)).toInt64)) k_X6_90 ⟨rfl, rfl, Nat.le_of_ble_eq_true rfl, Nat.le_of_ble_eq_true rfl⟩ (As := [.long i.toInt64, .long 0, .long (((nI (ln w)) - (nI 1)).toInt64)]) (rest := []) rfl rfl (Nat.le_of_ble_eq_true rfl) dX6_step_48 (fun r48 I48 L48 hp48 => ?_)
        obtain ⟨rfl, e1, e2⟩ := hp48
        have e1 := e1.symm
        have e2 := e2.symm
        subst e1; subst e2
        refine v_st (st' := [.int (bI (0 ≤ i.toInt64 ∧ i.toInt64 ≤ ((nI (ln w)) - (nI 1)).toInt64))]) rfl ?_
        refine v_ifb_eq X dX6_step_51 (tgt := 67) (by decide) (fun h51 => ?_) (fun h51 => ?_)
        · refine v_aload_n X 0 rfl dX6_step_67 ?_
          refine v_bipush X (v := (-7)) dX6_step_68 (by decide) ?_
          refine v_callV X (c_X6_no _ _ hE _ _ 7 (by decide) (by decide)) k_X6_80 dl_30 (cef_30 _ _ _ _) rfl ⟨rfl, rfl, Nat.le_of_ble_eq_true rfl, Nat.le_of_ble_eq_true rfl⟩ (As := [.int (-7)]) (rest := []) rfl rfl (Nat.le_of_ble_eq_true rfl) dX6_step_70 (fun r70 I70 L70 hp70 => ?_)
          obtain ⟨rfl, e1, e2⟩ := hp70
          have e1 := e1.symm
          have e2 := e2.symm
          subst e1; subst e2
          refine v_st (st' := [.int (-7)]) rfl ?_
          exact v_iret X Y dX6_step_73 (Or.inr ⟨w, hw, rfl, Or.inl ⟨fun q => h51 ((in_K2 hl1 hl5).mpr (tk_2.mp q.1)), ⟨rfl, rfl⟩, rfl⟩⟩)
        · refine v_iload X 4 rfl dX6_step_54 ?_
          refine v_i2l X dX6_step_56 rfl ?_
          refine v_lconst X (v := 1) dX6_step_57 rfl ?_
          refine v_ldc2 X kc_X6_174 dX6_step_58 ?_
          refine v_callS X (c_X6_isIn _ _ hE _ _ v.toInt64 1 9) k_X6_90 ⟨rfl, rfl, Nat.le_of_ble_eq_true rfl, Nat.le_of_ble_eq_true rfl⟩ (As := [.long v.toInt64, .long 1, .long 9]) (rest := []) rfl rfl (Nat.le_of_ble_eq_true rfl) dX6_step_61 (fun r61 I61 L61 hp61 => ?_)
          obtain ⟨rfl, e1, e2⟩ := hp61
          have e1 := e1.symm
          have e2 := e2.symm
          subst e1; subst e2
          refine v_st (st' := [.int (bI (1 ≤ v.toInt64 ∧ v.toInt64 ≤ 9))]) rfl ?_
          refine v_ifb_ne X dX6_step_64 (tgt := 74) (by decide) (fun h64 => ?_) (fun h64 => ?_)
          · refine v_aload_n X 0 rfl dX6_step_74 ?_
            refine gf_X6_28 X dX6_step_75 ?_
            refine v_iload_n X 1 rfl dX6_step_78 ?_
            refine v_iald_n X dl_37 (fun _ _ => rfl) (n := 4) (by omega) (by decide) dX6_step_79 ?_
            refine v_eqi (y := (nI (sc w))) (hweb.2.1) ?_
            refine v_bipush X (v := (nI 16)) dX6_step_80 (by decide) ?_
            refine v_icmp_ne_n X (by omega) (by omega) dX6_step_82 (tgt := 92) (by decide) (fun h82 => ?_) (fun h82 => ?_)
            · refine v_bipush X (v := (nI 16)) dX6_step_92 (by decide) ?_
              refine v_iload_n X 1 rfl dX6_step_94 ?_
              refine v_imul X dX6_step_95 ?_
              refine v_eqi (y := (nI (16 * w))) (pk_mul _ _) ?_
              refine v_aload_n X 0 rfl dX6_step_96 ?_
              refine gf_X6_28 X dX6_step_97 ?_
              refine v_iload_n X 1 rfl dX6_step_100 ?_
              refine v_iald_n X dl_37 (fun _ _ => rfl) (n := 4) (by omega) (by decide) dX6_step_101 ?_
              refine v_eqi (y := (nI (sc w))) (hweb.2.1) ?_
              refine v_iadd X dX6_step_102 ?_
              refine v_eqi (y := (nI ((16 * w) + (sc w)))) (nI_add _ _) ?_
              refine v_istore X [1, 2, 3, 4, 5, 0] (lv' := [(0, .ref (eA (vE a) 30 0)), (1, .int (nI w)), (2, .int (nI 2)), (3, .int i), (4, .int v), (5, .int (nI ((16 * w) + (sc w))))]) (by decide) rfl dX6_step_103 ?_
              refine v_aload_n X 0 rfl dX6_step_105 ?_
              refine gf_X6_31 X dX6_step_106 ?_
              refine v_iload X 5 rfl dX6_step_109 ?_
              refine v_iload_n X 2 rfl dX6_step_111 ?_
              refine v_iast_n X dl_38 (fun _ _ => rfl) (n := 64) (by omega) (by decide) dX6_step_112 ?_
              refine v_aload_n X 0 rfl dX6_step_113 ?_
              refine gf_X6_34 X dX6_step_114 ?_
              refine v_iload X 5 rfl dX6_step_117 ?_
              refine v_iload_n X 3 rfl dX6_step_119 ?_
              refine v_iast_n X dl_39 (fun _ _ => rfl) (n := 64) (by omega) (by decide) dX6_step_120 ?_
              refine v_aload_n X 0 rfl dX6_step_121 ?_
              refine gf_X6_37 X dX6_step_122 ?_
              refine v_iload X 5 rfl dX6_step_125 ?_
              refine v_iload X 4 rfl dX6_step_127 ?_
              refine v_iast_n X dl_40 (fun _ _ => rfl) (n := 64) (by omega) (by decide) dX6_step_129 ?_
              refine v_aload_n X 0 rfl dX6_step_130 ?_
              refine gf_X6_28 X dX6_step_131 ?_
              refine v_iload_n X 1 rfl dX6_step_134 ?_
              refine v_dup2_11 X dX6_step_135 rfl rfl ?_
              refine v_iald_n X dl_37 (fun _ _ => rfl) (n := 4) (by omega) (by decide) dX6_step_136 ?_
              refine v_eqi (y := (nI (sc w))) ((upI_k (by decide)).trans ((upI_k (by decide)).trans ((upI_k (by decide)).trans (hweb.2.1)))) ?_
              refine v_iconst X (v := (nI 1)) dX6_step_137 (by decide) ?_
              refine v_iadd X dX6_step_138 ?_
              refine v_eqi (y := (nI ((sc w) + 1))) (nI_add _ _) ?_
              refine v_iast_n X dl_37 (fun _ _ => rfl) (n := 4) (by omega) (by decide) dX6_step_139 ?_
              refine v_aload_n X 0 rfl dX6_step_140 ?_
              refine gf_X6_28 X dX6_step_141 ?_
              refine v_iload_n X 1 rfl dX6_step_144 ?_
              refine v_iald_n X dl_37 (fun _ _ => rfl) (n := 4) (by omega) (by decide) dX6_step_145 ?_
              refine v_eqi (y := (nI ((sc w) + 1))) (upI_eq) ?_
              exact v_iret X Y dX6_step_146 (Or.inr ⟨w, hw, rfl, Or.inr ⟨⟨tk_2.mpr ((in_K2 hl1 hl5).mp h51), (in_9.mp h64).1, (in_9.mp h64).2⟩, Or.inr ⟨by omega, rfl, rfl, rfl⟩⟩⟩)
            · refine v_aload_n X 0 rfl dX6_step_85 ?_
              refine v_bipush X (v := (-8)) dX6_step_86 (by decide) ?_
              refine v_callV X (c_X6_no _ _ hE _ _ 8 (by decide) (by decide)) k_X6_80 dl_30 (cef_30 _ _ _ _) rfl ⟨rfl, rfl, Nat.le_of_ble_eq_true rfl, Nat.le_of_ble_eq_true rfl⟩ (As := [.int (-8)]) (rest := []) rfl rfl (Nat.le_of_ble_eq_true rfl) dX6_step_88 (fun r88 I88 L88 hp88 => ?_)
              obtain ⟨rfl, e1, e2⟩ := hp88
              have e1 := e1.symm
              have e2 := e2.symm
              subst e1; subst e2
              refine v_st (st' := [.int (-8)]) rfl ?_
              exact v_iret X Y dX6_step_91 (Or.inr ⟨w, hw, rfl, Or.inr ⟨⟨tk_2.mpr ((in_K2 hl1 hl5).mp h51), (in_9.mp h64).1, (in_9.mp h64).2⟩, Or.inl ⟨h82, ⟨rfl, rfl⟩, rfl⟩⟩⟩)
          · refine v_aload_n X 0 rfl dX6_step_67 ?_
            refine v_bipush X (v := (-7)) dX6_step_68 (by decide) ?_
            refine v_callV X (c_X6_no _ _ hE _ _ 7 (by decide) (by decide)) k_X6_80 dl_30 (cef_30 _ _ _ _) rfl ⟨rfl, rfl, Nat.le_of_ble_eq_true rfl, Nat.le_of_ble_eq_true rfl⟩ (As := [.int (-7)]) (rest := []) rfl rfl (Nat.le_of_ble_eq_true rfl) dX6_step_70 (fun r70 I70 L70 hp70 => ?_)
            obtain ⟨rfl, e1, e2⟩ := hp70
            have e1 := e1.symm
            have e2 := e2.symm
            subst e1; subst e2
            refine v_st (st' := [.int (-7)]) rfl ?_
            exact v_iret X Y dX6_step_73 (Or.inr ⟨w, hw, rfl, Or.inl ⟨fun q => h64 (in_9.mpr q.2), ⟨rfl, rfl⟩, rfl⟩⟩)
  · refine v_aload_n X 0 rfl dX6_step_8 ?_
    refine v_bipush X (v := (-3)) dX6_step_9 (by decide) ?_
    refine v_callV X (c_X6_no _ _ hE _ _ 3 (by decide) (by decide)) k_X6_80 dl_30 (cef_30 _ _ _ _) rfl ⟨rfl, rfl, Nat.le_of_ble_eq_true rfl, Nat.le_of_ble_eq_true rfl⟩ (As := [.int (-3)]) (rest := []) rfl rfl (Nat.le_of_ble_eq_true rfl) dX6_step_11 (fun r11 I11 L11 hp11 => ?_)
    obtain ⟨rfl, e1, e2⟩ := hp11
    have e1 := e1.symm
    have e2 := e2.symm
    subst e1; subst e2
    refine v_st (st' := [.int (-3)]) rfl ?_
    exact v_iret X Y dX6_step_14 (Or.inl ⟨(fun q => h5 ((inR_T (by have := hN.2.1; omega)).mpr q)), ⟨rfl, rfl⟩, rfl⟩)
set_option maxHeartbeats 4000000 in
set_option maxRecDepth 100000 in
theorem c_X6_back (l : Launch) (E : VE) (hE : EOk E) (I : TI) (L : TL) (n : Nat) (ln sc : Nat → Nat) (kd pl wt : Nat → Nat → Nat) (hN : MN I n ln sc kd pl wt) (x : Int32) : Ct l E yX6_back cX6_back 2 (some .int) rm_X6_back [.ref (eA E 30 0), .int x] I L (fun r I' L' => (¬ isT n x ∧ MEF I I' r 3 ∧ L' = L) ∨ (∃ w, w < n ∧ x = nI w ∧ ((sc w = 0 ∧ MEF I I' r 2 ∧ L' = L) ∨ (0 < sc w ∧ r = some (.int (nI (sc w - 1))) ∧ I' = upI I 37 0 w (nI (sc w - 1)) ∧ L' = L)))) := by
  refine ct_of (by decide +kernel) (Nat.le_of_ble_eq_true rfl) hE ?_
  intro a X Y hl hEE
  subst hl; subst hEE
  show V a 0 [(0, .ref (eA (vE a) 30 0)), (1, .int x)] [] I L
  refine v_aload_n X 0 rfl dX6_back_0 ?_
  refine v_iload_n X 1 rfl dX6_back_1 ?_
  refine v_callV X (c_X6_isNet _ _ hE _ _ n (hN.1) x) k_X6_171 dl_30 (cef_30 _ _ _ _) rfl ⟨rfl, rfl, Nat.le_of_ble_eq_true rfl, Nat.le_of_ble_eq_true rfl⟩ (As := [.int x]) (rest := []) rfl rfl (Nat.le_of_ble_eq_true rfl) dX6_back_2 (fun r2 I2 L2 hp2 => ?_)
  obtain ⟨rfl, e1, e2⟩ := hp2
  have e1 := e1.symm
  have e2 := e2.symm
  subst e1; subst e2
  refine v_st (st' := [.int (bI (inR n x))]) rfl ?_
  refine v_ifb_ne X dX6_back_5 (tgt := 15) (by decide) (fun h5 => ?_) (fun h5 => ?_)
  · obtain ⟨w, hw, rfl⟩ := inR_of (by have := hN.2.1; omega) h5
    have hn4 := hN.2.1
    obtain ⟨hweb, hok⟩ := hN.2.2 w hw
    obtain ⟨hl1, hl5, hsc16, hst⟩ := id hok
    have hw4 : w < 4 := by omega
    refine v_aload_n X 0 rfl dX6_back_15 ?_
    refine gf_X6_28 X dX6_back_16 ?_
    refine v_iload_n X 1 rfl dX6_back_19 ?_
    refine v_iald_n X dl_37 (fun _ _ => rfl) (n := 4) (by omega) (by decide) dX6_back_20 ?_
    refine v_eqi (y := (nI (sc w))) (hweb.2.1) ?_
    refine v_if_ne_n X (by omega) dX6_back_21 (tgt := 31) (by decide) (fun h21 => ?_) (fun h21 => ?_)
    · refine v_aload_n X 0 rfl dX6_back_31 ?_
      refine gf_X6_28 X dX6_back_32 ?_
      refine v_iload_n X 1 rfl dX6_back_35 ?_
      refine v_dup2_11 X dX6_back_36 rfl rfl ?_
      refine v_iald_n X dl_37 (fun _ _ => rfl) (n := 4) (by omega) (by decide) dX6_back_37 ?_
      refine v_eqi (y := (nI (sc w))) (hweb.2.1) ?_
      refine v_iconst X (v := (nI 1)) dX6_back_38 (by decide) ?_
      refine v_isub X dX6_back_39 ?_
      refine v_eqi (y := (nI ((sc w) - 1))) (pk_sub (by omega)) ?_
      refine v_iast_n X dl_37 (fun _ _ => rfl) (n := 4) (by omega) (by decide) dX6_back_40 ?_
      refine v_aload_n X 0 rfl dX6_back_41 ?_
      refine gf_X6_28 X dX6_back_42 ?_
      refine v_iload_n X 1 rfl dX6_back_45 ?_
      refine v_iald_n X dl_37 (fun _ _ => rfl) (n := 4) (by omega) (by decide) dX6_back_46 ?_
      refine v_eqi (y := (nI ((sc w) - 1))) (upI_eq) ?_
      exact v_iret X Y dX6_back_47 (Or.inr ⟨w, hw, rfl, Or.inr ⟨h21, rfl, rfl, rfl⟩⟩)
    · refine v_aload_n X 0 rfl dX6_back_24 ?_
      refine v_bipush X (v := (-2)) dX6_back_25 (by decide) ?_
      refine v_callV X (c_X6_no _ _ hE _ _ 2 (by decide) (by decide)) k_X6_80 dl_30 (cef_30 _ _ _ _) rfl ⟨rfl, rfl, Nat.le_of_ble_eq_true rfl, Nat.le_of_ble_eq_true rfl⟩ (As := [.int (-2)]) (rest := []) rfl rfl (Nat.le_of_ble_eq_true rfl) dX6_back_27 (fun r27 I27 L27 hp27 => ?_)
      obtain ⟨rfl, e1, e2⟩ := hp27
      have e1 := e1.symm
      have e2 := e2.symm
      subst e1; subst e2
      refine v_st (st' := [.int (-2)]) rfl ?_
      exact v_iret X Y dX6_back_30 (Or.inr ⟨w, hw, rfl, Or.inl ⟨h21, ⟨rfl, rfl⟩, rfl⟩⟩)
  · refine v_aload_n X 0 rfl dX6_back_8 ?_
    refine v_bipush X (v := (-3)) dX6_back_9 (by decide) ?_
    refine v_callV X (c_X6_no _ _ hE _ _ 3 (by decide) (by decide)) k_X6_80 dl_30 (cef_30 _ _ _ _) rfl ⟨rfl, rfl, Nat.le_of_ble_eq_true rfl, Nat.le_of_ble_eq_true rfl⟩ (As := [.int (-3)]) (rest := []) rfl rfl (Nat.le_of_ble_eq_true rfl) dX6_back_11 (fun r11 I11 L11 hp11 => ?_)
    obtain ⟨rfl, e1, e2⟩ := hp11
    have e1 := e1.symm
    have e2 := e2.symm
    subst e1; subst e2
    refine v_st (st' := [.int (-3)]) rfl ?_
    exact v_iret X Y dX6_back_14 (Or.inl ⟨(fun q => h5 ((inR_T (by have := hN.2.1; omega)).mpr q)), ⟨rfl, rfl⟩, rfl⟩)
set_option maxHeartbeats 4000000 in
set_option maxRecDepth 100000 in
theorem c_X6_unnet (l : Launch) (E : VE) (hE : EOk E) (I : TI) (L : TL) (n : Nat) (hn : I 30 0 11 = nI n) (hn4 : n ≤ 4) : Ct l E yX6_unnet cX6_unnet 1 (some .int) rm_X6_unnet [.ref (eA E 30 0)] I L (fun r I' L' => ((n = 0 ∧ MEF I I' r 2) ∨ (0 < n ∧ r = some (.int (nI (n - 1))) ∧ I' = upI I 30 0 11 (nI (n - 1)))) ∧ L' = L) := by
  refine ct_of (by decide +kernel) (Nat.le_of_ble_eq_true rfl) hE ?_
  intro a X Y hl hEE
  subst hl; subst hEE
  show V a 0 [(0, .ref (eA (vE a) 30 0))] [] I L
  refine v_aload_n X 0 rfl dX6_unnet_0 ?_
  refine gf_X6_168 X dX6_unnet_1 ?_
  refine v_eqi (y := (nI n)) (hn) ?_
  refine v_if_ne_n X (by omega) dX6_unnet_4 (tgt := 14) (by decide) (fun h4 => ?_) (fun h4 => ?_)
  · refine v_aload_n X 0 rfl dX6_unnet_14 ?_
    refine v_dup X dX6_unnet_15 rfl ?_
    refine gf_X6_168 X dX6_unnet_16 ?_
    refine v_eqi (y := (nI n)) (hn) ?_
    refine v_iconst X (v := (nI 1)) dX6_unnet_19 (by decide) ?_
    refine v_isub X dX6_unnet_20 ?_
    refine v_eqi (y := (nI (n - 1))) (pk_sub (by omega)) ?_
    refine pf_X6_168 X dX6_unnet_21 ?_
    refine v_aload_n X 0 rfl dX6_unnet_24 ?_
    refine gf_X6_168 X dX6_unnet_25 ?_
    refine v_eqi (y := (nI (n - 1))) (upI_eq) ?_
    exact v_iret X Y dX6_unnet_28 (⟨Or.inr ⟨h4, rfl, rfl⟩, rfl⟩)
  · refine v_aload_n X 0 rfl dX6_unnet_7 ?_
    refine v_bipush X (v := (-2)) dX6_unnet_8 (by decide) ?_
    refine v_callV X (c_X6_no _ _ hE _ _ 2 (by decide) (by decide)) k_X6_80 dl_30 (cef_30 _ _ _ _) rfl ⟨rfl, rfl, Nat.le_of_ble_eq_true rfl, Nat.le_of_ble_eq_true rfl⟩ (As := [.int (-2)]) (rest := []) rfl rfl (Nat.le_of_ble_eq_true rfl) dX6_unnet_10 (fun r10 I10 L10 hp10 => ?_)
    obtain ⟨rfl, e1, e2⟩ := hp10
    have e1 := e1.symm
    have e2 := e2.symm
    subst e1; subst e2
    refine v_st (st' := [.int (-2)]) rfl ?_
    exact v_iret X Y dX6_unnet_13 (⟨Or.inl ⟨h4, rfl, rfl⟩, rfl⟩)
set_option maxHeartbeats 4000000 in
set_option maxRecDepth 100000 in
theorem c_X6_over (l : Launch) (E : VE) (hE : EOk E) (I : TI) (L : TL) (w : Nat) (hw : w < 4) (ln sc : Nat) (kd pl wt : Nat → Nat) (hn : netOk ln sc kd pl wt) (hW : webM I w ln sc kd pl wt) (s : Nat) (hs : s < sc) (T : Nat) (hT : T < 32) : Ct l E yX6_over cX6_over 5 (some .int) rm_X6_over [.ref (eA E 30 0), .int (nI (16 * w + s)), .int (nI T)] I L (fun r I' L' => r = some (.int (if aft (kd s) (pl s) T = T then -1 else nI (aft (kd s) (pl s) T))) ∧ I' = I ∧ L' = L) := by
  refine ct_of (by decide +kernel) (Nat.le_of_ble_eq_true rfl) hE ?_
  intro a X Y hl hEE
  subst hl; subst hEE
  obtain ⟨hl1, hl5, hsc16, hst⟩ := id hn
  obtain ⟨hk2, hpln, hkp, hw1, hw9⟩ := hst s hs
  have hsr : kd s = 2 ∨ asr (kd s) (pl s) < 5 := by unfold asr; split <;> omega
  have hds : kd s = 2 ∨ ads (kd s) (pl s) < 5 := by unfold ads; split <;> omega
  show V a 0 [(0, .ref (eA (vE a) 30 0)), (1, .int (nI (16 * w + s))), (2, .int (nI T))] [] I L
  refine v_aload_n X 0 rfl dX6_over_0 ?_
  refine gf_X6_31 X dX6_over_1 ?_
  refine v_iload_n X 1 rfl dX6_over_4 ?_
  refine v_iald_n X dl_38 (fun _ _ => rfl) (n := 64) (by omega) (by decide) dX6_over_5 ?_
  refine v_eqi (y := (nI (kd s))) ((hW.2.2 s hs).1) ?_
  refine v_iconst X (v := (nI 2)) dX6_over_6 (by decide) ?_
  refine v_icmp_ne_n X (by omega) (by omega) dX6_over_7 (tgt := 12) (by decide) (fun h7 => ?_) (fun h7 => ?_)
  · refine v_aload_n X 0 rfl dX6_over_12 ?_
    refine gf_X6_31 X dX6_over_13 ?_
    refine v_iload_n X 1 rfl dX6_over_16 ?_
    refine v_iald_n X dl_38 (fun _ _ => rfl) (n := 64) (by omega) (by decide) dX6_over_17 ?_
    refine v_eqi (y := (nI (kd s))) ((hW.2.2 s hs).1) ?_
    refine v_iconst X (v := (nI 1)) dX6_over_18 (by decide) ?_
    refine v_icmp_ne_n X (by omega) (by omega) dX6_over_19 (tgt := 33) (by decide) (fun h19 => ?_) (fun h19 => ?_)
    · refine v_aload_n X 0 rfl dX6_over_33 ?_
      refine gf_X6_34 X dX6_over_34 ?_
      refine v_iload_n X 1 rfl dX6_over_37 ?_
      refine v_iald_n X dl_39 (fun _ _ => rfl) (n := 64) (by omega) (by decide) dX6_over_38 ?_
      refine v_eqi (y := (nI (pl s))) ((hW.2.2 s hs).2.1) ?_
      refine v_eqi (y := (nI (asr (kd s) (pl s)))) (congrArg nI (asr_0 (by omega))) ?_
      refine v_istore_n X [1, 2, 3, 0] (lv' := [(0, .ref (eA (vE a) 30 0)), (1, .int (nI (16 * w + s))), (2, .int (nI T)), (3, .int (nI (asr (kd s) (pl s))))]) (by decide) rfl dX6_over_39 ?_
      refine v_aload_n X 0 rfl dX6_over_40 ?_
      refine gf_X6_31 X dX6_over_41 ?_
      refine v_iload_n X 1 rfl dX6_over_44 ?_
      refine v_iald_n X dl_38 (fun _ _ => rfl) (n := 64) (by omega) (by decide) dX6_over_45 ?_
      refine v_eqi (y := (nI (kd s))) ((hW.2.2 s hs).1) ?_
      refine v_if_ne_n X (by omega) dX6_over_46 (tgt := 60) (by decide) (fun h46 => ?_) (fun h46 => ?_)
      · exact absurd h46 (by omega)
      · refine v_aload_n X 0 rfl dX6_over_49 ?_
        refine gf_X6_34 X dX6_over_50 ?_
        refine v_iload_n X 1 rfl dX6_over_53 ?_
        refine v_iald_n X dl_39 (fun _ _ => rfl) (n := 64) (by omega) (by decide) dX6_over_54 ?_
        refine v_eqi (y := (nI (pl s))) ((hW.2.2 s hs).2.1) ?_
        refine v_iconst X (v := (nI 1)) dX6_over_55 (by decide) ?_
        refine v_iadd X dX6_over_56 ?_
        refine v_eqi (y := (nI ((pl s) + 1))) (nI_add _ _) ?_
        refine v_goto X (tgt := 66) dX6_over_57 (by decide) ?_
        refine v_eqi (y := (nI (ads (kd s) (pl s)))) (congrArg nI (ads_0 (by omega))) ?_
        refine v_istore X [1, 2, 3, 4, 0] (lv' := [(0, .ref (eA (vE a) 30 0)), (1, .int (nI (16 * w + s))), (2, .int (nI T)), (3, .int (nI (asr (kd s) (pl s)))), (4, .int (nI (ads (kd s) (pl s))))]) (by decide) rfl dX6_over_66 ?_
        refine v_iload_n X 2 rfl dX6_over_68 ?_
        refine v_iload_n X 3 rfl dX6_over_69 ?_
        refine v_ishr X dX6_over_70 ?_
        refine v_eqi (y := (nI (T / 2 ^ (asr (kd s) (pl s))))) (sh_r (by omega) (by omega)) ?_
        refine v_iconst X (v := (nI 1)) dX6_over_71 (by decide) ?_
        refine v_iand X dX6_over_72 ?_
        refine v_eqi (y := (nI ((T / 2 ^ (asr (kd s) (pl s))) &&& 1))) (an_and _ _) ?_
        refine v_eqi (y := (nI (T / 2 ^ asr (kd s) (pl s) % 2))) (congrArg nI (Nat.and_one_is_mod _)) ?_
        refine v_iconst X (v := (nI 1)) dX6_over_73 (by decide) ?_
        refine v_icmp_ne_n X (by omega) (by omega) dX6_over_74 (tgt := 101) (by decide) (fun h74 => ?_) (fun h74 => ?_)
        · refine v_iconst X (v := (-1)) dX6_over_101 (by decide) ?_
          exact v_iret X Y dX6_over_102 (⟨by rw [if_pos (aft_st (Or.inl h74))], rfl, rfl⟩)
        · refine v_iload_n X 2 rfl dX6_over_77 ?_
          refine v_iload X 4 rfl dX6_over_78 ?_
          refine v_ishr X dX6_over_80 ?_
          refine v_eqi (y := (nI (T / 2 ^ (ads (kd s) (pl s))))) (sh_r (by omega) (by omega)) ?_
          refine v_iconst X (v := (nI 1)) dX6_over_81 (by decide) ?_
          refine v_iand X dX6_over_82 ?_
          refine v_eqi (y := (nI ((T / 2 ^ (ads (kd s) (pl s))) &&& 1))) (an_and _ _) ?_
          refine v_eqi (y := (nI (T / 2 ^ ads (kd s) (pl s) % 2))) (congrArg nI (Nat.and_one_is_mod _)) ?_
          refine v_if_ne_n X (by omega) dX6_over_83 (tgt := 101) (by decide) (fun h83 => ?_) (fun h83 => ?_)
          · refine v_iconst X (v := (-1)) dX6_over_101 (by decide) ?_
            exact v_iret X Y dX6_over_102 (⟨by rw [if_pos (aft_st (Or.inr (by omega)))], rfl, rfl⟩)
          · refine v_iload_n X 2 rfl dX6_over_86 ?_
            refine v_iconst X (v := (nI 1)) dX6_over_87 (by decide) ?_
            refine v_iload_n X 3 rfl dX6_over_88 ?_
            refine v_ishl X dX6_over_89 ?_
            refine v_eqi (y := (nI (2 ^ (asr (kd s) (pl s))))) (sh_one (by omega)) ?_
            refine v_iconst X (v := (-1)) dX6_over_90 (by decide) ?_
            refine v_ixor X dX6_over_91 ?_
            refine v_iand X dX6_over_92 ?_
            refine v_iconst X (v := (nI 1)) dX6_over_93 (by decide) ?_
            refine v_iload X 4 rfl dX6_over_94 ?_
            refine v_ishl X dX6_over_96 ?_
            refine v_eqi (y := (nI (2 ^ (ads (kd s) (pl s))))) (sh_one (by omega)) ?_
            refine v_ior X dX6_over_97 ?_
            have hov := over_ok hT (show asr (kd s) (pl s) < 5 by omega) (show ads (kd s) (pl s) < 5 by omega) h74 (show ¬ bitN T (ads (kd s) (pl s)) by omega)
            refine v_eqi (y := (nI (T ^^^ (2 ^ asr (kd s) (pl s) ||| 2 ^ ads (kd s) (pl s))))) (hov.1) ?_
            refine v_goto X (tgt := 102) dX6_over_98 (by decide) ?_
            exact v_iret X Y dX6_over_102 (⟨by rw [aft_go h7 h74 (by omega), if_neg hov.2], rfl, rfl⟩)
    · refine v_aload_n X 0 rfl dX6_over_22 ?_
      refine gf_X6_34 X dX6_over_23 ?_
      refine v_iload_n X 1 rfl dX6_over_26 ?_
      refine v_iald_n X dl_39 (fun _ _ => rfl) (n := 64) (by omega) (by decide) dX6_over_27 ?_
      refine v_eqi (y := (nI (pl s))) ((hW.2.2 s hs).2.1) ?_
      refine v_iconst X (v := (nI 1)) dX6_over_28 (by decide) ?_
      refine v_iadd X dX6_over_29 ?_
      refine v_eqi (y := (nI ((pl s) + 1))) (nI_add _ _) ?_
      refine v_goto X (tgt := 39) dX6_over_30 (by decide) ?_
      refine v_eqi (y := (nI (asr (kd s) (pl s)))) (congrArg nI (asr_1 (by omega))) ?_
      refine v_istore_n X [1, 2, 3, 0] (lv' := [(0, .ref (eA (vE a) 30 0)), (1, .int (nI (16 * w + s))), (2, .int (nI T)), (3, .int (nI (asr (kd s) (pl s))))]) (by decide) rfl dX6_over_39 ?_
      refine v_aload_n X 0 rfl dX6_over_40 ?_
      refine gf_X6_31 X dX6_over_41 ?_
      refine v_iload_n X 1 rfl dX6_over_44 ?_
      refine v_iald_n X dl_38 (fun _ _ => rfl) (n := 64) (by omega) (by decide) dX6_over_45 ?_
      refine v_eqi (y := (nI (kd s))) ((hW.2.2 s hs).1) ?_
      refine v_if_ne_n X (by omega) dX6_over_46 (tgt := 60) (by decide) (fun h46 => ?_) (fun h46 => ?_)
      · refine v_aload_n X 0 rfl dX6_over_60 ?_
        refine gf_X6_34 X dX6_over_61 ?_
        refine v_iload_n X 1 rfl dX6_over_64 ?_
        refine v_iald_n X dl_39 (fun _ _ => rfl) (n := 64) (by omega) (by decide) dX6_over_65 ?_
        refine v_eqi (y := (nI (pl s))) ((hW.2.2 s hs).2.1) ?_
        refine v_eqi (y := (nI (ads (kd s) (pl s)))) (congrArg nI (ads_1 (by omega))) ?_
        refine v_istore X [1, 2, 3, 4, 0] (lv' := [(0, .ref (eA (vE a) 30 0)), (1, .int (nI (16 * w + s))), (2, .int (nI T)), (3, .int (nI (asr (kd s) (pl s)))), (4, .int (nI (ads (kd s) (pl s))))]) (by decide) rfl dX6_over_66 ?_
        refine v_iload_n X 2 rfl dX6_over_68 ?_
        refine v_iload_n X 3 rfl dX6_over_69 ?_
        refine v_ishr X dX6_over_70 ?_
        refine v_eqi (y := (nI (T / 2 ^ (asr (kd s) (pl s))))) (sh_r (by omega) (by omega)) ?_
        refine v_iconst X (v := (nI 1)) dX6_over_71 (by decide) ?_
        refine v_iand X dX6_over_72 ?_
        refine v_eqi (y := (nI ((T / 2 ^ (asr (kd s) (pl s))) &&& 1))) (an_and _ _) ?_
        refine v_eqi (y := (nI (T / 2 ^ asr (kd s) (pl s) % 2))) (congrArg nI (Nat.and_one_is_mod _)) ?_
        refine v_iconst X (v := (nI 1)) dX6_over_73 (by decide) ?_
        refine v_icmp_ne_n X (by omega) (by omega) dX6_over_74 (tgt := 101) (by decide) (fun h74 => ?_) (fun h74 => ?_)
        · refine v_iconst X (v := (-1)) dX6_over_101 (by decide) ?_
          exact v_iret X Y dX6_over_102 (⟨by rw [if_pos (aft_st (Or.inl h74))], rfl, rfl⟩)
        · refine v_iload_n X 2 rfl dX6_over_77 ?_
          refine v_iload X 4 rfl dX6_over_78 ?_
          refine v_ishr X dX6_over_80 ?_
          refine v_eqi (y := (nI (T / 2 ^ (ads (kd s) (pl s))))) (sh_r (by omega) (by omega)) ?_
          refine v_iconst X (v := (nI 1)) dX6_over_81 (by decide) ?_
          refine v_iand X dX6_over_82 ?_
          refine v_eqi (y := (nI ((T / 2 ^ (ads (kd s) (pl s))) &&& 1))) (an_and _ _) ?_
          refine v_eqi (y := (nI (T / 2 ^ ads (kd s) (pl s) % 2))) (congrArg nI (Nat.and_one_is_mod _)) ?_
          refine v_if_ne_n X (by omega) dX6_over_83 (tgt := 101) (by decide) (fun h83 => ?_) (fun h83 => ?_)
          · refine v_iconst X (v := (-1)) dX6_over_101 (by decide) ?_
            exact v_iret X Y dX6_over_102 (⟨by rw [if_pos (aft_st (Or.inr (by omega)))], rfl, rfl⟩)
          · refine v_iload_n X 2 rfl dX6_over_86 ?_
            refine v_iconst X (v := (nI 1)) dX6_over_87 (by decide) ?_
            refine v_iload_n X 3 rfl dX6_over_88 ?_
            refine v_ishl X dX6_over_89 ?_
            refine v_eqi (y := (nI (2 ^ (asr (kd s) (pl s))))) (sh_one (by omega)) ?_
            refine v_iconst X (v := (-1)) dX6_over_90 (by decide) ?_
            refine v_ixor X dX6_over_91 ?_
            refine v_iand X dX6_over_92 ?_
            refine v_iconst X (v := (nI 1)) dX6_over_93 (by decide) ?_
            refine v_iload X 4 rfl dX6_over_94 ?_
            refine v_ishl X dX6_over_96 ?_
            refine v_eqi (y := (nI (2 ^ (ads (kd s) (pl s))))) (sh_one (by omega)) ?_
            refine v_ior X dX6_over_97 ?_
            have hov := over_ok hT (show asr (kd s) (pl s) < 5 by omega) (show ads (kd s) (pl s) < 5 by omega) h74 (show ¬ bitN T (ads (kd s) (pl s)) by omega)
            refine v_eqi (y := (nI (T ^^^ (2 ^ asr (kd s) (pl s) ||| 2 ^ ads (kd s) (pl s))))) (hov.1) ?_
            refine v_goto X (tgt := 102) dX6_over_98 (by decide) ?_
            exact v_iret X Y dX6_over_102 (⟨by rw [aft_go h7 h74 (by omega), if_neg hov.2], rfl, rfl⟩)
      · exact absurd h46 (by omega)
  · refine v_iconst X (v := (-1)) dX6_over_10 (by decide) ?_
    exact v_iret X Y dX6_over_11 (⟨by rw [if_pos (aft_on h7)], rfl, rfl⟩)
set_option maxHeartbeats 4000000 in
set_option maxRecDepth 100000 in
theorem c_X6_finds (l : Launch) (E : VE) (hE : EOk E) (I : TI) (L : TL) (w : Nat) (hw : w < 4) (ln sc : Nat) (kd pl wt : Nat → Nat) (hn : netOk ln sc kd pl wt) (hW : webM I w ln sc kd pl wt) (to : Nat) (hto : to < 32) : Ct l E yX6_finds cX6_finds 10 none rm_X6_finds [.ref (eA E 30 0), .int (nI w), .int (nI to)] I L (fun r I' L' => r = none ∧ Fr [(44, 0)] I I' ∧ FL [(45, 0)] L L' ∧ ∀ s, s ≤ sc → ∀ T', T' < 32 → WR I' L' sc kd pl wt to s T') := by
  refine ct_of (by decide +kernel) (Nat.le_of_ble_eq_true rfl) hE ?_
  intro a X Y hl hEE
  subst hl; subst hEE
  obtain ⟨hl1, hl5, hsc16, hst⟩ := id hn
  show V a 0 [(0, .ref (eA (vE a) 30 0)), (1, .int (nI w)), (2, .int (nI to))] [] I L
  refine v_aload_n X 0 rfl dX6_finds_0 ?_
  refine gf_X6_28 X dX6_finds_1 ?_
  refine v_iload_n X 1 rfl dX6_finds_4 ?_
  refine v_iald_n X dl_37 (fun _ _ => rfl) (n := 4) (by omega) (by decide) dX6_finds_5 ?_
  refine v_eqi (y := (nI sc)) (hW.2.1) ?_
  refine v_istore_n X [1, 2, 3, 0] (lv' := [(0, .ref (eA (vE a) 30 0)), (1, .int (nI w)), (2, .int (nI to)), (3, .int (nI sc))]) (by decide) rfl dX6_finds_6 ?_
  refine v_iconst X (v := (nI 0)) dX6_finds_7 (by decide) ?_
  refine v_istore X [1, 2, 3, 4, 0] (lv' := [(0, .ref (eA (vE a) 30 0)), (1, .int (nI w)), (2, .int (nI to)), (3, .int (nI sc)), (4, .int (nI 0))]) (by decide) rfl dX6_finds_8 ?_
  have loop10 : ∀ (fu : Nat) (T : Nat) (I1 : TI) (L1 : TL), 33 - T < fu → (T ≤ 32) → (Fr [(44, 0)] I I1) → (FL [(45, 0)] L L1) → (∀ T', T' < T → WR I1 L1 sc kd pl wt to sc T') → V a 10 [(0, .ref (eA (vE a) 30 0)), (1, .int (nI w)), (2, .int (nI to)), (3, .int (nI sc)), (4, .int (nI T))] [] I1 L1 := by
    intro fu
    induction fu with
    | zero => intro T I1 L1 hm _ _ _ _; exact absurd hm (Nat.not_lt_zero _)
    | succ fu ih10 =>
      intro T I1 L1 hm10 hT hF hFL hv
      refine v_iload X 4 rfl dX6_finds_10 ?_
      refine v_bipush X (v := (nI 32)) dX6_finds_12 (by decide) ?_
      refine v_icmp_ge_n X (by omega) (by omega) dX6_finds_14 (tgt := 69) (by decide) (fun h14 => ?_) (fun h14 => ?_)
      · refine v_iload_n X 3 rfl dX6_finds_69 ?_
        refine v_iconst X (v := (nI 1)) dX6_finds_70 (by decide) ?_
        refine v_isub X dX6_finds_71 ?_
        refine v_istore X [1, 2, 3, 4, 0] (lv' := [(0, .ref (eA (vE a) 30 0)), (1, .int (nI w)), (2, .int (nI to)), (3, .int (nI sc)), (4, .int ((nI sc) - (nI 1)))]) (by decide) rfl dX6_finds_72 ?_
        have loop74 : ∀ (fu : Nat) (m : Nat) (I1 : TI) (L1 : TL), m < fu → (m ≤ sc) → (Fr [(44, 0)] I I1) → (FL [(45, 0)] L L1) → (∀ s, m ≤ s → s ≤ sc → ∀ T', T' < 32 → WR I1 L1 sc kd pl wt to s T') → V a 74 [(0, .ref (eA (vE a) 30 0)), (1, .int (nI w)), (2, .int (nI to)), (3, .int (nI sc)), (4, .int (nI m - nI 1))] [] I1 L1 := by
          intro fu
          induction fu with
          | zero => intro m I1 L1 hm _ _ _ _; exact absurd hm (Nat.not_lt_zero _)
          | succ fu ih74 =>
            intro m I1 L1 hm74 hm hF hFL hv
            refine v_iload X 4 rfl dX6_finds_74 ?_
            refine v_if_lt X dX6_finds_76 (tgt := 277) (by decide) (fun h76 => ?_) (fun h76 => ?_)
            · have hm0 : m = 0 := down_zero (by omega) h76
              subst hm0
              exact v_vret X Y dX6_finds_277 (⟨rfl, hF, hFL, fun s h1 T' h2 => hv s (Nat.zero_le _) h1 T' h2⟩)
            · obtain ⟨q, rfl⟩ : ∃ q, m = q + 1 := ⟨m - 1, by have := down_pos h76; omega⟩
              refine v_lv (lv' := [(0, .ref (eA (vE a) 30 0)), (1, .int (nI w)), (2, .int (nI to)), (3, .int (nI sc)), (4, .int (nI q))]) (by rw [down_at]) ?_
              refine v_bipush X (v := (nI 16)) dX6_finds_79 (by decide) ?_
              refine v_iload_n X 1 rfl dX6_finds_81 ?_
              refine v_imul X dX6_finds_82 ?_
              refine v_eqi (y := (nI (16 * w))) (pk_mul _ _) ?_
              refine v_iload X 4 rfl dX6_finds_83 ?_
              refine v_iadd X dX6_finds_85 ?_
              refine v_eqi (y := (nI ((16 * w) + q))) (nI_add _ _) ?_
              refine v_istore X [1, 2, 3, 4, 5, 0] (lv' := [(0, .ref (eA (vE a) 30 0)), (1, .int (nI w)), (2, .int (nI to)), (3, .int (nI sc)), (4, .int (nI q)), (5, .int (nI ((16 * w) + q)))]) (by decide) rfl dX6_finds_86 ?_
              refine v_iconst X (v := (nI 0)) dX6_finds_88 (by decide) ?_
              refine v_istore X [1, 2, 3, 4, 5, 6, 0] (lv' := [(0, .ref (eA (vE a) 30 0)), (1, .int (nI w)), (2, .int (nI to)), (3, .int (nI sc)), (4, .int (nI q)), (5, .int (nI ((16 * w) + q))), (6, .int (nI 0))]) (by decide) rfl dX6_finds_89 ?_
              have loop91 : ∀ (fu : Nat) (T : Nat) (I2 : TI) (L2 : TL), 33 - T < fu → (T ≤ 32) → (Fr [(44, 0)] I I2) → (FL [(45, 0)] L L2) → (∀ s, q + 1 ≤ s → s ≤ sc → ∀ T', T' < 32 → WR I2 L2 sc kd pl wt to s T') → (∀ T', T' < T → WR I2 L2 sc kd pl wt to q T') → V a 91 [(0, .ref (eA (vE a) 30 0)), (1, .int (nI w)), (2, .int (nI to)), (3, .int (nI sc)), (4, .int (nI q)), (5, .int (nI ((16 * w) + q))), (6, .int (nI T))] [] I2 L2 := by
                intro fu
                induction fu with
                | zero => intro T I2 L2 hm _ _ _ _ _; exact absurd hm (Nat.not_lt_zero _)
                | succ fu ih91 =>
                  intro T I2 L2 hm91 hT hF2 hFL2 hv3 hr
                  refine v_iload X 6 rfl dX6_finds_91 ?_
                  refine v_bipush X (v := (nI 32)) dX6_finds_93 (by decide) ?_
                  refine v_icmp_ge_n X (by omega) (by omega) dX6_finds_95 (tgt := 271) (by decide) (fun h95 => ?_) (fun h95 => ?_)
                  · refine v_iinc X [1, 2, 3, 4, 0, 5, 6] 4 (nI q - nI 1) (lv' := [(0, .ref (eA (vE a) 30 0)), (1, .int (nI w)), (2, .int (nI to)), (3, .int (nI sc)), (4, .int (nI q - nI 1)), (5, .int (nI ((16 * w) + q))), (6, .int (nI T))]) rfl (down_dec q) (by decide) rfl dX6_finds_271 ?_
                    refine v_goto X (tgt := 74) dX6_finds_274 (by decide) ?_
                    refine v_sub [0, 1, 2, 3, 4] (lv' := [(0, .ref (eA (vE a) 30 0)), (1, .int (nI w)), (2, .int (nI to)), (3, .int (nI sc)), (4, .int (nI q - nI 1))]) rfl ?_
                    have hv4 : ∀ s, q ≤ s → s ≤ sc → ∀ T', T' < 32 → WR I2 L2 sc kd pl wt to s T' := fun s h1 h2 T' h3 => by
                      rcases Nat.lt_or_ge q s with z | z
                      · exact hv3 s (by omega) h2 T' h3
                      · have e : s = q := by omega
                        rw [e]
                        exact hr T' (by omega)
                    exact ih74 q I2 L2 (by omega) (by omega) hF2 hFL2 hv4
                  · have hq : q < sc := by omega
                    obtain ⟨hk2, hpln, hkp, hw1, hw9⟩ := hst q hq
                    have hT32 : T < 32 := by omega
                    have hW2 := webM_fr hF2 (by simp) (by simp) (by simp) (by simp) (by simp) hW
                    have hlt := aft_lt hn hq hT32
                    refine v_aload_n X 0 rfl dX6_finds_98 ?_
                    refine v_iload X 5 rfl dX6_finds_99 ?_
                    refine v_iload X 6 rfl dX6_finds_101 ?_
                    refine v_callV X (c_X6_over _ _ hE _ _ w hw ln sc kd pl wt hn hW2 q hq T hT32) k_X6_176 dl_30 (cef_30 _ _ _ _) rfl ⟨rfl, rfl, Nat.le_of_ble_eq_true rfl, Nat.le_of_ble_eq_true rfl⟩ (As := [.int (nI ((16 * w) + q)), .int (nI T)]) (rest := []) rfl rfl (Nat.le_of_ble_eq_true rfl) dX6_finds_103 (fun r103 I103 L103 hp103 => ?_)
                    obtain ⟨rfl, e1, e2⟩ := hp103
                    have e1 := e1.symm
                    have e2 := e2.symm
                    subst e1; subst e2
                    by_cases ha : aft (kd q) (pl q) T = T
                    · rw [if_pos ha]
                      refine v_st (st' := [.int (-1)]) rfl ?_
                      refine v_istore X [1, 2, 3, 4, 5, 6, 7, 0] (lv' := [(0, .ref (eA (vE a) 30 0)), (1, .int (nI w)), (2, .int (nI to)), (3, .int (nI sc)), (4, .int (nI q)), (5, .int (nI ((16 * w) + q))), (6, .int (nI T)), (7, .int (-1))]) (by decide) rfl dX6_finds_106 ?_
                      refine v_aload_n X 0 rfl dX6_finds_108 ?_
                      refine gf_X6_31 X dX6_finds_109 ?_
                      refine v_iload X 5 rfl dX6_finds_112 ?_
                      refine v_iald_n X dl_38 (fun _ _ => rfl) (n := 64) (by omega) (by decide) dX6_finds_114 ?_
                      refine v_eqi (y := (nI (kd q))) ((hW2.2.2 q hq).1) ?_
                      refine v_iconst X (v := (nI 2)) dX6_finds_115 (by decide) ?_
                      refine v_icmp_ne_n X (by omega) (by omega) dX6_finds_116 (tgt := 139) (by decide) (fun h116 => ?_) (fun h116 => ?_)
                      · refine v_iconst X (v := (nI 0)) dX6_finds_139 (by decide) ?_
                        refine v_istore X [1, 2, 3, 4, 5, 6, 7, 8, 0] (lv' := [(0, .ref (eA (vE a) 30 0)), (1, .int (nI w)), (2, .int (nI to)), (3, .int (nI sc)), (4, .int (nI q)), (5, .int (nI ((16 * w) + q))), (6, .int (nI T)), (7, .int (-1)), (8, .int (nI 0))]) (by decide) rfl dX6_finds_140 ?_
                        refine v_bipush X (v := (nI 32)) dX6_finds_142 (by decide) ?_
                        refine v_iload X 4 rfl dX6_finds_144 ?_
                        refine v_imul X dX6_finds_146 ?_
                        refine v_eqi (y := (nI (32 * q))) (pk_mul _ _) ?_
                        refine v_iload X 6 rfl dX6_finds_147 ?_
                        refine v_iadd X dX6_finds_149 ?_
                        refine v_eqi (y := (nI ((32 * q) + T))) (nI_add _ _) ?_
                        refine v_istore X [1, 2, 3, 4, 5, 6, 7, 8, 9, 0] (lv' := [(0, .ref (eA (vE a) 30 0)), (1, .int (nI w)), (2, .int (nI to)), (3, .int (nI sc)), (4, .int (nI q)), (5, .int (nI ((16 * w) + q))), (6, .int (nI T)), (7, .int (-1)), (8, .int (nI 0)), (9, .int (nI ((32 * q) + T)))]) (by decide) rfl dX6_finds_150 ?_
                        refine v_aload_n X 0 rfl dX6_finds_152 ?_
                        refine gf_X6_50 X dX6_finds_153 ?_
                        refine v_iload X 9 rfl dX6_finds_156 ?_
                        refine v_aload_n X 0 rfl dX6_finds_158 ?_
                        refine gf_X6_50 X dX6_finds_159 ?_
                        refine v_iload X 9 rfl dX6_finds_162 ?_
                        refine v_bipush X (v := (nI 32)) dX6_finds_164 (by decide) ?_
                        refine v_iadd X dX6_finds_166 ?_
                        refine v_eqi (y := (nI (((32 * q) + T) + 32))) (nI_add _ _) ?_
                        refine v_iald_n X dl_44 (fun _ _ => rfl) (n := 544) (by omega) (by decide) dX6_finds_167 ?_
                        refine v_iload X 7 rfl dX6_finds_168 ?_
                        refine v_if_ge X dX6_finds_170 (tgt := 177) (by decide) (fun h170 => ?_) (fun h170 => ?_)
                        · exact absurd h170 (by decide)
                        · refine v_iconst X (v := (nI 0)) dX6_finds_173 (by decide) ?_
                          refine v_goto X (tgt := 193) dX6_finds_174 (by decide) ?_
                          refine v_iadd X dX6_finds_193 ?_
                          refine v_iast_n X dl_44 (fun _ _ => rfl) (n := 544) (by omega) (by decide) dX6_finds_194 ?_
                          refine v_aload_n X 0 rfl dX6_finds_195 ?_
                          refine gf_X6_53 X dX6_finds_196 ?_
                          refine v_iload X 9 rfl dX6_finds_199 ?_
                          refine v_aload_n X 0 rfl dX6_finds_201 ?_
                          refine gf_X6_53 X dX6_finds_202 ?_
                          refine v_iload X 9 rfl dX6_finds_205 ?_
                          refine v_bipush X (v := (nI 32)) dX6_finds_207 (by decide) ?_
                          refine v_iadd X dX6_finds_209 ?_
                          refine v_eqi (y := (nI (((32 * q) + T) + 32))) (nI_add _ _) ?_
                          refine v_lald_n X dl_45 (fun _ _ => rfl) (n := 544) (by omega) (by decide) dX6_finds_210 ?_
                          refine v_iload X 8 rfl dX6_finds_211 ?_
                          refine v_if_eq_n X (by omega) dX6_finds_213 (tgt := 226) (by decide) (fun h213 => ?_) (fun h213 => ?_)
                          · refine v_iconst X (v := (nI 1)) dX6_finds_226 (by decide) ?_
                            refine v_i2l X dX6_finds_227 rfl ?_
                            refine v_lmul X dX6_finds_228 ?_
                            refine v_iload X 7 rfl dX6_finds_229 ?_
                            refine v_if_ge X dX6_finds_231 (tgt := 238) (by decide) (fun h231 => ?_) (fun h231 => ?_)
                            · exact absurd h231 (by decide)
                            · refine v_lconst X (v := 0) dX6_finds_234 rfl ?_
                              refine v_goto X (tgt := 263) dX6_finds_235 (by decide) ?_
                              refine v_ladd X dX6_finds_263 ?_
                              refine v_last_n X dl_45 (fun _ _ => rfl) (n := 544) (by omega) (by decide) dX6_finds_264 ?_
                              refine v_iinc X [1, 2, 3, 4, 5, 6, 0, 7, 8, 9] 6 (nI (T + 1)) (lv' := [(0, .ref (eA (vE a) 30 0)), (1, .int (nI w)), (2, .int (nI to)), (3, .int (nI sc)), (4, .int (nI q)), (5, .int (nI ((16 * w) + q))), (6, .int (nI (T + 1))), (7, .int (-1)), (8, .int (nI 0)), (9, .int (nI ((32 * q) + T)))]) rfl (nI_1 _) (by decide) rfl dX6_finds_265 ?_
                              refine v_goto X (tgt := 91) dX6_finds_268 (by decide) ?_
                              refine v_sub [0, 1, 2, 3, 4, 5, 6] (lv' := [(0, .ref (eA (vE a) 30 0)), (1, .int (nI w)), (2, .int (nI to)), (3, .int (nI sc)), (4, .int (nI q)), (5, .int (nI ((16 * w) + q))), (6, .int (nI (T + 1)))]) rfl ?_
                              have hnew := WR.st hq (hv3 (q + 1) (Nat.le_refl _) (by omega) T hT32) (fun z => h116 z.1) ha
                              exact ih91 (T + 1) (upI I2 44 0 ((32 * q) + T) ((I2 44 0 (((32 * q) + T) + 32)) + (nI 0))) (upL L2 45 0 ((32 * q) + T) (((L2 45 0 (((32 * q) + T) + 32)) * (nI 1).toInt64) + 0)) (by omega) (by omega) (hF2.up (by simp)) (hFL2.up (by simp)) (WR.off hT32 hv3) (WR.put hr hnew.1 hnew.2)
                          · exact absurd h213 (by decide)
                      · refine v_iload X 6 rfl dX6_finds_119 ?_
                        refine v_aload_n X 0 rfl dX6_finds_121 ?_
                        refine gf_X6_34 X dX6_finds_122 ?_
                        refine v_iload X 5 rfl dX6_finds_125 ?_
                        refine v_iald_n X dl_39 (fun _ _ => rfl) (n := 64) (by omega) (by decide) dX6_finds_127 ?_
                        refine v_eqi (y := (nI (pl q))) ((hW2.2.2 q hq).2.1) ?_
                        refine v_ishr X dX6_finds_128 ?_
                        refine v_eqi (y := (nI (T / 2 ^ (pl q)))) (sh_r (by omega) (by omega)) ?_
                        refine v_iconst X (v := (nI 1)) dX6_finds_129 (by decide) ?_
                        refine v_iand X dX6_finds_130 ?_
                        refine v_eqi (y := (nI ((T / 2 ^ (pl q)) &&& 1))) (an_and _ _) ?_
                        refine v_eqi (y := (nI (T / 2 ^ pl q % 2))) (congrArg nI (Nat.and_one_is_mod _)) ?_
                        refine v_iconst X (v := (nI 1)) dX6_finds_131 (by decide) ?_
                        refine v_icmp_ne_n X (by omega) (by omega) dX6_finds_132 (tgt := 139) (by decide) (fun h132 => ?_) (fun h132 => ?_)
                        · refine v_iconst X (v := (nI 0)) dX6_finds_139 (by decide) ?_
                          refine v_istore X [1, 2, 3, 4, 5, 6, 7, 8, 0] (lv' := [(0, .ref (eA (vE a) 30 0)), (1, .int (nI w)), (2, .int (nI to)), (3, .int (nI sc)), (4, .int (nI q)), (5, .int (nI ((16 * w) + q))), (6, .int (nI T)), (7, .int (-1)), (8, .int (nI 0))]) (by decide) rfl dX6_finds_140 ?_
                          refine v_bipush X (v := (nI 32)) dX6_finds_142 (by decide) ?_
                          refine v_iload X 4 rfl dX6_finds_144 ?_
                          refine v_imul X dX6_finds_146 ?_
                          refine v_eqi (y := (nI (32 * q))) (pk_mul _ _) ?_
                          refine v_iload X 6 rfl dX6_finds_147 ?_
                          refine v_iadd X dX6_finds_149 ?_
                          refine v_eqi (y := (nI ((32 * q) + T))) (nI_add _ _) ?_
                          refine v_istore X [1, 2, 3, 4, 5, 6, 7, 8, 9, 0] (lv' := [(0, .ref (eA (vE a) 30 0)), (1, .int (nI w)), (2, .int (nI to)), (3, .int (nI sc)), (4, .int (nI q)), (5, .int (nI ((16 * w) + q))), (6, .int (nI T)), (7, .int (-1)), (8, .int (nI 0)), (9, .int (nI ((32 * q) + T)))]) (by decide) rfl dX6_finds_150 ?_
                          refine v_aload_n X 0 rfl dX6_finds_152 ?_
                          refine gf_X6_50 X dX6_finds_153 ?_
                          refine v_iload X 9 rfl dX6_finds_156 ?_
                          refine v_aload_n X 0 rfl dX6_finds_158 ?_
                          refine gf_X6_50 X dX6_finds_159 ?_
                          refine v_iload X 9 rfl dX6_finds_162 ?_
                          refine v_bipush X (v := (nI 32)) dX6_finds_164 (by decide) ?_
                          refine v_iadd X dX6_finds_166 ?_
                          refine v_eqi (y := (nI (((32 * q) + T) + 32))) (nI_add _ _) ?_
                          refine v_iald_n X dl_44 (fun _ _ => rfl) (n := 544) (by omega) (by decide) dX6_finds_167 ?_
                          refine v_iload X 7 rfl dX6_finds_168 ?_
                          refine v_if_ge X dX6_finds_170 (tgt := 177) (by decide) (fun h170 => ?_) (fun h170 => ?_)
                          · exact absurd h170 (by decide)
                          · refine v_iconst X (v := (nI 0)) dX6_finds_173 (by decide) ?_
                            refine v_goto X (tgt := 193) dX6_finds_174 (by decide) ?_
                            refine v_iadd X dX6_finds_193 ?_
                            refine v_iast_n X dl_44 (fun _ _ => rfl) (n := 544) (by omega) (by decide) dX6_finds_194 ?_
                            refine v_aload_n X 0 rfl dX6_finds_195 ?_
                            refine gf_X6_53 X dX6_finds_196 ?_
                            refine v_iload X 9 rfl dX6_finds_199 ?_
                            refine v_aload_n X 0 rfl dX6_finds_201 ?_
                            refine gf_X6_53 X dX6_finds_202 ?_
                            refine v_iload X 9 rfl dX6_finds_205 ?_
                            refine v_bipush X (v := (nI 32)) dX6_finds_207 (by decide) ?_
                            refine v_iadd X dX6_finds_209 ?_
                            refine v_eqi (y := (nI (((32 * q) + T) + 32))) (nI_add _ _) ?_
                            refine v_lald_n X dl_45 (fun _ _ => rfl) (n := 544) (by omega) (by decide) dX6_finds_210 ?_
                            refine v_iload X 8 rfl dX6_finds_211 ?_
                            refine v_if_eq_n X (by omega) dX6_finds_213 (tgt := 226) (by decide) (fun h213 => ?_) (fun h213 => ?_)
                            · refine v_iconst X (v := (nI 1)) dX6_finds_226 (by decide) ?_
                              refine v_i2l X dX6_finds_227 rfl ?_
                              refine v_lmul X dX6_finds_228 ?_
                              refine v_iload X 7 rfl dX6_finds_229 ?_
                              refine v_if_ge X dX6_finds_231 (tgt := 238) (by decide) (fun h231 => ?_) (fun h231 => ?_)
                              · exact absurd h231 (by decide)
                              · refine v_lconst X (v := 0) dX6_finds_234 rfl ?_
                                refine v_goto X (tgt := 263) dX6_finds_235 (by decide) ?_
                                refine v_ladd X dX6_finds_263 ?_
                                refine v_last_n X dl_45 (fun _ _ => rfl) (n := 544) (by omega) (by decide) dX6_finds_264 ?_
                                refine v_iinc X [1, 2, 3, 4, 5, 6, 0, 7, 8, 9] 6 (nI (T + 1)) (lv' := [(0, .ref (eA (vE a) 30 0)), (1, .int (nI w)), (2, .int (nI to)), (3, .int (nI sc)), (4, .int (nI q)), (5, .int (nI ((16 * w) + q))), (6, .int (nI (T + 1))), (7, .int (-1)), (8, .int (nI 0)), (9, .int (nI ((32 * q) + T)))]) rfl (nI_1 _) (by decide) rfl dX6_finds_265 ?_
                                refine v_goto X (tgt := 91) dX6_finds_268 (by decide) ?_
                                refine v_sub [0, 1, 2, 3, 4, 5, 6] (lv' := [(0, .ref (eA (vE a) 30 0)), (1, .int (nI w)), (2, .int (nI to)), (3, .int (nI sc)), (4, .int (nI q)), (5, .int (nI ((16 * w) + q))), (6, .int (nI (T + 1)))]) rfl ?_
                                have hnew := WR.st hq (hv3 (q + 1) (Nat.le_refl _) (by omega) T hT32) (fun z => h132 z.2) ha
                                exact ih91 (T + 1) (upI I2 44 0 ((32 * q) + T) ((I2 44 0 (((32 * q) + T) + 32)) + (nI 0))) (upL L2 45 0 ((32 * q) + T) (((L2 45 0 (((32 * q) + T) + 32)) * (nI 1).toInt64) + 0)) (by omega) (by omega) (hF2.up (by simp)) (hFL2.up (by simp)) (WR.off hT32 hv3) (WR.put hr hnew.1 hnew.2)
                            · exact absurd h213 (by decide)
                        · refine v_iconst X (v := (nI 1)) dX6_finds_135 (by decide) ?_
                          refine v_goto X (tgt := 140) dX6_finds_136 (by decide) ?_
                          refine v_istore X [1, 2, 3, 4, 5, 6, 7, 8, 0] (lv' := [(0, .ref (eA (vE a) 30 0)), (1, .int (nI w)), (2, .int (nI to)), (3, .int (nI sc)), (4, .int (nI q)), (5, .int (nI ((16 * w) + q))), (6, .int (nI T)), (7, .int (-1)), (8, .int (nI 1))]) (by decide) rfl dX6_finds_140 ?_
                          refine v_bipush X (v := (nI 32)) dX6_finds_142 (by decide) ?_
                          refine v_iload X 4 rfl dX6_finds_144 ?_
                          refine v_imul X dX6_finds_146 ?_
                          refine v_eqi (y := (nI (32 * q))) (pk_mul _ _) ?_
                          refine v_iload X 6 rfl dX6_finds_147 ?_
                          refine v_iadd X dX6_finds_149 ?_
                          refine v_eqi (y := (nI ((32 * q) + T))) (nI_add _ _) ?_
                          refine v_istore X [1, 2, 3, 4, 5, 6, 7, 8, 9, 0] (lv' := [(0, .ref (eA (vE a) 30 0)), (1, .int (nI w)), (2, .int (nI to)), (3, .int (nI sc)), (4, .int (nI q)), (5, .int (nI ((16 * w) + q))), (6, .int (nI T)), (7, .int (-1)), (8, .int (nI 1)), (9, .int (nI ((32 * q) + T)))]) (by decide) rfl dX6_finds_150 ?_
                          refine v_aload_n X 0 rfl dX6_finds_152 ?_
                          refine gf_X6_50 X dX6_finds_153 ?_
                          refine v_iload X 9 rfl dX6_finds_156 ?_
                          refine v_aload_n X 0 rfl dX6_finds_158 ?_
                          refine gf_X6_50 X dX6_finds_159 ?_
                          refine v_iload X 9 rfl dX6_finds_162 ?_
                          refine v_bipush X (v := (nI 32)) dX6_finds_164 (by decide) ?_
                          refine v_iadd X dX6_finds_166 ?_
                          refine v_eqi (y := (nI (((32 * q) + T) + 32))) (nI_add _ _) ?_
                          refine v_iald_n X dl_44 (fun _ _ => rfl) (n := 544) (by omega) (by decide) dX6_finds_167 ?_
                          refine v_iload X 7 rfl dX6_finds_168 ?_
                          refine v_if_ge X dX6_finds_170 (tgt := 177) (by decide) (fun h170 => ?_) (fun h170 => ?_)
                          · exact absurd h170 (by decide)
                          · refine v_iconst X (v := (nI 0)) dX6_finds_173 (by decide) ?_
                            refine v_goto X (tgt := 193) dX6_finds_174 (by decide) ?_
                            refine v_iadd X dX6_finds_193 ?_
                            refine v_iast_n X dl_44 (fun _ _ => rfl) (n := 544) (by omega) (by decide) dX6_finds_194 ?_
                            refine v_aload_n X 0 rfl dX6_finds_195 ?_
                            refine gf_X6_53 X dX6_finds_196 ?_
                            refine v_iload X 9 rfl dX6_finds_199 ?_
                            refine v_aload_n X 0 rfl dX6_finds_201 ?_
                            refine gf_X6_53 X dX6_finds_202 ?_
                            refine v_iload X 9 rfl dX6_finds_205 ?_
                            refine v_bipush X (v := (nI 32)) dX6_finds_207 (by decide) ?_
                            refine v_iadd X dX6_finds_209 ?_
                            refine v_eqi (y := (nI (((32 * q) + T) + 32))) (nI_add _ _) ?_
                            refine v_lald_n X dl_45 (fun _ _ => rfl) (n := 544) (by omega) (by decide) dX6_finds_210 ?_
                            refine v_iload X 8 rfl dX6_finds_211 ?_
                            refine v_if_eq_n X (by omega) dX6_finds_213 (tgt := 226) (by decide) (fun h213 => ?_) (fun h213 => ?_)
                            · exact absurd h213 (by decide)
                            · refine v_aload_n X 0 rfl dX6_finds_216 ?_
                              refine gf_X6_37 X dX6_finds_217 ?_
                              refine v_iload X 5 rfl dX6_finds_220 ?_
                              refine v_iald_n X dl_40 (fun _ _ => rfl) (n := 64) (by omega) (by decide) dX6_finds_222 ?_
                              refine v_eqi (y := (nI (wt q))) ((upI_k (by decide)).trans ((hW2.2.2 q hq).2.2)) ?_
                              refine v_goto X (tgt := 227) dX6_finds_223 (by decide) ?_
                              refine v_i2l X dX6_finds_227 rfl ?_
                              refine v_lmul X dX6_finds_228 ?_
                              refine v_iload X 7 rfl dX6_finds_229 ?_
                              refine v_if_ge X dX6_finds_231 (tgt := 238) (by decide) (fun h231 => ?_) (fun h231 => ?_)
                              · exact absurd h231 (by decide)
                              · refine v_lconst X (v := 0) dX6_finds_234 rfl ?_
                                refine v_goto X (tgt := 263) dX6_finds_235 (by decide) ?_
                                refine v_ladd X dX6_finds_263 ?_
                                refine v_last_n X dl_45 (fun _ _ => rfl) (n := 544) (by omega) (by decide) dX6_finds_264 ?_
                                refine v_iinc X [1, 2, 3, 4, 5, 6, 0, 7, 8, 9] 6 (nI (T + 1)) (lv' := [(0, .ref (eA (vE a) 30 0)), (1, .int (nI w)), (2, .int (nI to)), (3, .int (nI sc)), (4, .int (nI q)), (5, .int (nI ((16 * w) + q))), (6, .int (nI (T + 1))), (7, .int (-1)), (8, .int (nI 1)), (9, .int (nI ((32 * q) + T)))]) rfl (nI_1 _) (by decide) rfl dX6_finds_265 ?_
                                refine v_goto X (tgt := 91) dX6_finds_268 (by decide) ?_
                                refine v_sub [0, 1, 2, 3, 4, 5, 6] (lv' := [(0, .ref (eA (vE a) 30 0)), (1, .int (nI w)), (2, .int (nI to)), (3, .int (nI sc)), (4, .int (nI q)), (5, .int (nI ((16 * w) + q))), (6, .int (nI (T + 1)))]) rfl ?_
                                have hnew := WR.on hq (hv3 (q + 1) (Nat.le_refl _) (by omega) T hT32) h116 h132
                                exact ih91 (T + 1) (upI I2 44 0 ((32 * q) + T) ((I2 44 0 (((32 * q) + T) + 32)) + (nI 0))) (upL L2 45 0 ((32 * q) + T) (((L2 45 0 (((32 * q) + T) + 32)) * (nI (wt q)).toInt64) + 0)) (by omega) (by omega) (hF2.up (by simp)) (hFL2.up (by simp)) (WR.off hT32 hv3) (WR.put hr hnew.1 hnew.2)
                    · rw [if_neg ha]
                      refine v_st (st' := [.int (nI (aft (kd q) (pl q) T))]) rfl ?_
                      refine v_istore X [1, 2, 3, 4, 5, 6, 7, 0] (lv' := [(0, .ref (eA (vE a) 30 0)), (1, .int (nI w)), (2, .int (nI to)), (3, .int (nI sc)), (4, .int (nI q)), (5, .int (nI ((16 * w) + q))), (6, .int (nI T)), (7, .int (nI (aft (kd q) (pl q) T)))]) (by decide) rfl dX6_finds_106 ?_
                      refine v_aload_n X 0 rfl dX6_finds_108 ?_
                      refine gf_X6_31 X dX6_finds_109 ?_
                      refine v_iload X 5 rfl dX6_finds_112 ?_
                      refine v_iald_n X dl_38 (fun _ _ => rfl) (n := 64) (by omega) (by decide) dX6_finds_114 ?_
                      refine v_eqi (y := (nI (kd q))) ((hW2.2.2 q hq).1) ?_
                      refine v_iconst X (v := (nI 2)) dX6_finds_115 (by decide) ?_
                      refine v_icmp_ne_n X (by omega) (by omega) dX6_finds_116 (tgt := 139) (by decide) (fun h116 => ?_) (fun h116 => ?_)
                      · refine v_iconst X (v := (nI 0)) dX6_finds_139 (by decide) ?_
                        refine v_istore X [1, 2, 3, 4, 5, 6, 7, 8, 0] (lv' := [(0, .ref (eA (vE a) 30 0)), (1, .int (nI w)), (2, .int (nI to)), (3, .int (nI sc)), (4, .int (nI q)), (5, .int (nI ((16 * w) + q))), (6, .int (nI T)), (7, .int (nI (aft (kd q) (pl q) T))), (8, .int (nI 0))]) (by decide) rfl dX6_finds_140 ?_
                        refine v_bipush X (v := (nI 32)) dX6_finds_142 (by decide) ?_
                        refine v_iload X 4 rfl dX6_finds_144 ?_
                        refine v_imul X dX6_finds_146 ?_
                        refine v_eqi (y := (nI (32 * q))) (pk_mul _ _) ?_
                        refine v_iload X 6 rfl dX6_finds_147 ?_
                        refine v_iadd X dX6_finds_149 ?_
                        refine v_eqi (y := (nI ((32 * q) + T))) (nI_add _ _) ?_
                        refine v_istore X [1, 2, 3, 4, 5, 6, 7, 8, 9, 0] (lv' := [(0, .ref (eA (vE a) 30 0)), (1, .int (nI w)), (2, .int (nI to)), (3, .int (nI sc)), (4, .int (nI q)), (5, .int (nI ((16 * w) + q))), (6, .int (nI T)), (7, .int (nI (aft (kd q) (pl q) T))), (8, .int (nI 0)), (9, .int (nI ((32 * q) + T)))]) (by decide) rfl dX6_finds_150 ?_
                        refine v_aload_n X 0 rfl dX6_finds_152 ?_
                        refine gf_X6_50 X dX6_finds_153 ?_
                        refine v_iload X 9 rfl dX6_finds_156 ?_
                        refine v_aload_n X 0 rfl dX6_finds_158 ?_
                        refine gf_X6_50 X dX6_finds_159 ?_
                        refine v_iload X 9 rfl dX6_finds_162 ?_
                        refine v_bipush X (v := (nI 32)) dX6_finds_164 (by decide) ?_
                        refine v_iadd X dX6_finds_166 ?_
                        refine v_eqi (y := (nI (((32 * q) + T) + 32))) (nI_add _ _) ?_
                        refine v_iald_n X dl_44 (fun _ _ => rfl) (n := 544) (by omega) (by decide) dX6_finds_167 ?_
                        refine v_iload X 7 rfl dX6_finds_168 ?_
                        refine v_if_ge_n X (by omega) dX6_finds_170 (tgt := 177) (by decide) ?_
                        refine v_aload_n X 0 rfl dX6_finds_177 ?_
                        refine gf_X6_50 X dX6_finds_178 ?_
                        refine v_bipush X (v := (nI 32)) dX6_finds_181 (by decide) ?_
                        refine v_iload X 4 rfl dX6_finds_183 ?_
                        refine v_imul X dX6_finds_185 ?_
                        refine v_eqi (y := (nI (32 * q))) (pk_mul _ _) ?_
                        refine v_bipush X (v := (nI 32)) dX6_finds_186 (by decide) ?_
                        refine v_iadd X dX6_finds_188 ?_
                        refine v_eqi (y := (nI ((32 * q) + 32))) (nI_add _ _) ?_
                        refine v_iload X 7 rfl dX6_finds_189 ?_
                        refine v_iadd X dX6_finds_191 ?_
                        refine v_eqi (y := (nI (((32 * q) + 32) + (aft (kd q) (pl q) T)))) (nI_add _ _) ?_
                        refine v_iald_n X dl_44 (fun _ _ => rfl) (n := 544) (by omega) (by decide) dX6_finds_192 ?_
                        refine v_iadd X dX6_finds_193 ?_
                        refine v_iast_n X dl_44 (fun _ _ => rfl) (n := 544) (by omega) (by decide) dX6_finds_194 ?_
                        refine v_aload_n X 0 rfl dX6_finds_195 ?_
                        refine gf_X6_53 X dX6_finds_196 ?_
                        refine v_iload X 9 rfl dX6_finds_199 ?_
                        refine v_aload_n X 0 rfl dX6_finds_201 ?_
                        refine gf_X6_53 X dX6_finds_202 ?_
                        refine v_iload X 9 rfl dX6_finds_205 ?_
                        refine v_bipush X (v := (nI 32)) dX6_finds_207 (by decide) ?_
                        refine v_iadd X dX6_finds_209 ?_
                        refine v_eqi (y := (nI (((32 * q) + T) + 32))) (nI_add _ _) ?_
                        refine v_lald_n X dl_45 (fun _ _ => rfl) (n := 544) (by omega) (by decide) dX6_finds_210 ?_
                        refine v_iload X 8 rfl dX6_finds_211 ?_
                        refine v_if_eq_n X (by omega) dX6_finds_213 (tgt := 226) (by decide) (fun h213 => ?_) (fun h213 => ?_)
                        · refine v_iconst X (v := (nI 1)) dX6_finds_226 (by decide) ?_
                          refine v_i2l X dX6_finds_227 rfl ?_
                          refine v_lmul X dX6_finds_228 ?_
                          refine v_iload X 7 rfl dX6_finds_229 ?_
                          refine v_if_ge_n X (by omega) dX6_finds_231 (tgt := 238) (by decide) ?_
                          refine v_aload_n X 0 rfl dX6_finds_238 ?_
                          refine gf_X6_37 X dX6_finds_239 ?_
                          refine v_iload X 5 rfl dX6_finds_242 ?_
                          refine v_iald_n X dl_40 (fun _ _ => rfl) (n := 64) (by omega) (by decide) dX6_finds_244 ?_
                          refine v_eqi (y := (nI (wt q))) ((upI_k (by decide)).trans ((hW2.2.2 q hq).2.2)) ?_
                          refine v_i2l X dX6_finds_245 rfl ?_
                          refine v_aload_n X 0 rfl dX6_finds_246 ?_
                          refine gf_X6_53 X dX6_finds_247 ?_
                          refine v_bipush X (v := (nI 32)) dX6_finds_250 (by decide) ?_
                          refine v_iload X 4 rfl dX6_finds_252 ?_
                          refine v_imul X dX6_finds_254 ?_
                          refine v_eqi (y := (nI (32 * q))) (pk_mul _ _) ?_
                          refine v_bipush X (v := (nI 32)) dX6_finds_255 (by decide) ?_
                          refine v_iadd X dX6_finds_257 ?_
                          refine v_eqi (y := (nI ((32 * q) + 32))) (nI_add _ _) ?_
                          refine v_iload X 7 rfl dX6_finds_258 ?_
                          refine v_iadd X dX6_finds_260 ?_
                          refine v_eqi (y := (nI (((32 * q) + 32) + (aft (kd q) (pl q) T)))) (nI_add _ _) ?_
                          refine v_lald_n X dl_45 (fun _ _ => rfl) (n := 544) (by omega) (by decide) dX6_finds_261 ?_
                          refine v_lmul X dX6_finds_262 ?_
                          refine v_ladd X dX6_finds_263 ?_
                          refine v_last_n X dl_45 (fun _ _ => rfl) (n := 544) (by omega) (by decide) dX6_finds_264 ?_
                          refine v_iinc X [1, 2, 3, 4, 5, 6, 0, 7, 8, 9] 6 (nI (T + 1)) (lv' := [(0, .ref (eA (vE a) 30 0)), (1, .int (nI w)), (2, .int (nI to)), (3, .int (nI sc)), (4, .int (nI q)), (5, .int (nI ((16 * w) + q))), (6, .int (nI (T + 1))), (7, .int (nI (aft (kd q) (pl q) T))), (8, .int (nI 0)), (9, .int (nI ((32 * q) + T)))]) rfl (nI_1 _) (by decide) rfl dX6_finds_265 ?_
                          refine v_goto X (tgt := 91) dX6_finds_268 (by decide) ?_
                          refine v_sub [0, 1, 2, 3, 4, 5, 6] (lv' := [(0, .ref (eA (vE a) 30 0)), (1, .int (nI w)), (2, .int (nI to)), (3, .int (nI sc)), (4, .int (nI q)), (5, .int (nI ((16 * w) + q))), (6, .int (nI (T + 1)))]) rfl ?_
                          have hnew := WR.go hq (hv3 (q + 1) (Nat.le_refl _) (by omega) T hT32) (hv3 (q + 1) (Nat.le_refl _) (by omega) _ hlt) h116 ha
                          exact ih91 (T + 1) (upI I2 44 0 ((32 * q) + T) ((I2 44 0 (((32 * q) + T) + 32)) + (I2 44 0 (((32 * q) + 32) + (aft (kd q) (pl q) T))))) (upL L2 45 0 ((32 * q) + T) (((L2 45 0 (((32 * q) + T) + 32)) * (nI 1).toInt64) + ((nI (wt q)).toInt64 * (L2 45 0 (((32 * q) + 32) + (aft (kd q) (pl q) T)))))) (by omega) (by omega) (hF2.up (by simp)) (hFL2.up (by simp)) (WR.off hT32 hv3) (WR.put hr hnew.1 hnew.2)
                        · exact absurd h213 (by decide)
                      · exact absurd (aft_on h116) ha
              exact loop91 _ 0 I1 L1 (Nat.lt_succ_self _) (by decide) hF hFL hv (fun T' h => absurd h (Nat.not_lt_zero _))
        have hv2 : ∀ s, sc ≤ s → s ≤ sc → ∀ T', T' < 32 → WR I1 L1 sc kd pl wt to s T' := fun s h1 h2 T' h3 => by
          have e : s = sc := by omega
          rw [e]
          exact hv T' (by omega)
        exact loop74 _ sc I1 L1 (Nat.lt_succ_self _) (Nat.le_refl _) hF hFL hv2
      · refine v_aload_n X 0 rfl dX6_finds_17 ?_
        refine gf_X6_50 X dX6_finds_18 ?_
        refine v_bipush X (v := (nI 32)) dX6_finds_21 (by decide) ?_
        refine v_iload_n X 3 rfl dX6_finds_23 ?_
        refine v_imul X dX6_finds_24 ?_
        refine v_eqi (y := (nI (32 * sc))) (pk_mul _ _) ?_
        refine v_iload X 4 rfl dX6_finds_25 ?_
        refine v_iadd X dX6_finds_27 ?_
        refine v_eqi (y := (nI ((32 * sc) + T))) (nI_add _ _) ?_
        refine v_iload X 4 rfl dX6_finds_28 ?_
        refine v_iload_n X 2 rfl dX6_finds_30 ?_
        refine v_icmp_ne_n X (by omega) (by omega) dX6_finds_31 (tgt := 38) (by decide) (fun h31 => ?_) (fun h31 => ?_)
        · refine v_iconst X (v := (nI 0)) dX6_finds_38 (by decide) ?_
          refine v_iast_n X dl_44 (fun _ _ => rfl) (n := 544) (by omega) (by decide) dX6_finds_39 ?_
          refine v_aload_n X 0 rfl dX6_finds_40 ?_
          refine gf_X6_53 X dX6_finds_41 ?_
          refine v_bipush X (v := (nI 32)) dX6_finds_44 (by decide) ?_
          refine v_iload_n X 3 rfl dX6_finds_46 ?_
          refine v_imul X dX6_finds_47 ?_
          refine v_eqi (y := (nI (32 * sc))) (pk_mul _ _) ?_
          refine v_iload X 4 rfl dX6_finds_48 ?_
          refine v_iadd X dX6_finds_50 ?_
          refine v_eqi (y := (nI ((32 * sc) + T))) (nI_add _ _) ?_
          refine v_iload X 4 rfl dX6_finds_51 ?_
          refine v_iload_n X 2 rfl dX6_finds_53 ?_
          refine v_icmp_ne_n X (by omega) (by omega) dX6_finds_54 (tgt := 61) (by decide) (fun h54 => ?_) (fun h54 => ?_)
          · refine v_lconst X (v := 0) dX6_finds_61 rfl ?_
            refine v_last_n X dl_45 (fun _ _ => rfl) (n := 544) (by omega) (by decide) dX6_finds_62 ?_
            refine v_iinc X [1, 2, 3, 4, 0] 4 (nI (T + 1)) (lv' := [(0, .ref (eA (vE a) 30 0)), (1, .int (nI w)), (2, .int (nI to)), (3, .int (nI sc)), (4, .int (nI (T + 1)))]) rfl (nI_1 _) (by decide) rfl dX6_finds_63 ?_
            refine v_goto X (tgt := 10) dX6_finds_66 (by decide) ?_
            exact ih10 (T + 1) (upI I1 44 0 ((32 * sc) + T) (nI 0)) (upL L1 45 0 ((32 * sc) + T) 0) (by omega) (by omega) (hF.up (by simp)) (hFL.up (by simp)) (WR.put hv (by rw [Nat.sub_self]; show _ = (if T = to then (1 : Int64) else 0).toInt32; rw [if_neg h31]; rfl) (by rw [Nat.sub_self]; show _ = (if T = to then (1 : Int64) else 0); rw [if_neg h31]))
          · exact absurd h54 h31
        · refine v_iconst X (v := (nI 1)) dX6_finds_34 (by decide) ?_
          refine v_goto X (tgt := 39) dX6_finds_35 (by decide) ?_
          refine v_iast_n X dl_44 (fun _ _ => rfl) (n := 544) (by omega) (by decide) dX6_finds_39 ?_
          refine v_aload_n X 0 rfl dX6_finds_40 ?_
          refine gf_X6_53 X dX6_finds_41 ?_
          refine v_bipush X (v := (nI 32)) dX6_finds_44 (by decide) ?_
          refine v_iload_n X 3 rfl dX6_finds_46 ?_
          refine v_imul X dX6_finds_47 ?_
          refine v_eqi (y := (nI (32 * sc))) (pk_mul _ _) ?_
          refine v_iload X 4 rfl dX6_finds_48 ?_
          refine v_iadd X dX6_finds_50 ?_
          refine v_eqi (y := (nI ((32 * sc) + T))) (nI_add _ _) ?_
          refine v_iload X 4 rfl dX6_finds_51 ?_
          refine v_iload_n X 2 rfl dX6_finds_53 ?_
          refine v_icmp_ne_n X (by omega) (by omega) dX6_finds_54 (tgt := 61) (by decide) (fun h54 => ?_) (fun h54 => ?_)
          · exact absurd h31 h54
          · refine v_lconst X (v := 1) dX6_finds_57 rfl ?_
            refine v_goto X (tgt := 62) dX6_finds_58 (by decide) ?_
            refine v_last_n X dl_45 (fun _ _ => rfl) (n := 544) (by omega) (by decide) dX6_finds_62 ?_
            refine v_iinc X [1, 2, 3, 4, 0] 4 (nI (T + 1)) (lv' := [(0, .ref (eA (vE a) 30 0)), (1, .int (nI w)), (2, .int (nI to)), (3, .int (nI sc)), (4, .int (nI (T + 1)))]) rfl (nI_1 _) (by decide) rfl dX6_finds_63 ?_
            refine v_goto X (tgt := 10) dX6_finds_66 (by decide) ?_
            exact ih10 (T + 1) (upI I1 44 0 ((32 * sc) + T) (nI 1)) (upL L1 45 0 ((32 * sc) + T) 1) (by omega) (by omega) (hF.up (by simp)) (hFL.up (by simp)) (WR.put hv (by rw [Nat.sub_self]; show _ = (if T = to then (1 : Int64) else 0).toInt32; rw [if_pos h31]; rfl) (by rw [Nat.sub_self]; show _ = (if T = to then (1 : Int64) else 0); rw [if_pos h31]))
  exact loop10 _ 0 I L (Nat.lt_succ_self _) (by decide) Fr.rf FL.rf (fun T' h => absurd h (Nat.not_lt_zero _))
