/-! the class's tables -/
def CT (I : TI) (c : Nat) (ro co : Nat → Nat) : Prop := I 0 0 1 = nI c ∧ c ≤ 12 ∧ ∀ t, t < c → I 2 t 1 = nI (ro t) ∧ I 2 t 2 = nI (co t) ∧ 1 ≤ ro t ∧ ro t ≤ 5 ∧ 1 ≤ co t ∧ co t ≤ 5
def inP (c : Nat) (ro co : Nat → Nat) (x i j : Int32) : Prop := ∃ t, t < c ∧ x = nI t ∧ isT (ro t) i ∧ isT (co t) j
abbrev nm (v : Int64) : Prop := -1000 ≤ v ∧ v ≤ 1000
theorem inP_no {c : Nat} {ro co : Nat → Nat} {t : Nat} {i j : Int32} (hr : ro t ≤ 5) (hc : co t ≤ 5) (hc12 : c ≤ 12) (ht : t < c) (h : ¬ (inR (ro t) i ∧ inR (co t) j)) : ¬ inP c ro co (nI t) i j := fun ⟨u, hu, e, h1, h2⟩ => by
  have e2 : t = u := (nI_eq (by omega) (by omega)).mp e
  subst e2
  exact h ⟨(inR_T (by omega)).mpr h1, (inR_T (by omega)).mpr h2⟩
theorem inP_no' {c : Nat} {ro co : Nat → Nat} {x i j : Int32} (h : ¬ isT c x) : ¬ inP c ro co x i j := fun ⟨t, ht, e, _⟩ => h ⟨t, ht, e⟩
def Bld (I I1 : TI) (t rr cc : Nat) (kd net : Int32) (D : Nat → Nat → Prop) (V : Nat → Nat → Int64) : Prop :=
  Fr [(2, t), (3, t)] I I1 ∧ I1 2 t 1 = nI rr ∧ I1 2 t 2 = nI cc ∧ I1 2 t 3 = kd ∧ I1 2 t 4 = net ∧
  ((I1 2 t 5 = nI 1 ∧ (∀ i j, i < 5 → j < 5 → D i j → nm (V i j) ∧ I1 3 t (5 * i + j) = (V i j).toInt32) ∧ (∀ i j, i < 5 → j < 5 → ¬ D i j → I1 3 t (5 * i + j) = nI 0)) ∨ (I1 2 t 5 = nI 0 ∧ ∃ i j, i < 5 ∧ j < 5 ∧ D i j ∧ ¬ nm (V i j)))
theorem Bld.fr {I I1 : TI} {t rr cc : Nat} {kd net : Int32} {D : Nat → Nat → Prop} {V : Nat → Nat → Int64} (h : Bld I I1 t rr cc kd net D V) : Fr [(2, t), (3, t)] I I1 := h.1
theorem Bld.cg {I I1 : TI} {t rr cc : Nat} {kd net : Int32} {D D' : Nat → Nat → Prop} {V : Nat → Nat → Int64} (h : Bld I I1 t rr cc kd net D V) (e : ∀ i j, i < 5 → j < 5 → (D i j ↔ D' i j)) : Bld I I1 t rr cc kd net D' V := by
  obtain ⟨h1, h2, h3, h4, h5, h6⟩ := h
  refine ⟨h1, h2, h3, h4, h5, ?_⟩
  rcases h6 with ⟨a, b, c⟩ | ⟨a, i, j, hi, hj, b, c⟩
  · exact Or.inl ⟨a, fun i j hi hj hd => b i j hi hj ((e i j hi hj).mpr hd), fun i j hi hj hd => c i j hi hj (fun q => hd ((e i j hi hj).mp q))⟩
  · exact Or.inr ⟨a, i, j, hi, hj, (e i j hi hj).mp b, c⟩
theorem Bld.zero {I I1 : TI} {t rr cc : Nat} {kd : Int32} {V : Nat → Nat → Int64} (hF : Fr [(2, t), (3, t)] I I1) (h1 : I1 2 t 1 = nI rr) (h2 : I1 2 t 2 = nI cc) (h3 : I1 2 t 3 = kd) (h4 : I1 2 t 4 = -1) (h5 : I1 2 t 5 = nI 1) (h6 : ∀ x, x < 25 → I1 3 t x = nI 0) {D : Nat → Nat → Prop} (hD : ∀ i j, ¬ D i j) : Bld I I1 t rr cc kd (-1) D V :=
  ⟨hF, h1, h2, h3, h4, Or.inl ⟨h5, fun i j _ _ hd => absurd hd (hD i j), fun i j hi hj _ => h6 _ (by omega)⟩⟩
theorem Bld.put {I I1 : TI} {t rr cc : Nat} {kd net : Int32} {D D' : Nat → Nat → Prop} {V : Nat → Nat → Int64} (h : Bld I I1 t rr cc kd net D V) {i j : Nat} (hi : i < 5) (hj : j < 5) (hn : ¬ D i j) (hD : ∀ a b, a < 5 → b < 5 → (D' a b ↔ (D a b ∨ (a = i ∧ b = j)))) {v : Int64} (hv : v = V i j) :
    Bld I (if nm v then upI I1 3 t (5 * i + j) v.toInt32 else upI I1 2 t 5 (nI 0)) t rr cc kd net D' V := by
  subst hv
  obtain ⟨h1, h2, h3, h4, h5, h6⟩ := h
  by_cases hm : nm (V i j)
  · rw [if_pos hm]
    refine ⟨h1.up (by simp), (upI_k (by decide)).trans h2, (upI_k (by decide)).trans h3, (upI_k (by decide)).trans h4, (upI_k (by decide)).trans h5, ?_⟩
    rcases h6 with ⟨a, b, c⟩ | ⟨a, i', j', hi', hj', b, c⟩
    · refine Or.inl ⟨(upI_k (by decide)).trans a, fun x y hx hy hd => ?_, fun x y hx hy hd => ?_⟩
      · rcases (hD x y hx hy).mp hd with q | ⟨rfl, rfl⟩
        · refine ⟨(b x y hx hy q).1, (upI_x ?_).trans (b x y hx hy q).2⟩
          intro e
          have e1 : x = i := by omega
          have e2 : y = j := by omega
          subst e1; subst e2
          exact hn q
        · exact ⟨hm, upI_eq⟩
      · have q := fun z => hd ((hD x y hx hy).mpr z)
        refine (upI_x ?_).trans (c x y hx hy (fun z => q (Or.inl z)))
        intro e
        exact q (Or.inr ⟨by omega, by omega⟩)
    · exact Or.inr ⟨(upI_k (by decide)).trans a, i', j', hi', hj', (hD i' j' hi' hj').mpr (Or.inl b), c⟩
  · rw [if_neg hm]
    refine ⟨h1.up (by simp), (upI_x (by decide)).trans h2, (upI_x (by decide)).trans h3, (upI_x (by decide)).trans h4, (upI_x (by decide)).trans h5, Or.inr ⟨upI_eq, i, j, hi, hj, (hD i j hi hj).mpr (Or.inr ⟨rfl, rfl⟩), hm⟩⟩
def AddT (I I' : TI) (c rr cc : Nat) (kd net : Int32) (V : Nat → Nat → Int64) : Prop :=
  Fr [(0, 0), (2, c), (3, c)] I I' ∧ (∀ x, x ≠ 1 → I' 0 0 x = I 0 0 x) ∧ I' 0 0 1 = nI (c + 1) ∧ I' 2 c 1 = nI rr ∧ I' 2 c 2 = nI cc ∧ I' 2 c 3 = kd ∧ I' 2 c 4 = net ∧ (∀ i j, i < 5 → j < 5 → i < rr ∧ j < cc → I' 3 c (5 * i + j) = (V i j).toInt32) ∧ (∀ i j, i < 5 → j < 5 → ¬ (i < rr ∧ j < cc) → I' 3 c (5 * i + j) = nI 0)
def BadT (I I' : TI) (c : Nat) : Prop := Fr [(11, 0), (2, c), (3, c)] I I' ∧ ∀ x, I' 11 0 x = rfI I 8 11 0 x
def ResT (I I' : TI) (r : Option Value) (c rr cc : Nat) (kd net : Int32) (V : Nat → Nat → Int64) : Prop :=
  ((∀ i j, i < rr → j < cc → nm (V i j)) ∧ AddT I I' c rr cc kd net V ∧ r = some (.int (nI c))) ∨ ((∃ i j, i < rr ∧ j < cc ∧ ¬ nm (V i j)) ∧ BadT I I' c ∧ r = some (.int (-nI 8)))
theorem Bld.f {I I1 : TI} {t rr cc : Nat} {kd net : Int32} {D : Nat → Nat → Prop} {V : Nat → Nat → Int64} (h : Bld I I1 t rr cc kd net D V) : ∃ f, f < 2 ∧ I1 2 t 5 = nI f := by
  rcases h.2.2.2.2.2 with ⟨a, -⟩ | ⟨a, -⟩
  · exact ⟨1, by decide, a⟩
  · exact ⟨0, by decide, a⟩
theorem Bld.res {I I1 I2 : TI} {c rr cc f : Nat} {kd net : Int32} {D : Nat → Nat → Prop} {V : Nat → Nat → Int64} {r : Option Value} (h : Bld I I1 c rr cc kd net D V) (hrr : rr ≤ 5) (hcc : cc ≤ 5) (hD : ∀ i j, i < 5 → j < 5 → (D i j ↔ (i < rr ∧ j < cc))) (hf : f < 2) (hf1 : I1 2 c 5 = nI f)
    (ho : (f = 0 ∧ r = some (.int (-nI 8)) ∧ I2 = rfI I1 8) ∨ (f = 1 ∧ r = some (.int (nI c)) ∧ I2 = upI I1 0 0 1 (nI (c + 1)))) : ResT I I2 r c rr cc kd net V := by
  obtain ⟨h1, h2, h3, h4, h5, h6⟩ := h
  rcases ho with ⟨rfl, rfl, rfl⟩ | ⟨rfl, rfl, rfl⟩
  · rcases h6 with ⟨a, -⟩ | ⟨-, i, j, hi, hj, hd, hm⟩
    · exact absurd (hf1.symm.trans a) (by decide)
    · refine Or.inr ⟨⟨i, j, ((hD i j hi hj).mp hd).1, ((hD i j hi hj).mp hd).2, hm⟩, ⟨(h1.mono (by simp)).up (by simp), fun x => ?_⟩, rfl⟩
      have e : I1 11 0 = I 11 0 := h1 11 0 (by simp)
      unfold rfI upI
      simp [e]
  · rcases h6 with ⟨-, a, b⟩ | ⟨a, -⟩
    · refine Or.inl ⟨fun i j hi hj => (a i j (by omega) (by omega) ((hD i j (by omega) (by omega)).mpr ⟨hi, hj⟩)).1, ⟨(h1.mono (by simp)).up (by simp), fun x hx => (upI_x hx).trans (h1.at (by simp) x), upI_eq, (upI_k (by decide)).trans h2, (upI_k (by decide)).trans h3, (upI_k (by decide)).trans h4, (upI_k (by decide)).trans h5, fun i j hi hj hd => (upI_k (by decide)).trans (a i j hi hj ((hD i j hi hj).mpr hd)).2, fun i j hi hj hd => (upI_k (by decide)).trans (b i j hi hj (fun q => hd ((hD i j hi hj).mp q)))⟩, rfl⟩
    · exact absurd (hf1.symm.trans a) (by decide)
def REF (I I' : TI) (r : Option Value) (w : Nat) : Prop := r = some (.int (-nI w)) ∧ I' = rfI I w
def RE0 (I I' : TI) (r : Option Value) (w : Nat) : Prop := r = some (.int (nI 0)) ∧ I' = rfI I w
set_option maxHeartbeats 4000000 in
set_option maxRecDepth 100000 in
theorem c_X5_at (l : Launch) (E : VE) (hE : EOk E) (I : TI) (L : TL) (c : Nat) (ro co : Nat → Nat) (hT : CT I c ro co) (x i j : Int32) : Ct l E yX5_at cX5_at 5 (some .int) rm_X5_at [.ref (eA E 0 0), .int x, .int i, .int j] I L (fun r I' L' => ((∃ t i' j', t < c ∧ i' < ro t ∧ j' < co t ∧ x = nI t ∧ i = nI i' ∧ j = nI j' ∧ r = some (.int (I 3 t (5 * i' + j'))) ∧ I' = I) ∨ (¬ inP c ro co x i j ∧ RE0 I I' r 3)) ∧ L' = L) := by
  refine ct_of (by decide +kernel) (Nat.le_of_ble_eq_true rfl) hE ?_
  intro a X Y hl hEE
  subst hl; subst hEE
  show V a 0 [(0, .ref (eA (vE a) 0 0)), (1, .int x), (2, .int i), (3, .int j)] [] I L
  refine v_aload_n X 0 rfl dX5_at_0 ?_
  refine v_iload_n X 1 rfl dX5_at_1 ?_
  refine v_callV X (c_X5_gridOf _ _ hE _ _ c hT.1 hT.2.1 x) k_X5_74 dl_0 (cef_0 _ _ _ _) rfl ⟨rfl, rfl, Nat.le_of_ble_eq_true rfl, Nat.le_of_ble_eq_true rfl⟩ (As := [.int x]) (rest := []) rfl rfl (Nat.le_of_ble_eq_true rfl) dX5_at_2 (fun r2 I2 L2 hp2 => ?_)
  obtain ⟨ho2, e1, e2⟩ := hp2
  have e1 := e1.symm
  have e2 := e2.symm
  subst e1; subst e2
  rcases ho2 with ⟨t, htt, rfl, rfl⟩ | ⟨hnot, rfl⟩
  · have hc12 := hT.2.1
    obtain ⟨hrt, hct, hr1t, hr5t, hc1t, hc5t⟩ := hT.2.2 t htt
    have ht12t : t < 12 := by omega
    have hnet : t ≠ c := by omega
    refine v_st (st' := [.ref (eA (vE a) 2 t)]) rfl ?_
    refine v_astore X [1, 2, 3, 4, 0] (lv' := [(0, .ref (eA (vE a) 0 0)), (1, .int (nI t)), (2, .int i), (3, .int j), (4, .ref (eA (vE a) 2 t))]) (by decide) rfl dX5_at_5 ?_
    refine v_aload X 4 rfl dX5_at_7 ?_
    refine v_ifnull X dX5_at_9 ?_
    refine v_aload X 4 rfl dX5_at_12 ?_
    refine v_iload_n X 2 rfl dX5_at_14 ?_
    refine v_iload_n X 3 rfl dX5_at_15 ?_
    refine v_callV X (c_X0_reaches _ _ hE _ _ t ht12t (ro t) (co t) (hrt) (hct) i j) k_X5_78 (dl_2 ht12t) (cef_2 _ _ _ _) rfl ⟨rfl, rfl, Nat.le_of_ble_eq_true rfl, Nat.le_of_ble_eq_true rfl⟩ (As := [.int i, .int j]) (rest := []) rfl rfl (Nat.le_of_ble_eq_true rfl) dX5_at_16 (fun r16 I16 L16 hp16 => ?_)
    obtain ⟨rfl, e1, e2⟩ := hp16
    have e1 := e1.symm
    have e2 := e2.symm
    subst e1; subst e2
    refine v_st (st' := [.int (bI (inR (ro t) i ∧ inR (co t) j))]) rfl ?_
    refine v_ifb_ne X dX5_at_19 (tgt := 29) (by decide) (fun h19 => ?_) (fun h19 => ?_)
    · obtain ⟨i', hi, rfl⟩ := inR_of (by omega) h19.1
      obtain ⟨j', hj, rfl⟩ := inR_of (by omega) h19.2
      refine v_aload X 4 rfl dX5_at_29 ?_
      refine v_iload_n X 2 rfl dX5_at_31 ?_
      refine v_iload_n X 3 rfl dX5_at_32 ?_
      refine v_callV X (c_X0_number _ _ hE _ _ t ht12t (ro t) (co t) (hrt) (hct) hr5t hc5t i' j' (by omega) (by omega)) k_X5_93 (dl_2 ht12t) (cef_2 _ _ _ _) rfl ⟨rfl, rfl, Nat.le_of_ble_eq_true rfl, Nat.le_of_ble_eq_true rfl⟩ (As := [.int (nI i'), .int (nI j')]) (rest := []) rfl rfl (Nat.le_of_ble_eq_true rfl) dX5_at_33 (fun r33 I33 L33 hp33 => ?_)
      obtain ⟨rfl, e1, e2⟩ := hp33
      have e1 := e1.symm
      have e2 := e2.symm
      subst e1; subst e2
      refine v_st (st' := [.int (I 3 t (5 * i' + j'))]) rfl ?_
      exact v_iret X Y dX5_at_36 (⟨Or.inl ⟨t, i', j', htt, hi, hj, rfl, rfl, rfl, rfl, rfl⟩, rfl⟩)
    · refine v_aload_n X 0 rfl dX5_at_22 ?_
      refine v_bipush X (v := (-3)) dX5_at_23 (by decide) ?_
      refine v_callV X (c_X5_nought _ _ hE _ _ 3 (by decide) (by decide)) k_X5_82 dl_0 (cef_0 _ _ _ _) rfl ⟨rfl, rfl, Nat.le_of_ble_eq_true rfl, Nat.le_of_ble_eq_true rfl⟩ (As := [.int (-3)]) (rest := []) rfl rfl (Nat.le_of_ble_eq_true rfl) dX5_at_25 (fun r25 I25 L25 hp25 => ?_)
      obtain ⟨rfl, e1, e2⟩ := hp25
      have e1 := e1.symm
      have e2 := e2.symm
      subst e1; subst e2
      refine v_st (st' := [.int (nI 0)]) rfl ?_
      exact v_iret X Y dX5_at_28 (⟨Or.inr ⟨inP_no hr5t hc5t hc12 htt h19, rfl, rfl⟩, rfl⟩)
  · refine v_st (st' := [.null]) rfl ?_
    refine v_astoreN X [1, 2, 3, 4, 0] (lv' := [(0, .ref (eA (vE a) 0 0)), (1, .int x), (2, .int i), (3, .int j), (4, .null)]) (by decide) rfl dX5_at_5 ?_
    refine v_aloadN X 4 rfl dX5_at_7 ?_
    refine v_ifnullN X (tgt := 22) dX5_at_9 (by decide) ?_
    refine v_aload_n X 0 rfl dX5_at_22 ?_
    refine v_bipush X (v := (-3)) dX5_at_23 (by decide) ?_
    refine v_callV X (c_X5_nought _ _ hE _ _ 3 (by decide) (by decide)) k_X5_82 dl_0 (cef_0 _ _ _ _) rfl ⟨rfl, rfl, Nat.le_of_ble_eq_true rfl, Nat.le_of_ble_eq_true rfl⟩ (As := [.int (-3)]) (rest := []) rfl rfl (Nat.le_of_ble_eq_true rfl) dX5_at_25 (fun r25 I25 L25 hp25 => ?_)
    obtain ⟨rfl, e1, e2⟩ := hp25
    have e1 := e1.symm
    have e2 := e2.symm
    subst e1; subst e2
    refine v_st (st' := [.int (nI 0)]) rfl ?_
    exact v_iret X Y dX5_at_28 (⟨Or.inr ⟨inP_no' hnot, rfl, rfl⟩, rfl⟩)
set_option maxHeartbeats 4000000 in
set_option maxRecDepth 100000 in
theorem c_X5_set (l : Launch) (E : VE) (hE : EOk E) (I : TI) (L : TL) (c : Nat) (ro co : Nat → Nat) (hT : CT I c ro co) (x i j v : Int32) : Ct l E yX5_set cX5_set 7 (some .int) rm_X5_set [.ref (eA E 0 0), .int x, .int i, .int j, .int v] I L (fun r I' L' => ((¬ inP c ro co x i j ∧ RE0 I I' r 3) ∨ (∃ t i' j', t < c ∧ i' < ro t ∧ j' < co t ∧ x = nI t ∧ i = nI i' ∧ j = nI j' ∧ ((¬ I 2 t 3 = 0 ∧ RE0 I I' r 5) ∨ (I 2 t 3 = 0 ∧ ¬ nm v.toInt64 ∧ RE0 I I' r 7) ∨ (I 2 t 3 = 0 ∧ nm v.toInt64 ∧ r = some (.int (I 3 t (5 * i' + j'))) ∧ I' = upI I 3 t (5 * i' + j') v.toInt64.toInt32)))) ∧ L' = L) := by
  refine ct_of (by decide +kernel) (Nat.le_of_ble_eq_true rfl) hE ?_
  intro a X Y hl hEE
  subst hl; subst hEE
  show V a 0 [(0, .ref (eA (vE a) 0 0)), (1, .int x), (2, .int i), (3, .int j), (4, .int v)] [] I L
  refine v_aload_n X 0 rfl dX5_set_0 ?_
  refine v_iload_n X 1 rfl dX5_set_1 ?_
  refine v_callV X (c_X5_gridOf _ _ hE _ _ c hT.1 hT.2.1 x) k_X5_74 dl_0 (cef_0 _ _ _ _) rfl ⟨rfl, rfl, Nat.le_of_ble_eq_true rfl, Nat.le_of_ble_eq_true rfl⟩ (As := [.int x]) (rest := []) rfl rfl (Nat.le_of_ble_eq_true rfl) dX5_set_2 (fun r2 I2 L2 hp2 => ?_)
  obtain ⟨ho2, e1, e2⟩ := hp2
  have e1 := e1.symm
  have e2 := e2.symm
  subst e1; subst e2
  rcases ho2 with ⟨t, htt, rfl, rfl⟩ | ⟨hnot, rfl⟩
  · have hc12 := hT.2.1
    obtain ⟨hrt, hct, hr1t, hr5t, hc1t, hc5t⟩ := hT.2.2 t htt
    have ht12t : t < 12 := by omega
    have hnet : t ≠ c := by omega
    refine v_st (st' := [.ref (eA (vE a) 2 t)]) rfl ?_
    refine v_astore X [1, 2, 3, 4, 5, 0] (lv' := [(0, .ref (eA (vE a) 0 0)), (1, .int (nI t)), (2, .int i), (3, .int j), (4, .int v), (5, .ref (eA (vE a) 2 t))]) (by decide) rfl dX5_set_5 ?_
    refine v_aload X 5 rfl dX5_set_7 ?_
    refine v_ifnull X dX5_set_9 ?_
    refine v_aload X 5 rfl dX5_set_12 ?_
    refine v_iload_n X 2 rfl dX5_set_14 ?_
    refine v_iload_n X 3 rfl dX5_set_15 ?_
    refine v_callV X (c_X0_reaches _ _ hE _ _ t ht12t (ro t) (co t) (hrt) (hct) i j) k_X5_78 (dl_2 ht12t) (cef_2 _ _ _ _) rfl ⟨rfl, rfl, Nat.le_of_ble_eq_true rfl, Nat.le_of_ble_eq_true rfl⟩ (As := [.int i, .int j]) (rest := []) rfl rfl (Nat.le_of_ble_eq_true rfl) dX5_set_16 (fun r16 I16 L16 hp16 => ?_)
    obtain ⟨rfl, e1, e2⟩ := hp16
    have e1 := e1.symm
    have e2 := e2.symm
    subst e1; subst e2
    refine v_st (st' := [.int (bI (inR (ro t) i ∧ inR (co t) j))]) rfl ?_
    refine v_ifb_ne X dX5_set_19 (tgt := 29) (by decide) (fun h19 => ?_) (fun h19 => ?_)
    · obtain ⟨i', hi, rfl⟩ := inR_of (by omega) h19.1
      obtain ⟨j', hj, rfl⟩ := inR_of (by omega) h19.2
      refine v_aload X 5 rfl dX5_set_29 ?_
      refine gf_X5_85 X ht12t dX5_set_31 ?_
      refine v_if_eq X dX5_set_34 (tgt := 44) (by decide) (fun h34 => ?_) (fun h34 => ?_)
      · refine v_iload X 4 rfl dX5_set_44 ?_
        refine v_i2l X dX5_set_46 rfl ?_
        refine v_callS X (c_X5_isNumber _ _ hE _ _ v.toInt64) k_X5_89 ⟨rfl, rfl, Nat.le_of_ble_eq_true rfl, Nat.le_of_ble_eq_true rfl⟩ (As := [.long v.toInt64]) (rest := []) rfl rfl (Nat.le_of_ble_eq_true rfl) dX5_set_47 (fun r47 I47 L47 hp47 => ?_)
        obtain ⟨rfl, e1, e2⟩ := hp47
        have e1 := e1.symm
        have e2 := e2.symm
        subst e1; subst e2
        refine v_st (st' := [.int (bI (-1000 ≤ v.toInt64 ∧ v.toInt64 ≤ 1000))]) rfl ?_
        refine v_ifb_ne X dX5_set_50 (tgt := 60) (by decide) (fun h50 => ?_) (fun h50 => ?_)
        · refine v_aload X 5 rfl dX5_set_60 ?_
          refine v_iload_n X 2 rfl dX5_set_62 ?_
          refine v_iload_n X 3 rfl dX5_set_63 ?_
          refine v_callV X (c_X0_number _ _ hE _ _ t ht12t (ro t) (co t) (hrt) (hct) hr5t hc5t i' j' (by omega) (by omega)) k_X5_93 (dl_2 ht12t) (cef_2 _ _ _ _) rfl ⟨rfl, rfl, Nat.le_of_ble_eq_true rfl, Nat.le_of_ble_eq_true rfl⟩ (As := [.int (nI i'), .int (nI j')]) (rest := []) rfl rfl (Nat.le_of_ble_eq_true rfl) dX5_set_64 (fun r64 I64 L64 hp64 => ?_)
          obtain ⟨rfl, e1, e2⟩ := hp64
          have e1 := e1.symm
          have e2 := e2.symm
          subst e1; subst e2
          refine v_st (st' := [.int (I 3 t (5 * i' + j'))]) rfl ?_
          refine v_istore X [1, 2, 3, 4, 5, 6, 0] (lv' := [(0, .ref (eA (vE a) 0 0)), (1, .int (nI t)), (2, .int (nI i')), (3, .int (nI j')), (4, .int v), (5, .ref (eA (vE a) 2 t)), (6, .int (I 3 t (5 * i' + j')))]) (by decide) rfl dX5_set_67 ?_
          refine v_aload X 5 rfl dX5_set_69 ?_
          refine v_iload_n X 2 rfl dX5_set_71 ?_
          refine v_iload_n X 3 rfl dX5_set_72 ?_
          refine v_iload X 4 rfl dX5_set_73 ?_
          refine v_i2l X dX5_set_75 rfl ?_
          refine v_callV X (c_X0_put _ _ hE _ _ t ht12t (ro t) (co t) (hrt) (hct) hr5t hc5t i' j' hi hj v.toInt64) k_X5_97 (dl_2 ht12t) (cef_2 _ _ _ _) rfl ⟨rfl, rfl, Nat.le_of_ble_eq_true rfl, Nat.le_of_ble_eq_true rfl⟩ (As := [.int (nI i'), .int (nI j'), .long v.toInt64]) (rest := []) rfl rfl (Nat.le_of_ble_eq_true rfl) dX5_set_76 (fun r76 I76 L76 hp76 => ?_)
          obtain ⟨rfl, e1, e2⟩ := hp76
          rw [if_pos h50] at e1
          have e1 := e1.symm
          have e2 := e2.symm
          subst e1; subst e2
          refine v_st (st' := []) rfl ?_
          refine v_iload X 6 rfl dX5_set_79 ?_
          exact v_iret X Y dX5_set_81 (⟨Or.inr ⟨t, i', j', htt, hi, hj, rfl, rfl, rfl, Or.inr (Or.inr ⟨h34, h50, rfl, rfl⟩)⟩, rfl⟩)
        · refine v_aload_n X 0 rfl dX5_set_53 ?_
          refine v_bipush X (v := (-7)) dX5_set_54 (by decide) ?_
          refine v_callV X (c_X5_nought _ _ hE _ _ 7 (by decide) (by decide)) k_X5_82 dl_0 (cef_0 _ _ _ _) rfl ⟨rfl, rfl, Nat.le_of_ble_eq_true rfl, Nat.le_of_ble_eq_true rfl⟩ (As := [.int (-7)]) (rest := []) rfl rfl (Nat.le_of_ble_eq_true rfl) dX5_set_56 (fun r56 I56 L56 hp56 => ?_)
          obtain ⟨rfl, e1, e2⟩ := hp56
          have e1 := e1.symm
          have e2 := e2.symm
          subst e1; subst e2
          refine v_st (st' := [.int (nI 0)]) rfl ?_
          exact v_iret X Y dX5_set_59 (⟨Or.inr ⟨t, i', j', htt, hi, hj, rfl, rfl, rfl, Or.inr (Or.inl ⟨h34, h50, rfl, rfl⟩)⟩, rfl⟩)
      · refine v_aload_n X 0 rfl dX5_set_37 ?_
        refine v_bipush X (v := (-5)) dX5_set_38 (by decide) ?_
        refine v_callV X (c_X5_nought _ _ hE _ _ 5 (by decide) (by decide)) k_X5_82 dl_0 (cef_0 _ _ _ _) rfl ⟨rfl, rfl, Nat.le_of_ble_eq_true rfl, Nat.le_of_ble_eq_true rfl⟩ (As := [.int (-5)]) (rest := []) rfl rfl (Nat.le_of_ble_eq_true rfl) dX5_set_40 (fun r40 I40 L40 hp40 => ?_)
        obtain ⟨rfl, e1, e2⟩ := hp40
        have e1 := e1.symm
        have e2 := e2.symm
        subst e1; subst e2
        refine v_st (st' := [.int (nI 0)]) rfl ?_
        exact v_iret X Y dX5_set_43 (⟨Or.inr ⟨t, i', j', htt, hi, hj, rfl, rfl, rfl, Or.inl ⟨h34, rfl, rfl⟩⟩, rfl⟩)
    · refine v_aload_n X 0 rfl dX5_set_22 ?_
      refine v_bipush X (v := (-3)) dX5_set_23 (by decide) ?_
      refine v_callV X (c_X5_nought _ _ hE _ _ 3 (by decide) (by decide)) k_X5_82 dl_0 (cef_0 _ _ _ _) rfl ⟨rfl, rfl, Nat.le_of_ble_eq_true rfl, Nat.le_of_ble_eq_true rfl⟩ (As := [.int (-3)]) (rest := []) rfl rfl (Nat.le_of_ble_eq_true rfl) dX5_set_25 (fun r25 I25 L25 hp25 => ?_)
      obtain ⟨rfl, e1, e2⟩ := hp25
      have e1 := e1.symm
      have e2 := e2.symm
      subst e1; subst e2
      refine v_st (st' := [.int (nI 0)]) rfl ?_
      exact v_iret X Y dX5_set_28 (⟨Or.inl ⟨inP_no hr5t hc5t hc12 htt h19, rfl, rfl⟩, rfl⟩)
  · refine v_st (st' := [.null]) rfl ?_
    refine v_astoreN X [1, 2, 3, 4, 5, 0] (lv' := [(0, .ref (eA (vE a) 0 0)), (1, .int x), (2, .int i), (3, .int j), (4, .int v), (5, .null)]) (by decide) rfl dX5_set_5 ?_
    refine v_aloadN X 5 rfl dX5_set_7 ?_
    refine v_ifnullN X (tgt := 22) dX5_set_9 (by decide) ?_
    refine v_aload_n X 0 rfl dX5_set_22 ?_
    refine v_bipush X (v := (-3)) dX5_set_23 (by decide) ?_
    refine v_callV X (c_X5_nought _ _ hE _ _ 3 (by decide) (by decide)) k_X5_82 dl_0 (cef_0 _ _ _ _) rfl ⟨rfl, rfl, Nat.le_of_ble_eq_true rfl, Nat.le_of_ble_eq_true rfl⟩ (As := [.int (-3)]) (rest := []) rfl rfl (Nat.le_of_ble_eq_true rfl) dX5_set_25 (fun r25 I25 L25 hp25 => ?_)
    obtain ⟨rfl, e1, e2⟩ := hp25
    have e1 := e1.symm
    have e2 := e2.symm
    subst e1; subst e2
    refine v_st (st' := [.int (nI 0)]) rfl ?_
    exact v_iret X Y dX5_set_28 (⟨Or.inl ⟨inP_no' hnot, rfl, rfl⟩, rfl⟩)
set_option maxHeartbeats 4000000 in
set_option maxRecDepth 100000 in
theorem c_X5_drop (l : Launch) (E : VE) (hE : EOk E) (I : TI) (L : TL) (c : Nat) (hc : I 0 0 1 = nI c) (hc12 : c ≤ 12) : Ct l E yX5_drop cX5_drop 1 (some .int) rm_X5_drop [.ref (eA E 0 0)] I L (fun r I' L' => ((c = 0 ∧ REF I I' r 2) ∨ (0 < c ∧ r = some (.int (nI (c - 1))) ∧ I' = upI I 0 0 1 (nI (c - 1)))) ∧ L' = L) := by
  refine ct_of (by decide +kernel) (Nat.le_of_ble_eq_true rfl) hE ?_
  intro a X Y hl hEE
  subst hl; subst hEE
  show V a 0 [(0, .ref (eA (vE a) 0 0))] [] I L
  refine v_aload_n X 0 rfl dX5_drop_0 ?_
  refine gf_X5_117 X dX5_drop_1 ?_
  refine v_eqi (y := (nI c)) (hc) ?_
  refine v_if_ne_n X (by omega) dX5_drop_4 (tgt := 14) (by decide) (fun h4 => ?_) (fun h4 => ?_)
  · refine v_aload_n X 0 rfl dX5_drop_14 ?_
    refine v_dup X dX5_drop_15 rfl ?_
    refine gf_X5_117 X dX5_drop_16 ?_
    refine v_eqi (y := (nI c)) (hc) ?_
    refine v_iconst X (v := (nI 1)) dX5_drop_19 (by decide) ?_
    refine v_isub X dX5_drop_20 ?_
    refine v_eqi (y := (nI (c - 1))) (pk_sub (by omega)) ?_
    refine pf_X5_117 X dX5_drop_21 ?_
    refine v_aload_n X 0 rfl dX5_drop_24 ?_
    refine gf_X5_117 X dX5_drop_25 ?_
    refine v_eqi (y := (nI (c - 1))) (upI_eq) ?_
    exact v_iret X Y dX5_drop_28 (⟨Or.inr ⟨h4, rfl, rfl⟩, rfl⟩)
  · refine v_aload_n X 0 rfl dX5_drop_7 ?_
    refine v_bipush X (v := (-2)) dX5_drop_8 (by decide) ?_
    refine v_callV X (c_X5_refused _ _ hE _ _ 2 (by decide) (by decide)) k_X5_58 dl_0 (cef_0 _ _ _ _) rfl ⟨rfl, rfl, Nat.le_of_ble_eq_true rfl, Nat.le_of_ble_eq_true rfl⟩ (As := [.int (-2)]) (rest := []) rfl rfl (Nat.le_of_ble_eq_true rfl) dX5_drop_10 (fun r10 I10 L10 hp10 => ?_)
    obtain ⟨rfl, e1, e2⟩ := hp10
    have e1 := e1.symm
    have e2 := e2.symm
    subst e1; subst e2
    refine v_st (st' := [.int (-2)]) rfl ?_
    exact v_iret X Y dX5_drop_13 (⟨Or.inl ⟨h4, rfl, rfl⟩, rfl⟩)
