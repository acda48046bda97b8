def DR (cc i j : Nat) (a b : Nat) : Prop := b < cc ∧ (a < i ∨ (a = i ∧ b < j))
theorem DR_put {cc i j : Nat} (hj : j < cc) : ∀ a b, a < 5 → b < 5 → (DR cc i (j + 1) a b ↔ (DR cc i j a b ∨ (a = i ∧ b = j))) := by unfold DR; omega
theorem DR_row {cc i j : Nat} (hj : cc ≤ j) : ∀ a b, a < 5 → b < 5 → (DR cc i j a b ↔ DR cc (i + 1) 0 a b) := by unfold DR; omega
theorem DR_end {cc rr i : Nat} (hi : i = rr) : ∀ a b, a < 5 → b < 5 → (DR cc i 0 a b ↔ (a < rr ∧ b < cc)) := by unfold DR; omega
theorem DR_no {cc i j : Nat} : ¬ DR cc i j i j := by unfold DR; omega
theorem DR_0 {cc : Nat} : ∀ a b, ¬ DR cc 0 0 a b := by unfold DR; omega
theorem Bld.ext {I I1 : TI} {t rr cc : Nat} {kd net : Int32} {D D' : Nat → Nat → Prop} {V : Nat → Nat → Int64} (h : Bld I I1 t rr cc kd net D V) (e : ∀ i j, i < 5 → j < 5 → D i j → D' i j) (z : ∀ i j, i < 5 → j < 5 → D' i j → ¬ D i j → V i j = 0) : Bld I I1 t rr cc kd net D' V := by
  obtain ⟨h1, h2, h3, h4, h5, h6⟩ := h
  refine ⟨h1, h2, h3, h4, h5, ?_⟩
  rcases h6 with ⟨a, b, c⟩ | ⟨a, i, j, hi, hj, b, c⟩
  · refine Or.inl ⟨a, fun i j hi hj hd => ?_, fun i j hi hj hd => c i j hi hj (fun q => hd (e i j hi hj q))⟩
    rcases Classical.em (D i j) with q | q
    · exact b i j hi hj q
    · rw [z i j hi hj hd q]
      exact ⟨by decide, c i j hi hj q⟩
  · exact Or.inr ⟨a, i, j, hi, hj, e i j hi hj b, c⟩
theorem Bld.net {I I1 : TI} {t rr cc : Nat} {kd net v : Int32} {D : Nat → Nat → Prop} {V : Nat → Nat → Int64} (h : Bld I I1 t rr cc kd net D V) : Bld I (upI I1 2 t 4 v) t rr cc kd v D V := by
  obtain ⟨h1, h2, h3, h4, h5, h6⟩ := h
  refine ⟨h1.up (by simp), (upI_x (by decide)).trans h2, (upI_x (by decide)).trans h3, (upI_x (by decide)).trans h4, upI_eq, ?_⟩
  rcases h6 with ⟨a, b, c⟩ | ⟨a, b⟩
  · exact Or.inl ⟨(upI_x (by decide)).trans a, fun i j hi hj hd => ⟨(b i j hi hj hd).1, (upI_k (by decide)).trans (b i j hi hj hd).2⟩, fun i j hi hj hd => (upI_k (by decide)).trans (c i j hi hj hd)⟩
  · exact Or.inr ⟨(upI_x (by decide)).trans a, b⟩
def rbc (f g : Nat → Int32) : Nat → Int32
  | 0 => 0
  | k + 1 => rbc f g k + f k * g k
set_option maxHeartbeats 4000000 in
set_option maxRecDepth 100000 in
theorem c_X5_rowByColumn (l : Launch) (E : VE) (hE : EOk E) (I : TI) (L : TL) (t u : Nat) (htt : t < 12) (htu : u < 12) (rt ct ru cu : Nat) (hrt : I 2 t 1 = nI rt) (hct : I 2 t 2 = nI ct) (hru : I 2 u 1 = nI ru) (hcu : I 2 u 2 = nI cu) (h5 : rt ≤ 5 ∧ ct ≤ 5 ∧ ru ≤ 5 ∧ cu ≤ 5) (hcr : ct = ru) (i j : Nat) (hi : i < rt) (hj : j < cu) : Ct l E yX5_rowByColumn cX5_rowByColumn 6 (some .int) rm_X5_rowByColumn [.ref (eA E 2 t), .int (nI i), .ref (eA E 2 u), .int (nI j)] I L (fun r I' L' => r = some (.int (rbc (fun k => I 3 t (5 * i + k)) (fun k => I 3 u (5 * k + j)) ct)) ∧ I' = I ∧ L' = L) := by
  refine ct_of (by decide +kernel) (Nat.le_of_ble_eq_true rfl) hE ?_
  intro a X Y hl hEE
  subst hl; subst hEE
  show V a 0 [(0, .ref (eA (vE a) 2 t)), (1, .int (nI i)), (2, .ref (eA (vE a) 2 u)), (3, .int (nI j))] [] I L
  refine v_iconst X (v := (nI 0)) dX5_rowByColumn_0 (by decide) ?_
  refine v_istore X [1, 2, 3, 4, 0] (lv' := [(0, .ref (eA (vE a) 2 t)), (1, .int (nI i)), (2, .ref (eA (vE a) 2 u)), (3, .int (nI j)), (4, .int (nI 0))]) (by decide) rfl dX5_rowByColumn_1 ?_
  refine v_iconst X (v := (nI 0)) dX5_rowByColumn_3 (by decide) ?_
  refine v_istore X [1, 2, 3, 4, 5, 0] (lv' := [(0, .ref (eA (vE a) 2 t)), (1, .int (nI i)), (2, .ref (eA (vE a) 2 u)), (3, .int (nI j)), (4, .int (nI 0)), (5, .int (nI 0))]) (by decide) rfl dX5_rowByColumn_4 ?_
  have loop6 : ∀ (fu : Nat) (k : Nat) (all : Int32), 6 - k < fu → (k ≤ ct) → (all = rbc (fun k => I 3 t (5 * i + k)) (fun k => I 3 u (5 * k + j)) k) → V a 6 [(0, .ref (eA (vE a) 2 t)), (1, .int (nI i)), (2, .ref (eA (vE a) 2 u)), (3, .int (nI j)), (4, .int all), (5, .int (nI k))] [] I L := by
    intro fu
    induction fu with
    | zero => intro k all hm _ _; exact absurd hm (Nat.not_lt_zero _)
    | succ fu ih6 =>
      intro k all hm6 hk ha
      refine v_iload X 5 rfl dX5_rowByColumn_6 ?_
      refine v_aload_n X 0 rfl dX5_rowByColumn_8 ?_
      refine gf_X5_104 X htt dX5_rowByColumn_9 ?_
      refine v_eqi (y := (nI ct)) (hct) ?_
      refine v_icmp_ge_n X (by omega) (by omega) dX5_rowByColumn_12 (tgt := 41) (by decide) (fun h12 => ?_) (fun h12 => ?_)
      · refine v_iload X 4 rfl dX5_rowByColumn_41 ?_
        exact v_iret X Y dX5_rowByColumn_43 (⟨by rw [ha, show k = ct by omega], rfl, rfl⟩)
      · refine v_iload X 4 rfl dX5_rowByColumn_15 ?_
        refine v_aload_n X 0 rfl dX5_rowByColumn_17 ?_
        refine v_iload_n X 1 rfl dX5_rowByColumn_18 ?_
        refine v_iload X 5 rfl dX5_rowByColumn_19 ?_
        refine v_callV X (c_X0_number _ _ hE _ _ t htt rt ct (hrt) (hct) h5.1 h5.2.1 i k (by omega) (by omega)) k_X5_93 (dl_2 htt) (cef_2 _ _ _ _) rfl ⟨rfl, rfl, Nat.le_of_ble_eq_true rfl, Nat.le_of_ble_eq_true rfl⟩ (As := [.int (nI i), .int (nI k)]) (rest := [.int all]) rfl rfl (Nat.le_of_ble_eq_true rfl) dX5_rowByColumn_21 (fun r21 I21 L21 hp21 => ?_)
        obtain ⟨rfl, e1, e2⟩ := hp21
        have e1 := e1.symm
        have e2 := e2.symm
        subst e1; subst e2
        refine v_st (st' := [.int (I 3 t (5 * i + k)), .int all]) rfl ?_
        refine v_aload_n X 2 rfl dX5_rowByColumn_24 ?_
        refine v_iload X 5 rfl dX5_rowByColumn_25 ?_
        refine v_iload_n X 3 rfl dX5_rowByColumn_27 ?_
        refine v_callV X (c_X0_number _ _ hE _ _ u htu ru cu (hru) (hcu) h5.2.2.1 h5.2.2.2 k j (by omega) (by omega)) k_X5_93 (dl_2 htu) (cef_2 _ _ _ _) rfl ⟨rfl, rfl, Nat.le_of_ble_eq_true rfl, Nat.le_of_ble_eq_true rfl⟩ (As := [.int (nI k), .int (nI j)]) (rest := [.int (I 3 t (5 * i + k)), .int all]) rfl rfl (Nat.le_of_ble_eq_true rfl) dX5_rowByColumn_28 (fun r28 I28 L28 hp28 => ?_)
        obtain ⟨rfl, e1, e2⟩ := hp28
        have e1 := e1.symm
        have e2 := e2.symm
        subst e1; subst e2
        refine v_st (st' := [.int (I 3 u (5 * k + j)), .int (I 3 t (5 * i + k)), .int all]) rfl ?_
        refine v_imul X dX5_rowByColumn_31 ?_
        refine v_iadd X dX5_rowByColumn_32 ?_
        refine v_istore X [1, 2, 3, 4, 0, 5] (lv' := [(0, .ref (eA (vE a) 2 t)), (1, .int (nI i)), (2, .ref (eA (vE a) 2 u)), (3, .int (nI j)), (4, .int (all + ((I 3 t (5 * i + k)) * (I 3 u (5 * k + j))))), (5, .int (nI k))]) (by decide) rfl dX5_rowByColumn_33 ?_
        refine v_iinc X [1, 2, 3, 4, 5, 0] 5 (nI (k + 1)) (lv' := [(0, .ref (eA (vE a) 2 t)), (1, .int (nI i)), (2, .ref (eA (vE a) 2 u)), (3, .int (nI j)), (4, .int (all + ((I 3 t (5 * i + k)) * (I 3 u (5 * k + j))))), (5, .int (nI (k + 1)))]) rfl (nI_1 _) (by decide) rfl dX5_rowByColumn_35 ?_
        refine v_goto X (tgt := 6) dX5_rowByColumn_38 (by decide) ?_
        exact ih6 (k + 1) (all + ((I 3 t (5 * i + k)) * (I 3 u (5 * k + j)))) (by omega) (by omega) (by rw [ha]; rfl)
  exact loop6 _ 0 (nI 0) (Nat.lt_succ_self _) (Nat.zero_le _) rfl
set_option maxHeartbeats 4000000 in
set_option maxRecDepth 100000 in
theorem c_X5_product (l : Launch) (E : VE) (hE : EOk E) (I : TI) (L : TL) (c : Nat) (ro co : Nat → Nat) (hT : CT I c ro co) (x y : Int32) : Ct l E yX5_product cX5_product 8 (some .int) rm_X5_product [.ref (eA E 0 0), .int x, .int y] I L (fun r I' L' => (¬ (isT c x ∧ isT c y) ∧ REF I I' r 3 ∧ L' = L) ∨ (∃ t u, t < c ∧ u < c ∧ x = nI t ∧ y = nI u ∧ ((¬ co t = ro u ∧ REF I I' r 7 ∧ L' = L) ∨ (co t = ro u ∧ c = 12 ∧ REF I I' r 8 ∧ L' = L) ∨ (co t = ro u ∧ c < 12 ∧ ResT I I' r c (ro t) (co u) (nI 3) (-1) (fun i j => (rbc (fun k => I 3 t (5 * i + k)) (fun k => I 3 u (5 * k + j)) (co t)).toInt64) ∧ L' = L)))) := by
  refine ct_of (by decide +kernel) (Nat.le_of_ble_eq_true rfl) hE ?_
  intro a X Y hl hEE
  subst hl; subst hEE
  show V a 0 [(0, .ref (eA (vE a) 0 0)), (1, .int x), (2, .int y)] [] I L
  refine v_aload_n X 0 rfl dX5_product_0 ?_
  refine v_iload_n X 1 rfl dX5_product_1 ?_
  refine v_callV X (c_X5_gridOf _ _ hE _ _ c hT.1 hT.2.1 x) k_X5_74 dl_0 (cef_0 _ _ _ _) rfl ⟨rfl, rfl, Nat.le_of_ble_eq_true rfl, Nat.le_of_ble_eq_true rfl⟩ (As := [.int x]) (rest := []) rfl rfl (Nat.le_of_ble_eq_true rfl) dX5_product_2 (fun r2 I2 L2 hp2 => ?_)
  obtain ⟨ho2, e1, e2⟩ := hp2
  have e1 := e1.symm
  have e2 := e2.symm
  subst e1; subst e2
  rcases ho2 with ⟨t, htt, rfl, rfl⟩ | ⟨hnot, rfl⟩
  · have hc12 := hT.2.1
    obtain ⟨hrt, hct, hr1t, hr5t, hc1t, hc5t⟩ := hT.2.2 t htt
    have ht12t : t < 12 := by omega
    have hnet : t ≠ c := by omega
    refine v_st (st' := [.ref (eA (vE a) 2 t)]) rfl ?_
    refine v_astore_n X [1, 2, 3, 0] (lv' := [(0, .ref (eA (vE a) 0 0)), (1, .int (nI t)), (2, .int y), (3, .ref (eA (vE a) 2 t))]) (by decide) rfl dX5_product_5 ?_
    refine v_aload_n X 0 rfl dX5_product_6 ?_
    refine v_iload_n X 2 rfl dX5_product_7 ?_
    refine v_callV X (c_X5_gridOf _ _ hE _ _ c hT.1 hT.2.1 y) k_X5_74 dl_0 (cef_0 _ _ _ _) rfl ⟨rfl, rfl, Nat.le_of_ble_eq_true rfl, Nat.le_of_ble_eq_true rfl⟩ (As := [.int y]) (rest := []) rfl rfl (Nat.le_of_ble_eq_true rfl) dX5_product_8 (fun r8 I8 L8 hp8 => ?_)
    obtain ⟨ho8, e1, e2⟩ := hp8
    have e1 := e1.symm
    have e2 := e2.symm
    subst e1; subst e2
    rcases ho8 with ⟨u, htu, rfl, rfl⟩ | ⟨hnou, rfl⟩
    · skip
      obtain ⟨hru, hcu, hr1u, hr5u, hc1u, hc5u⟩ := hT.2.2 u htu
      have ht12u : u < 12 := by omega
      have hneu : u ≠ c := by omega
      refine v_st (st' := [.ref (eA (vE a) 2 u)]) rfl ?_
      refine v_astore X [1, 2, 3, 4, 0] (lv' := [(0, .ref (eA (vE a) 0 0)), (1, .int (nI t)), (2, .int (nI u)), (3, .ref (eA (vE a) 2 t)), (4, .ref (eA (vE a) 2 u))]) (by decide) rfl dX5_product_11 ?_
      refine v_aload_n X 3 rfl dX5_product_13 ?_
      refine v_ifnull X dX5_product_14 ?_
      refine v_aload X 4 rfl dX5_product_17 ?_
      refine v_ifnonnull X (tgt := 29) dX5_product_19 (by decide) ?_
      refine v_aload_n X 3 rfl dX5_product_29 ?_
      refine gf_X5_104 X ht12t dX5_product_30 ?_
      refine v_eqi (y := (nI (co t))) (hct) ?_
      refine v_aload X 4 rfl dX5_product_33 ?_
      refine gf_X5_101 X ht12u dX5_product_35 ?_
      refine v_eqi (y := (nI (ro u))) (hru) ?_
      refine v_icmp_eq_n X (by omega) (by omega) dX5_product_38 (tgt := 48) (by decide) (fun h38 => ?_) (fun h38 => ?_)
      · have hcr : co t = ro u := h38
        refine v_aload_n X 0 rfl dX5_product_48 ?_
        refine v_callV X (c_X5_freeGrid _ _ hE _ _ c (hT.1) hT.2.1) k_X5_62 dl_0 (cef_0 _ _ _ _) rfl ⟨rfl, rfl, Nat.le_of_ble_eq_true rfl, Nat.le_of_ble_eq_true rfl⟩ (As := []) (rest := []) rfl rfl (Nat.le_of_ble_eq_true rfl) dX5_product_49 (fun r49 I49 L49 hp49 => ?_)
        obtain ⟨hg49, e1, e2⟩ := hp49
        have e1 := e1.symm
        have e2 := e2.symm
        subst e1; subst e2
        rcases hg49 with ⟨hcl, rfl⟩ | ⟨hfull, rfl⟩
        · refine v_st (st' := [.ref (eA (vE a) 2 c)]) rfl ?_
          refine v_astore X [1, 2, 3, 4, 5, 0] (lv' := [(0, .ref (eA (vE a) 0 0)), (1, .int (nI t)), (2, .int (nI u)), (3, .ref (eA (vE a) 2 t)), (4, .ref (eA (vE a) 2 u)), (5, .ref (eA (vE a) 2 c))]) (by decide) rfl dX5_product_52 ?_
          refine v_aload X 5 rfl dX5_product_54 ?_
          refine v_ifnonnull X (tgt := 66) dX5_product_56 (by decide) ?_
          refine v_aload X 5 rfl dX5_product_66 ?_
          refine v_aload_n X 3 rfl dX5_product_68 ?_
          refine gf_X5_101 X ht12t dX5_product_69 ?_
          refine v_eqi (y := (nI (ro t))) (hrt) ?_
          refine v_aload X 4 rfl dX5_product_72 ?_
          refine gf_X5_104 X ht12u dX5_product_74 ?_
          refine v_eqi (y := (nI (co u))) (hcu) ?_
          refine v_iconst X (v := (nI 3)) dX5_product_77 (by decide) ?_
          refine v_callV X (c_X0_begin _ _ hE _ _ c hcl (nI (ro t)) (nI (co u)) (nI 3)) k_X5_66 (dl_2 hcl) (cef_2 _ _ _ _) rfl ⟨rfl, rfl, Nat.le_of_ble_eq_true rfl, Nat.le_of_ble_eq_true rfl⟩ (As := [.int (nI (ro t)), .int (nI (co u)), .int (nI 3)]) (rest := []) rfl rfl (Nat.le_of_ble_eq_true rfl) dX5_product_78 (fun r78 I78 L78 hp78 => ?_)
          obtain ⟨rfl, hF78, hb1, hb2, hb3, hb4, hb5, hb6, e2⟩ := hp78
          have e2 := e2.symm
          subst e2
          have hB : Bld I I78 c (ro t) (co u) (nI 3) (-1) (DR (co u) 0 0) (fun i j => (rbc (fun k => I 3 t (5 * i + k)) (fun k => I 3 u (5 * k + j)) (co t)).toInt64) := Bld.zero hF78 hb1 hb2 hb3 hb4 hb5 hb6 DR_0
          refine v_st (st' := []) rfl ?_
          refine v_iconst X (v := (nI 0)) dX5_product_81 (by decide) ?_
          refine v_istore X [1, 2, 3, 4, 5, 6, 0] (lv' := [(0, .ref (eA (vE a) 0 0)), (1, .int (nI t)), (2, .int (nI u)), (3, .ref (eA (vE a) 2 t)), (4, .ref (eA (vE a) 2 u)), (5, .ref (eA (vE a) 2 c)), (6, .int (nI 0))]) (by decide) rfl dX5_product_82 ?_
          have loop84 : ∀ (fu : Nat) (i : Nat) (I1 : TI), 6 - i < fu → (i ≤ (ro t)) → (Bld I I1 c (ro t) (co u) (nI 3) (-1) (DR (co u) i 0) (fun i j => (rbc (fun k => I 3 t (5 * i + k)) (fun k => I 3 u (5 * k + j)) (co t)).toInt64)) → V a 84 [(0, .ref (eA (vE a) 0 0)), (1, .int (nI t)), (2, .int (nI u)), (3, .ref (eA (vE a) 2 t)), (4, .ref (eA (vE a) 2 u)), (5, .ref (eA (vE a) 2 c)), (6, .int (nI i))] [] I1 L := by
            intro fu
            induction fu with
            | zero => intro i I1 hm _ _; exact absurd hm (Nat.not_lt_zero _)
            | succ fu ih84 =>
              intro i I1 hm84 hi hB
              refine v_iload X 6 rfl dX5_product_84 ?_
              refine v_aload_n X 3 rfl dX5_product_86 ?_
              refine gf_X5_101 X ht12t dX5_product_87 ?_
              refine v_eqi (y := (nI (ro t))) ((Fr.at hB.1 (by simp [hnet]) _).trans (hrt)) ?_
              refine v_icmp_ge_n X (by omega) (by omega) dX5_product_90 (tgt := 138) (by decide) (fun h90 => ?_) (fun h90 => ?_)
              · refine v_aload_n X 0 rfl dX5_product_138 ?_
                refine v_aload X 5 rfl dX5_product_139 ?_
                obtain ⟨f, hf2, hf1⟩ := hB.f
                refine v_callV X (c_X5_come _ _ hE _ _ c ((Fr.at hB.1 (by simp) _).trans (hT.1)) hcl f hf1 hf2) k_X5_70 dl_0 (cef_0 _ _ _ _) rfl ⟨rfl, rfl, Nat.le_of_ble_eq_true rfl, Nat.le_of_ble_eq_true rfl⟩ (As := [.ref (eA (vE a) 2 c)]) (rest := []) rfl rfl (Nat.le_of_ble_eq_true rfl) dX5_product_141 (fun r141 I141 L141 hp141 => ?_)
                obtain ⟨ho, e2⟩ := hp141
                have e2 := e2.symm
                subst e2
                have hres := hB.res (by omega) (by omega) (DR_end (by omega)) hf2 hf1 ho
                rcases ho with ⟨-, rfl, -⟩ | ⟨-, rfl, -⟩
                · refine v_st (st' := [.int (-nI 8)]) rfl ?_
                  exact v_iret X Y dX5_product_144 (Or.inr ⟨t, u, htt, htu, rfl, rfl, Or.inr (Or.inr ⟨h38, hcl, hres, rfl⟩)⟩)
                · refine v_st (st' := [.int (nI c)]) rfl ?_
                  exact v_iret X Y dX5_product_144 (Or.inr ⟨t, u, htt, htu, rfl, rfl, Or.inr (Or.inr ⟨h38, hcl, hres, rfl⟩)⟩)
              · refine v_iconst X (v := (nI 0)) dX5_product_93 (by decide) ?_
                refine v_istore X [1, 2, 3, 4, 5, 6, 7, 0] (lv' := [(0, .ref (eA (vE a) 0 0)), (1, .int (nI t)), (2, .int (nI u)), (3, .ref (eA (vE a) 2 t)), (4, .ref (eA (vE a) 2 u)), (5, .ref (eA (vE a) 2 c)), (6, .int (nI i)), (7, .int (nI 0))]) (by decide) rfl dX5_product_94 ?_
                have loop96 : ∀ (fu : Nat) (j : Nat) (I1 : TI), 6 - j < fu → (j ≤ (co u)) → (Bld I I1 c (ro t) (co u) (nI 3) (-1) (DR (co u) i j) (fun i j => (rbc (fun k => I 3 t (5 * i + k)) (fun k => I 3 u (5 * k + j)) (co t)).toInt64)) → V a 96 [(0, .ref (eA (vE a) 0 0)), (1, .int (nI t)), (2, .int (nI u)), (3, .ref (eA (vE a) 2 t)), (4, .ref (eA (vE a) 2 u)), (5, .ref (eA (vE a) 2 c)), (6, .int (nI i)), (7, .int (nI j))] [] I1 L := by
                  intro fu
                  induction fu with
                  | zero => intro j I1 hm _ _; exact absurd hm (Nat.not_lt_zero _)
                  | succ fu ih96 =>
                    intro j I1 hm96 hj hB
                    refine v_iload X 7 rfl dX5_product_96 ?_
                    refine v_aload X 4 rfl dX5_product_98 ?_
                    refine gf_X5_104 X ht12u dX5_product_100 ?_
                    refine v_eqi (y := (nI (co u))) ((Fr.at hB.1 (by simp [hneu]) _).trans (hcu)) ?_
                    refine v_icmp_ge_n X (by omega) (by omega) dX5_product_103 (tgt := 132) (by decide) (fun h103 => ?_) (fun h103 => ?_)
                    · refine v_iinc X [1, 2, 3, 4, 5, 6, 0, 7] 6 (nI (i + 1)) (lv' := [(0, .ref (eA (vE a) 0 0)), (1, .int (nI t)), (2, .int (nI u)), (3, .ref (eA (vE a) 2 t)), (4, .ref (eA (vE a) 2 u)), (5, .ref (eA (vE a) 2 c)), (6, .int (nI (i + 1))), (7, .int (nI j))]) rfl (nI_1 _) (by decide) rfl dX5_product_132 ?_
                      refine v_goto X (tgt := 84) dX5_product_135 (by decide) ?_
                      refine v_sub [0, 1, 2, 3, 4, 5, 6] (lv' := [(0, .ref (eA (vE a) 0 0)), (1, .int (nI t)), (2, .int (nI u)), (3, .ref (eA (vE a) 2 t)), (4, .ref (eA (vE a) 2 u)), (5, .ref (eA (vE a) 2 c)), (6, .int (nI (i + 1)))]) rfl ?_
                      exact ih84 (i + 1) I1 (by omega) (by omega) (hB.cg (DR_row (by omega)))
                    · refine v_aload X 5 rfl dX5_product_106 ?_
                      refine v_iload X 6 rfl dX5_product_108 ?_
                      refine v_iload X 7 rfl dX5_product_110 ?_
                      refine v_aload_n X 3 rfl dX5_product_112 ?_
                      refine v_iload X 6 rfl dX5_product_113 ?_
                      refine v_aload X 4 rfl dX5_product_115 ?_
                      refine v_iload X 7 rfl dX5_product_117 ?_
                      refine v_callS X (c_X5_rowByColumn _ _ hE _ _ t u ht12t ht12u (ro t) (co t) (ro u) (co u) ((Fr.at hB.1 (by simp [hnet]) _).trans (hrt)) ((Fr.at hB.1 (by simp [hnet]) _).trans (hct)) ((Fr.at hB.1 (by simp [hneu]) _).trans (hru)) ((Fr.at hB.1 (by simp [hneu]) _).trans (hcu)) ⟨hr5t, hc5t, hr5u, hc5u⟩ hcr i j (by omega) (by omega)) k_X5_134 ⟨rfl, rfl, Nat.le_of_ble_eq_true rfl, Nat.le_of_ble_eq_true rfl⟩ (As := [.ref (eA (vE a) 2 t), .int (nI i), .ref (eA (vE a) 2 u), .int (nI j)]) (rest := [.int (nI j), .int (nI i), .ref (eA (vE a) 2 c)]) rfl rfl (Nat.le_of_ble_eq_true rfl) dX5_product_119 (fun r119 I119 L119 hp119 => ?_)
                      obtain ⟨rfl, e1, e2⟩ := hp119
                      have e1 := e1.symm
                      have e2 := e2.symm
                      subst e1; subst e2
                      refine v_st (st' := [.int (rbc (fun k => I1 3 t (5 * i + k)) (fun k => I1 3 u (5 * k + j)) (co t)), .int (nI j), .int (nI i), .ref (eA (vE a) 2 c)]) rfl ?_
                      refine v_i2l X dX5_product_122 rfl ?_
                      refine v_callV X (c_X0_put _ _ hE _ _ c hcl (ro t) (co u) (hB.2.1) (hB.2.2.1) (by omega) (by omega) i j (by omega) (by omega) ((rbc (fun k => I1 3 t (5 * i + k)) (fun k => I1 3 u (5 * k + j)) (co t)).toInt64)) k_X5_97 (dl_2 hcl) (cef_2 _ _ _ _) rfl ⟨rfl, rfl, Nat.le_of_ble_eq_true rfl, Nat.le_of_ble_eq_true rfl⟩ (As := [.int (nI i), .int (nI j), .long ((rbc (fun k => I1 3 t (5 * i + k)) (fun k => I1 3 u (5 * k + j)) (co t)).toInt64)]) (rest := []) rfl rfl (Nat.le_of_ble_eq_true rfl) dX5_product_123 (fun r123 I123 L123 hp123 => ?_)
                      obtain ⟨rfl, e1, e2⟩ := hp123
                      have e2 := e2.symm
                      subst e2
                      have e3t : I1 3 t = I 3 t := hB.1 3 t (by simp [hnet])
                      have e3u : I1 3 u = I 3 u := hB.1 3 u (by simp [hneu])
                      have hB123 := hB.put (D' := DR (co u) i (j + 1)) (i := i) (j := j) (by omega) (by omega) DR_no (DR_put (by omega)) (v := (rbc (fun k => I1 3 t (5 * i + k)) (fun k => I1 3 u (5 * k + j)) (co t)).toInt64) (by rw [e3t, e3u])
                      rw [← e1] at hB123
                      refine v_st (st' := []) rfl ?_
                      refine v_iinc X [1, 2, 3, 4, 5, 6, 7, 0] 7 (nI (j + 1)) (lv' := [(0, .ref (eA (vE a) 0 0)), (1, .int (nI t)), (2, .int (nI u)), (3, .ref (eA (vE a) 2 t)), (4, .ref (eA (vE a) 2 u)), (5, .ref (eA (vE a) 2 c)), (6, .int (nI i)), (7, .int (nI (j + 1)))]) rfl (nI_1 _) (by decide) rfl dX5_product_126 ?_
                      refine v_goto X (tgt := 96) dX5_product_129 (by decide) ?_
                      exact ih96 (j + 1) I123 (by omega) (by omega) hB123
                exact loop96 _ 0 I1 (Nat.lt_succ_self _) (Nat.zero_le _) hB
          exact loop84 _ 0 I78 (Nat.lt_succ_self _) (Nat.zero_le _) hB
        · refine v_st (st' := [.null]) rfl ?_
          refine v_astoreN X [1, 2, 3, 4, 5, 0] (lv' := [(0, .ref (eA (vE a) 0 0)), (1, .int (nI t)), (2, .int (nI u)), (3, .ref (eA (vE a) 2 t)), (4, .ref (eA (vE a) 2 u)), (5, .null)]) (by decide) rfl dX5_product_52 ?_
          refine v_aloadN X 5 rfl dX5_product_54 ?_
          refine v_ifnonnullN X dX5_product_56 ?_
          refine v_aload_n X 0 rfl dX5_product_59 ?_
          refine v_bipush X (v := (-8)) dX5_product_60 (by decide) ?_
          refine v_callV X (c_X5_refused _ _ hE _ _ 8 (by decide) (by decide)) k_X5_58 dl_0 (cef_0 _ _ _ _) rfl ⟨rfl, rfl, Nat.le_of_ble_eq_true rfl, Nat.le_of_ble_eq_true rfl⟩ (As := [.int (-8)]) (rest := []) rfl rfl (Nat.le_of_ble_eq_true rfl) dX5_product_62 (fun r62 I62 L62 hp62 => ?_)
          obtain ⟨rfl, e1, e2⟩ := hp62
          have e1 := e1.symm
          have e2 := e2.symm
          subst e1; subst e2
          refine v_st (st' := [.int (-8)]) rfl ?_
          exact v_iret X Y dX5_product_65 (Or.inr ⟨t, u, htt, htu, rfl, rfl, Or.inr (Or.inl ⟨h38, hfull, ⟨rfl, rfl⟩, rfl⟩)⟩)
      · refine v_aload_n X 0 rfl dX5_product_41 ?_
        refine v_bipush X (v := (-7)) dX5_product_42 (by decide) ?_
        refine v_callV X (c_X5_refused _ _ hE _ _ 7 (by decide) (by decide)) k_X5_58 dl_0 (cef_0 _ _ _ _) rfl ⟨rfl, rfl, Nat.le_of_ble_eq_true rfl, Nat.le_of_ble_eq_true rfl⟩ (As := [.int (-7)]) (rest := []) rfl rfl (Nat.le_of_ble_eq_true rfl) dX5_product_44 (fun r44 I44 L44 hp44 => ?_)
        obtain ⟨rfl, e1, e2⟩ := hp44
        have e1 := e1.symm
        have e2 := e2.symm
        subst e1; subst e2
        refine v_st (st' := [.int (-7)]) rfl ?_
        exact v_iret X Y dX5_product_47 (Or.inr ⟨t, u, htt, htu, rfl, rfl, Or.inl ⟨h38, ⟨rfl, rfl⟩, rfl⟩⟩)
    · refine v_st (st' := [.null]) rfl ?_
      refine v_astoreN X [1, 2, 3, 4, 0] (lv' := [(0, .ref (eA (vE a) 0 0)), (1, .int (nI t)), (2, .int y), (3, .ref (eA (vE a) 2 t)), (4, .null)]) (by decide) rfl dX5_product_11 ?_
      refine v_aload_n X 3 rfl dX5_product_13 ?_
      refine v_ifnull X dX5_product_14 ?_
      refine v_aloadN X 4 rfl dX5_product_17 ?_
      refine v_ifnonnullN X dX5_product_19 ?_
      refine v_aload_n X 0 rfl dX5_product_22 ?_
      refine v_bipush X (v := (-3)) dX5_product_23 (by decide) ?_
      refine v_callV X (c_X5_refused _ _ hE _ _ 3 (by decide) (by decide)) k_X5_58 dl_0 (cef_0 _ _ _ _) rfl ⟨rfl, rfl, Nat.le_of_ble_eq_true rfl, Nat.le_of_ble_eq_true rfl⟩ (As := [.int (-3)]) (rest := []) rfl rfl (Nat.le_of_ble_eq_true rfl) dX5_product_25 (fun r25 I25 L25 hp25 => ?_)
      obtain ⟨rfl, e1, e2⟩ := hp25
      have e1 := e1.symm
      have e2 := e2.symm
      subst e1; subst e2
      refine v_st (st' := [.int (-3)]) rfl ?_
      exact v_iret X Y dX5_product_28 (Or.inl ⟨fun q => hnou q.2, ⟨rfl, rfl⟩, rfl⟩)
  · refine v_st (st' := [.null]) rfl ?_
    refine v_astore_nN X [1, 2, 3, 0] (lv' := [(0, .ref (eA (vE a) 0 0)), (1, .int x), (2, .int y), (3, .null)]) (by decide) rfl dX5_product_5 ?_
    refine v_aload_n X 0 rfl dX5_product_6 ?_
    refine v_iload_n X 2 rfl dX5_product_7 ?_
    refine v_callV X (c_X5_gridOf _ _ hE _ _ c hT.1 hT.2.1 y) k_X5_74 dl_0 (cef_0 _ _ _ _) rfl ⟨rfl, rfl, Nat.le_of_ble_eq_true rfl, Nat.le_of_ble_eq_true rfl⟩ (As := [.int y]) (rest := []) rfl rfl (Nat.le_of_ble_eq_true rfl) dX5_product_8 (fun r8 I8 L8 hp8 => ?_)
    obtain ⟨ho8, e1, e2⟩ := hp8
    have e1 := e1.symm
    have e2 := e2.symm
    subst e1; subst e2
    rcases ho8 with ⟨u, htu, rfl, rfl⟩ | ⟨hnou, rfl⟩
    · have hc12 := hT.2.1
      obtain ⟨hru, hcu, hr1u, hr5u, hc1u, hc5u⟩ := hT.2.2 u htu
      have ht12u : u < 12 := by omega
      have hneu : u ≠ c := by omega
      refine v_st (st' := [.ref (eA (vE a) 2 u)]) rfl ?_
      refine v_astore X [1, 2, 3, 4, 0] (lv' := [(0, .ref (eA (vE a) 0 0)), (1, .int x), (2, .int (nI u)), (3, .null), (4, .ref (eA (vE a) 2 u))]) (by decide) rfl dX5_product_11 ?_
      refine v_aload_nN X 3 rfl dX5_product_13 ?_
      refine v_ifnullN X (tgt := 22) dX5_product_14 (by decide) ?_
      refine v_aload_n X 0 rfl dX5_product_22 ?_
      refine v_bipush X (v := (-3)) dX5_product_23 (by decide) ?_
      refine v_callV X (c_X5_refused _ _ hE _ _ 3 (by decide) (by decide)) k_X5_58 dl_0 (cef_0 _ _ _ _) rfl ⟨rfl, rfl, Nat.le_of_ble_eq_true rfl, Nat.le_of_ble_eq_true rfl⟩ (As := [.int (-3)]) (rest := []) rfl rfl (Nat.le_of_ble_eq_true rfl) dX5_product_25 (fun r25 I25 L25 hp25 => ?_)
      obtain ⟨rfl, e1, e2⟩ := hp25
      have e1 := e1.symm
      have e2 := e2.symm
      subst e1; subst e2
      refine v_st (st' := [.int (-3)]) rfl ?_
      exact v_iret X Y dX5_product_28 (Or.inl ⟨fun q => hnot q.1, ⟨rfl, rfl⟩, rfl⟩)
    · refine v_st (st' := [.null]) rfl ?_
      refine v_astoreN X [1, 2, 3, 4, 0] (lv' := [(0, .ref (eA (vE a) 0 0)), (1, .int x), (2, .int y), (3, .null), (4, .null)]) (by decide) rfl dX5_product_11 ?_
      refine v_aload_nN X 3 rfl dX5_product_13 ?_
      refine v_ifnullN X (tgt := 22) dX5_product_14 (by decide) ?_
      refine v_aload_n X 0 rfl dX5_product_22 ?_
      refine v_bipush X (v := (-3)) dX5_product_23 (by decide) ?_
      refine v_callV X (c_X5_refused _ _ hE _ _ 3 (by decide) (by decide)) k_X5_58 dl_0 (cef_0 _ _ _ _) rfl ⟨rfl, rfl, Nat.le_of_ble_eq_true rfl, Nat.le_of_ble_eq_true rfl⟩ (As := [.int (-3)]) (rest := []) rfl rfl (Nat.le_of_ble_eq_true rfl) dX5_product_25 (fun r25 I25 L25 hp25 => ?_)
      obtain ⟨rfl, e1, e2⟩ := hp25
      have e1 := e1.symm
      have e2 := e2.symm
      subst e1; subst e2
      refine v_st (st' := [.int (-3)]) rfl ?_
      exact v_iret X Y dX5_product_28 (Or.inl ⟨fun q => hnot q.1, ⟨rfl, rfl⟩, rfl⟩)
set_option maxHeartbeats 4000000 in
set_option maxRecDepth 100000 in
theorem c_X5_sum (l : Launch) (E : VE) (hE : EOk E) (I : TI) (L : TL) (c : Nat) (ro co : Nat → Nat) (hT : CT I c ro co) (x y : Int32) : Ct l E yX5_sum cX5_sum 8 (some .int) rm_X5_sum [.ref (eA E 0 0), .int x, .int y] I L (fun r I' L' => (¬ (isT c x ∧ isT c y) ∧ REF I I' r 3 ∧ L' = L) ∨ (∃ t u, t < c ∧ u < c ∧ x = nI t ∧ y = nI u ∧ ((¬ (ro t = ro u ∧ co t = co u) ∧ REF I I' r 7 ∧ L' = L) ∨ ((ro t = ro u ∧ co t = co u) ∧ c = 12 ∧ REF I I' r 8 ∧ L' = L) ∨ ((ro t = ro u ∧ co t = co u) ∧ c < 12 ∧ ResT I I' r c (ro t) (co t) (nI 3) (-1) (fun i j => (I 3 t (5 * i + j) + I 3 u (5 * i + j)).toInt64) ∧ L' = L)))) := by
  refine ct_of (by decide +kernel) (Nat.le_of_ble_eq_true rfl) hE ?_
  intro a X Y hl hEE
  subst hl; subst hEE
  show V a 0 [(0, .ref (eA (vE a) 0 0)), (1, .int x), (2, .int y)] [] I L
  refine v_aload_n X 0 rfl dX5_sum_0 ?_
  refine v_iload_n X 1 rfl dX5_sum_1 ?_
  refine v_callV X (c_X5_gridOf _ _ hE _ _ c hT.1 hT.2.1 x) k_X5_74 dl_0 (cef_0 _ _ _ _) rfl ⟨rfl, rfl, Nat.le_of_ble_eq_true rfl, Nat.le_of_ble_eq_true rfl⟩ (As := [.int x]) (rest := []) rfl rfl (Nat.le_of_ble_eq_true rfl) dX5_sum_2 (fun r2 I2 L2 hp2 => ?_)
  obtain ⟨ho2, e1, e2⟩ := hp2
  have e1 := e1.symm
  have e2 := e2.symm
  subst e1; subst e2
  rcases ho2 with ⟨t, htt, rfl, rfl⟩ | ⟨hnot, rfl⟩
  · have hc12 := hT.2.1
    obtain ⟨hrt, hct, hr1t, hr5t, hc1t, hc5t⟩ := hT.2.2 t htt
    have ht12t : t < 12 := by omega
    have hnet : t ≠ c := by omega
    refine v_st (st' := [.ref (eA (vE a) 2 t)]) rfl ?_
    refine v_astore_n X [1, 2, 3, 0] (lv' := [(0, .ref (eA (vE a) 0 0)), (1, .int (nI t)), (2, .int y), (3, .ref (eA (vE a) 2 t))]) (by decide) rfl dX5_sum_5 ?_
    refine v_aload_n X 0 rfl dX5_sum_6 ?_
    refine v_iload_n X 2 rfl dX5_sum_7 ?_
    refine v_callV X (c_X5_gridOf _ _ hE _ _ c hT.1 hT.2.1 y) k_X5_74 dl_0 (cef_0 _ _ _ _) rfl ⟨rfl, rfl, Nat.le_of_ble_eq_true rfl, Nat.le_of_ble_eq_true rfl⟩ (As := [.int y]) (rest := []) rfl rfl (Nat.le_of_ble_eq_true rfl) dX5_sum_8 (fun r8 I8 L8 hp8 => ?_)
    obtain ⟨ho8, e1, e2⟩ := hp8
    have e1 := e1.symm
    have e2 := e2.symm
    subst e1; subst e2
    rcases ho8 with ⟨u, htu, rfl, rfl⟩ | ⟨hnou, rfl⟩
    · skip
      obtain ⟨hru, hcu, hr1u, hr5u, hc1u, hc5u⟩ := hT.2.2 u htu
      have ht12u : u < 12 := by omega
      have hneu : u ≠ c := by omega
      refine v_st (st' := [.ref (eA (vE a) 2 u)]) rfl ?_
      refine v_astore X [1, 2, 3, 4, 0] (lv' := [(0, .ref (eA (vE a) 0 0)), (1, .int (nI t)), (2, .int (nI u)), (3, .ref (eA (vE a) 2 t)), (4, .ref (eA (vE a) 2 u))]) (by decide) rfl dX5_sum_11 ?_
      refine v_aload_n X 3 rfl dX5_sum_13 ?_
      refine v_ifnull X dX5_sum_14 ?_
      refine v_aload X 4 rfl dX5_sum_17 ?_
      refine v_ifnonnull X (tgt := 29) dX5_sum_19 (by decide) ?_
      refine v_aload_n X 3 rfl dX5_sum_29 ?_
      refine gf_X5_101 X ht12t dX5_sum_30 ?_
      refine v_eqi (y := (nI (ro t))) (hrt) ?_
      refine v_aload X 4 rfl dX5_sum_33 ?_
      refine gf_X5_101 X ht12u dX5_sum_35 ?_
      refine v_eqi (y := (nI (ro u))) (hru) ?_
      refine v_icmp_ne_n X (by omega) (by omega) dX5_sum_38 (tgt := 53) (by decide) (fun h38 => ?_) (fun h38 => ?_)
      · refine v_aload_n X 0 rfl dX5_sum_53 ?_
        refine v_bipush X (v := (-7)) dX5_sum_54 (by decide) ?_
        refine v_callV X (c_X5_refused _ _ hE _ _ 7 (by decide) (by decide)) k_X5_58 dl_0 (cef_0 _ _ _ _) rfl ⟨rfl, rfl, Nat.le_of_ble_eq_true rfl, Nat.le_of_ble_eq_true rfl⟩ (As := [.int (-7)]) (rest := []) rfl rfl (Nat.le_of_ble_eq_true rfl) dX5_sum_56 (fun r56 I56 L56 hp56 => ?_)
        obtain ⟨rfl, e1, e2⟩ := hp56
        have e1 := e1.symm
        have e2 := e2.symm
        subst e1; subst e2
        refine v_st (st' := [.int (-7)]) rfl ?_
        exact v_iret X Y dX5_sum_59 (Or.inr ⟨t, u, htt, htu, rfl, rfl, Or.inl ⟨fun q => h38 q.1, ⟨rfl, rfl⟩, rfl⟩⟩)
      · refine v_aload_n X 3 rfl dX5_sum_41 ?_
        refine gf_X5_104 X ht12t dX5_sum_42 ?_
        refine v_eqi (y := (nI (co t))) (hct) ?_
        refine v_aload X 4 rfl dX5_sum_45 ?_
        refine gf_X5_104 X ht12u dX5_sum_47 ?_
        refine v_eqi (y := (nI (co u))) (hcu) ?_
        refine v_icmp_eq_n X (by omega) (by omega) dX5_sum_50 (tgt := 60) (by decide) (fun h50 => ?_) (fun h50 => ?_)
        · refine v_aload_n X 0 rfl dX5_sum_60 ?_
          refine v_callV X (c_X5_freeGrid _ _ hE _ _ c (hT.1) hT.2.1) k_X5_62 dl_0 (cef_0 _ _ _ _) rfl ⟨rfl, rfl, Nat.le_of_ble_eq_true rfl, Nat.le_of_ble_eq_true rfl⟩ (As := []) (rest := []) rfl rfl (Nat.le_of_ble_eq_true rfl) dX5_sum_61 (fun r61 I61 L61 hp61 => ?_)
          obtain ⟨hg61, e1, e2⟩ := hp61
          have e1 := e1.symm
          have e2 := e2.symm
          subst e1; subst e2
          rcases hg61 with ⟨hcl, rfl⟩ | ⟨hfull, rfl⟩
          · refine v_st (st' := [.ref (eA (vE a) 2 c)]) rfl ?_
            refine v_astore X [1, 2, 3, 4, 5, 0] (lv' := [(0, .ref (eA (vE a) 0 0)), (1, .int (nI t)), (2, .int (nI u)), (3, .ref (eA (vE a) 2 t)), (4, .ref (eA (vE a) 2 u)), (5, .ref (eA (vE a) 2 c))]) (by decide) rfl dX5_sum_64 ?_
            refine v_aload X 5 rfl dX5_sum_66 ?_
            refine v_ifnonnull X (tgt := 78) dX5_sum_68 (by decide) ?_
            refine v_aload X 5 rfl dX5_sum_78 ?_
            refine v_aload_n X 3 rfl dX5_sum_80 ?_
            refine gf_X5_101 X ht12t dX5_sum_81 ?_
            refine v_eqi (y := (nI (ro t))) (hrt) ?_
            refine v_aload_n X 3 rfl dX5_sum_84 ?_
            refine gf_X5_104 X ht12t dX5_sum_85 ?_
            refine v_eqi (y := (nI (co t))) (hct) ?_
            refine v_iconst X (v := (nI 3)) dX5_sum_88 (by decide) ?_
            refine v_callV X (c_X0_begin _ _ hE _ _ c hcl (nI (ro t)) (nI (co t)) (nI 3)) k_X5_66 (dl_2 hcl) (cef_2 _ _ _ _) rfl ⟨rfl, rfl, Nat.le_of_ble_eq_true rfl, Nat.le_of_ble_eq_true rfl⟩ (As := [.int (nI (ro t)), .int (nI (co t)), .int (nI 3)]) (rest := []) rfl rfl (Nat.le_of_ble_eq_true rfl) dX5_sum_89 (fun r89 I89 L89 hp89 => ?_)
            obtain ⟨rfl, hF89, hb1, hb2, hb3, hb4, hb5, hb6, e2⟩ := hp89
            have e2 := e2.symm
            subst e2
            have hB : Bld I I89 c (ro t) (co t) (nI 3) (-1) (DR (co t) 0 0) (fun i j => (I 3 t (5 * i + j) + I 3 u (5 * i + j)).toInt64) := Bld.zero hF89 hb1 hb2 hb3 hb4 hb5 hb6 DR_0
            refine v_st (st' := []) rfl ?_
            refine v_iconst X (v := (nI 0)) dX5_sum_92 (by decide) ?_
            refine v_istore X [1, 2, 3, 4, 5, 6, 0] (lv' := [(0, .ref (eA (vE a) 0 0)), (1, .int (nI t)), (2, .int (nI u)), (3, .ref (eA (vE a) 2 t)), (4, .ref (eA (vE a) 2 u)), (5, .ref (eA (vE a) 2 c)), (6, .int (nI 0))]) (by decide) rfl dX5_sum_93 ?_
            have loop95 : ∀ (fu : Nat) (i : Nat) (I1 : TI), 6 - i < fu → (i ≤ (ro t)) → (Bld I I1 c (ro t) (co t) (nI 3) (-1) (DR (co t) i 0) (fun i j => (I 3 t (5 * i + j) + I 3 u (5 * i + j)).toInt64)) → V a 95 [(0, .ref (eA (vE a) 0 0)), (1, .int (nI t)), (2, .int (nI u)), (3, .ref (eA (vE a) 2 t)), (4, .ref (eA (vE a) 2 u)), (5, .ref (eA (vE a) 2 c)), (6, .int (nI i))] [] I1 L := by
              intro fu
              induction fu with
              | zero => intro i I1 hm _ _; exact absurd hm (Nat.not_lt_zero _)
              | succ fu ih95 =>
                intro i I1 hm95 hi hB
                refine v_iload X 6 rfl dX5_sum_95 ?_
                refine v_aload_n X 3 rfl dX5_sum_97 ?_
                refine gf_X5_101 X ht12t dX5_sum_98 ?_
                refine v_eqi (y := (nI (ro t))) ((Fr.at hB.1 (by simp [hnet]) _).trans (hrt)) ?_
                refine v_icmp_ge_n X (by omega) (by omega) dX5_sum_101 (tgt := 156) (by decide) (fun h101 => ?_) (fun h101 => ?_)
                · refine v_aload_n X 0 rfl dX5_sum_156 ?_
                  refine v_aload X 5 rfl dX5_sum_157 ?_
                  obtain ⟨f, hf2, hf1⟩ := hB.f
                  refine v_callV X (c_X5_come _ _ hE _ _ c ((Fr.at hB.1 (by simp) _).trans (hT.1)) hcl f hf1 hf2) k_X5_70 dl_0 (cef_0 _ _ _ _) rfl ⟨rfl, rfl, Nat.le_of_ble_eq_true rfl, Nat.le_of_ble_eq_true rfl⟩ (As := [.ref (eA (vE a) 2 c)]) (rest := []) rfl rfl (Nat.le_of_ble_eq_true rfl) dX5_sum_159 (fun r159 I159 L159 hp159 => ?_)
                  obtain ⟨ho, e2⟩ := hp159
                  have e2 := e2.symm
                  subst e2
                  have hres := hB.res (by omega) (by omega) (DR_end (by omega)) hf2 hf1 ho
                  rcases ho with ⟨-, rfl, -⟩ | ⟨-, rfl, -⟩
                  · refine v_st (st' := [.int (-nI 8)]) rfl ?_
                    exact v_iret X Y dX5_sum_162 (Or.inr ⟨t, u, htt, htu, rfl, rfl, Or.inr (Or.inr ⟨⟨h38, h50⟩, hcl, hres, rfl⟩)⟩)
                  · refine v_st (st' := [.int (nI c)]) rfl ?_
                    exact v_iret X Y dX5_sum_162 (Or.inr ⟨t, u, htt, htu, rfl, rfl, Or.inr (Or.inr ⟨⟨h38, h50⟩, hcl, hres, rfl⟩)⟩)
                · refine v_iconst X (v := (nI 0)) dX5_sum_104 (by decide) ?_
                  refine v_istore X [1, 2, 3, 4, 5, 6, 7, 0] (lv' := [(0, .ref (eA (vE a) 0 0)), (1, .int (nI t)), (2, .int (nI u)), (3, .ref (eA (vE a) 2 t)), (4, .ref (eA (vE a) 2 u)), (5, .ref (eA (vE a) 2 c)), (6, .int (nI i)), (7, .int (nI 0))]) (by decide) rfl dX5_sum_105 ?_
                  have loop107 : ∀ (fu : Nat) (j : Nat) (I1 : TI), 6 - j < fu → (j ≤ (co t)) → (Bld I I1 c (ro t) (co t) (nI 3) (-1) (DR (co t) i j) (fun i j => (I 3 t (5 * i + j) + I 3 u (5 * i + j)).toInt64)) → V a 107 [(0, .ref (eA (vE a) 0 0)), (1, .int (nI t)), (2, .int (nI u)), (3, .ref (eA (vE a) 2 t)), (4, .ref (eA (vE a) 2 u)), (5, .ref (eA (vE a) 2 c)), (6, .int (nI i)), (7, .int (nI j))] [] I1 L := by
                    intro fu
                    induction fu with
                    | zero => intro j I1 hm _ _; exact absurd hm (Nat.not_lt_zero _)
                    | succ fu ih107 =>
                      intro j I1 hm107 hj hB
                      refine v_iload X 7 rfl dX5_sum_107 ?_
                      refine v_aload_n X 3 rfl dX5_sum_109 ?_
                      refine gf_X5_104 X ht12t dX5_sum_110 ?_
                      refine v_eqi (y := (nI (co t))) ((Fr.at hB.1 (by simp [hnet]) _).trans (hct)) ?_
                      refine v_icmp_ge_n X (by omega) (by omega) dX5_sum_113 (tgt := 150) (by decide) (fun h113 => ?_) (fun h113 => ?_)
                      · refine v_iinc X [1, 2, 3, 4, 5, 6, 0, 7] 6 (nI (i + 1)) (lv' := [(0, .ref (eA (vE a) 0 0)), (1, .int (nI t)), (2, .int (nI u)), (3, .ref (eA (vE a) 2 t)), (4, .ref (eA (vE a) 2 u)), (5, .ref (eA (vE a) 2 c)), (6, .int (nI (i + 1))), (7, .int (nI j))]) rfl (nI_1 _) (by decide) rfl dX5_sum_150 ?_
                        refine v_goto X (tgt := 95) dX5_sum_153 (by decide) ?_
                        refine v_sub [0, 1, 2, 3, 4, 5, 6] (lv' := [(0, .ref (eA (vE a) 0 0)), (1, .int (nI t)), (2, .int (nI u)), (3, .ref (eA (vE a) 2 t)), (4, .ref (eA (vE a) 2 u)), (5, .ref (eA (vE a) 2 c)), (6, .int (nI (i + 1)))]) rfl ?_
                        exact ih95 (i + 1) I1 (by omega) (by omega) (hB.cg (DR_row (by omega)))
                      · refine v_aload X 5 rfl dX5_sum_116 ?_
                        refine v_iload X 6 rfl dX5_sum_118 ?_
                        refine v_iload X 7 rfl dX5_sum_120 ?_
                        refine v_aload_n X 3 rfl dX5_sum_122 ?_
                        refine v_iload X 6 rfl dX5_sum_123 ?_
                        refine v_iload X 7 rfl dX5_sum_125 ?_
                        refine v_callV X (c_X0_number _ _ hE _ _ t ht12t (ro t) (co t) ((Fr.at hB.1 (by simp [hnet]) _).trans (hrt)) ((Fr.at hB.1 (by simp [hnet]) _).trans (hct)) hr5t hc5t i j (by omega) (by omega)) k_X5_93 (dl_2 ht12t) (cef_2 _ _ _ _) rfl ⟨rfl, rfl, Nat.le_of_ble_eq_true rfl, Nat.le_of_ble_eq_true rfl⟩ (As := [.int (nI i), .int (nI j)]) (rest := [.int (nI j), .int (nI i), .ref (eA (vE a) 2 c)]) rfl rfl (Nat.le_of_ble_eq_true rfl) dX5_sum_127 (fun r127 I127 L127 hp127 => ?_)
                        obtain ⟨rfl, e1, e2⟩ := hp127
                        have e1 := e1.symm
                        have e2 := e2.symm
                        subst e1; subst e2
                        refine v_st (st' := [.int (I1 3 t (5 * i + j)), .int (nI j), .int (nI i), .ref (eA (vE a) 2 c)]) rfl ?_
                        refine v_aload X 4 rfl dX5_sum_130 ?_
                        refine v_iload X 6 rfl dX5_sum_132 ?_
                        refine v_iload X 7 rfl dX5_sum_134 ?_
                        refine v_callV X (c_X0_number _ _ hE _ _ u ht12u (ro u) (co u) ((Fr.at hB.1 (by simp [hneu]) _).trans (hru)) ((Fr.at hB.1 (by simp [hneu]) _).trans (hcu)) hr5u hc5u i j (by omega) (by omega)) k_X5_93 (dl_2 ht12u) (cef_2 _ _ _ _) rfl ⟨rfl, rfl, Nat.le_of_ble_eq_true rfl, Nat.le_of_ble_eq_true rfl⟩ (As := [.int (nI i), .int (nI j)]) (rest := [.int (I1 3 t (5 * i + j)), .int (nI j), .int (nI i), .ref (eA (vE a) 2 c)]) rfl rfl (Nat.le_of_ble_eq_true rfl) dX5_sum_136 (fun r136 I136 L136 hp136 => ?_)
                        obtain ⟨rfl, e1, e2⟩ := hp136
                        have e1 := e1.symm
                        have e2 := e2.symm
                        subst e1; subst e2
                        refine v_st (st' := [.int (I1 3 u (5 * i + j)), .int (I1 3 t (5 * i + j)), .int (nI j), .int (nI i), .ref (eA (vE a) 2 c)]) rfl ?_
                        refine v_iadd X dX5_sum_139 ?_
                        refine v_i2l X dX5_sum_140 rfl ?_
                        refine v_callV X (c_X0_put _ _ hE _ _ c hcl (ro t) (co t) (hB.2.1) (hB.2.2.1) (by omega) (by omega) i j (by omega) (by omega) (((I1 3 t (5 * i + j)) + (I1 3 u (5 * i + j))).toInt64)) k_X5_97 (dl_2 hcl) (cef_2 _ _ _ _) rfl ⟨rfl, rfl, Nat.le_of_ble_eq_true rfl, Nat.le_of_ble_eq_true rfl⟩ (As := [.int (nI i), .int (nI j), .long (((I1 3 t (5 * i + j)) + (I1 3 u (5 * i + j))).toInt64)]) (rest := []) rfl rfl (Nat.le_of_ble_eq_true rfl) dX5_sum_141 (fun r141 I141 L141 hp141 => ?_)
                        obtain ⟨rfl, e1, e2⟩ := hp141
                        have e2 := e2.symm
                        subst e2
                        have e3t : I1 3 t = I 3 t := hB.1 3 t (by simp [hnet])
                        have e3u : I1 3 u = I 3 u := hB.1 3 u (by simp [hneu])
                        have hB141 := hB.put (D' := DR (co t) i (j + 1)) (i := i) (j := j) (by omega) (by omega) DR_no (DR_put (by omega)) (v := ((I1 3 t (5 * i + j)) + (I1 3 u (5 * i + j))).toInt64) (by rw [e3t, e3u])
                        rw [← e1] at hB141
                        refine v_st (st' := []) rfl ?_
                        refine v_iinc X [1, 2, 3, 4, 5, 6, 7, 0] 7 (nI (j + 1)) (lv' := [(0, .ref (eA (vE a) 0 0)), (1, .int (nI t)), (2, .int (nI u)), (3, .ref (eA (vE a) 2 t)), (4, .ref (eA (vE a) 2 u)), (5, .ref (eA (vE a) 2 c)), (6, .int (nI i)), (7, .int (nI (j + 1)))]) rfl (nI_1 _) (by decide) rfl dX5_sum_144 ?_
                        refine v_goto X (tgt := 107) dX5_sum_147 (by decide) ?_
                        exact ih107 (j + 1) I141 (by omega) (by omega) hB141
                  exact loop107 _ 0 I1 (Nat.lt_succ_self _) (Nat.zero_le _) hB
            exact loop95 _ 0 I89 (Nat.lt_succ_self _) (Nat.zero_le _) hB
          · refine v_st (st' := [.null]) rfl ?_
            refine v_astoreN X [1, 2, 3, 4, 5, 0] (lv' := [(0, .ref (eA (vE a) 0 0)), (1, .int (nI t)), (2, .int (nI u)), (3, .ref (eA (vE a) 2 t)), (4, .ref (eA (vE a) 2 u)), (5, .null)]) (by decide) rfl dX5_sum_64 ?_
            refine v_aloadN X 5 rfl dX5_sum_66 ?_
            refine v_ifnonnullN X dX5_sum_68 ?_
            refine v_aload_n X 0 rfl dX5_sum_71 ?_
            refine v_bipush X (v := (-8)) dX5_sum_72 (by decide) ?_
            refine v_callV X (c_X5_refused _ _ hE _ _ 8 (by decide) (by decide)) k_X5_58 dl_0 (cef_0 _ _ _ _) rfl ⟨rfl, rfl, Nat.le_of_ble_eq_true rfl, Nat.le_of_ble_eq_true rfl⟩ (As := [.int (-8)]) (rest := []) rfl rfl (Nat.le_of_ble_eq_true rfl) dX5_sum_74 (fun r74 I74 L74 hp74 => ?_)
            obtain ⟨rfl, e1, e2⟩ := hp74
            have e1 := e1.symm
            have e2 := e2.symm
            subst e1; subst e2
            refine v_st (st' := [.int (-8)]) rfl ?_
            exact v_iret X Y dX5_sum_77 (Or.inr ⟨t, u, htt, htu, rfl, rfl, Or.inr (Or.inl ⟨⟨h38, h50⟩, hfull, ⟨rfl, rfl⟩, rfl⟩)⟩)
        · refine v_aload_n X 0 rfl dX5_sum_53 ?_
          refine v_bipush X (v := (-7)) dX5_sum_54 (by decide) ?_
          refine v_callV X (c_X5_refused _ _ hE _ _ 7 (by decide) (by decide)) k_X5_58 dl_0 (cef_0 _ _ _ _) rfl ⟨rfl, rfl, Nat.le_of_ble_eq_true rfl, Nat.le_of_ble_eq_true rfl⟩ (As := [.int (-7)]) (rest := []) rfl rfl (Nat.le_of_ble_eq_true rfl) dX5_sum_56 (fun r56 I56 L56 hp56 => ?_)
          obtain ⟨rfl, e1, e2⟩ := hp56
          have e1 := e1.symm
          have e2 := e2.symm
          subst e1; subst e2
          refine v_st (st' := [.int (-7)]) rfl ?_
          exact v_iret X Y dX5_sum_59 (Or.inr ⟨t, u, htt, htu, rfl, rfl, Or.inl ⟨fun q => h50 q.2, ⟨rfl, rfl⟩, rfl⟩⟩)
    · refine v_st (st' := [.null]) rfl ?_
      refine v_astoreN X [1, 2, 3, 4, 0] (lv' := [(0, .ref (eA (vE a) 0 0)), (1, .int (nI t)), (2, .int y), (3, .ref (eA (vE a) 2 t)), (4, .null)]) (by decide) rfl dX5_sum_11 ?_
      refine v_aload_n X 3 rfl dX5_sum_13 ?_
      refine v_ifnull X dX5_sum_14 ?_
      refine v_aloadN X 4 rfl dX5_sum_17 ?_
      refine v_ifnonnullN X dX5_sum_19 ?_
      refine v_aload_n X 0 rfl dX5_sum_22 ?_
      refine v_bipush X (v := (-3)) dX5_sum_23 (by decide) ?_
      refine v_callV X (c_X5_refused _ _ hE _ _ 3 (by decide) (by decide)) k_X5_58 dl_0 (cef_0 _ _ _ _) rfl ⟨rfl, rfl, Nat.le_of_ble_eq_true rfl, Nat.le_of_ble_eq_true rfl⟩ (As := [.int (-3)]) (rest := []) rfl rfl (Nat.le_of_ble_eq_true rfl) dX5_sum_25 (fun r25 I25 L25 hp25 => ?_)
      obtain ⟨rfl, e1, e2⟩ := hp25
      have e1 := e1.symm
      have e2 := e2.symm
      subst e1; subst e2
      refine v_st (st' := [.int (-3)]) rfl ?_
      exact v_iret X Y dX5_sum_28 (Or.inl ⟨fun q => hnou q.2, ⟨rfl, rfl⟩, rfl⟩)
  · refine v_st (st' := [.null]) rfl ?_
    refine v_astore_nN X [1, 2, 3, 0] (lv' := [(0, .ref (eA (vE a) 0 0)), (1, .int x), (2, .int y), (3, .null)]) (by decide) rfl dX5_sum_5 ?_
    refine v_aload_n X 0 rfl dX5_sum_6 ?_
    refine v_iload_n X 2 rfl dX5_sum_7 ?_
    refine v_callV X (c_X5_gridOf _ _ hE _ _ c hT.1 hT.2.1 y) k_X5_74 dl_0 (cef_0 _ _ _ _) rfl ⟨rfl, rfl, Nat.le_of_ble_eq_true rfl, Nat.le_of_ble_eq_true rfl⟩ (As := [.int y]) (rest := []) rfl rfl (Nat.le_of_ble_eq_true rfl) dX5_sum_8 (fun r8 I8 L8 hp8 => ?_)
    obtain ⟨ho8, e1, e2⟩ := hp8
    have e1 := e1.symm
    have e2 := e2.symm
    subst e1; subst e2
    rcases ho8 with ⟨u, htu, rfl, rfl⟩ | ⟨hnou, rfl⟩
    · have hc12 := hT.2.1
      obtain ⟨hru, hcu, hr1u, hr5u, hc1u, hc5u⟩ := hT.2.2 u htu
      have ht12u : u < 12 := by omega
      have hneu : u ≠ c := by omega
      refine v_st (st' := [.ref (eA (vE a) 2 u)]) rfl ?_
      refine v_astore X [1, 2, 3, 4, 0] (lv' := [(0, .ref (eA (vE a) 0 0)), (1, .int x), (2, .int (nI u)), (3, .null), (4, .ref (eA (vE a) 2 u))]) (by decide) rfl dX5_sum_11 ?_
      refine v_aload_nN X 3 rfl dX5_sum_13 ?_
      refine v_ifnullN X (tgt := 22) dX5_sum_14 (by decide) ?_
      refine v_aload_n X 0 rfl dX5_sum_22 ?_
      refine v_bipush X (v := (-3)) dX5_sum_23 (by decide) ?_
      refine v_callV X (c_X5_refused _ _ hE _ _ 3 (by decide) (by decide)) k_X5_58 dl_0 (cef_0 _ _ _ _) rfl ⟨rfl, rfl, Nat.le_of_ble_eq_true rfl, Nat.le_of_ble_eq_true rfl⟩ (As := [.int (-3)]) (rest := []) rfl rfl (Nat.le_of_ble_eq_true rfl) dX5_sum_25 (fun r25 I25 L25 hp25 => ?_)
      obtain ⟨rfl, e1, e2⟩ := hp25
      have e1 := e1.symm
      have e2 := e2.symm
      subst e1; subst e2
      refine v_st (st' := [.int (-3)]) rfl ?_
      exact v_iret X Y dX5_sum_28 (Or.inl ⟨fun q => hnot q.1, ⟨rfl, rfl⟩, rfl⟩)
    · refine v_st (st' := [.null]) rfl ?_
      refine v_astoreN X [1, 2, 3, 4, 0] (lv' := [(0, .ref (eA (vE a) 0 0)), (1, .int x), (2, .int y), (3, .null), (4, .null)]) (by decide) rfl dX5_sum_11 ?_
      refine v_aload_nN X 3 rfl dX5_sum_13 ?_
      refine v_ifnullN X (tgt := 22) dX5_sum_14 (by decide) ?_
      refine v_aload_n X 0 rfl dX5_sum_22 ?_
      refine v_bipush X (v := (-3)) dX5_sum_23 (by decide) ?_
      refine v_callV X (c_X5_refused _ _ hE _ _ 3 (by decide) (by decide)) k_X5_58 dl_0 (cef_0 _ _ _ _) rfl ⟨rfl, rfl, Nat.le_of_ble_eq_true rfl, Nat.le_of_ble_eq_true rfl⟩ (As := [.int (-3)]) (rest := []) rfl rfl (Nat.le_of_ble_eq_true rfl) dX5_sum_25 (fun r25 I25 L25 hp25 => ?_)
      obtain ⟨rfl, e1, e2⟩ := hp25
      have e1 := e1.symm
      have e2 := e2.symm
      subst e1; subst e2
      refine v_st (st' := [.int (-3)]) rfl ?_
      exact v_iret X Y dX5_sum_28 (Or.inl ⟨fun q => hnot q.1, ⟨rfl, rfl⟩, rfl⟩)
set_option maxHeartbeats 4000000 in
set_option maxRecDepth 100000 in
theorem c_X5_table (l : Launch) (E : VE) (hE : EOk E) (I : TI) (L : TL) (c : Nat) (ro co : Nat → Nat) (hT : CT I c ro co) (n m : Int32) : Ct l E yX5_table cX5_table 4 (some .int) rm_X5_table [.ref (eA E 0 0), .int n, .int m] I L (fun r I' L' => (¬ (isD n ∧ isD m) ∧ REF I I' r 7 ∧ L' = L) ∨ (∃ n' m', 1 ≤ n' ∧ n' ≤ 5 ∧ 1 ≤ m' ∧ m' ≤ 5 ∧ n = nI n' ∧ m = nI m' ∧ ((c = 12 ∧ REF I I' r 8 ∧ L' = L) ∨ (c < 12 ∧ ResT I I' r c n' m' (nI 0) (-1) (fun _ _ => 0) ∧ L' = L)))) := by
  refine ct_of (by decide +kernel) (Nat.le_of_ble_eq_true rfl) hE ?_
  intro a X Y hl hEE
  subst hl; subst hEE
  show V a 0 [(0, .ref (eA (vE a) 0 0)), (1, .int n), (2, .int m)] [] I L
  refine v_iload_n X 1 rfl dX5_table_0 ?_
  refine v_callS X (c_X5_isSide _ _ hE _ _ n) k_X5_54 ⟨rfl, rfl, Nat.le_of_ble_eq_true rfl, Nat.le_of_ble_eq_true rfl⟩ (As := [.int n]) (rest := []) rfl rfl (Nat.le_of_ble_eq_true rfl) dX5_table_1 (fun r1 I1 L1 hp1 => ?_)
  obtain ⟨rfl, e1, e2⟩ := hp1
  have e1 := e1.symm
  have e2 := e2.symm
  subst e1; subst e2
  refine v_st (st' := [.int (bI (nI 1 ≤ n ∧ n ≤ nI 5))]) rfl ?_
  refine v_ifb_eq X dX5_table_4 (tgt := 14) (by decide) (fun h4 => ?_) (fun h4 => ?_)
  · refine v_aload_n X 0 rfl dX5_table_14 ?_
    refine v_bipush X (v := (-7)) dX5_table_15 (by decide) ?_
    refine v_callV X (c_X5_refused _ _ hE _ _ 7 (by decide) (by decide)) k_X5_58 dl_0 (cef_0 _ _ _ _) rfl ⟨rfl, rfl, Nat.le_of_ble_eq_true rfl, Nat.le_of_ble_eq_true rfl⟩ (As := [.int (-7)]) (rest := []) rfl rfl (Nat.le_of_ble_eq_true rfl) dX5_table_17 (fun r17 I17 L17 hp17 => ?_)
    obtain ⟨rfl, e1, e2⟩ := hp17
    have e1 := e1.symm
    have e2 := e2.symm
    subst e1; subst e2
    refine v_st (st' := [.int (-7)]) rfl ?_
    exact v_iret X Y dX5_table_20 (Or.inl ⟨fun q => h4 (isD_iff.mp q.1), ⟨rfl, rfl⟩, rfl⟩)
  · refine v_iload_n X 2 rfl dX5_table_7 ?_
    refine v_callS X (c_X5_isSide _ _ hE _ _ m) k_X5_54 ⟨rfl, rfl, Nat.le_of_ble_eq_true rfl, Nat.le_of_ble_eq_true rfl⟩ (As := [.int m]) (rest := []) rfl rfl (Nat.le_of_ble_eq_true rfl) dX5_table_8 (fun r8 I8 L8 hp8 => ?_)
    obtain ⟨rfl, e1, e2⟩ := hp8
    have e1 := e1.symm
    have e2 := e2.symm
    subst e1; subst e2
    refine v_st (st' := [.int (bI (nI 1 ≤ m ∧ m ≤ nI 5))]) rfl ?_
    refine v_ifb_ne X dX5_table_11 (tgt := 21) (by decide) (fun h11 => ?_) (fun h11 => ?_)
    · have hc12 := hT.2.1
      obtain ⟨n', hn1, hn5, rfl⟩ := isD_iff.mpr h4
      obtain ⟨m', hm1, hm5, rfl⟩ := isD_iff.mpr h11
      refine v_aload_n X 0 rfl dX5_table_21 ?_
      refine v_callV X (c_X5_freeGrid _ _ hE _ _ c (hT.1) hT.2.1) k_X5_62 dl_0 (cef_0 _ _ _ _) rfl ⟨rfl, rfl, Nat.le_of_ble_eq_true rfl, Nat.le_of_ble_eq_true rfl⟩ (As := []) (rest := []) rfl rfl (Nat.le_of_ble_eq_true rfl) dX5_table_22 (fun r22 I22 L22 hp22 => ?_)
      obtain ⟨hg22, e1, e2⟩ := hp22
      have e1 := e1.symm
      have e2 := e2.symm
      subst e1; subst e2
      rcases hg22 with ⟨hcl, rfl⟩ | ⟨hfull, rfl⟩
      · refine v_st (st' := [.ref (eA (vE a) 2 c)]) rfl ?_
        refine v_astore_n X [1, 2, 3, 0] (lv' := [(0, .ref (eA (vE a) 0 0)), (1, .int (nI n')), (2, .int (nI m')), (3, .ref (eA (vE a) 2 c))]) (by decide) rfl dX5_table_25 ?_
        refine v_aload_n X 3 rfl dX5_table_26 ?_
        refine v_ifnonnull X (tgt := 37) dX5_table_27 (by decide) ?_
        refine v_aload_n X 3 rfl dX5_table_37 ?_
        refine v_iload_n X 1 rfl dX5_table_38 ?_
        refine v_iload_n X 2 rfl dX5_table_39 ?_
        refine v_iconst X (v := (nI 0)) dX5_table_40 (by decide) ?_
        refine v_callV X (c_X0_begin _ _ hE _ _ c hcl (nI n') (nI m') (nI 0)) k_X5_66 (dl_2 hcl) (cef_2 _ _ _ _) rfl ⟨rfl, rfl, Nat.le_of_ble_eq_true rfl, Nat.le_of_ble_eq_true rfl⟩ (As := [.int (nI n'), .int (nI m'), .int (nI 0)]) (rest := []) rfl rfl (Nat.le_of_ble_eq_true rfl) dX5_table_41 (fun r41 I41 L41 hp41 => ?_)
        obtain ⟨rfl, hF41, hb1, hb2, hb3, hb4, hb5, hb6, e2⟩ := hp41
        have e2 := e2.symm
        subst e2
        have hB : Bld I I41 c n' m' (nI 0) (-1) (fun _ _ => False) (fun _ _ => 0) := Bld.zero hF41 hb1 hb2 hb3 hb4 hb5 hb6 (fun _ _ h => h)
        refine v_st (st' := []) rfl ?_
        replace hB := hB.ext (D' := fun a b => a < n' ∧ b < m') (fun _ _ _ _ h => h.elim) (fun _ _ _ _ _ _ => rfl)
        refine v_aload_n X 0 rfl dX5_table_44 ?_
        refine v_aload_n X 3 rfl dX5_table_45 ?_
        obtain ⟨f, hf2, hf1⟩ := hB.f
        refine v_callV X (c_X5_come _ _ hE _ _ c ((Fr.at hF41 (by simp) _).trans (hT.1)) hcl f hf1 hf2) k_X5_70 dl_0 (cef_0 _ _ _ _) rfl ⟨rfl, rfl, Nat.le_of_ble_eq_true rfl, Nat.le_of_ble_eq_true rfl⟩ (As := [.ref (eA (vE a) 2 c)]) (rest := []) rfl rfl (Nat.le_of_ble_eq_true rfl) dX5_table_46 (fun r46 I46 L46 hp46 => ?_)
        obtain ⟨ho, e2⟩ := hp46
        have e2 := e2.symm
        subst e2
        have hres := hB.res (by omega) (by omega) (fun _ _ _ _ => Iff.rfl) hf2 hf1 ho
        rcases ho with ⟨-, rfl, -⟩ | ⟨-, rfl, -⟩
        · refine v_st (st' := [.int (-nI 8)]) rfl ?_
          exact v_iret X Y dX5_table_49 (Or.inr ⟨n', m', hn1, hn5, hm1, hm5, rfl, rfl, Or.inr ⟨hcl, hres, rfl⟩⟩)
        · refine v_st (st' := [.int (nI c)]) rfl ?_
          exact v_iret X Y dX5_table_49 (Or.inr ⟨n', m', hn1, hn5, hm1, hm5, rfl, rfl, Or.inr ⟨hcl, hres, rfl⟩⟩)
      · refine v_st (st' := [.null]) rfl ?_
        refine v_astore_nN X [1, 2, 3, 0] (lv' := [(0, .ref (eA (vE a) 0 0)), (1, .int (nI n')), (2, .int (nI m')), (3, .null)]) (by decide) rfl dX5_table_25 ?_
        refine v_aload_nN X 3 rfl dX5_table_26 ?_
        refine v_ifnonnullN X dX5_table_27 ?_
        refine v_aload_n X 0 rfl dX5_table_30 ?_
        refine v_bipush X (v := (-8)) dX5_table_31 (by decide) ?_
        refine v_callV X (c_X5_refused _ _ hE _ _ 8 (by decide) (by decide)) k_X5_58 dl_0 (cef_0 _ _ _ _) rfl ⟨rfl, rfl, Nat.le_of_ble_eq_true rfl, Nat.le_of_ble_eq_true rfl⟩ (As := [.int (-8)]) (rest := []) rfl rfl (Nat.le_of_ble_eq_true rfl) dX5_table_33 (fun r33 I33 L33 hp33 => ?_)
        obtain ⟨rfl, e1, e2⟩ := hp33
        have e1 := e1.symm
        have e2 := e2.symm
        subst e1; subst e2
        refine v_st (st' := [.int (-8)]) rfl ?_
        exact v_iret X Y dX5_table_36 (Or.inr ⟨n', m', hn1, hn5, hm1, hm5, rfl, rfl, Or.inl ⟨hfull, ⟨rfl, rfl⟩, rfl⟩⟩)
    · refine v_aload_n X 0 rfl dX5_table_14 ?_
      refine v_bipush X (v := (-7)) dX5_table_15 (by decide) ?_
      refine v_callV X (c_X5_refused _ _ hE _ _ 7 (by decide) (by decide)) k_X5_58 dl_0 (cef_0 _ _ _ _) rfl ⟨rfl, rfl, Nat.le_of_ble_eq_true rfl, Nat.le_of_ble_eq_true rfl⟩ (As := [.int (-7)]) (rest := []) rfl rfl (Nat.le_of_ble_eq_true rfl) dX5_table_17 (fun r17 I17 L17 hp17 => ?_)
      obtain ⟨rfl, e1, e2⟩ := hp17
      have e1 := e1.symm
      have e2 := e2.symm
      subst e1; subst e2
      refine v_st (st' := [.int (-7)]) rfl ?_
      exact v_iret X Y dX5_table_20 (Or.inl ⟨fun q => h11 (isD_iff.mp q.2), ⟨rfl, rfl⟩, rfl⟩)
