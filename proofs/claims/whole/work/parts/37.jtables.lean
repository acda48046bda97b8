/-! the calls of tables, both sides -/
theorem RR.mk {I : TI} {L : TL} {c : Nat} {ro co : Nat → Nat} (hT : RT I c ro co) (hX : RX I L) : RR I L := ⟨⟨c, ro, co, hT⟩, hX⟩
theorem UL.id {ks : List Nat} {L : TL} : UL ks L L := fun _ _ _ => rfl
theorem RT.fc {I : TI} {c : Nat} {ro co : Nat → Nat} (hT : RT I c ro co) {t : Nat} (ht : t < c) : c ≤ 12 ∧ 1 ≤ ro t ∧ ro t ≤ 5 ∧ 1 ≤ co t ∧ co t ≤ 5 := ⟨hT.1.2.1, (hT.1.2.2 t ht).2.2⟩
theorem set_T {I : TI} {c : Nat} {ro co : Nat → Nat} (h : RT I c ro co) {t i j : Nat} (ht : t < c) (hi : i < ro t) (hj : j < co t) {v : Int32} (hv : nm v.toInt64) : RT (upI (upI I 3 t (5 * i + j) v.toInt64.toInt32) 31 0 (25 * t + 5 * i + j) v) c ro co := by
  obtain ⟨hc12, -, hr5, -, hc5⟩ := h.fc ht
  obtain ⟨g1, g2, g3⟩ := h
  refine ⟨g1.eq ((upI_k (by decide)).trans (upI_k (by decide))) (fun u _ => funext fun x => (upI_k (by decide)).trans (upI_k (by decide))), ⟨((upI_k (by decide)).trans (upI_k (by decide))).trans g2.1, g2.2.1, fun u hu => ?_⟩, fun u hu => ?_⟩
  · rw [upI_k (by decide), upI_k (by decide), upI_k (by decide), upI_k (by decide)]
    exact g2.2.2 u hu
  · obtain ⟨k1, k2, k3, k4⟩ := g3 u hu
    refine ⟨fun x hx => ?_, fun a b ha hb hab => ?_, ?_, ?_⟩
    · rw [upI_k (by decide)]
      by_cases e : u = t ∧ x = 5 * i + j
      · obtain ⟨rfl, rfl⟩ := e
        rw [upI_eq, show 25 * u + (5 * i + j) = 25 * u + 5 * i + j by omega, upI_eq, Int32.toInt32_toInt64]
        exact ⟨rfl, hv⟩
      · rw [upI_x (show 25 * u + x ≠ 25 * t + 5 * i + j by omega), upI_k (k := 3) (k' := 31) (by decide)]
        by_cases e2 : u = t
        · subst e2
          rw [upI_x (by omega)]
          exact k1 x hx
        · rw [upI_j e2]
          exact k1 x hx
    · rw [upI_k (by decide)]
      by_cases e2 : u = t
      · subst e2
        rw [upI_x (by omega)]
        exact k2 a b ha hb hab
      · rw [upI_j e2]
        exact k2 a b ha hb hab
    · rw [upI_k (by decide), upI_k (by decide), upI_k (by decide), upI_k (by decide)]
      exact k3
    · rw [upI_k (by decide), upI_k (by decide), upI_k (by decide), upI_k (by decide), upI_k (by decide), upI_k (by decide)]
      exact k4
theorem drop_T {I I1 : TI} {c : Nat} {ro co : Nat → Nat} (h : RT I c ro co) (h0 : I1 0 0 1 = nI (c - 1)) (h30 : I1 30 0 5 = nI (c - 1)) (h2 : ∀ t, I1 2 t = I 2 t) (h3 : ∀ t, I1 3 t = I 3 t) (hk : ∀ k, 31 ≤ k → k ≤ 35 → I1 k 0 = I k 0) : RT I1 (c - 1) ro co := by
  obtain ⟨g1, g2, g3⟩ := h
  refine ⟨⟨h0, by have := g1.2.1; omega, fun t ht => by rw [h2]; exact g1.2.2 t (by omega)⟩, ⟨h30, by have := g1.2.1; omega, fun t ht => by rw [hk 32 (by decide) (by decide), hk 33 (by decide) (by decide)]; exact g2.2.2 t (by omega)⟩, fun t ht => ?_⟩
  rw [h2, h3, hk 31 (by decide) (by decide), hk 34 (by decide) (by decide), hk 35 (by decide) (by decide)]
  exact g3 t (by omega)
/-! worths of tables that are alike -/
theorem rsel_5 : ∀ R, R < 32 → ∀ s, s < 5 → rsel R s < 5 := by decide +kernel
theorem dN_c {a b : Nat → Nat → Int64} {rw1 : Nat → Nat} (h : ∀ i j, i < 5 → j < 5 → a i j = b i j) (hr : ∀ s, s < 5 → rw1 s < 5) : ∀ s, s ≤ 5 → ∀ C, dN a rw1 s C = dN b rw1 s C
  | 0, _, _ => rfl
  | s + 1, hs, C => alr_c (fun j hj _ => h _ _ (hr s (by omega)) hj) (fun j _ _ => dN_c h hr s (by omega) _)
theorem wrt_c {a b : Nat → Nat → Int64} (h : ∀ i j, i < 5 → j < 5 → a i j = b i j) {R C : Nat} (hR : R < 32) : wrt a R C = wrt b R C := dN_c h (rsel_5 R hR) _ (pc5_le R) C
theorem flP_c {a b : Nat → Nat → Int64} (h : ∀ i j, i < 5 → j < 5 → a i j = b i j) {bb r c R C : Nat} (hr : r ≤ 5) (q : flP a bb r c R C) : flP b bb r c R C := by
  have hp := pow32 hr
  have := q.2.1
  refine ⟨q.1, q.2.1, q.2.2.1, q.2.2.2.1, q.2.2.2.2.1, ?_⟩
  rw [← wrt_c h (by omega)]
  exact q.2.2.2.2.2
theorem flRes_c {a b : Nat → Nat → Int64} (h : ∀ i j, i < 5 → j < 5 → a i j = b i j) {bb r c : Nat} (hr : r ≤ 5) {x : Int32} (q : flRes a bb r c x) : flRes b bb r c x := by
  have h' : ∀ i j, i < 5 → j < 5 → b i j = a i j := fun i j hi hj => (h i j hi hj).symm
  rcases q with ⟨R, C, h1, h2, h3⟩ | ⟨h1, h2⟩
  · exact Or.inl ⟨R, C, flP_c h hr h1, fun R' C' z => h2 R' C' (flP_c h' hr z), h3⟩
  · exact Or.inr ⟨fun R' C' z => h1 R' C' (flP_c h' hr z), h2⟩
theorem manyS_c {a b : Nat → Nat → Int64} (h : ∀ i j, i < 5 → j < 5 → a i j = b i j) {s : Int32} {r c : Nat} (hr : r ≤ 5) : manyS a s r c = manyS b s r c := by
  have hp := pow32 hr
  refine sN_c (fun R hR => sN_c (fun C _ => ?_))
  unfold mS
  rw [wrt_c h (by omega)]
theorem spn_32 : ∀ i, i < 6 → ∀ n, n < 6 → i + n ≤ 5 → spn i n < 32 := by decide +kernel
theorem looksS_c {a b : Nat → Nat → Int64} (h : ∀ i j, i < 5 → j < 5 → a i j = b i j) {bb r c : Nat} (hr : r ≤ 5) : looksS a bb r c = looksS b bb r c := by
  refine sN_c (fun n hn => sN_c (fun i hi => sN_c (fun j _ => ?_)))
  unfold lkS
  rw [wrt_c h (spn_32 i (by omega) n (by omega) (by omega))]
theorem ent_M {I : TI} {c : Nat} {ro co : Nat → Nat} (hT : RT I c ro co) {t : Nat} (ht : t < c) : ∀ i j, i < 5 → j < 5 → ent I t i j = entM I t i j := fun i j hi hj => by
  unfold ent entM
  rw [((hT.2.2 t ht).1 (5 * i + j) (by omega)).1, show 25 * t + (5 * i + j) = 25 * t + 5 * i + j by omega]
theorem un_MGo {I I1 : TI} {L L1 : TL} (h : MGo I I1 L L1) : Un [] [(30, 14), (30, 15), (30, 16), (30, 17), (30, 18)] I I1 ∧ UL [42] L L1 := ⟨Un.fr1 (xs := [14, 15, 16, 17, 18]) h.1 (fun x hx => h.2.1 x (by simp at hx; omega)), UL.fl h.2.2⟩
theorem un_scr {I I1 : TI} (h : Fr [(14, 0)] I I1) : Un [14] [] I I1 := Un.fr h
theorem go_RR {I I1 I2 : TI} {L L1 L2 : TL} (h : RR I L) (a : Fr [(14, 0)] I I1) (b : FL [(13, 0)] L L1) (g : MGo I1 I2 L1 L2) : RR I2 L2 :=
  h.un ((un_scr a).tr (un_MGo g).1) ((UL.fl b).tr (un_MGo g).2) (by decide) (by decide) (by decide) (by decide) (by decide)
theorem KM.scr {I I1 : TI} {L L1 : TL} (a : Fr [(14, 0)] I I1) (b : FL [(13, 0)] L L1) : KM I I1 L L1 := KM.of (un_scr a) (UL.fl b) (by decide)
theorem entM_km {I I1 : TI} {L L1 : TL} (k : KM I I1 L L1) (t : Nat) : entM I1 t = entM I t := by
  funext i j
  unfold entM
  rw [k.1 31 0 (by decide)]
section JTC
variable {I I1 : TI} {L L1 : TL} {r : Option Value} {c : Nat} {ro co : Nat → Nat}
theorem J_table {n m : Int32} (hT : RT I c ro co) (hX : RX I L) (A : (fun r I' L' => (¬ (isD n ∧ isD m) ∧ REF I I' r 7 ∧ L' = L) ∨ (∃ n' m', 1 ≤ n' ∧ n' ≤ 5 ∧ 1 ≤ m' ∧ m' ≤ 5 ∧ n = nI n' ∧ m = nI m' ∧ ((c = 12 ∧ REF I I' r 8 ∧ L' = L) ∨ (c < 12 ∧ ResT I I' r c n' m' (nI 0) (-1) (fun _ _ => 0) ∧ L' = L)))) r I1 L1) : JointI I L I1 L1 r (fun I2 L2 r2 => (fun (I : TI) (L : TL) => fun r I' L' => ((¬ (isD n ∧ isD m) ∧ MEF I I' r 7) ∨ (isD n ∧ isD m ∧ ((c = 12 ∧ MEF I I' r 8) ∨ (c < 12 ∧ r = some (.int (nI c)) ∧ BegM I I' c n m (nI 0))))) ∧ L' = L) I1 L1 r2 I2 L2) := by
  rcases A with ⟨h1, ⟨rfl, rfl⟩, rfl⟩ | ⟨n', m', n1, n5, m1, m5, rfl, rfl, hA⟩
  · refine ⟨KM.ref, ⟨_, rfl⟩, fun I2 L2 r2 B => ?_⟩
    obtain ⟨B, rfl⟩ := B
    rcases B with ⟨-, rfl, rfl⟩ | ⟨b1, b2, -⟩
    · exact ⟨rfl, (RR.mk hT hX).ref⟩
    · exact absurd ⟨b1, b2⟩ h1
  · have hL : L1 = L := by rcases hA with ⟨-, -, h⟩ | ⟨-, -, h⟩ <;> exact h
    subst hL
    obtain ⟨k, vv, j⟩ := J_res hT hX n1 n5 m1 m5 (hA.imp (fun q => ⟨q.1, q.2.1⟩) (fun q => ⟨q.1, q.2.1⟩)) UL.id
    refine ⟨k, vv, fun I2 L2 r2 B => ?_⟩
    obtain ⟨B, rfl⟩ := B
    rcases B with ⟨b1, -⟩ | ⟨-, -, B⟩
    · exact absurd ⟨⟨n', n1, n5, rfl⟩, ⟨m', m1, m5, rfl⟩⟩ b1
    · refine j I2 _ r2 (fun _ _ => 0) (fun _ _ _ _ => rfl) UL.id (Or.inl ⟨by decide, ?_⟩)
      rcases B with ⟨b1, b2⟩ | ⟨b1, rfl, b2⟩
      · exact Or.inr ⟨Or.inl b1, b2⟩
      · exact Or.inl ⟨b1, fun _ _ _ _ => (⟨by decide, by decide⟩ : nm 0), b2.add m5, rfl⟩
theorem J_set {x i j v : Int32} (hT : RT I c ro co) (hX : RX I L) (A : (fun r I' L' => ((¬ inP c ro co x i j ∧ RE0 I I' r 3) ∨ (∃ t i' j', t < c ∧ i' < ro t ∧ j' < co t ∧ x = nI t ∧ i = nI i' ∧ j = nI j' ∧ ((¬ I 2 t 3 = 0 ∧ RE0 I I' r 5) ∨ (I 2 t 3 = 0 ∧ ¬ nm v.toInt64 ∧ RE0 I I' r 7) ∨ (I 2 t 3 = 0 ∧ nm v.toInt64 ∧ r = some (.int (I 3 t (5 * i' + j'))) ∧ I' = upI I 3 t (5 * i' + j') v.toInt64.toInt32)))) ∧ L' = L) r I1 L1) : JointI I L I1 L1 r (fun I2 L2 r2 => (fun (I : TI) (L : TL) => fun r I' L' => ((¬ inP c ro co x i j ∧ ME0 I I' r 3) ∨ (∃ t i' j', t < c ∧ i' < ro t ∧ j' < co t ∧ x = nI t ∧ i = nI i' ∧ j = nI j' ∧ ((¬ I 34 0 t = 0 ∧ ME0 I I' r 5) ∨ (I 34 0 t = 0 ∧ ¬ nm v.toInt64 ∧ ME0 I I' r 7) ∨ (I 34 0 t = 0 ∧ nm v.toInt64 ∧ r = some (.int (I 31 0 (25 * t + 5 * i' + j'))) ∧ I' = upI I 31 0 (25 * t + 5 * i' + j') v)))) ∧ L' = L) I1 L1 r2 I2 L2) := by
  rcases A with ⟨⟨h1, rfl, rfl⟩ | ⟨t, i', j', ht, hi, hj, rfl, rfl, rfl, hA⟩, rfl⟩
  · refine ⟨KM.ref, ⟨_, rfl⟩, fun I2 L2 r2 B => ?_⟩
    rcases B with ⟨⟨-, rfl, rfl⟩ | ⟨t, i', j', ht, hi, hj, e1, e2, e3, -⟩, rfl⟩
    · exact ⟨rfl, (RR.mk hT hX).ref⟩
    · exact absurd ⟨t, ht, e1, ⟨i', hi, e2⟩, ⟨j', hj, e3⟩⟩ h1
  · have hin : inP c ro co (nI t) (nI i') (nI j') := ⟨t, ht, rfl, ⟨i', hi, rfl⟩, ⟨j', hj, rfl⟩⟩
    obtain ⟨hc12, hr1, hr5, hc1, hc5⟩ := hT.fc ht
    obtain ⟨k1, k2, k3, k4⟩ := hT.2.2 t ht
    rcases hA with ⟨a1, rfl, rfl⟩ | ⟨a1, a2, rfl, rfl⟩ | ⟨a1, a2, rfl, rfl⟩
    · refine ⟨KM.ref, ⟨_, rfl⟩, fun I2 L2 r2 B => ?_⟩
      rcases B with ⟨⟨b1, -⟩ | ⟨t2, i2, j2, ht2, hi2, hj2, e1, e2, e3, hB⟩, rfl⟩
      · exact absurd hin b1
      · have := eqt (by omega) (by omega) e1
        subst this
        have e34 : rfI I 5 34 0 t2 = I 34 0 t2 := upI_k (by decide)
        rw [e34] at hB
        rcases hB with ⟨-, rfl, rfl⟩ | ⟨b1, -⟩ | ⟨b1, -⟩
        · exact ⟨rfl, (RR.mk hT hX).ref⟩
        · exact absurd (k3.trans b1) a1
        · exact absurd (k3.trans b1) a1
    · refine ⟨KM.ref, ⟨_, rfl⟩, fun I2 L2 r2 B => ?_⟩
      rcases B with ⟨⟨b1, -⟩ | ⟨t2, i2, j2, ht2, hi2, hj2, e1, e2, e3, hB⟩, rfl⟩
      · exact absurd hin b1
      · have := eqt (by omega) (by omega) e1
        subst this
        have e34 : rfI I 7 34 0 t2 = I 34 0 t2 := upI_k (by decide)
        rw [e34] at hB
        rcases hB with ⟨b1, -⟩ | ⟨-, -, rfl, rfl⟩ | ⟨-, b2, -⟩
        · exact absurd (k3.symm.trans a1) b1
        · exact ⟨rfl, (RR.mk hT hX).ref⟩
        · exact absurd b2 a2
    · refine ⟨KM.of (ks := [3]) (ps := []) (ls := []) Un.upk UL.rf (by decide), ⟨_, rfl⟩, fun I2 L2 r2 B => ?_⟩
      rcases B with ⟨⟨b1, -⟩ | ⟨t2, i2, j2, ht2, hi2, hj2, e1, e2, e3, hB⟩, rfl⟩
      · exact absurd hin b1
      · have := eqt (by omega) (by omega) e1
        subst this
        have := eqt (by omega) (by omega) e2
        subst this
        have := eqt (by omega) (by omega) e3
        subst this
        rw [upI_k (by decide), upI_k (by decide)] at hB
        rcases hB with ⟨b1, -⟩ | ⟨-, b2, -⟩ | ⟨-, -, rfl, rfl⟩
        · exact absurd (k3.symm.trans a1) b1
        · exact absurd a2 b2
        · refine ⟨?_, RR.mk (set_T hT ht hi2 hj2 a2) (hX.un (ks := [3] ++ [31]) (ps := [] ++ []) (ls := []) (Un.tr Un.upk Un.upk) UL.rf (by decide) (by decide) (by decide) (by decide))⟩
          rw [(k1 (5 * i2 + j2) (by omega)).1, show 25 * t2 + (5 * i2 + j2) = 25 * t2 + 5 * i2 + j2 by omega]
theorem J_at {x i j : Int32} (hT : RT I c ro co) (hX : RX I L) (A : (fun r I' L' => ((∃ t i' j', t < c ∧ i' < ro t ∧ j' < co t ∧ x = nI t ∧ i = nI i' ∧ j = nI j' ∧ r = some (.int (I 3 t (5 * i' + j'))) ∧ I' = I) ∨ (¬ inP c ro co x i j ∧ RE0 I I' r 3)) ∧ L' = L) r I1 L1) : JointI I L I1 L1 r (fun I2 L2 r2 => (fun (I : TI) (L : TL) => fun r I' L' => ((∃ t i' j', t < c ∧ i' < ro t ∧ j' < co t ∧ x = nI t ∧ i = nI i' ∧ j = nI j' ∧ r = some (.int (I 31 0 (25 * t + 5 * i' + j'))) ∧ I' = I) ∨ (¬ inP c ro co x i j ∧ ME0 I I' r 3)) ∧ L' = L) I1 L1 r2 I2 L2) := by
  rcases A with ⟨⟨t, i', j', ht, hi, hj, rfl, rfl, rfl, rfl, rfl⟩ | ⟨h1, rfl, rfl⟩, rfl⟩
  · obtain ⟨hc12, hr1, hr5, hc1, hc5⟩ := hT.fc ht
    refine ⟨KM.rf, ⟨_, rfl⟩, fun I2 L2 r2 B => ?_⟩
    rcases B with ⟨⟨t2, i2, j2, ht2, hi2, hj2, e1, e2, e3, rfl, rfl⟩ | ⟨b1, -⟩, rfl⟩
    · have := eqt (by omega) (by omega) e1
      subst this
      have := eqt (by omega) (by omega) e2
      subst this
      have := eqt (by omega) (by omega) e3
      subst this
      refine ⟨?_, RR.mk hT hX⟩
      rw [((hT.2.2 t2 ht).1 (5 * i2 + j2) (by omega)).1, show 25 * t2 + (5 * i2 + j2) = 25 * t2 + 5 * i2 + j2 by omega]
    · exact absurd ⟨t, ht, rfl, ⟨i', hi, rfl⟩, ⟨j', hj, rfl⟩⟩ b1
  · refine ⟨KM.ref, ⟨_, rfl⟩, fun I2 L2 r2 B => ?_⟩
    rcases B with ⟨⟨t, i', j', ht, hi, hj, e1, e2, e3, -⟩ | ⟨-, rfl, rfl⟩, rfl⟩
    · exact absurd ⟨t, ht, e1, ⟨i', hi, e2⟩, ⟨j', hj, e3⟩⟩ h1
    · exact ⟨rfl, (RR.mk hT hX).ref⟩
theorem J_drop (hT : RT I c ro co) (hX : RX I L) (A : (fun r I' L' => ((c = 0 ∧ REF I I' r 2) ∨ (0 < c ∧ r = some (.int (nI (c - 1))) ∧ I' = upI I 0 0 1 (nI (c - 1)))) ∧ L' = L) r I1 L1) : JointI I L I1 L1 r (fun I2 L2 r2 => (fun (I : TI) (L : TL) => fun r I' L' => ((c = 0 ∧ MEF I I' r 2) ∨ (0 < c ∧ r = some (.int (nI (c - 1))) ∧ I' = upI I 30 0 5 (nI (c - 1)))) ∧ L' = L) I1 L1 r2 I2 L2) := by
  rcases A with ⟨⟨h1, rfl, rfl⟩ | ⟨h1, rfl, rfl⟩, rfl⟩
  · refine ⟨KM.ref, ⟨_, rfl⟩, fun I2 L2 r2 B => ?_⟩
    rcases B with ⟨⟨-, rfl, rfl⟩ | ⟨b1, -⟩, rfl⟩
    · exact ⟨rfl, (RR.mk hT hX).ref⟩
    · omega
  · refine ⟨KM.of (ks := []) (ps := [(0, 1)]) (ls := []) Un.up UL.rf (by decide), ⟨_, rfl⟩, fun I2 L2 r2 B => ?_⟩
    rcases B with ⟨⟨b1, -⟩ | ⟨-, rfl, rfl⟩, rfl⟩
    · omega
    · refine ⟨rfl, RR.mk (drop_T hT ((upI_k (by decide)).trans upI_eq) upI_eq (fun t => funext fun x => (upI_k (by decide)).trans (upI_k (by decide))) (fun t => funext fun x => (upI_k (by decide)).trans (upI_k (by decide))) (fun k h1 h2 => funext fun x => (upI_k (by omega)).trans (upI_k (by omega)))) (hX.un (ks := [] ++ []) (ps := [(0, 1)] ++ [(30, 5)]) (ls := []) (Un.tr Un.up Un.up) UL.rf (by decide) (by decide) (by decide) (by decide))⟩
theorem J_look {x what : Int32} (hT : RT I c ro co) (hX : RX I L) (A : (fun r I' L' => (¬ isT c x ∧ REF I I' r 3 ∧ L' = L) ∨ (∃ t, t < c ∧ x = nI t ∧ (∀ k, k < 8 → what = nI k → lookA I I' L L' r t (ro t) (co t) k) ∧ ((∀ k, k < 8 → what ≠ nI k) → REF I I' r 7 ∧ L' = L))) r I1 L1) : JointI I L I1 L1 r (fun I2 L2 r2 => (fun (I : TI) (L : TL) => fun r I' L' => (¬ isT c x ∧ MEF I I' r 3 ∧ L' = L) ∨ (∃ t, t < c ∧ x = nI t ∧ (∀ k, k < 8 → what = nI k → lookM I I' L L' r t (ro t) (co t) k) ∧ ((∀ k, k < 8 → what ≠ nI k) → MEF I I' r 7 ∧ L' = L))) I1 L1 r2 I2 L2) := by
  rcases A with ⟨h1, ⟨rfl, rfl⟩, rfl⟩ | ⟨t, ht, rfl, hA, hA2⟩
  · refine ⟨KM.ref, ⟨_, rfl⟩, fun I2 L2 r2 B => ?_⟩
    rcases B with ⟨-, ⟨rfl, rfl⟩, rfl⟩ | ⟨t, ht, e1, -⟩
    · exact ⟨rfl, (RR.mk hT hX).ref⟩
    · exact absurd ⟨t, ht, e1⟩ h1
  · obtain ⟨hc12, hr1, hr5, hc1, hc5⟩ := hT.fc ht
    obtain ⟨k1, k2, k3, k4⟩ := hT.2.2 t ht
    have hE := ent_M hT ht
    have key : ∀ k, k < 8 → lookA I I1 L L1 r t (ro t) (co t) k → KM I I1 L L1 ∧ (∃ x, r = some (.int x)) ∧ ∀ I2 L2 r2, lookM I1 I2 L1 L2 r2 t (ro t) (co t) k → r = r2 ∧ RR I2 L2 := by
      intro k hk hK
      rcases (show k = 0 ∨ k = 1 ∨ k = 2 ∨ k = 3 ∨ k = 4 ∨ k = 5 ∨ k = 6 ∨ k = 7 by omega) with rfl | rfl | rfl | rfl | rfl | rfl | rfl | rfl
      · obtain ⟨rfl, rfl, rfl⟩ := hK
        refine ⟨KM.rf, ⟨_, rfl⟩, fun I2 L2 r2 B => ?_⟩
        obtain ⟨rfl, rfl, rfl⟩ := B
        exact ⟨by rw [k3], RR.mk hT hX⟩
      · obtain ⟨rfl, rfl, rfl⟩ := hK
        refine ⟨KM.rf, ⟨_, rfl⟩, fun I2 L2 r2 B => ?_⟩
        obtain ⟨rfl, rfl, rfl⟩ := B
        exact ⟨rfl, RR.mk hT hX⟩
      · obtain ⟨rfl, rfl, rfl⟩ := hK
        refine ⟨KM.rf, ⟨_, rfl⟩, fun I2 L2 r2 B => ?_⟩
        obtain ⟨rfl, rfl, rfl⟩ := B
        exact ⟨rfl, RR.mk hT hX⟩
      · obtain ⟨a1, a2, y, a3, rfl⟩ := hK
        refine ⟨KM.scr a1 a2, ⟨_, rfl⟩, fun I2 L2 r2 B => ?_⟩
        obtain ⟨b1, y2, b2, rfl⟩ := B
        rw [entM_km (KM.scr a1 a2)] at b2
        exact ⟨by rw [fl_uniq (flRes_c hE hr5 a3) b2], go_RR (RR.mk hT hX) a1 a2 b1⟩
      · obtain ⟨a1, a2, y, a3, rfl⟩ := hK
        refine ⟨KM.scr a1 a2, ⟨_, rfl⟩, fun I2 L2 r2 B => ?_⟩
        obtain ⟨b1, y2, b2, rfl⟩ := B
        rw [entM_km (KM.scr a1 a2)] at b2
        exact ⟨by rw [fl_uniq (flRes_c hE hr5 a3) b2], go_RR (RR.mk hT hX) a1 a2 b1⟩
      · obtain ⟨a1, a2, rfl⟩ := hK
        refine ⟨KM.scr a1 a2, ⟨_, rfl⟩, fun I2 L2 r2 B => ?_⟩
        obtain ⟨b1, rfl⟩ := B
        exact ⟨by rw [entM_km (KM.scr a1 a2), looksS_c hE hr5], go_RR (RR.mk hT hX) a1 a2 b1⟩
      · obtain ⟨a1, a2, rfl⟩ := hK
        refine ⟨KM.scr a1 a2, ⟨_, rfl⟩, fun I2 L2 r2 B => ?_⟩
        obtain ⟨b1, rfl⟩ := B
        exact ⟨by rw [entM_km (KM.scr a1 a2), looksS_c hE hr5], go_RR (RR.mk hT hX) a1 a2 b1⟩
      · obtain ⟨hK, rfl⟩ := hK
        rcases hK with ⟨a1, rfl, rfl⟩ | ⟨a1, rfl, rfl⟩
        · refine ⟨KM.rf, ⟨_, rfl⟩, fun I2 L2 r2 B => ?_⟩
          obtain ⟨B, rfl⟩ := B
          rcases B with ⟨b1, rfl, rfl⟩ | ⟨b1, -⟩
          · exact ⟨by rw [k4 a1], RR.mk hT hX⟩
          · exact absurd (k3.symm.trans a1) b1
        · refine ⟨KM.ref, ⟨_, rfl⟩, fun I2 L2 r2 B => ?_⟩
          obtain ⟨B, rfl⟩ := B
          rw [show rfI I 5 34 0 t = I 34 0 t from upI_k (by decide)] at B
          rcases B with ⟨b1, -⟩ | ⟨-, rfl, rfl⟩
          · exact absurd (k3.trans b1) a1
          · exact ⟨rfl, (RR.mk hT hX).ref⟩
    have nt : isT c (nI t) := ⟨t, ht, rfl⟩
    rcases tsw what (n := 7) (m := 7) rfl (by decide) with ⟨k, hk, rfl⟩ | ⟨-, hno⟩
    · obtain ⟨hk1, hkv, hk2⟩ := key k (by omega) (hA k (by omega) rfl)
      refine ⟨hk1, hkv, fun I2 L2 r2 B => ?_⟩
      rcases B with ⟨b1, -⟩ | ⟨t2, ht2, e1, hB, -⟩
      · exact absurd nt b1
      · have := eqt (by omega) (by omega) e1
        subst this
        exact hk2 I2 L2 r2 (hB k (by omega) rfl)
    · obtain ⟨⟨rfl, rfl⟩, rfl⟩ := hA2 (fun k hk => hno k (by omega))
      refine ⟨KM.ref, ⟨_, rfl⟩, fun I2 L2 r2 B => ?_⟩
      rcases B with ⟨b1, -⟩ | ⟨t2, ht2, e1, -, hB⟩
      · exact absurd nt b1
      · obtain ⟨⟨rfl, rfl⟩, rfl⟩ := hB (fun k hk => hno k (by omega))
        exact ⟨rfl, (RR.mk hT hX).ref⟩
theorem J_worth {x R C : Int32} (hT : RT I c ro co) (hX : RX I L) (A : (fun r I' L' => (¬ inS c ro co x R C ∧ r = some (.long 0) ∧ I' = rfI I 3 ∧ L' = L) ∨ (∃ t R' C', t < c ∧ x = nI t ∧ 1 ≤ R' ∧ R' < 2 ^ ro t ∧ 1 ≤ C' ∧ C' < 2 ^ co t ∧ R = nI R' ∧ C = nI C' ∧ ((¬ pc5 R' = pc5 C' ∧ r = some (.long 0) ∧ I' = rfI I 7 ∧ L' = L) ∨ (pc5 R' = pc5 C' ∧ r = some (.long (wrt (ent I t) R' C')) ∧ Fr [(14, 0)] I I' ∧ FL [(13, 0)] L L')))) r I1 L1) : JointL I L I1 L1 r (fun I2 L2 r2 => (fun (I : TI) (L : TL) => fun r I' L' => (¬ inS c ro co x R C ∧ r = some (.long 0) ∧ I' = rfM I 3 ∧ L' = L) ∨ (∃ t R' C', t < c ∧ x = nI t ∧ 1 ≤ R' ∧ R' < 2 ^ ro t ∧ 1 ≤ C' ∧ C' < 2 ^ co t ∧ R = nI R' ∧ C = nI C' ∧ ((¬ pc5 R' = pc5 C' ∧ r = some (.long 0) ∧ I' = rfM I 7 ∧ L' = L) ∨ (pc5 R' = pc5 C' ∧ r = some (.long (wrt (entM I t) R' C')) ∧ I' = I ∧ FL [(42, 0)] L L')))) I1 L1 r2 I2 L2) := by
  rcases A with ⟨h1, rfl, rfl, rfl⟩ | ⟨t, R', C', ht, rfl, hR1, hR2, hC1, hC2, rfl, rfl, hA⟩
  · refine ⟨KM.ref, ⟨_, rfl⟩, fun I2 L2 r2 B => ?_⟩
    rcases B with ⟨-, rfl, rfl, rfl⟩ | ⟨t, R', C', ht, e1, g1, g2, g3, g4, e2, e3, -⟩
    · exact ⟨rfl, (RR.mk hT hX).ref⟩
    · exact absurd ⟨t, ht, e1, ⟨R', g1, g2, e2⟩, ⟨C', g3, g4, e3⟩⟩ h1
  · obtain ⟨hc12, hr1, hr5, hc1, hc5⟩ := hT.fc ht
    have hpr := pow32 hr5
    have hpc := pow32 hc5
    have hin : inS c ro co (nI t) (nI R') (nI C') := ⟨t, ht, rfl, ⟨R', hR1, hR2, rfl⟩, ⟨C', hC1, hC2, rfl⟩⟩
    have same : ∀ {t2 R2 C2 : Nat}, t2 < c → R2 < 2 ^ ro t2 → C2 < 2 ^ co t2 → nI t = nI t2 → nI R' = nI R2 → nI C' = nI C2 → t2 = t ∧ R2 = R' ∧ C2 = C' := by
      intro t2 R2 C2 q1 q2 q3 e1 e2 e3
      have := eqt (by omega) (by omega) e1
      subst this
      exact ⟨rfl, eqt (by omega) (by omega) e2, eqt (by omega) (by omega) e3⟩
    rcases hA with ⟨a1, rfl, rfl, rfl⟩ | ⟨a1, rfl, a2, a3⟩
    · refine ⟨KM.ref, ⟨_, rfl⟩, fun I2 L2 r2 B => ?_⟩
      rcases B with ⟨b1, -⟩ | ⟨t2, R2, C2, ht2, e1, g1, g2, g3, g4, e2, e3, hB⟩
      · exact absurd hin b1
      · obtain ⟨rfl, rfl, rfl⟩ := same ht2 g2 g4 e1 e2 e3
        rcases hB with ⟨-, rfl, rfl, rfl⟩ | ⟨b1, -⟩
        · exact ⟨rfl, (RR.mk hT hX).ref⟩
        · exact absurd b1 a1
    · refine ⟨KM.scr a2 a3, ⟨_, rfl⟩, fun I2 L2 r2 B => ?_⟩
      rcases B with ⟨b1, -⟩ | ⟨t2, R2, C2, ht2, e1, g1, g2, g3, g4, e2, e3, hB⟩
      · exact absurd hin b1
      · obtain ⟨rfl, rfl, rfl⟩ := same ht2 g2 g4 e1 e2 e3
        rcases hB with ⟨b1, -⟩ | ⟨-, rfl, rfl, b2⟩
        · exact absurd a1 b1
        · refine ⟨by rw [entM_km (KM.scr a2 a3), wrt_c (ent_M hT ht) (by omega)], (RR.mk hT hX).un (un_scr a2) ((UL.fl a3).tr (UL.fl b2)) (by decide) (by decide) (by decide) (by decide) (by decide)⟩
theorem J_low {x : Int32} {b : Nat} (hT : RT I c ro co) (hX : RX I L) (A : (fun r I' L' => (¬ isT c x ∧ REF I I' r 3 ∧ L' = L) ∨ (∃ t, t < c ∧ x = nI t ∧ Fr [(14, 0)] I I' ∧ FL [(13, 0)] L L' ∧ ∃ y, flRes (ent I t) b (ro t) (co t) y ∧ r = some (.int y))) r I1 L1) : JointI I L I1 L1 r (fun I2 L2 r2 => (fun (I : TI) (L : TL) => fun r I' L' => (¬ isT c x ∧ MEF I I' r 3 ∧ L' = L) ∨ (∃ t, t < c ∧ x = nI t ∧ MGo I I' L L' ∧ ∃ y, flRes (entM I t) b (ro t) (co t) y ∧ r = some (.int y))) I1 L1 r2 I2 L2) := by
  rcases A with ⟨h1, ⟨rfl, rfl⟩, rfl⟩ | ⟨t, ht, rfl, a1, a2, y, a3, rfl⟩
  · refine ⟨KM.ref, ⟨_, rfl⟩, fun I2 L2 r2 B => ?_⟩
    rcases B with ⟨-, ⟨rfl, rfl⟩, rfl⟩ | ⟨t, ht, e1, -⟩
    · exact ⟨rfl, (RR.mk hT hX).ref⟩
    · exact absurd ⟨t, ht, e1⟩ h1
  · obtain ⟨hc12, hr1, hr5, hc1, hc5⟩ := hT.fc ht
    refine ⟨KM.scr a1 a2, ⟨_, rfl⟩, fun I2 L2 r2 B => ?_⟩
    rcases B with ⟨b1, -⟩ | ⟨t2, ht2, e1, b1, y2, b2, rfl⟩
    · exact absurd ⟨t, ht, rfl⟩ b1
    · have := eqt (by omega) (by omega) e1
      subst this
      rw [entM_km (KM.scr a1 a2)] at b2
      exact ⟨by rw [fl_uniq (flRes_c (ent_M hT ht) hr5 a3) b2], go_RR (RR.mk hT hX) a1 a2 b1⟩
theorem J_count {x s : Int32} (hT : RT I c ro co) (hX : RX I L) (A : (fun r I' L' => (¬ isT c x ∧ REF I I' r 3 ∧ L' = L) ∨ (∃ t, t < c ∧ x = nI t ∧ ((¬ (-1 ≤ s ∧ s ≤ nI 1) ∧ REF I I' r 7 ∧ L' = L) ∨ (-1 ≤ s ∧ s ≤ nI 1 ∧ Fr [(14, 0)] I I' ∧ FL [(13, 0)] L L' ∧ r = some (.int (nI (manyS (ent I t) s (ro t) (co t)))))))) r I1 L1) : JointI I L I1 L1 r (fun I2 L2 r2 => (fun (I : TI) (L : TL) => fun r I' L' => (¬ isT c x ∧ MEF I I' r 3 ∧ L' = L) ∨ (∃ t, t < c ∧ x = nI t ∧ ((¬ (-1 ≤ s ∧ s ≤ nI 1) ∧ MEF I I' r 7 ∧ L' = L) ∨ (-1 ≤ s ∧ s ≤ nI 1 ∧ MGo I I' L L' ∧ r = some (.int (nI (manyS (entM I t) s (ro t) (co t)))))))) I1 L1 r2 I2 L2) := by
  rcases A with ⟨h1, ⟨rfl, rfl⟩, rfl⟩ | ⟨t, ht, rfl, hA⟩
  · refine ⟨KM.ref, ⟨_, rfl⟩, fun I2 L2 r2 B => ?_⟩
    rcases B with ⟨-, ⟨rfl, rfl⟩, rfl⟩ | ⟨t, ht, e1, -⟩
    · exact ⟨rfl, (RR.mk hT hX).ref⟩
    · exact absurd ⟨t, ht, e1⟩ h1
  · obtain ⟨hc12, hr1, hr5, hc1, hc5⟩ := hT.fc ht
    rcases hA with ⟨h1, ⟨rfl, rfl⟩, rfl⟩ | ⟨h1, h2, a1, a2, rfl⟩
    · refine ⟨KM.ref, ⟨_, rfl⟩, fun I2 L2 r2 B => ?_⟩
      rcases B with ⟨b1, -⟩ | ⟨t2, ht2, e1, hB⟩
      · exact absurd ⟨t, ht, rfl⟩ b1
      · rcases hB with ⟨-, ⟨rfl, rfl⟩, rfl⟩ | ⟨b1, b2, -⟩
        · exact ⟨rfl, (RR.mk hT hX).ref⟩
        · exact absurd ⟨b1, b2⟩ h1
    · refine ⟨KM.scr a1 a2, ⟨_, rfl⟩, fun I2 L2 r2 B => ?_⟩
      rcases B with ⟨b1, -⟩ | ⟨t2, ht2, e1, hB⟩
      · exact absurd ⟨t, ht, rfl⟩ b1
      · have := eqt (by omega) (by omega) e1
        subst this
        rcases hB with ⟨b1, -⟩ | ⟨-, -, b1, rfl⟩
        · exact absurd ⟨h1, h2⟩ b1
        · exact ⟨by rw [entM_km (KM.scr a1 a2), manyS_c (ent_M hT ht) hr5], go_RR (RR.mk hT hX) a1 a2 b1⟩

end JTC
