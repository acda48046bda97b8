/-! the calls of the row and of making, both sides -/
theorem RR.setW {ks ls : List Nat} {ps : List (Nat × Nat)} {I I1 : TI} {L L1 : TL} (h : RR I L) (u : Un ks ps I I1) (v : UL ls L L1) (o1 : okT ks ps = true) (o2 : okN ks ps = true) (o4 : okF ks ps = true) (o5 : okS ks ps ls = true) {b : Nat} (g : RW I1 b) : RR I1 L1 := by
  obtain ⟨⟨c, ro, co, h1⟩, ⟨n, ln, sc, kd, pl, wt, h2⟩, -, h4, S, h5⟩ := h
  exact ⟨⟨c, ro, co, h1.un u o1⟩, ⟨n, ln, sc, kd, pl, wt, h2.un u o2⟩, ⟨b, g⟩, h4.un u o4, S, h5.un u v o5⟩
theorem RR.setS {ks : List Nat} {ps : List (Nat × Nat)} {I I1 : TI} {L L1 : TL} (h : RR I L) (u : Un ks ps I I1) (o1 : okT ks ps = true) (o2 : okN ks ps = true) (o3 : okW ks ps = true) (o4 : okF ks ps = true) {S : SL} (g : RS I1 L1 S) : RR I1 L1 := by
  obtain ⟨⟨c, ro, co, h1⟩, ⟨n, ln, sc, kd, pl, wt, h2⟩, ⟨b, h3⟩, h4, -⟩ := h
  exact ⟨⟨c, ro, co, h1.un u o1⟩, ⟨n, ln, sc, kd, pl, wt, h2.un u o2⟩, ⟨b, h3.un u o3⟩, h4.un u o4, S, g⟩
theorem Un.row {k j : Nat} {f : Nat → Int32} {I : TI} : Un [k] [] I (rowI I k j f) := fun k' j' x' h1 _ => by
  unfold rowI
  rw [if_neg]
  rintro ⟨rfl, -⟩
  exact h1 (by simp)
theorem neg_eqt : ∀ a, a < 9 → ∀ b, b < 9 → -nI a = -nI b → b = a := by decide +kernel
theorem un_rowC {I I1 : TI} (h : Fr [(9, 0), (0, 0)] I I1) (hx : ∀ x, x ≠ 5 → I1 0 0 x = I 0 0 x) : Un [9] [(0, 5)] I I1 := Un.fr1 (S := [(9, 0)]) (xs := [5]) (h.mono (by simp)) (fun x q => hx x (fun e => q (by simp [e])))
theorem un_rowM {I I1 : TI} (h : Fr [(46, 0), (30, 0)] I I1) (hx : ∀ x, x ≠ 24 → I1 30 0 x = I 30 0 x) : Un [46] [(30, 24)] I I1 := Un.fr1 (S := [(46, 0)]) (xs := [24]) (h.mono (by simp)) (fun x q => hx x (fun e => q (by simp [e])))
/-! makings of tables that are alike -/
def agr (n : Nat) (M M' : QM) : Prop := ∀ i j, i < n → j < n → M i j = M' i j
theorem agr_vw {n k : Nat} {M M' : QM} (h : agr n M M') {i j : Nat} (hi : i < n) (hj : j < n) : vw k M i j = vw k M' i j := by
  unfold vw
  split
  · exact h j i hj hi
  · exact h i j hi hj
theorem agr_of {n k : Nat} {M M' : QM} (h : ∀ i j, i < n → j < n → vw k M i j = vw k M' i j) : agr n M M' := fun i j hi hj => by
  by_cases e : k = 0
  · have := h j i hj hi
    unfold vw at this
    simpa only [e, if_true] using this
  · have := h i j hi hj
    unfold vw at this
    simpa only [e, if_false] using this
theorem agr_rw {n k r : Nat} {M M' : QM} {s : Rat} (h : agr n M M') (hr : r < n) : agr n (rwJ k M r s n) (rwJ k M' r s n) := agr_of (k := k) fun i j hi hj => by
  rw [vw_rwJ, vw_rwJ, agr_vw h hi hj, agr_vw h (show r - 1 < n by omega) hj]
def PLs (n : Nat) (l : List (Nat × Nat)) : Prop := ∀ p ∈ l, p.1 < p.2 ∧ p.2 < n
theorem PLs_cl : ∀ n, n < 4 → PLs n (cl1 n n 0) := by
  intro n hn
  rcases (show n = 0 ∨ n = 1 ∨ n = 2 ∨ n = 3 by omega) with rfl | rfl | rfl | rfl <;> (unfold PLs; decide +kernel)
theorem runC_c {n k : Nat} : ∀ (l : List (Nat × Nat)) (M M' : QM) (S : SL), PLs n l → agr n M M' → (runC k n l M S = none ∧ runC k n l M' S = none) ∨ ∃ M1 M1' S1, runC k n l M S = some (M1, S1) ∧ runC k n l M' S = some (M1', S1) ∧ agr n M1 M1' ∧ S1.length ≤ S.length + l.length
  | [], M, M', S, _, h => Or.inr ⟨M, M', S, rfl, rfl, h, Nat.le_refl _⟩
  | (c, r) :: l, M, M', S, hl, h => by
    obtain ⟨q1, q2⟩ := hl (c, r) List.mem_cons_self
    have q1 : c < r := q1
    have q2 : r < n := q2
    have hl' : PLs n l := fun p hp => hl p (List.mem_cons_of_mem _ hp)
    have e1 := agr_vw (k := k) h q2 (show c < n by omega)
    have e2 := agr_vw (k := k) h (show r - 1 < n by omega) (show c < n by omega)
    unfold runC
    rw [← e1, ← e2]
    by_cases z : vw k M r c = 0
    · rw [if_pos z, if_pos z]
      rcases runC_c l M M' S hl' h with g | ⟨M1, M1', S1, g1, g2, g3, g4⟩
      · exact Or.inl g
      · exact Or.inr ⟨M1, M1', S1, g1, g2, g3, by rw [List.length_cons]; omega⟩
    · rw [if_neg z, if_neg z]
      by_cases y : 0 < (vw k M r c).num * (vw k M (r - 1) c).num
      · rw [if_pos y, if_pos y]
        rcases runC_c l _ _ (S ++ [(k, r - 1, vw k M r c / vw k M (r - 1) c)]) hl' (agr_rw (k := k) (s := vw k M r c / vw k M (r - 1) c) h q2) with g | ⟨M1, M1', S1, g1, g2, g3, g4⟩
        · exact Or.inl g
        · refine Or.inr ⟨M1, M1', S1, g1, g2, g3, ?_⟩
          rw [List.length_append, List.length_cons, List.length_nil] at g4
          rw [List.length_cons]
          omega
      · rw [if_neg y, if_neg y]
        exact Or.inl ⟨rfl, rfl⟩
theorem runO_c {n : Nat} {M M' : QM} (h : agr n M M') : ∀ (f i : Nat) (S : SL), i + f ≤ n → runO f i M S = runO f i M' S ∧ ((runO f i M S).getD []).length ≤ S.length + f
  | 0, _, S, _ => ⟨rfl, Nat.le_refl _⟩
  | f + 1, i, S, hi => by
    unfold runO
    rw [← h i i (by omega) (by omega)]
    by_cases y : 0 < (M i i).num
    · rw [if_pos y, if_pos y]
      obtain ⟨g1, g2⟩ := runO_c h f (i + 1) (S ++ [(2, i, M i i)]) (by omega)
      refine ⟨g1, ?_⟩
      rw [List.length_append, List.length_cons, List.length_nil] at g2
      omega
    · rw [if_neg y, if_neg y]
      exact ⟨rfl, Nat.zero_le _⟩
theorem mkS_c {n : Nat} {M M' : QM} (hn : n ≤ 3) (h : agr n M M') : mkS n M = mkS n M' ∧ (mkS n M).length ≤ 9 := by
  have hp := PLs_cl n (by omega)
  have hl := cl1_len n (by omega)
  unfold mkS
  rcases runC_c (k := 1) (cl1 n n 0) M M' [] hp h with ⟨g1, g2⟩ | ⟨M1, M1', S1, g1, g2, g3, g4⟩
  · rw [g1, g2]
    exact ⟨rfl, Nat.zero_le _⟩
  · rw [g1, g2]
    dsimp only
    rcases runC_c (k := 0) (cl1 n n 0) M1 M1' S1 hp g3 with ⟨k1, k2⟩ | ⟨M2, M2', S2, k1, k2, k3, k4⟩
    · rw [k1, k2]
      exact ⟨rfl, Nat.zero_le _⟩
    · rw [k1, k2]
      dsimp only
      obtain ⟨o1, o2⟩ := runO_c k3 n 0 S2 (by omega)
      rw [List.length_nil] at g4
      exact ⟨congrArg (fun z => z.getD []) o1, by omega⟩
section JRC
variable {I I1 : TI} {L L1 : TL} {r : Option Value} {c h n : Nat} {ro co : Nat → Nat} {S : SL}
theorem hbdC (hT : RT I c ro co) : ∀ t, t < c → ∀ i j, i < ro t → j < ro t → (I 3 t (5 * i + j)).toInt.natAbs ≤ 1000 := fun t ht i j hi hj => by
  obtain ⟨hc12, hr1, hr5, hc1, hc5⟩ := hT.fc ht
  exact nm_int ((hT.2.2 t ht).1 _ (by omega)).2
theorem hbdM (hT : RT I c ro co) (k : KM I I1 L L1) : ∀ t, t < c → ∀ i j, i < ro t → j < ro t → (I1 31 0 (25 * t + 5 * i + j)).toInt.natAbs ≤ 1000 := fun t ht i j hi hj => by
  obtain ⟨hc12, hr1, hr5, hc1, hc5⟩ := hT.fc ht
  have q := (hT.2.2 t ht).1 (5 * i + j) (by omega)
  rw [k.1 31 0 (by decide), Nat.add_assoc, ← q.1]
  exact nm_int q.2
theorem J_tell {i v : Int32} (hR : RR I L) (hW : RW I h) (A : (fun r I' L' => (¬ (0 ≤ i ∧ i < nI 16) ∧ REF I I' r 3 ∧ L' = L) ∨ (∃ i', i' < 16 ∧ i = nI i' ∧ ((¬ nm v.toInt64 ∧ REF I I' r 7 ∧ L' = L) ∨ (nm v.toInt64 ∧ Fr [(9, 0), (0, 0)] I I' ∧ (∀ x, x ≠ 5 → I' 0 0 x = I 0 0 x) ∧ I' 0 0 5 = nI 1 ∧ (∀ x, x < 16 → I' 9 0 x = if x = i' then v else if h = 0 then nI 0 else I 9 0 x) ∧ r = some (.int (nI 1)) ∧ L' = L)))) r I1 L1) : JointI I L I1 L1 r (fun I2 L2 r2 => (fun (I : TI) (L : TL) => fun r I' L' => (¬ (0 ≤ i ∧ i < nI 16) ∧ MEF I I' r 3 ∧ L' = L) ∨ (∃ i', i' < 16 ∧ i = nI i' ∧ ((¬ nm v.toInt64 ∧ MEF I I' r 7 ∧ L' = L) ∨ (nm v.toInt64 ∧ Fr [(46, 0), (30, 0)] I I' ∧ (∀ x, x ≠ 24 → I' 30 0 x = I 30 0 x) ∧ I' 30 0 24 = nI 1 ∧ (∀ x, x < 16 → I' 46 0 x = if x = i' then v else if h = 0 then nI 0 else I 46 0 x) ∧ r = some (.int (nI 1)) ∧ L' = L)))) I1 L1 r2 I2 L2) := by
  rcases A with ⟨h1, ⟨rfl, rfl⟩, rfl⟩ | ⟨i', hi, rfl, ⟨h1, ⟨rfl, rfl⟩, rfl⟩ | ⟨h1, a1, a2, a3, a4, rfl, rfl⟩⟩
  · refine ⟨KM.ref, ⟨_, rfl⟩, fun I2 L2 r2 B => ?_⟩
    rcases B with ⟨-, ⟨rfl, rfl⟩, rfl⟩ | ⟨i', hi, rfl, -⟩
    · exact ⟨rfl, hR.ref⟩
    · exact absurd ⟨nI_pos' (by omega), (nI_ltI (by omega) (by decide)).mpr hi⟩ h1
  · refine ⟨KM.ref, ⟨_, rfl⟩, fun I2 L2 r2 B => ?_⟩
    rcases B with ⟨b1, -⟩ | ⟨i2, hi2, e1, hB⟩
    · exact absurd ⟨nI_pos' (by omega), (nI_ltI (by omega) (by decide)).mpr hi⟩ b1
    · rcases hB with ⟨-, ⟨rfl, rfl⟩, rfl⟩ | ⟨b1, -⟩
      · exact ⟨rfl, hR.ref⟩
      · exact absurd b1 h1
  · have km : KM I I1 L1 L1 := KM.of (un_rowC a1 a2) (ls := []) UL.rf (by decide)
    refine ⟨km, ⟨_, rfl⟩, fun I2 L2 r2 B => ?_⟩
    rcases B with ⟨b1, -⟩ | ⟨i2, hi2, e1, hB⟩
    · exact absurd ⟨nI_pos' (by omega), (nI_ltI (by omega) (by decide)).mpr hi⟩ b1
    · have := eqt (by omega) (by omega) e1
      subst this
      rcases hB with ⟨b1, -⟩ | ⟨-, b1, b2, b3, b4, rfl, rfl⟩
      · exact absurd h1 b1
      · refine ⟨rfl, hR.setW ((un_rowC a1 a2).tr (un_rowM b1 b2)) (ls := []) UL.rf (by decide) (by decide) (by decide) (by decide) (b := 1) ⟨by decide, (b1.at (by simp) 5).trans a3, b3, fun _ x hx => ?_⟩⟩
        rw [b1.at (by simp), a4 x hx, b4 x hx]
        by_cases e : x = i2
        · rw [if_pos e, if_pos e]
          exact ⟨rfl, h1⟩
        · rw [if_neg e, if_neg e]
          by_cases e2 : h = 0
          · rw [if_pos e2, if_pos e2]
            exact ⟨rfl, nm_0⟩
          · rw [if_neg e2, if_neg e2, km.1 46 0 (by decide)]
            exact hW.2.2.2 (by omega) x hx
theorem J_lay {x i : Int32} (hR : RR I L) (hT : RT I c ro co) (A : (fun r I' L' => (¬ (∃ t, t < c ∧ x = nI t ∧ isT (ro t) i) ∧ REF I I' r 3 ∧ L' = L) ∨ (∃ t i', t < c ∧ x = nI t ∧ i' < ro t ∧ i = nI i' ∧ Fr [(9, 0), (0, 0)] I I' ∧ (∀ x, x ≠ 5 → I' 0 0 x = I 0 0 x) ∧ I' 0 0 5 = nI 1 ∧ (∀ x, x < 16 → I' 9 0 x = if x < co t then I 3 t (5 * i' + x) else nI 0) ∧ r = some (.int (nI (co t))) ∧ L' = L)) r I1 L1) : JointI I L I1 L1 r (fun I2 L2 r2 => (fun (I : TI) (L : TL) => fun r I' L' => (¬ (∃ t, t < c ∧ x = nI t ∧ isT (ro t) i) ∧ MEF I I' r 3 ∧ L' = L) ∨ (∃ t i', t < c ∧ x = nI t ∧ i' < ro t ∧ i = nI i' ∧ Fr [(46, 0), (30, 0)] I I' ∧ (∀ x, x ≠ 24 → I' 30 0 x = I 30 0 x) ∧ I' 30 0 24 = nI 1 ∧ (∀ x, x < 16 → I' 46 0 x = if x < co t then I 31 0 (25 * t + 5 * i' + x) else nI 0) ∧ r = some (.int (nI (co t))) ∧ L' = L)) I1 L1 r2 I2 L2) := by
  rcases A with ⟨h1, ⟨rfl, rfl⟩, rfl⟩ | ⟨t, i', ht, rfl, hi, rfl, a1, a2, a3, a4, rfl, rfl⟩
  · refine ⟨KM.ref, ⟨_, rfl⟩, fun I2 L2 r2 B => ?_⟩
    rcases B with ⟨-, ⟨rfl, rfl⟩, rfl⟩ | ⟨t, i', ht, e1, hi, e2, -⟩
    · exact ⟨rfl, hR.ref⟩
    · exact absurd ⟨t, ht, e1, ⟨i', hi, e2⟩⟩ h1
  · obtain ⟨hc12, hr1, hr5, hc1, hc5⟩ := hT.fc ht
    have km : KM I I1 L1 L1 := KM.of (un_rowC a1 a2) (ls := []) UL.rf (by decide)
    refine ⟨km, ⟨_, rfl⟩, fun I2 L2 r2 B => ?_⟩
    rcases B with ⟨b1, -⟩ | ⟨t2, i2, ht2, e1, hi2, e2, b1, b2, b3, b4, rfl, rfl⟩
    · exact absurd ⟨t, ht, rfl, ⟨i', hi, rfl⟩⟩ b1
    · have := eqt (by omega) (by omega) e1
      subst this
      have := eqt (by omega) (by omega) e2
      subst this
      refine ⟨rfl, hR.setW ((un_rowC a1 a2).tr (un_rowM b1 b2)) (ls := []) UL.rf (by decide) (by decide) (by decide) (by decide) (b := 1) ⟨by decide, (b1.at (by simp) 5).trans a3, b3, fun _ x hx => ?_⟩⟩
      rw [b1.at (by simp), a4 x hx, b4 x hx]
      by_cases e : x < co t2
      · have q := (hT.2.2 t2 ht).1 (5 * i2 + x) (by omega)
        rw [if_pos e, if_pos e, km.1 31 0 (by decide), Nat.add_assoc]
        exact q
      · rw [if_neg e, if_neg e]
        exact ⟨rfl, nm_0⟩
theorem J_tear (hR : RR I L) (A : (fun r I' L' => r = some (.int (nI h)) ∧ I' = upI I 0 0 5 (nI 0) ∧ L' = L) r I1 L1) : JointI I L I1 L1 r (fun I2 L2 r2 => (fun (I : TI) (L : TL) => fun r I' L' => r = some (.int (nI h)) ∧ I' = upI I 30 0 24 (nI 0) ∧ L' = L) I1 L1 r2 I2 L2) := by
  obtain ⟨rfl, rfl, rfl⟩ := A
  refine ⟨KM.of (ks := []) (ps := [(0, 5)]) (ls := []) Un.up UL.rf (by decide), ⟨_, rfl⟩, fun I2 L2 r2 B => ?_⟩
  obtain ⟨rfl, rfl, rfl⟩ := B
  exact ⟨rfl, hR.setW (ks := [] ++ []) (ps := [(0, 5)] ++ [(30, 24)]) (ls := []) (Un.up.tr Un.up) UL.rf (by decide) (by decide) (by decide) (by decide) (b := 0) ⟨by decide, (upI_k (by decide)).trans upI_eq, upI_eq, fun q => absurd q (Nat.lt_irrefl 0)⟩⟩
theorem J_row {i : Int32} (hR : RR I L) (hW : RW I h) (A : (fun r I' L' => ((h = 0 ∧ RE0 I I' r 2) ∨ (0 < h ∧ ((¬ (0 ≤ i ∧ i < nI 16) ∧ RE0 I I' r 3) ∨ (∃ i', i' < 16 ∧ i = nI i' ∧ r = some (.int (I 9 0 i')) ∧ I' = I)))) ∧ L' = L) r I1 L1) : JointI I L I1 L1 r (fun I2 L2 r2 => (fun (I : TI) (L : TL) => fun r I' L' => ((h = 0 ∧ ME0 I I' r 2) ∨ (0 < h ∧ ((¬ (0 ≤ i ∧ i < nI 16) ∧ ME0 I I' r 3) ∨ (∃ i', i' < 16 ∧ i = nI i' ∧ r = some (.int (I 46 0 i')) ∧ I' = I)))) ∧ L' = L) I1 L1 r2 I2 L2) := by
  rcases A with ⟨⟨h1, rfl, rfl⟩ | ⟨h1, ⟨h2, rfl, rfl⟩ | ⟨i', hi, rfl, rfl, rfl⟩⟩, rfl⟩
  · refine ⟨KM.ref, ⟨_, rfl⟩, fun I2 L2 r2 B => ?_⟩
    rcases B with ⟨⟨-, rfl, rfl⟩ | ⟨b1, -⟩, rfl⟩
    · exact ⟨rfl, hR.ref⟩
    · omega
  · refine ⟨KM.ref, ⟨_, rfl⟩, fun I2 L2 r2 B => ?_⟩
    rcases B with ⟨⟨b1, -⟩ | ⟨-, ⟨-, rfl, rfl⟩ | ⟨i', hi, rfl, -⟩⟩, rfl⟩
    · omega
    · exact ⟨rfl, hR.ref⟩
    · exact absurd ⟨nI_pos' (by omega), (nI_ltI (by omega) (by decide)).mpr hi⟩ h2
  · refine ⟨KM.rf, ⟨_, rfl⟩, fun I2 L2 r2 B => ?_⟩
    rcases B with ⟨⟨b1, -⟩ | ⟨-, ⟨b1, -⟩ | ⟨i2, hi2, e1, rfl, rfl⟩⟩, rfl⟩
    · omega
    · exact absurd ⟨nI_pos' (by omega), (nI_ltI (by omega) (by decide)).mpr hi⟩ b1
    · have := eqt (by omega) (by omega) e1
      subst this
      exact ⟨by rw [(hW.2.2.2 h1 i2 hi).1], hR⟩
theorem J_copy {i j k : Int32} (hR : RR I L) (hW : RW I h) (A : (fun (n : Int32) => fun r I' L' => ((h = 0 ∧ REF I I' r 2) ∨ (0 < h ∧ ((n < 0 ∧ REF I I' r 4) ∨ (¬ n < 0 ∧ ((¬ cpOK i j n ∧ REF I I' r 6) ∨ (∃ i' j' n', i = nI i' ∧ j = nI j' ∧ n = nI n' ∧ i' + n' ≤ 16 ∧ j' + n' ≤ 16 ∧ r = some (.int n) ∧ I' = rowI I 9 0 (va_cpy (I 9 0) (I 9 0) i' j' n'))))))) ∧ L' = L) k r I1 L1) : JointI I L I1 L1 r (fun I2 L2 r2 => (fun (n : Int32) => (fun (I : TI) (L : TL) => fun r I' L' => ((h = 0 ∧ MEF I I' r 2) ∨ (0 < h ∧ ((n < 0 ∧ MEF I I' r 4) ∨ (¬ n < 0 ∧ ((¬ cpOK i j n ∧ MEF I I' r 6) ∨ (∃ i' j' n', i = nI i' ∧ j = nI j' ∧ n = nI n' ∧ i' + n' ≤ 16 ∧ j' + n' ≤ 16 ∧ r = some (.int n) ∧ Fr [(46, 0), (47, 0)] I I' ∧ ∀ x, I' 46 0 x = va_cpy (I 46 0) (I 46 0) i' j' n' x)))))) ∧ L' = L) I1 L1 r2 I2 L2) k) := by
  rcases A with ⟨⟨h1, rfl, rfl⟩ | ⟨h1, ⟨h2, rfl, rfl⟩ | ⟨h2, ⟨h3, rfl, rfl⟩ | ⟨i', j', n', rfl, rfl, rfl, a1, a2, rfl, rfl⟩⟩⟩, rfl⟩
  · refine ⟨KM.ref, ⟨_, rfl⟩, fun I2 L2 r2 B => ?_⟩
    rcases B with ⟨⟨-, rfl, rfl⟩ | ⟨b1, -⟩, rfl⟩
    · exact ⟨rfl, hR.ref⟩
    · omega
  · refine ⟨KM.ref, ⟨_, rfl⟩, fun I2 L2 r2 B => ?_⟩
    rcases B with ⟨⟨b1, -⟩ | ⟨-, ⟨-, rfl, rfl⟩ | ⟨b2, -⟩⟩, rfl⟩
    · omega
    · exact ⟨rfl, hR.ref⟩
    · exact absurd h2 b2
  · refine ⟨KM.ref, ⟨_, rfl⟩, fun I2 L2 r2 B => ?_⟩
    rcases B with ⟨⟨b1, -⟩ | ⟨-, ⟨b2, -⟩ | ⟨-, ⟨-, rfl, rfl⟩ | ⟨i', j', n', e1, e2, e3, q1, q2, -⟩⟩⟩, rfl⟩
    · omega
    · exact absurd b2 h2
    · exact ⟨rfl, hR.ref⟩
    · exact absurd ⟨i', j', n', e1, e2, e3, q1, q2⟩ h3
  · refine ⟨KM.of (ks := [9]) (ps := []) (ls := []) Un.row UL.rf (by decide), ⟨_, rfl⟩, fun I2 L2 r2 B => ?_⟩
    rcases B with ⟨⟨b1, -⟩ | ⟨-, ⟨b2, -⟩ | ⟨-, ⟨b3, -⟩ | ⟨i2, j2, n2, e1, e2, e3, q1, q2, rfl, b4, b5⟩⟩⟩, rfl⟩
    · omega
    · exact absurd b2 h2
    · exact absurd ⟨i', j', n', rfl, rfl, rfl, a1, a2⟩ b3
    · have := eqt (by omega) (by omega) e1
      subst this
      have := eqt (by omega) (by omega) e2
      subst this
      have := eqt (by omega) (by omega) e3
      subst this
      have r9 : I2 9 0 = va_cpy (I 9 0) (I 9 0) i2 j2 n2 := (b4 9 0 (by simp)).trans (rowI_row _ _ _ _)
      have r0 : I2 0 0 = I 0 0 := (b4 0 0 (by simp)).trans (rowI_off _ _ _ _ (by simp))
      have r30 : I2 30 0 = I 30 0 := (b4 30 0 (by simp)).trans (rowI_off _ _ _ _ (by simp))
      have r46 : rowI I 9 0 (va_cpy (I 9 0) (I 9 0) i2 j2 n2) 46 0 = I 46 0 := rowI_off _ _ _ _ (by simp)
      refine ⟨rfl, hR.setW (Un.row.tr (Un.fr b4)) (ls := []) UL.rf (by decide) (by decide) (by decide) (by decide) (b := h) ⟨hW.1, by rw [r0]; exact hW.2.1, by rw [r30]; exact hW.2.2.1, fun _ x hx => ?_⟩⟩
      rw [r9, b5 x, r46]
      unfold va_cpy
      by_cases e : j2 ≤ x ∧ x < j2 + n2
      · rw [if_pos e, if_pos e]
        exact hW.2.2.2 h1 _ (by omega)
      · rw [if_neg e, if_neg e]
        exact hW.2.2.2 h1 x hx
theorem J_status {b : Int32} (hR : RR I L) (A : (fun r I' L' => ((¬ (-8 ≤ b ∧ b ≤ -2) ∧ REF I I' r 7) ∨ (∃ w, 2 ≤ w ∧ w < 9 ∧ b = -nI w ∧ r = some (.int (I 11 0 w)) ∧ I' = I)) ∧ L' = L) r I1 L1) : JointI I L I1 L1 r (fun I2 L2 r2 => (fun (I : TI) (L : TL) => fun r I' L' => ((¬ (-8 ≤ b ∧ b ≤ -2) ∧ MEF I I' r 7) ∨ (∃ w, 2 ≤ w ∧ w < 9 ∧ b = -nI w ∧ r = some (.int (I 41 0 w)) ∧ I' = I)) ∧ L' = L) I1 L1 r2 I2 L2) := by
  rcases A with ⟨⟨h1, rfl, rfl⟩ | ⟨w, hw2, hw9, rfl, rfl, rfl⟩, rfl⟩
  · refine ⟨KM.ref, ⟨_, rfl⟩, fun I2 L2 r2 B => ?_⟩
    rcases B with ⟨⟨-, rfl, rfl⟩ | ⟨w, hw2, hw9, rfl, -⟩, rfl⟩
    · exact ⟨rfl, hR.ref⟩
    · have z := neg_lo w hw9 hw2
      exact absurd ⟨Int32.not_lt.mp z.1, Int32.not_lt.mp z.2⟩ h1
  · refine ⟨KM.rf, ⟨_, rfl⟩, fun I2 L2 r2 B => ?_⟩
    rcases B with ⟨⟨b1, -⟩ | ⟨w2, hw22, hw29, e1, rfl, rfl⟩, rfl⟩
    · have z := neg_lo w hw9 hw2
      exact absurd ⟨Int32.not_lt.mp z.1, Int32.not_lt.mp z.2⟩ b1
    · have := neg_eqt w hw9 w2 hw29 e1
      subst this
      exact ⟨by rw [hR.2.2.2.1 w2 hw2 hw9], hR⟩
theorem J_changes {x : Int32} (hR : RR I L) (hT : RT I c ro co) (hW : RW I h) (A : (fun r I' L' => (¬ isT c x ∧ REF I I' r 3 ∧ L' = L) ∨ (∃ t, t < c ∧ x = nI t ∧ ((h = 0 ∧ REF I I' r 2 ∧ L' = L) ∨ (0 < h ∧ Fr [(10, 0)] I I' ∧ r = some (.int (nI (10 * (chg (I 9 0) (co t)).1 + (chg (fun i => rbc (fun k => I 3 t (5 * i + k)) (fun k => I 9 0 k) (co t)) (ro t)).1))) ∧ L' = L)))) r I1 L1) : JointI I L I1 L1 r (fun I2 L2 r2 => (fun (I : TI) (L : TL) => fun r I' L' => (¬ isT c x ∧ MEF I I' r 3 ∧ L' = L) ∨ (∃ t, t < c ∧ x = nI t ∧ ((h = 0 ∧ MEF I I' r 2 ∧ L' = L) ∨ (0 < h ∧ Fr [(30, 0)] I I' ∧ (∀ x, x ≠ 25 → x ≠ 26 → I' 30 0 x = I 30 0 x) ∧ r = some (.int (nI (10 * (chgL (fun k => (I 46 0 k).toInt64) (co t)).1 + (chgL (fun i => rbcL (fun k => I 31 0 (25 * t + 5 * i + k)) (fun k => I 46 0 k) (co t)) (ro t)).1))) ∧ L' = L)))) I1 L1 r2 I2 L2) := by
  rcases A with ⟨h1, ⟨rfl, rfl⟩, rfl⟩ | ⟨t, ht, rfl, hA⟩
  · refine ⟨KM.ref, ⟨_, rfl⟩, fun I2 L2 r2 B => ?_⟩
    rcases B with ⟨-, ⟨rfl, rfl⟩, rfl⟩ | ⟨t, ht, e1, -⟩
    · exact ⟨rfl, hR.ref⟩
    · exact absurd ⟨t, ht, e1⟩ h1
  · obtain ⟨hc12, hr1, hr5, hc1, hc5⟩ := hT.fc ht
    rcases hA with ⟨h1, ⟨rfl, rfl⟩, rfl⟩ | ⟨h1, a1, rfl, rfl⟩
    · refine ⟨KM.ref, ⟨_, rfl⟩, fun I2 L2 r2 B => ?_⟩
      rcases B with ⟨b1, -⟩ | ⟨t2, ht2, e1, hB⟩
      · exact absurd ⟨t, ht, rfl⟩ b1
      · rcases hB with ⟨-, ⟨rfl, rfl⟩, rfl⟩ | ⟨b1, -⟩
        · exact ⟨rfl, hR.ref⟩
        · omega
    · have km : KM I I1 L1 L1 := KM.of (Un.fr a1) (ls := []) UL.rf (by decide)
      refine ⟨km, ⟨_, rfl⟩, fun I2 L2 r2 B => ?_⟩
      rcases B with ⟨b1, -⟩ | ⟨t2, ht2, e1, hB⟩
      · exact absurd ⟨t, ht, rfl⟩ b1
      · have := eqt (by omega) (by omega) e1
        subst this
        rcases hB with ⟨b1, -⟩ | ⟨-, b1, b2, rfl, rfl⟩
        · omega
        · refine ⟨?_, hR.un ((Un.fr a1).tr (Un.fr1 (S := []) (k0 := 30) (xs := [25, 26]) b1 (fun x q => b2 x (fun e => q (by simp [e])) (fun e => q (by simp [e]))))) (ls := []) UL.rf (by decide) (by decide) (by decide) (by decide) (by decide)⟩
          have w : ∀ k, k < 5 → I 9 0 k = I 46 0 k ∧ nm (I 9 0 k).toInt64 := fun k hk => hW.2.2.2 h1 k (by omega)
          rw [km.1 31 0 (by decide), km.1 46 0 (by decide), chg_L, chg_L, chgL_c (co t2) (fun k hk => by rw [(w k (by omega)).1]), chgL_c (ro t2) (fun k hk => ?_)]
          rw [rbc_L hc5 (fun q hq => ⟨((hT.2.2 t2 ht).1 _ (by omega)).2, (w q (by omega)).2⟩)]
          refine rbcL_c (fun q hq => ?_)
          rw [((hT.2.2 t2 ht).1 _ (by omega)).1, (w q (by omega)).1, Nat.add_assoc]
          exact ⟨rfl, rfl⟩
theorem J_band {n k : Int32} (hT : RT I c ro co) (hX : RX I L) (hW : RW I h) (A : (fun r I' L' => (h = 0 ∧ REF I I' r 2 ∧ L' = L) ∨ (0 < h ∧ ((¬ (isD n ∧ isD k) ∧ REF I I' r 7 ∧ L' = L) ∨ (∃ n' k', 1 ≤ n' ∧ n' ≤ 5 ∧ 1 ≤ k' ∧ k' ≤ 5 ∧ n = nI n' ∧ k = nI k' ∧ ((c = 12 ∧ REF I I' r 8 ∧ L' = L) ∨ (c < 12 ∧ ResT I I' r c n' n' (nI 2) (-1) (fun a b => if a ≤ b ∧ b - a < k' then (I 9 0 (b - a)).toInt64 else 0) ∧ L' = L)))))) r I1 L1) : JointI I L I1 L1 r (fun I2 L2 r2 => (fun (I : TI) (L : TL) => fun r I' L' => (h = 0 ∧ MEF I I' r 2 ∧ L' = L) ∨ (0 < h ∧ ((¬ (isD n ∧ isD k) ∧ MEF I I' r 7 ∧ L' = L) ∨ (∃ n' k', 1 ≤ n' ∧ n' ≤ 5 ∧ 1 ≤ k' ∧ k' ≤ 5 ∧ n = nI n' ∧ k = nI k' ∧ ResM I I' r c n' n' (nI 2) (fun a b => if a ≤ b ∧ b - a < k' then (I 46 0 (b - a)).toInt64 else 0) ∧ FL [(43, 0)] L L')))) I1 L1 r2 I2 L2) := by
  rcases A with ⟨h1, ⟨rfl, rfl⟩, rfl⟩ | ⟨h1, ⟨h2, ⟨rfl, rfl⟩, rfl⟩ | ⟨n', k', n1, n5, k1, k5, rfl, rfl, hA⟩⟩
  · refine ⟨KM.ref, ⟨_, rfl⟩, fun I2 L2 r2 B => ?_⟩
    rcases B with ⟨-, ⟨rfl, rfl⟩, rfl⟩ | ⟨b1, -⟩
    · exact ⟨rfl, (RR.mk hT hX).ref⟩
    · omega
  · refine ⟨KM.ref, ⟨_, rfl⟩, fun I2 L2 r2 B => ?_⟩
    rcases B with ⟨b1, -⟩ | ⟨-, ⟨-, ⟨rfl, rfl⟩, rfl⟩ | ⟨n', k', n1, n5, k1, k5, rfl, rfl, -⟩⟩
    · omega
    · exact ⟨rfl, (RR.mk hT hX).ref⟩
    · exact absurd ⟨⟨n', n1, n5, rfl⟩, ⟨k', k1, k5, rfl⟩⟩ h2
  · have hL : L1 = L := by rcases hA with ⟨-, -, h⟩ | ⟨-, -, h⟩ <;> exact h
    subst hL
    obtain ⟨k, vv, j⟩ := J_res hT hX n1 n5 n1 n5 (hA.imp (fun q => ⟨q.1, q.2.1⟩) (fun q => ⟨q.1, q.2.1⟩)) UL.id
    refine ⟨k, vv, fun I2 L2 r2 B => ?_⟩
    rcases B with ⟨b1, -⟩ | ⟨-, ⟨b1, -⟩ | ⟨n2, k2, m1, m5, l1, l5, e1, e2, b1, b2⟩⟩
    · omega
    · exact absurd ⟨⟨n', n1, n5, rfl⟩, ⟨k', k1, k5, rfl⟩⟩ b1
    · have := eqt (by omega) (by omega) e1
      subst this
      have := eqt (by omega) (by omega) e2
      subst this
      refine j I2 L2 r2 _ (fun a b ha hb => ?_) (UL.fl b2) (Or.inl ⟨by decide, b1⟩)
      by_cases e : a ≤ b ∧ b - a < k2
      · rw [if_pos e, if_pos e, k.1 46 0 (by decide), (hW.2.2.2 h1 (b - a) (by omega)).1]
      · rw [if_neg e, if_neg e]
theorem J_make {x : Int32} (hR : RR I L) (hT : RT I c ro co) (A : (fun r I' L' => (¬ isT c x ∧ REF I I' r 3 ∧ L' = L) ∨ (∃ t, t < c ∧ x = nI t ∧ ((¬ (ro t = co t ∧ ro t ≤ 3) ∧ REF I I' r 7 ∧ L' = L) ∨ (ro t = co t ∧ ro t ≤ 3 ∧ Fr [(17, 0), (18, 0), (19, 0)] I I' ∧ FL [(17, 0), (20, 0), (21, 0), (22, 0), (23, 0)] L L' ∧ r = some (.int (nI (mkS (ro t) (M0of I t)).length)) ∧ repS I' L' (mkS (ro t) (M0of I t)))))) r I1 L1) : JointI I L I1 L1 r (fun I2 L2 r2 => (fun (I : TI) (L : TL) => fun r I' L' => (¬ isT c x ∧ MEF I I' r 3 ∧ L' = L) ∨ (∃ t, t < c ∧ x = nI t ∧ ((¬ (ro t = co t ∧ ro t ≤ 3) ∧ MEF I I' r 7 ∧ L' = L) ∨ (ro t = co t ∧ ro t ≤ 3 ∧ MKF I I' ∧ FL FLK L L' ∧ r = some (.int (nI (mkS (ro t) (M0ofM I t)).length)) ∧ repSm I' L' (mkS (ro t) (M0ofM I t)))))) I1 L1 r2 I2 L2) := by
  rcases A with ⟨h1, ⟨rfl, rfl⟩, rfl⟩ | ⟨t, ht, rfl, hA⟩
  · refine ⟨KM.ref, ⟨_, rfl⟩, fun I2 L2 r2 B => ?_⟩
    rcases B with ⟨-, ⟨rfl, rfl⟩, rfl⟩ | ⟨t, ht, e1, -⟩
    · exact ⟨rfl, hR.ref⟩
    · exact absurd ⟨t, ht, e1⟩ h1
  · obtain ⟨hc12, hr1, hr5, hc1, hc5⟩ := hT.fc ht
    rcases hA with ⟨h1, ⟨rfl, rfl⟩, rfl⟩ | ⟨h1, h2, a1, a2, rfl, a3⟩
    · refine ⟨KM.ref, ⟨_, rfl⟩, fun I2 L2 r2 B => ?_⟩
      rcases B with ⟨b1, -⟩ | ⟨t2, ht2, e1, hB⟩
      · exact absurd ⟨t, ht, rfl⟩ b1
      · have := eqt (by omega) (by omega) e1
        subst this
        rcases hB with ⟨-, ⟨rfl, rfl⟩, rfl⟩ | ⟨b1, b2, -⟩
        · exact ⟨rfl, hR.ref⟩
        · exact absurd ⟨b1, b2⟩ h1
    · have km : KM I I1 L L1 := KM.of (Un.fr a1) (UL.fl a2) (by decide)
      refine ⟨km, ⟨_, rfl⟩, fun I2 L2 r2 B => ?_⟩
      rcases B with ⟨b1, -⟩ | ⟨t2, ht2, e1, hB⟩
      · exact absurd ⟨t, ht, rfl⟩ b1
      · have := eqt (by omega) (by omega) e1
        subst this
        rcases hB with ⟨b1, -⟩ | ⟨-, -, b1, b2, rfl, b3⟩
        · exact absurd ⟨h1, h2⟩ b1
        · have ha : agr (ro t2) (M0of I t2) (M0ofM I1 t2) := fun i j hi hj => by
            unfold M0of M0ofM
            rw [km.1 31 0 (by decide), ((hT.2.2 t2 ht).1 (5 * i + j) (by omega)).1, Nat.add_assoc]
          obtain ⟨m1, m2⟩ := mkS_c h2 ha
          rw [← m1] at b3
          have uM : Un [52, 53] [(30, 33), (30, 34)] I1 I2 := Un.fr1 (S := [(52, 0), (53, 0)]) (k0 := 30) (xs := [33, 34]) b1.1 (fun x q => b1.2 x (fun e => q (by simp [e])) (fun e => q (by simp [e])))
          refine ⟨by rw [m1], hR.setS ((Un.fr a1).tr uM) (by decide) (by decide) (by decide) (by decide) (S := mkS (ro t2) (M0of I t2)) ⟨repS_fr a3 (b1.1.at (by simp) 4) (b1.1 18 0 (by simp)) (b1.1 19 0 (by simp)) (b2 20 0 (by simp)) (b2 21 0 (by simp)), b3, m2⟩⟩
theorem J_making {i what : Int32} (hR : RR I L) (hS : RS I L S) (A : (fun r I' L' => (¬ (0 ≤ i ∧ i < nI S.length) ∧ r = some (.long 0) ∧ I' = rfI I 3 ∧ L' = L) ∨ (∃ i' q, i = nI i' ∧ S[i']? = some q ∧ (∀ k, k < 4 → what = nI k → r = some (.long (mkgA q k)) ∧ I' = I ∧ L' = L) ∧ ((∀ k, k < 4 → what ≠ nI k) → r = some (.long 0) ∧ I' = rfI I 7 ∧ L' = L))) r I1 L1) : JointL I L I1 L1 r (fun I2 L2 r2 => (fun (I : TI) (L : TL) => fun r I' L' => (¬ (0 ≤ i ∧ i < nI S.length) ∧ r = some (.long 0) ∧ I' = rfM I 3 ∧ L' = L) ∨ (∃ i' q, i = nI i' ∧ S[i']? = some q ∧ (∀ k, k < 4 → what = nI k → r = some (.long (mkgA q k)) ∧ I' = I ∧ L' = L) ∧ ((∀ k, k < 4 → what ≠ nI k) → r = some (.long 0) ∧ I' = rfM I 7 ∧ L' = L))) I1 L1 r2 I2 L2) := by
  have hS9 := hS.2.2
  rcases A with ⟨h1, rfl, rfl, rfl⟩ | ⟨i', q, rfl, hq, hA, hA2⟩
  · refine ⟨KM.ref, ⟨_, rfl⟩, fun I2 L2 r2 B => ?_⟩
    rcases B with ⟨-, rfl, rfl, rfl⟩ | ⟨i', q, rfl, hq, -⟩
    · exact ⟨rfl, hR.ref⟩
    · have hi := (List.getElem?_eq_some_iff.mp hq).1
      exact absurd ⟨nI_pos' (by omega), (nI_ltI (by omega) (by omega)).mpr hi⟩ h1
  · have hi := (List.getElem?_eq_some_iff.mp hq).1
    have nin : ¬ ¬ (0 ≤ nI i' ∧ nI i' < nI S.length) := fun z => z ⟨nI_pos' (by omega), (nI_ltI (by omega) (by omega)).mpr hi⟩
    rcases tsw what (n := 3) (m := 3) rfl (by decide) with ⟨k, hk, rfl⟩ | ⟨-, hno⟩
    · obtain ⟨rfl, rfl, rfl⟩ := hA k (by omega) rfl
      refine ⟨KM.rf, ⟨_, rfl⟩, fun I2 L2 r2 B => ?_⟩
      rcases B with ⟨b1, -⟩ | ⟨i2, q2, e1, hq2, hB, -⟩
      · exact absurd b1 nin
      · have hi2 := (List.getElem?_eq_some_iff.mp hq2).1
        have := eqt (by omega) (by omega) e1
        subst this
        rw [hq] at hq2
        injection hq2 with e
        subst e
        obtain ⟨rfl, rfl, rfl⟩ := hB k (by omega) rfl
        exact ⟨rfl, hR⟩
    · obtain ⟨rfl, rfl, rfl⟩ := hA2 (fun k hk => hno k (by omega))
      refine ⟨KM.ref, ⟨_, rfl⟩, fun I2 L2 r2 B => ?_⟩
      rcases B with ⟨b1, -⟩ | ⟨i2, q2, e1, hq2, -, hB⟩
      · exact absurd b1 nin
      · obtain ⟨rfl, rfl, rfl⟩ := hB (fun k hk => hno k (by omega))
        exact ⟨rfl, hR.ref⟩
end JRC

