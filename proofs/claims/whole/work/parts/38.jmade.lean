/-! tables made of tables, both sides -/
def rbcZ (f g : Nat → Int32) : Nat → Int
  | 0 => 0
  | k + 1 => rbcZ f g k + (f k).toInt * (g k).toInt
theorem nm_int {v : Int32} (h : nm v.toInt64) : v.toInt.natAbs ≤ 1000 := by
  have h1 := Int64.le_iff_toInt_le.mp h.1
  have h2 := Int64.le_iff_toInt_le.mp h.2
  rw [Int32.toInt_toInt64] at h1 h2
  have e1 : (-1000 : Int64).toInt = -1000 := by decide
  have e2 : (1000 : Int64).toInt = 1000 := by decide
  omega
theorem mul_1000 {x y : Int} (hx : x.natAbs ≤ 1000) (hy : y.natAbs ≤ 1000) : (x * y).natAbs ≤ 1000000 := by
  rw [Int.natAbs_mul]
  have := Nat.mul_le_mul hx hy
  omega
theorem rbc_Z {f g : Nat → Int32} : ∀ n, n ≤ 5 → (∀ k, k < n → nm (f k).toInt64 ∧ nm (g k).toInt64) → (rbc f g n).toInt = rbcZ f g n ∧ (rbcL f g n).toInt = rbcZ f g n ∧ (rbcZ f g n).natAbs ≤ n * 1000000
  | 0, _, _ => ⟨rfl, rfl, Nat.le_refl 0⟩
  | n + 1, hn, h => by
    obtain ⟨i1, i2, i3⟩ := rbc_Z n (by omega) (fun k hk => h k (by omega))
    obtain ⟨k1, k2⟩ := h n (by omega)
    have m := mul_1000 (nm_int k1) (nm_int k2)
    have e : rbcZ f g (n + 1) = rbcZ f g n + (f n).toInt * (g n).toInt := rfl
    have hn5 : n * 1000000 ≤ 4000000 := by omega
    generalize hp : (f n).toInt * (g n).toInt = p at m e
    refine ⟨?_, ?_, by rw [e]; omega⟩
    · show (rbc f g n + f n * g n).toInt = _
      rw [Int32.toInt_add, Int32.toInt_mul, hp, i1, e, Int.bmod_eq_of_le (n := p) (by omega) (by omega), Int.bmod_eq_of_le (by omega) (by omega)]
    · show (rbcL f g n + (f n).toInt64 * (g n).toInt64).toInt = _
      rw [Int64.toInt_add, Int64.toInt_mul, Int32.toInt_toInt64, Int32.toInt_toInt64, hp, i2, e, Int.bmod_eq_of_le (n := p) (by omega) (by omega), Int.bmod_eq_of_le (by omega) (by omega)]
theorem rbc_L {f g : Nat → Int32} {n : Nat} (hn : n ≤ 5) (h : ∀ k, k < n → nm (f k).toInt64 ∧ nm (g k).toInt64) : (rbc f g n).toInt64 = rbcL f g n := by
  obtain ⟨i1, i2, -⟩ := rbc_Z n hn h
  apply Int64.toInt_inj.mp
  rw [Int32.toInt_toInt64, i1, i2]
theorem rbcL_c {f g f' g' : Nat → Int32} : ∀ {n : Nat}, (∀ k, k < n → f k = f' k ∧ g k = g' k) → rbcL f g n = rbcL f' g' n
  | 0, _ => rfl
  | n + 1, h => by
    show rbcL f g n + (f n).toInt64 * (g n).toInt64 = rbcL f' g' n + (f' n).toInt64 * (g' n).toInt64
    rw [rbcL_c (fun k hk => h k (by omega)), (h n (by omega)).1, (h n (by omega)).2]
section JTC
variable {I I1 : TI} {L L1 : TL} {r : Option Value} {c : Nat} {ro co : Nat → Nat}

theorem J_product {x y : Int32} (hT : RT I c ro co) (hX : RX I L) (A : (fun r I' L' => (¬ (isT c x ∧ isT c y) ∧ REF I I' r 3 ∧ L' = L) ∨ (∃ t u, t < c ∧ u < c ∧ x = nI t ∧ y = nI u ∧ ((¬ co t = ro u ∧ REF I I' r 7 ∧ L' = L) ∨ (co t = ro u ∧ c = 12 ∧ REF I I' r 8 ∧ L' = L) ∨ (co t = ro u ∧ c < 12 ∧ ResT I I' r c (ro t) (co u) (nI 3) (-1) (fun i j => (rbc (fun k => I 3 t (5 * i + k)) (fun k => I 3 u (5 * k + j)) (co t)).toInt64) ∧ L' = L)))) r I1 L1) : JointI I L I1 L1 r (fun I2 L2 r2 => (fun (I : TI) (L : TL) => fun r I' L' => (¬ (isT c x ∧ isT c y) ∧ MEF I I' r 3 ∧ L' = L) ∨ (∃ t u, t < c ∧ u < c ∧ x = nI t ∧ y = nI u ∧ ((¬ co t = ro u ∧ MEF I I' r 7 ∧ L' = L) ∨ (co t = ro u ∧ ResM I I' r c (ro t) (co u) (nI 3) (fun i j => rbcL (fun k => I 31 0 (25 * t + 5 * i + k)) (fun k => I 31 0 (25 * u + 5 * k + j)) (ro u)) ∧ FL [(43, 0)] L L')))) I1 L1 r2 I2 L2) := by
  rcases A with ⟨h1, ⟨rfl, rfl⟩, rfl⟩ | ⟨t, u, ht, hu, rfl, rfl, hA⟩
  · refine ⟨KM.ref, ⟨_, rfl⟩, fun I2 L2 r2 B => ?_⟩
    rcases B with ⟨-, ⟨rfl, rfl⟩, rfl⟩ | ⟨t, u, ht, hu, e1, e2, -⟩
    · exact ⟨rfl, (RR.mk hT hX).ref⟩
    · exact absurd ⟨⟨t, ht, e1⟩, ⟨u, hu, e2⟩⟩ h1
  · obtain ⟨hc12, hr1, hr5, hc1, hc5⟩ := hT.fc ht
    obtain ⟨-, ur1, ur5, uc1, uc5⟩ := hT.fc hu
    have hin : isT c (nI t) ∧ isT c (nI u) := ⟨⟨t, ht, rfl⟩, ⟨u, hu, rfl⟩⟩
    rcases hA with ⟨h1, ⟨rfl, rfl⟩, rfl⟩ | hA
    · refine ⟨KM.ref, ⟨_, rfl⟩, fun I2 L2 r2 B => ?_⟩
      rcases B with ⟨b1, -⟩ | ⟨t2, u2, ht2, hu2, e1, e2, hB⟩
      · exact absurd hin b1
      · have := eqt (by omega) (by omega) e1
        subst this
        have := eqt (by omega) (by omega) e2
        subst this
        rcases hB with ⟨-, ⟨rfl, rfl⟩, rfl⟩ | ⟨b1, -⟩
        · exact ⟨rfl, (RR.mk hT hX).ref⟩
        · exact absurd b1 h1
    · have h1 : co t = ro u := by rcases hA with ⟨h, -⟩ | ⟨h, -⟩ <;> exact h
      have hL : L1 = L := by rcases hA with ⟨-, -, -, h⟩ | ⟨-, -, -, h⟩ <;> exact h
      subst hL
      obtain ⟨k, vv, j⟩ := J_res hT hX hr1 hr5 uc1 uc5 (hA.imp (fun q => ⟨q.2.1, q.2.2.1⟩) (fun q => ⟨q.2.1, q.2.2.1⟩)) UL.id
      refine ⟨k, vv, fun I2 L2 r2 B => ?_⟩
      rcases B with ⟨b1, -⟩ | ⟨t2, u2, ht2, hu2, e1, e2, hB⟩
      · exact absurd hin b1
      · have := eqt (by omega) (by omega) e1
        subst this
        have := eqt (by omega) (by omega) e2
        subst this
        rcases hB with ⟨b1, -⟩ | ⟨-, b1, b2⟩
        · exact absurd h1 b1
        · refine j I2 L2 r2 _ (fun a b ha hb => ?_) (UL.fl b2) (Or.inl ⟨by decide, b1⟩)
          rw [rbc_L hc5 (fun k hk => ⟨((hT.2.2 t2 ht).1 _ (by omega)).2, ((hT.2.2 u2 hu).1 _ (by omega)).2⟩), h1]
          refine rbcL_c (fun q hq => ?_)
          rw [k.1 31 0 (by decide), ((hT.2.2 t2 ht).1 _ (by omega)).1, ((hT.2.2 u2 hu).1 _ (by omega)).1, Nat.add_assoc, Nat.add_assoc]
          exact ⟨rfl, rfl⟩
theorem J_sum {x y : Int32} (hT : RT I c ro co) (hX : RX I L) (A : (fun r I' L' => (¬ (isT c x ∧ isT c y) ∧ REF I I' r 3 ∧ L' = L) ∨ (∃ t u, t < c ∧ u < c ∧ x = nI t ∧ y = nI u ∧ ((¬ (ro t = ro u ∧ co t = co u) ∧ REF I I' r 7 ∧ L' = L) ∨ ((ro t = ro u ∧ co t = co u) ∧ c = 12 ∧ REF I I' r 8 ∧ L' = L) ∨ ((ro t = ro u ∧ co t = co u) ∧ c < 12 ∧ ResT I I' r c (ro t) (co t) (nI 3) (-1) (fun i j => (I 3 t (5 * i + j) + I 3 u (5 * i + j)).toInt64) ∧ L' = L)))) r I1 L1) : JointI I L I1 L1 r (fun I2 L2 r2 => (fun (I : TI) (L : TL) => fun r I' L' => (¬ (isT c x ∧ isT c y) ∧ MEF I I' r 3 ∧ L' = L) ∨ (∃ t u, t < c ∧ u < c ∧ x = nI t ∧ y = nI u ∧ ((¬ (ro t = ro u ∧ co t = co u) ∧ MEF I I' r 7 ∧ L' = L) ∨ ((ro t = ro u ∧ co t = co u) ∧ ResM I I' r c (ro t) (co t) (nI 3) (fun i j => (I 31 0 (25 * t + (5 * i + j)) + I 31 0 (25 * u + (5 * i + j))).toInt64) ∧ FL [(43, 0)] L L')))) I1 L1 r2 I2 L2) := by
  rcases A with ⟨h1, ⟨rfl, rfl⟩, rfl⟩ | ⟨t, u, ht, hu, rfl, rfl, hA⟩
  · refine ⟨KM.ref, ⟨_, rfl⟩, fun I2 L2 r2 B => ?_⟩
    rcases B with ⟨-, ⟨rfl, rfl⟩, rfl⟩ | ⟨t, u, ht, hu, e1, e2, -⟩
    · exact ⟨rfl, (RR.mk hT hX).ref⟩
    · exact absurd ⟨⟨t, ht, e1⟩, ⟨u, hu, e2⟩⟩ h1
  · obtain ⟨hc12, hr1, hr5, hc1, hc5⟩ := hT.fc ht
    obtain ⟨-, ur1, ur5, uc1, uc5⟩ := hT.fc hu
    have hin : isT c (nI t) ∧ isT c (nI u) := ⟨⟨t, ht, rfl⟩, ⟨u, hu, rfl⟩⟩
    rcases hA with ⟨h1, ⟨rfl, rfl⟩, rfl⟩ | hA
    · refine ⟨KM.ref, ⟨_, rfl⟩, fun I2 L2 r2 B => ?_⟩
      rcases B with ⟨b1, -⟩ | ⟨t2, u2, ht2, hu2, e1, e2, hB⟩
      · exact absurd hin b1
      · have := eqt (by omega) (by omega) e1
        subst this
        have := eqt (by omega) (by omega) e2
        subst this
        rcases hB with ⟨-, ⟨rfl, rfl⟩, rfl⟩ | ⟨b1, -⟩
        · exact ⟨rfl, (RR.mk hT hX).ref⟩
        · exact absurd b1 h1
    · have h1 : ro t = ro u ∧ co t = co u := by rcases hA with ⟨h, -⟩ | ⟨h, -⟩ <;> exact h
      have hL : L1 = L := by rcases hA with ⟨-, -, -, h⟩ | ⟨-, -, -, h⟩ <;> exact h
      subst hL
      obtain ⟨k, vv, j⟩ := J_res hT hX hr1 hr5 hc1 hc5 (hA.imp (fun q => ⟨q.2.1, q.2.2.1⟩) (fun q => ⟨q.2.1, q.2.2.1⟩)) UL.id
      refine ⟨k, vv, fun I2 L2 r2 B => ?_⟩
      rcases B with ⟨b1, -⟩ | ⟨t2, u2, ht2, hu2, e1, e2, hB⟩
      · exact absurd hin b1
      · have := eqt (by omega) (by omega) e1
        subst this
        have := eqt (by omega) (by omega) e2
        subst this
        rcases hB with ⟨b1, -⟩ | ⟨-, b1, b2⟩
        · exact absurd h1 b1
        · refine j I2 L2 r2 _ (fun a b ha hb => ?_) (UL.fl b2) (Or.inl ⟨by decide, b1⟩)
          rw [k.1 31 0 (by decide), ((hT.2.2 t2 ht).1 _ (by omega)).1, ((hT.2.2 u2 hu).1 _ (by omega)).1]
theorem J_part {x R C : Int32} (hT : RT I c ro co) (hX : RX I L) (A : (fun r I' L' => (¬ inS c ro co x R C ∧ REF I I' r 3 ∧ L' = L) ∨ (∃ t R' C', t < c ∧ x = nI t ∧ 1 ≤ R' ∧ R' < 2 ^ ro t ∧ 1 ≤ C' ∧ C' < 2 ^ co t ∧ R = nI R' ∧ C = nI C' ∧ ((c = 12 ∧ REF I I' r 8 ∧ L' = L) ∨ (c < 12 ∧ ResT I I' r c (pc5 R') (pc5 C') (nI 3) (-1) (fun a b => (I 3 t (5 * rsel R' a + rsel C' b)).toInt64) ∧ L' = L)))) r I1 L1) : JointI I L I1 L1 r (fun I2 L2 r2 => (fun (I : TI) (L : TL) => fun r I' L' => (¬ inS c ro co x R C ∧ MEF I I' r 3 ∧ L' = L) ∨ (∃ t R' C', t < c ∧ x = nI t ∧ 1 ≤ R' ∧ R' < 2 ^ ro t ∧ 1 ≤ C' ∧ C' < 2 ^ co t ∧ R = nI R' ∧ C = nI C' ∧ ResM I I' r c (pc5 R') (pc5 C') (nI 3) (fun a b => (I 31 0 (25 * t + 5 * rsel R' a + rsel C' b)).toInt64) ∧ FL [(43, 0)] L L')) I1 L1 r2 I2 L2) := by
  rcases A with ⟨h1, ⟨rfl, rfl⟩, rfl⟩ | ⟨t, R', C', ht, rfl, hR1, hR2, hC1, hC2, rfl, rfl, hA⟩
  · refine ⟨KM.ref, ⟨_, rfl⟩, fun I2 L2 r2 B => ?_⟩
    rcases B with ⟨-, ⟨rfl, rfl⟩, rfl⟩ | ⟨t, R', C', ht, e1, g1, g2, g3, g4, e2, e3, -⟩
    · exact ⟨rfl, (RR.mk hT hX).ref⟩
    · exact absurd ⟨t, ht, e1, ⟨R', g1, g2, e2⟩, ⟨C', g3, g4, e3⟩⟩ h1
  · obtain ⟨hc12, hr1, hr5, hc1, hc5⟩ := hT.fc ht
    have hpr := pow32 hr5
    have hpc := pow32 hc5
    have hR5 := pc5_le R'
    have hC5 := pc5_le C'
    have hL : L1 = L := by rcases hA with ⟨-, -, h⟩ | ⟨-, -, h⟩ <;> exact h
    subst hL
    obtain ⟨k, vv, j⟩ := J_res hT hX (pc5_pos R' (by omega) hR1) hR5 (pc5_pos C' (by omega) hC1) hC5 (hA.imp (fun q => ⟨q.1, q.2.1⟩) (fun q => ⟨q.1, q.2.1⟩)) UL.id
    refine ⟨k, vv, fun I2 L2 r2 B => ?_⟩
    rcases B with ⟨b1, -⟩ | ⟨t2, R2, C2, ht2, e1, g1, g2, g3, g4, e2, e3, b1, b2⟩
    · exact absurd ⟨t, ht, rfl, ⟨R', hR1, hR2, rfl⟩, ⟨C', hC1, hC2, rfl⟩⟩ b1
    · have := eqt (by omega) (by omega) e1
      subst this
      have := eqt (by omega) (by omega) e2
      subst this
      have := eqt (by omega) (by omega) e3
      subst this
      refine j I2 L2 r2 _ (fun a b ha hb => ?_) (UL.fl b2) (Or.inl ⟨by decide, b1⟩)
      have q1 := rsel_5 R2 (by omega) a (by omega)
      have q2 := rsel_5 C2 (by omega) b (by omega)
      rw [k.1 31 0 (by decide), ((hT.2.2 t2 ht).1 _ (by omega)).1, Nat.add_assoc]
theorem J_turn {x how : Int32} (hT : RT I c ro co) (hX : RX I L) (A : (fun r I' L' => (¬ isT c x ∧ REF I I' r 3 ∧ L' = L) ∨ (∃ t, t < c ∧ x = nI t ∧ ((¬ (0 ≤ how ∧ how ≤ nI 2) ∧ REF I I' r 7 ∧ L' = L) ∨ (∃ n', n' ≤ 2 ∧ how = nI n' ∧ ((c = 12 ∧ REF I I' r 8 ∧ L' = L) ∨ (c < 12 ∧ ResT I I' r c (if n' = 0 then co t else ro t) (if n' = 0 then ro t else co t) (nI 3) (-1) (fun a b => (I 3 t (5 * (if n' = 0 then b else ro t - 1 - a) + (if n' = 0 then a else if n' = 1 then co t - 1 - b else b))).toInt64) ∧ L' = L)))))) r I1 L1) : JointI I L I1 L1 r (fun I2 L2 r2 => (fun (I : TI) (L : TL) => fun r I' L' => (¬ isT c x ∧ MEF I I' r 3 ∧ L' = L) ∨ (∃ t, t < c ∧ x = nI t ∧ ((¬ (0 ≤ how ∧ how ≤ nI 2) ∧ MEF I I' r 7 ∧ L' = L) ∨ (∃ n', n' ≤ 2 ∧ how = nI n' ∧ ResM I I' r c (if n' = 0 then co t else ro t) (if n' = 0 then ro t else co t) (nI 3) (fun a b => (I 31 0 (25 * t + 5 * (if n' = 0 then b else ro t - 1 - a) + (if n' = 0 then a else if n' = 1 then co t - 1 - b else b))).toInt64) ∧ FL [(43, 0)] L L')))) I1 L1 r2 I2 L2) := by
  rcases A with ⟨h1, ⟨rfl, rfl⟩, rfl⟩ | ⟨t, ht, rfl, hA⟩
  · refine ⟨KM.ref, ⟨_, rfl⟩, fun I2 L2 r2 B => ?_⟩
    rcases B with ⟨-, ⟨rfl, rfl⟩, rfl⟩ | ⟨t, ht, e1, -⟩
    · exact ⟨rfl, (RR.mk hT hX).ref⟩
    · exact absurd ⟨t, ht, e1⟩ h1
  · obtain ⟨hc12, hr1, hr5, hc1, hc5⟩ := hT.fc ht
    rcases hA with ⟨h1, ⟨rfl, rfl⟩, rfl⟩ | ⟨n', hn2, rfl, hA⟩
    · refine ⟨KM.ref, ⟨_, rfl⟩, fun I2 L2 r2 B => ?_⟩
      rcases B with ⟨b1, -⟩ | ⟨t2, ht2, e1, hB⟩
      · exact absurd ⟨t, ht, rfl⟩ b1
      · rcases hB with ⟨-, ⟨rfl, rfl⟩, rfl⟩ | ⟨n', hn2, rfl, -⟩
        · exact ⟨rfl, (RR.mk hT hX).ref⟩
        · exact absurd ⟨nI_pos' (by omega), (nI_leI (by omega) (by omega)).mpr hn2⟩ h1
    · have hL : L1 = L := by rcases hA with ⟨-, -, h⟩ | ⟨-, -, h⟩ <;> exact h
      subst hL
      have n5 : 1 ≤ (if n' = 0 then co t else ro t) ∧ (if n' = 0 then co t else ro t) ≤ 5 := by split <;> omega
      have m5 : 1 ≤ (if n' = 0 then ro t else co t) ∧ (if n' = 0 then ro t else co t) ≤ 5 := by split <;> omega
      obtain ⟨k, vv, j⟩ := J_res hT hX n5.1 n5.2 m5.1 m5.2 (hA.imp (fun q => ⟨q.1, q.2.1⟩) (fun q => ⟨q.1, q.2.1⟩)) UL.id
      refine ⟨k, vv, fun I2 L2 r2 B => ?_⟩
      rcases B with ⟨b1, -⟩ | ⟨t2, ht2, e1, hB⟩
      · exact absurd ⟨t, ht, rfl⟩ b1
      · have := eqt (by omega) (by omega) e1
        subst this
        rcases hB with ⟨b1, -⟩ | ⟨n2, hn22, e2, b1, b2⟩
        · exact absurd ⟨nI_pos' (by omega), (nI_leI (by omega) (by omega)).mpr hn2⟩ b1
        · have := eqt (by omega) (by omega) e2
          subst this
          refine j I2 L2 r2 _ (fun a b ha hb => ?_) (UL.fl b2) (Or.inl ⟨by decide, b1⟩)
          have q : (if n2 = 0 then b else ro t2 - 1 - a) < 5 ∧ (if n2 = 0 then a else if n2 = 1 then co t2 - 1 - b else b) < 5 := by
            by_cases e : n2 = 0
            · simp only [e, if_true] at ha hb ⊢
              omega
            · simp only [e, if_false] at ha hb ⊢
              refine ⟨by omega, ?_⟩
              split <;> omega
          rw [k.1 31 0 (by decide), ((hT.2.2 t2 ht).1 _ (by omega)).1, Nat.add_assoc]
theorem J_same {x y : Int32} (hT : RT I c ro co) (hX : RX I L) (A : (fun r I' L' => (¬ (isT c x ∧ isT c y) ∧ REF I I' r 3 ∧ L' = L) ∨ (∃ t u, t < c ∧ u < c ∧ x = nI t ∧ y = nI u ∧ ((sameG I ro co t u ∧ r = some (.int (nI 1))) ∨ (¬ sameG I ro co t u ∧ r = some (.int (nI 0)))) ∧ I' = I ∧ L' = L)) r I1 L1) : JointI I L I1 L1 r (fun I2 L2 r2 => (fun (I : TI) (L : TL) => fun r I' L' => (¬ (isT c x ∧ isT c y) ∧ MEF I I' r 3 ∧ L' = L) ∨ (∃ t u, t < c ∧ u < c ∧ x = nI t ∧ y = nI u ∧ ((sameM I ro co t u ∧ r = some (.int (nI 1))) ∨ (¬ sameM I ro co t u ∧ r = some (.int (nI 0)))) ∧ I' = I ∧ L' = L)) I1 L1 r2 I2 L2) := by
  rcases A with ⟨h1, ⟨rfl, rfl⟩, rfl⟩ | ⟨t, u, ht, hu, rfl, rfl, hA, rfl, rfl⟩
  · refine ⟨KM.ref, ⟨_, rfl⟩, fun I2 L2 r2 B => ?_⟩
    rcases B with ⟨-, ⟨rfl, rfl⟩, rfl⟩ | ⟨t, u, ht, hu, e1, e2, -⟩
    · exact ⟨rfl, (RR.mk hT hX).ref⟩
    · exact absurd ⟨⟨t, ht, e1⟩, ⟨u, hu, e2⟩⟩ h1
  · obtain ⟨hc12, hr1, hr5, hc1, hc5⟩ := hT.fc ht
    obtain ⟨-, ur1, ur5, uc1, uc5⟩ := hT.fc hu
    obtain ⟨k1, k2, -⟩ := hT.2.2 t ht
    obtain ⟨u1, u2, -⟩ := hT.2.2 u hu
    have hsm : sameG I1 ro co t u ↔ sameM I1 ro co t u := by
      constructor
      · rintro ⟨s1, s2, s3⟩
        refine ⟨⟨s1, s2⟩, fun x hx => ?_⟩
        rw [← (k1 x hx).1, ← (u1 x hx).1]
        by_cases q : x / 5 < ro t ∧ x % 5 < co t
        · have z := s3 (x / 5) (x % 5) q.1 q.2
          rwa [show 5 * (x / 5) + x % 5 = x by omega] at z
        · have z1 := k2 (x / 5) (x % 5) (by omega) (by omega) q
          have z2 := u2 (x / 5) (x % 5) (by omega) (by omega) (by rw [← s1, ← s2]; exact q)
          rw [show 5 * (x / 5) + x % 5 = x by omega] at z1 z2
          rw [z1, z2]
      · rintro ⟨⟨s1, s2⟩, s3⟩
        refine ⟨s1, s2, fun i j hi hj => ?_⟩
        rw [(k1 (5 * i + j) (by omega)).1, (u1 (5 * i + j) (by omega)).1]
        exact s3 _ (by omega)
    refine ⟨KM.rf, by rcases hA with ⟨-, rfl⟩ | ⟨-, rfl⟩ <;> exact ⟨_, rfl⟩, fun I2 L2 r2 B => ?_⟩
    rcases B with ⟨b1, -⟩ | ⟨t2, u2, ht2, hu2, e1, e2, hB, rfl, rfl⟩
    · exact absurd ⟨⟨t, ht, rfl⟩, ⟨u, hu, rfl⟩⟩ b1
    · have := eqt (by omega) (by omega) e1
      subst this
      have := eqt (by omega) (by omega) e2
      subst this
      rcases hA with ⟨a1, rfl⟩ | ⟨a1, rfl⟩ <;> rcases hB with ⟨b1, rfl⟩ | ⟨b1, rfl⟩
      · exact ⟨rfl, RR.mk hT hX⟩
      · exact absurd (hsm.mp a1) b1
      · exact absurd (hsm.mpr b1) a1
      · exact ⟨rfl, RR.mk hT hX⟩
end JTC

