/-! the calls of nets, both sides -/
theorem RR.setN {ks ls : List Nat} {ps : List (Nat × Nat)} {I I1 : TI} {L L1 : TL} (h : RR I L) (u : Un ks ps I I1) (v : UL ls L L1) (o1 : okT ks ps = true) (o3 : okW ks ps = true) (o4 : okF ks ps = true) (o5 : okS ks ps ls = true) {n : Nat} {ln sc : Nat → Nat} {kd pl wt : Nat → Nat → Nat} (g : RN I1 n ln sc kd pl wt) : RR I1 L1 := by
  obtain ⟨⟨c, ro, co, h1⟩, -, ⟨h, h3⟩, h4, S, h5⟩ := h
  exact ⟨⟨c, ro, co, h1.un u o1⟩, ⟨n, ln, sc, kd, pl, wt, g⟩, ⟨h, h3.un u o3⟩, h4.un u o4, S, h5.un u v o5⟩
theorem RF.ref2 {I I9 : TI} {w : Nat} (h : RF I) (e11 : I9 11 0 = rfI I w 11 0) (e41 : I9 41 0 = I 41 0) : RF (rfM I9 w) := fun v h1 h2 => by
  have e := h v h1 h2
  unfold rfM
  rw [upI_k (by decide), e11]
  unfold rfI
  by_cases q : v = w
  · subst q
    rw [upI_eq, upI_eq, e41, e]
  · rw [upI_x q, upI_x q, e41, e]
theorem RR.ref2 {I I9 : TI} {L L2 : TL} {w : Nat} {ls : List Nat} (h : RR I L) (f : Fr [(44, 0)] (rfI I w) I9) (v : UL ls L L2) (o : okS ([11] ++ [44] ++ [41]) ([] ++ [] ++ []) ls = true) : RR (rfM I9 w) L2 := by
  have u : Un ([11] ++ [44] ++ [41]) ([] ++ [] ++ []) I (rfM I9 w) := (Un.tr (Un.upk (k := 11)) (Un.fr f)).tr Un.upk
  obtain ⟨⟨c, ro, co, h1⟩, ⟨n, ln, sc, kd, pl, wt, h2⟩, ⟨h, h3⟩, h4, S, h5⟩ := h
  exact ⟨⟨c, ro, co, h1.un u (by decide)⟩, ⟨n, ln, sc, kd, pl, wt, h2.un u (by decide)⟩, ⟨h, h3.un u (by decide)⟩, h4.ref2 (f 11 0 (by simp)) ((f 41 0 (by simp)).trans (funext fun x => upI_k (by decide))), S, h5.un u v o⟩
def upd2 (f : Nat → Nat → Nat) (w s v : Nat) : Nat → Nat → Nat := fun w2 s2 => if w2 = w ∧ s2 = s then v else f w2 s2
theorem tk_nat {ln : Nat} {k i : Int32} (h : tkP ln k i) (h1 : 1 ≤ ln) (h5 : ln ≤ 5) : ∃ k' i', k = nI k' ∧ i = nI i' ∧ k' ≤ 2 ∧ i' < ln ∧ (k' = 2 ∨ i' + 1 < ln) := by
  rcases h with ⟨h | h, h2, h3⟩ | ⟨h, h2, h3⟩
  · obtain ⟨i', hi, rfl⟩ := ix_of h2 h3 (by omega)
    exact ⟨0, i', h, rfl, by decide, by omega, by omega⟩
  · obtain ⟨i', hi, rfl⟩ := ix_of h2 h3 (by omega)
    exact ⟨1, i', h, rfl, by decide, by omega, by omega⟩
  · obtain ⟨i', hi, rfl⟩ := ix_of h2 h3 (by omega)
    exact ⟨2, i', h, rfl, by decide, by omega, by omega⟩
section JNC
variable {I I1 : TI} {L L1 : TL} {r : Option Value} {n : Nat} {ln sc : Nat → Nat} {kd pl wt : Nat → Nat → Nat}
theorem RN.fc (h : RN I n ln sc kd pl wt) {w : Nat} (hw : w < n) : n ≤ 4 ∧ 1 ≤ ln w ∧ ln w ≤ 5 ∧ sc w ≤ 16 := ⟨h.1.2.1, (h.1.2.2 w hw).2.1, (h.1.2.2 w hw).2.2.1, (h.1.2.2 w hw).2.2.2.1⟩
theorem net_N (h : RN I n ln sc kd pl wt) (hn : n < 4) {k : Nat} (k1 : 1 ≤ k) (k5 : k ≤ 5) : RN (upI (upI (upI (upI (upI (upI I 5 n 3 (nI k)) 5 n 4 (nI 0)) 0 0 3 (nI (n + 1))) 36 0 n (nI k)) 37 0 n (nI 0)) 30 0 11 (nI (n + 1))) (n + 1) (updN ln n k) (updN sc n 0) kd pl wt := by
  obtain ⟨g1, g2⟩ := h
  refine ⟨⟨?_, by omega, fun w hw => ?_⟩, ⟨upI_eq, by omega, fun w hw => ?_⟩⟩
  · rw [upI_k (by decide), upI_k (by decide), upI_k (by decide), upI_eq]
  · by_cases e : w = n
    · subst e
      rw [updN_e, updN_e]
      refine ⟨⟨by simp [upI], by simp [upI], fun s hs => absurd hs (Nat.not_lt_zero _)⟩, k1, k5, by decide, fun s hs => absurd hs (Nat.not_lt_zero _)⟩
    · rw [updN_n e, updN_n e]
      obtain ⟨q1, q2⟩ := g1.2.2 w (by omega)
      refine ⟨?_, q2⟩
      unfold webR at q1 ⊢
      simpa [upI, e] using q1
  · by_cases e : w = n
    · subst e
      rw [updN_e, updN_e]
      refine ⟨⟨by simp [upI], by simp [upI], fun s hs => absurd hs (Nat.not_lt_zero _)⟩, k1, k5, by decide, fun s hs => absurd hs (Nat.not_lt_zero _)⟩
    · rw [updN_n e, updN_n e]
      obtain ⟨q1, q2⟩ := g2.2.2 w (by omega)
      refine ⟨?_, q2⟩
      unfold webM at q1 ⊢
      simpa [upI, e] using q1
theorem step_N (h : RN I n ln sc kd pl wt) {w k i v : Nat} (hw : w < n) (hs : sc w < 16) (k2 : k ≤ 2) (i1 : i < ln w) (ki : k = 2 ∨ i + 1 < ln w) (v1 : 1 ≤ v) (v9 : v ≤ 9) :
    RN (upI (upI (upI (upI (upI (upI (upI (upI I 6 w (sc w) (nI k)) 7 w (sc w) (nI i)) 8 w (sc w) (nI v)) 5 w 4 (nI (sc w + 1))) 38 0 (16 * w + sc w) (nI k)) 39 0 (16 * w + sc w) (nI i)) 40 0 (16 * w + sc w) (nI v)) 37 0 w (nI (sc w + 1))) n ln (updN sc w (sc w + 1)) (upd2 kd w (sc w) k) (upd2 pl w (sc w) i) (upd2 wt w (sc w) v) := by
  obtain ⟨g1, g2⟩ := h
  have ok : ∀ w2, w2 < n → netOk (ln w2) (sc w2) (kd w2) (pl w2) (wt w2) → netOk (ln w2) (updN sc w (sc w + 1) w2) (upd2 kd w (sc w) k w2) (upd2 pl w (sc w) i w2) (upd2 wt w (sc w) v w2) := by
    intro w2 hw2 q
    by_cases e : w2 = w
    · subst e
      rw [updN_e]
      refine ⟨q.1, q.2.1, by omega, fun s hs2 => ?_⟩
      unfold upd2
      by_cases e2 : s = sc w2
      · rw [if_pos ⟨rfl, e2⟩, if_pos ⟨rfl, e2⟩, if_pos ⟨rfl, e2⟩]
        exact ⟨k2, i1, ki, v1, v9⟩
      · rw [if_neg (fun z => e2 z.2), if_neg (fun z => e2 z.2), if_neg (fun z => e2 z.2)]
        exact q.2.2.2 s (by omega)
    · rw [updN_n e]
      refine ⟨q.1, q.2.1, q.2.2.1, fun s hs2 => ?_⟩
      unfold upd2
      rw [if_neg (fun z => e z.1), if_neg (fun z => e z.1), if_neg (fun z => e z.1)]
      exact q.2.2.2 s hs2
  refine ⟨⟨?_, g1.2.1, fun w2 hw2 => ⟨?_, ok w2 hw2 (g1.2.2 w2 hw2).2⟩⟩, ⟨?_, g2.2.1, fun w2 hw2 => ⟨?_, ok w2 hw2 (g2.2.2 w2 hw2).2⟩⟩⟩
  · have := g1.1
    simpa [upI] using this
  · obtain ⟨q1, q2⟩ := g1.2.2 w2 hw2
    by_cases e : w2 = w
    · subst e
      rw [updN_e]
      refine ⟨?_, by simp [upI], fun s hs2 => ?_⟩
      · have := q1.1
        simpa [upI] using this
      · unfold upd2
        by_cases e2 : s = sc w2
        · subst e2
          simp [upI]
        · have := q1.2.2 s (by omega)
          simpa [upI, e2] using this
    · rw [updN_n e]
      refine ⟨?_, ?_, fun s hs2 => ?_⟩
      · have := q1.1
        simpa [upI, e] using this
      · have := q1.2.1
        simpa [upI, e] using this
      · unfold upd2
        have := q1.2.2 s hs2
        simpa [upI, e] using this
  · have := g2.1
    simpa [upI] using this
  · obtain ⟨q1, q2⟩ := g2.2.2 w2 hw2
    by_cases e : w2 = w
    · subst e
      rw [updN_e]
      refine ⟨?_, by simp [upI], fun s hs2 => ?_⟩
      · have := q1.1
        simpa [upI] using this
      · unfold upd2
        by_cases e2 : s = sc w2
        · subst e2
          simp [upI]
        · have := q1.2.2 s (by omega)
          simpa [upI, e2] using this
    · rw [updN_n e]
      refine ⟨?_, ?_, fun s hs2 => ?_⟩
      · have := q1.1
        simpa [upI, e] using this
      · have := q1.2.1
        simpa [upI, e] using this
      · unfold upd2
        have := q1.2.2 s hs2
        have hne : ¬ 16 * w2 + s = 16 * w + sc w := by
          have := q2.2.2.1
          omega
        simpa [upI, e, hne] using this
theorem back_N (h : RN I n ln sc kd pl wt) {w : Nat} (hw : w < n) : RN (upI (upI I 5 w 4 (nI (sc w - 1))) 37 0 w (nI (sc w - 1))) n ln (updN sc w (sc w - 1)) kd pl wt := by
  obtain ⟨g1, g2⟩ := h
  have ok : ∀ w2, w2 < n → netOk (ln w2) (sc w2) (kd w2) (pl w2) (wt w2) → netOk (ln w2) (updN sc w (sc w - 1) w2) (kd w2) (pl w2) (wt w2) := by
    intro w2 hw2 q
    by_cases e : w2 = w
    · subst e
      rw [updN_e]
      exact ⟨q.1, q.2.1, by have := q.2.2.1; omega, fun s hs2 => q.2.2.2 s (by omega)⟩
    · rw [updN_n e]
      exact q
  refine ⟨⟨?_, g1.2.1, fun w2 hw2 => ⟨?_, ok w2 hw2 (g1.2.2 w2 hw2).2⟩⟩, ⟨?_, g2.2.1, fun w2 hw2 => ⟨?_, ok w2 hw2 (g2.2.2 w2 hw2).2⟩⟩⟩
  · have := g1.1
    simpa [upI] using this
  · obtain ⟨q1, q2⟩ := g1.2.2 w2 hw2
    by_cases e : w2 = w
    · subst e
      rw [updN_e]
      refine ⟨?_, by simp [upI], fun s hs2 => ?_⟩
      · have := q1.1
        simpa [upI] using this
      · have := q1.2.2 s (by omega)
        simpa [upI] using this
    · rw [updN_n e]
      unfold webR at q1 ⊢
      simpa [upI, e] using q1
  · have := g2.1
    simpa [upI] using this
  · obtain ⟨q1, q2⟩ := g2.2.2 w2 hw2
    by_cases e : w2 = w
    · subst e
      rw [updN_e]
      refine ⟨?_, by simp [upI], fun s hs2 => ?_⟩
      · have := q1.1
        simpa [upI] using this
      · have := q1.2.2 s (by omega)
        simpa [upI] using this
    · rw [updN_n e]
      unfold webM at q1 ⊢
      simpa [upI, e] using q1
theorem unnet_N (h : RN I n ln sc kd pl wt) : RN (upI (upI I 0 0 3 (nI (n - 1))) 30 0 11 (nI (n - 1))) (n - 1) ln sc kd pl wt := by
  obtain ⟨g1, g2⟩ := h
  refine ⟨⟨?_, by have := g1.2.1; omega, fun w hw => ?_⟩, ⟨upI_eq, by have := g1.2.1; omega, fun w hw => ?_⟩⟩
  · rw [upI_k (by decide), upI_eq]
  · have := g1.2.2 w (by omega)
    unfold webR at this ⊢
    simpa [upI] using this
  · have := g2.2.2 w (by omega)
    unfold webM at this ⊢
    simpa [upI] using this
theorem J_net {x : Int32} (hR : RR I L) (hN : RN I n ln sc kd pl wt) (A : (fun r I' L' => ((¬ isD x ∧ REF I I' r 7) ∨ (isD x ∧ n = 4 ∧ REF I I' r 8) ∨ (isD x ∧ n < 4 ∧ r = some (.int (nI n)) ∧ I' = upI (upI (upI I 5 n 3 x) 5 n 4 (nI 0)) 0 0 3 (nI (n + 1)))) ∧ L' = L) r I1 L1) : JointI I L I1 L1 r (fun I2 L2 r2 => (fun (I : TI) (L : TL) => fun r I' L' => ((¬ isD x ∧ MEF I I' r 7) ∨ (isD x ∧ n = 4 ∧ MEF I I' r 8) ∨ (isD x ∧ n < 4 ∧ r = some (.int (nI n)) ∧ I' = upI (upI (upI I 36 0 n x) 37 0 n (nI 0)) 30 0 11 (nI (n + 1)))) ∧ L' = L) I1 L1 r2 I2 L2) := by
  rcases A with ⟨⟨h1, rfl, rfl⟩ | ⟨h1, h2, rfl, rfl⟩ | ⟨h1, h2, rfl, rfl⟩, rfl⟩
  · refine ⟨KM.ref, ⟨_, rfl⟩, fun I2 L2 r2 B => ?_⟩
    rcases B with ⟨⟨-, rfl, rfl⟩ | ⟨b1, -⟩ | ⟨b1, -⟩, rfl⟩
    · exact ⟨rfl, hR.ref⟩
    · exact absurd b1 h1
    · exact absurd b1 h1
  · refine ⟨KM.ref, ⟨_, rfl⟩, fun I2 L2 r2 B => ?_⟩
    rcases B with ⟨⟨b1, -⟩ | ⟨-, -, rfl, rfl⟩ | ⟨-, b1, -⟩, rfl⟩
    · exact absurd h1 b1
    · exact ⟨rfl, hR.ref⟩
    · omega
  · refine ⟨KM.of (ks := [5] ++ [5] ++ []) (ps := [] ++ [] ++ [(0, 3)]) (ls := []) ((Un.upk.tr Un.upk).tr Un.up) UL.rf (by decide), ⟨_, rfl⟩, fun I2 L2 r2 B => ?_⟩
    rcases B with ⟨⟨b1, -⟩ | ⟨-, b1, -⟩ | ⟨-, -, rfl, rfl⟩, rfl⟩
    · exact absurd h1 b1
    · omega
    · obtain ⟨k, k1, k5, rfl⟩ := h1
      exact ⟨rfl, hR.setN (ks := [5] ++ [5] ++ [] ++ [36] ++ [37] ++ []) (ps := [] ++ [] ++ [(0, 3)] ++ [] ++ [] ++ [(30, 11)]) (ls := []) (((((Un.upk.tr Un.upk).tr Un.up).tr Un.upk).tr Un.upk).tr Un.up) UL.rf (by decide) (by decide) (by decide) (by decide) (net_N hN h2 k1 k5)⟩
theorem J_step {x k i v : Int32} (hR : RR I L) (hN : RN I n ln sc kd pl wt) (A : (fun r I' L' => (¬ isT n x ∧ REF I I' r 3 ∧ L' = L) ∨ (∃ w, w < n ∧ x = nI w ∧ ((¬ (tkP (ln w) k i ∧ nI 1 ≤ v ∧ v ≤ nI 9) ∧ REF I I' r 7 ∧ L' = L) ∨ ((tkP (ln w) k i ∧ nI 1 ≤ v ∧ v ≤ nI 9) ∧ ((sc w = 16 ∧ REF I I' r 8 ∧ L' = L) ∨ (sc w < 16 ∧ r = some (.int (nI (sc w + 1))) ∧ I' = upI (upI (upI (upI I 6 w (sc w) k) 7 w (sc w) i) 8 w (sc w) v) 5 w 4 (nI (sc w + 1)) ∧ L' = L)))))) r I1 L1) : JointI I L I1 L1 r (fun I2 L2 r2 => (fun (I : TI) (L : TL) => fun r I' L' => (¬ isT n x ∧ MEF I I' r 3 ∧ L' = L) ∨ (∃ w, w < n ∧ x = nI w ∧ ((¬ (tkP (ln w) k i ∧ nI 1 ≤ v ∧ v ≤ nI 9) ∧ MEF I I' r 7 ∧ L' = L) ∨ ((tkP (ln w) k i ∧ nI 1 ≤ v ∧ v ≤ nI 9) ∧ ((sc w = 16 ∧ MEF I I' r 8 ∧ L' = L) ∨ (sc w < 16 ∧ r = some (.int (nI (sc w + 1))) ∧ I' = upI (upI (upI (upI I 38 0 (16 * w + sc w) k) 39 0 (16 * w + sc w) i) 40 0 (16 * w + sc w) v) 37 0 w (nI (sc w + 1)) ∧ L' = L)))))) I1 L1 r2 I2 L2) := by
  rcases A with ⟨h1, ⟨rfl, rfl⟩, rfl⟩ | ⟨w, hw, rfl, hA⟩
  · refine ⟨KM.ref, ⟨_, rfl⟩, fun I2 L2 r2 B => ?_⟩
    rcases B with ⟨-, ⟨rfl, rfl⟩, rfl⟩ | ⟨w, hw, e1, -⟩
    · exact ⟨rfl, hR.ref⟩
    · exact absurd ⟨w, hw, e1⟩ h1
  · obtain ⟨hn4, hl1, hl5, hs16⟩ := hN.fc hw
    rcases hA with ⟨h1, ⟨rfl, rfl⟩, rfl⟩ | ⟨h1, ⟨h2, ⟨rfl, rfl⟩, rfl⟩ | ⟨h2, rfl, rfl, rfl⟩⟩
    · refine ⟨KM.ref, ⟨_, rfl⟩, fun I2 L2 r2 B => ?_⟩
      rcases B with ⟨b1, -⟩ | ⟨w2, hw2, e1, hB⟩
      · exact absurd ⟨w, hw, rfl⟩ b1
      · have := eqt (by omega) (by omega) e1
        subst this
        rcases hB with ⟨-, ⟨rfl, rfl⟩, rfl⟩ | ⟨b1, -⟩
        · exact ⟨rfl, hR.ref⟩
        · exact absurd b1 h1
    · refine ⟨KM.ref, ⟨_, rfl⟩, fun I2 L2 r2 B => ?_⟩
      rcases B with ⟨b1, -⟩ | ⟨w2, hw2, e1, hB⟩
      · exact absurd ⟨w, hw, rfl⟩ b1
      · have := eqt (by omega) (by omega) e1
        subst this
        rcases hB with ⟨b1, -⟩ | ⟨-, ⟨-, ⟨rfl, rfl⟩, rfl⟩ | ⟨b1, -⟩⟩
        · exact absurd h1 b1
        · exact ⟨rfl, hR.ref⟩
        · omega
    · refine ⟨KM.of (ks := [6] ++ [7] ++ [8] ++ [5]) (ps := [] ++ [] ++ [] ++ []) (ls := []) (((Un.upk.tr Un.upk).tr Un.upk).tr Un.upk) UL.rf (by decide), ⟨_, rfl⟩, fun I2 L2 r2 B => ?_⟩
      rcases B with ⟨b1, -⟩ | ⟨w2, hw2, e1, hB⟩
      · exact absurd ⟨w, hw, rfl⟩ b1
      · have := eqt (by omega) (by omega) e1
        subst this
        rcases hB with ⟨b1, -⟩ | ⟨-, ⟨b1, -⟩ | ⟨-, rfl, rfl, rfl⟩⟩
        · exact absurd h1 b1
        · omega
        · obtain ⟨k', i', rfl, rfl, g1, g2, g3⟩ := tk_nat h1.1 hl1 hl5
          obtain ⟨v', hv', rfl⟩ := ix_of' (Int32.le_trans (by decide) h1.2.1) h1.2.2 (by decide)
          have v1 := (nI_leI (by decide) (by omega)).mp h1.2.1
          exact ⟨rfl, hR.setN (ks := [6] ++ [7] ++ [8] ++ [5] ++ [38] ++ [39] ++ [40] ++ [37]) (ps := [] ++ [] ++ [] ++ [] ++ [] ++ [] ++ [] ++ []) (ls := []) (((((((Un.upk.tr Un.upk).tr Un.upk).tr Un.upk).tr Un.upk).tr Un.upk).tr Un.upk).tr Un.upk) UL.rf (by decide) (by decide) (by decide) (by decide) (step_N hN hw h2 g1 g2 g3 v1 hv')⟩
theorem J_back {x : Int32} (hR : RR I L) (hN : RN I n ln sc kd pl wt) (A : (fun r I' L' => (¬ isT n x ∧ REF I I' r 3 ∧ L' = L) ∨ (∃ w, w < n ∧ x = nI w ∧ ((sc w = 0 ∧ REF I I' r 2 ∧ L' = L) ∨ (0 < sc w ∧ r = some (.int (nI (sc w - 1))) ∧ I' = upI I 5 w 4 (nI (sc w - 1)) ∧ L' = L)))) r I1 L1) : JointI I L I1 L1 r (fun I2 L2 r2 => (fun (I : TI) (L : TL) => fun r I' L' => (¬ isT n x ∧ MEF I I' r 3 ∧ L' = L) ∨ (∃ w, w < n ∧ x = nI w ∧ ((sc w = 0 ∧ MEF I I' r 2 ∧ L' = L) ∨ (0 < sc w ∧ r = some (.int (nI (sc w - 1))) ∧ I' = upI I 37 0 w (nI (sc w - 1)) ∧ L' = L)))) I1 L1 r2 I2 L2) := by
  rcases A with ⟨h1, ⟨rfl, rfl⟩, rfl⟩ | ⟨w, hw, rfl, hA⟩
  · refine ⟨KM.ref, ⟨_, rfl⟩, fun I2 L2 r2 B => ?_⟩
    rcases B with ⟨-, ⟨rfl, rfl⟩, rfl⟩ | ⟨w, hw, e1, -⟩
    · exact ⟨rfl, hR.ref⟩
    · exact absurd ⟨w, hw, e1⟩ h1
  · obtain ⟨hn4, hl1, hl5, hs16⟩ := hN.fc hw
    rcases hA with ⟨h1, ⟨rfl, rfl⟩, rfl⟩ | ⟨h1, rfl, rfl, rfl⟩
    · refine ⟨KM.ref, ⟨_, rfl⟩, fun I2 L2 r2 B => ?_⟩
      rcases B with ⟨b1, -⟩ | ⟨w2, hw2, e1, hB⟩
      · exact absurd ⟨w, hw, rfl⟩ b1
      · have := eqt (by omega) (by omega) e1
        subst this
        rcases hB with ⟨-, ⟨rfl, rfl⟩, rfl⟩ | ⟨b1, -⟩
        · exact ⟨rfl, hR.ref⟩
        · omega
    · refine ⟨KM.of (ks := [5]) (ps := []) (ls := []) Un.upk UL.rf (by decide), ⟨_, rfl⟩, fun I2 L2 r2 B => ?_⟩
      rcases B with ⟨b1, -⟩ | ⟨w2, hw2, e1, hB⟩
      · exact absurd ⟨w, hw, rfl⟩ b1
      · have := eqt (by omega) (by omega) e1
        subst this
        rcases hB with ⟨b1, -⟩ | ⟨-, rfl, rfl, rfl⟩
        · omega
        · exact ⟨rfl, hR.setN (ks := [5] ++ [37]) (ps := [] ++ []) (ls := []) (Un.upk.tr Un.upk) UL.rf (by decide) (by decide) (by decide) (by decide) (back_N hN hw)⟩
theorem J_unnet (hR : RR I L) (hN : RN I n ln sc kd pl wt) (A : (fun r I' L' => ((n = 0 ∧ REF I I' r 2) ∨ (0 < n ∧ r = some (.int (nI (n - 1))) ∧ I' = upI I 0 0 3 (nI (n - 1)))) ∧ L' = L) r I1 L1) : JointI I L I1 L1 r (fun I2 L2 r2 => (fun (I : TI) (L : TL) => fun r I' L' => ((n = 0 ∧ MEF I I' r 2) ∨ (0 < n ∧ r = some (.int (nI (n - 1))) ∧ I' = upI I 30 0 11 (nI (n - 1)))) ∧ L' = L) I1 L1 r2 I2 L2) := by
  rcases A with ⟨⟨h1, rfl, rfl⟩ | ⟨h1, rfl, rfl⟩, rfl⟩
  · refine ⟨KM.ref, ⟨_, rfl⟩, fun I2 L2 r2 B => ?_⟩
    rcases B with ⟨⟨-, rfl, rfl⟩ | ⟨b1, -⟩, rfl⟩
    · exact ⟨rfl, hR.ref⟩
    · omega
  · refine ⟨KM.of (ks := []) (ps := [(0, 3)]) (ls := []) Un.up UL.rf (by decide), ⟨_, rfl⟩, fun I2 L2 r2 B => ?_⟩
    rcases B with ⟨⟨b1, -⟩ | ⟨-, rfl, rfl⟩, rfl⟩
    · omega
    · exact ⟨rfl, hR.setN (ks := [] ++ []) (ps := [(0, 3)] ++ [(30, 11)]) (ls := []) (Un.up.tr Un.up) UL.rf (by decide) (by decide) (by decide) (by decide) (unnet_N hN)⟩
theorem sameF {w f' t' w2 f2 t2 : Nat} (hN : RN I n ln sc kd pl wt) (hw : w < n) (h1 : f' < 2 ^ ln w) (h2 : t' < 2 ^ ln w) (hw2 : w2 < n) (g1 : f2 < 2 ^ ln w2) (g2 : t2 < 2 ^ ln w2) (e1 : nI w = nI w2) (e2 : nI f' = nI f2) (e3 : nI t' = nI t2) : w2 = w ∧ f2 = f' ∧ t2 = t' := by
  obtain ⟨hn4, hl1, hl5, hs16⟩ := hN.fc hw
  have hp := pow32 hl5
  have := eqt (by omega) (by omega) e1
  subst this
  exact ⟨rfl, eqt (by omega) (by omega) e2, eqt (by omega) (by omega) e3⟩
theorem J_families {x f t : Int32} (hR : RR I L) (hN : RN I n ln sc kd pl wt) (A : (fun r I' L' => (¬ inS n ln ln x f t ∧ r = some (.int (-nI 3)) ∧ I' = rfI I 3 ∧ L' = L) ∨ (∃ w f' t', w < n ∧ x = nI w ∧ 1 ≤ f' ∧ f' < 2 ^ ln w ∧ 1 ≤ t' ∧ t' < 2 ^ ln w ∧ f = nI f' ∧ t = nI t' ∧ ((¬ pc5 f' = pc5 t' ∧ r = some (.int (-nI 7)) ∧ I' = rfI I 7 ∧ L' = L) ∨ (pc5 f' = pc5 t' ∧ r = some (.int (wy (sc w) (kd w) (pl w) (wvl 0 (wt w)) t' (sc w) f').toInt32) ∧ I' = I ∧ FL [(16, 0)] L L')))) r I1 L1) : JointI I L I1 L1 r (fun I2 L2 r2 => (fun (I : TI) (L : TL) => fun r I' L' => (¬ inS n ln ln x f t ∧ r = some (.int (-nI 3)) ∧ I' = rfM I 3 ∧ L' = L) ∨ (∃ w f' t', w < n ∧ x = nI w ∧ 1 ≤ f' ∧ f' < 2 ^ ln w ∧ 1 ≤ t' ∧ t' < 2 ^ ln w ∧ f = nI f' ∧ t = nI t' ∧ ((¬ pc5 f' = pc5 t' ∧ r = some (.int (-nI 7)) ∧ I' = rfM I 7 ∧ L' = L) ∨ (pc5 f' = pc5 t' ∧ r = some (.int (wy (sc w) (kd w) (pl w) (wvl 0 (wt w)) t' (sc w) f').toInt32) ∧ Fr [(44, 0)] I I' ∧ FL [(45, 0)] L L')))) I1 L1 r2 I2 L2) := by
  rcases A with ⟨h1, rfl, rfl, rfl⟩ | ⟨w, f', t', hw, rfl, hf1, hf2, ht1, ht2, rfl, rfl, hA⟩
  · refine ⟨KM.ref, ⟨_, rfl⟩, fun I2 L2 r2 B => ?_⟩
    rcases B with ⟨-, rfl, rfl, rfl⟩ | ⟨w, f', t', hw, e1, g1, g2, g3, g4, e2, e3, -⟩
    · exact ⟨rfl, hR.ref⟩
    · exact absurd ⟨w, hw, e1, ⟨f', g1, g2, e2⟩, ⟨t', g3, g4, e3⟩⟩ h1
  · have hin : inS n ln ln (nI w) (nI f') (nI t') := ⟨w, hw, rfl, ⟨f', hf1, hf2, rfl⟩, ⟨t', ht1, ht2, rfl⟩⟩
    rcases hA with ⟨a1, rfl, rfl, rfl⟩ | ⟨a1, rfl, rfl, a2⟩
    · refine ⟨KM.ref, ⟨_, rfl⟩, fun I2 L2 r2 B => ?_⟩
      rcases B with ⟨b1, -⟩ | ⟨w2, f2, t2, hw2, e1, g1, g2, g3, g4, e2, e3, hB⟩
      · exact absurd hin b1
      · obtain ⟨rfl, rfl, rfl⟩ := sameF hN hw hf2 ht2 hw2 g2 g4 e1 e2 e3
        rcases hB with ⟨-, rfl, rfl, rfl⟩ | ⟨b1, -⟩
        · exact ⟨rfl, hR.ref⟩
        · exact absurd b1 a1
    · refine ⟨KM.of (ks := []) (ps := []) Un.rf (UL.fl a2) (by decide), ⟨_, rfl⟩, fun I2 L2 r2 B => ?_⟩
      rcases B with ⟨b1, -⟩ | ⟨w2, f2, t2, hw2, e1, g1, g2, g3, g4, e2, e3, hB⟩
      · exact absurd hin b1
      · obtain ⟨rfl, rfl, rfl⟩ := sameF hN hw hf2 ht2 hw2 g2 g4 e1 e2 e3
        rcases hB with ⟨b1, -⟩ | ⟨-, rfl, b2, b3⟩
        · exact absurd a1 b1
        · exact ⟨rfl, hR.un (Un.fr b2) ((UL.fl a2).tr (UL.fl b3)) (by decide) (by decide) (by decide) (by decide) (by decide)⟩
theorem J_weight {x f t : Int32} (hR : RR I L) (hN : RN I n ln sc kd pl wt) (A : (fun r I' L' => (¬ inS n ln ln x f t ∧ r = some (.long 0) ∧ I' = rfI I 3 ∧ L' = L) ∨ (∃ w f' t', w < n ∧ x = nI w ∧ 1 ≤ f' ∧ f' < 2 ^ ln w ∧ 1 ≤ t' ∧ t' < 2 ^ ln w ∧ f = nI f' ∧ t = nI t' ∧ ((¬ pc5 f' = pc5 t' ∧ r = some (.long 0) ∧ I' = rfI I 7 ∧ L' = L) ∨ (pc5 f' = pc5 t' ∧ r = some (.long (wy (sc w) (kd w) (pl w) (wvl 1 (wt w)) t' (sc w) f')) ∧ I' = I ∧ FL [(16, 0)] L L')))) r I1 L1) : JointL I L I1 L1 r (fun I2 L2 r2 => (fun (I : TI) (L : TL) => fun r I' L' => (¬ inS n ln ln x f t ∧ r = some (.long 0) ∧ I' = rfM I 3 ∧ L' = L) ∨ (∃ w f' t', w < n ∧ x = nI w ∧ 1 ≤ f' ∧ f' < 2 ^ ln w ∧ 1 ≤ t' ∧ t' < 2 ^ ln w ∧ f = nI f' ∧ t = nI t' ∧ ((¬ pc5 f' = pc5 t' ∧ r = some (.long 0) ∧ I' = rfM I 7 ∧ L' = L) ∨ (pc5 f' = pc5 t' ∧ r = some (.long (wy (sc w) (kd w) (pl w) (wvl 1 (wt w)) t' (sc w) f')) ∧ Fr [(44, 0)] I I' ∧ FL [(45, 0)] L L')))) I1 L1 r2 I2 L2) := by
  rcases A with ⟨h1, rfl, rfl, rfl⟩ | ⟨w, f', t', hw, rfl, hf1, hf2, ht1, ht2, rfl, rfl, hA⟩
  · refine ⟨KM.ref, ⟨_, rfl⟩, fun I2 L2 r2 B => ?_⟩
    rcases B with ⟨-, rfl, rfl, rfl⟩ | ⟨w, f', t', hw, e1, g1, g2, g3, g4, e2, e3, -⟩
    · exact ⟨rfl, hR.ref⟩
    · exact absurd ⟨w, hw, e1, ⟨f', g1, g2, e2⟩, ⟨t', g3, g4, e3⟩⟩ h1
  · have hin : inS n ln ln (nI w) (nI f') (nI t') := ⟨w, hw, rfl, ⟨f', hf1, hf2, rfl⟩, ⟨t', ht1, ht2, rfl⟩⟩
    rcases hA with ⟨a1, rfl, rfl, rfl⟩ | ⟨a1, rfl, rfl, a2⟩
    · refine ⟨KM.ref, ⟨_, rfl⟩, fun I2 L2 r2 B => ?_⟩
      rcases B with ⟨b1, -⟩ | ⟨w2, f2, t2, hw2, e1, g1, g2, g3, g4, e2, e3, hB⟩
      · exact absurd hin b1
      · obtain ⟨rfl, rfl, rfl⟩ := sameF hN hw hf2 ht2 hw2 g2 g4 e1 e2 e3
        rcases hB with ⟨-, rfl, rfl, rfl⟩ | ⟨b1, -⟩
        · exact ⟨rfl, hR.ref⟩
        · exact absurd b1 a1
    · refine ⟨KM.of (ks := []) (ps := []) Un.rf (UL.fl a2) (by decide), ⟨_, rfl⟩, fun I2 L2 r2 B => ?_⟩
      rcases B with ⟨b1, -⟩ | ⟨w2, f2, t2, hw2, e1, g1, g2, g3, g4, e2, e3, hB⟩
      · exact absurd hin b1
      · obtain ⟨rfl, rfl, rfl⟩ := sameF hN hw hf2 ht2 hw2 g2 g4 e1 e2 e3
        rcases hB with ⟨b1, -⟩ | ⟨-, rfl, b2, b3⟩
        · exact absurd a1 b1
        · exact ⟨rfl, hR.un (Un.fr b2) ((UL.fl a2).tr (UL.fl b3)) (by decide) (by decide) (by decide) (by decide) (by decide)⟩
theorem J_family {x f t told : Int32} (hR : RR I L) (hN : RN I n ln sc kd pl wt) (A : (fun r I' L' => (¬ inS n ln ln x f t ∧ r = some (.int (-nI 3)) ∧ I' = rfI I 3 ∧ L' = L) ∨ (∃ w f' t', w < n ∧ x = nI w ∧ 1 ≤ f' ∧ f' < 2 ^ ln w ∧ 1 ≤ t' ∧ t' < 2 ^ ln w ∧ f = nI f' ∧ t = nI t' ∧ ((¬ pc5 f' = pc5 t' ∧ r = some (.int (-nI 7)) ∧ I' = rfI I 7 ∧ L' = L) ∨ (pc5 f' = pc5 t' ∧ FL [(16, 0)] L L' ∧ ((¬ (∃ k' s', k' < 2 ^ 20 ∧ s' ≤ sc w ∧ sc w ≤ 16 ∧ told = nI (s' * 2 ^ 20 + k') ∧ (nI k').toInt64 < wy (sc w) (kd w) (pl w) (wvl 0 (wt w)) t' (sc w) f') ∧ r = some (.int (-nI 3)) ∧ I' = rfI I 3) ∨ (∃ k' s', k' < 2 ^ 20 ∧ s' ≤ sc w ∧ sc w ≤ 16 ∧ told = nI (s' * 2 ^ 20 + k') ∧ (nI k').toInt64 < wy (sc w) (kd w) (pl w) (wvl 0 (wt w)) t' (sc w) f' ∧ r = some (.int (nI (wk (kd w) (pl w) (fun s T => wy (sc w) (kd w) (pl w) (wvl 0 (wt w)) t' (sc w - s) T) f' (nI k').toInt64 s').1)) ∧ I' = I)))))) r I1 L1) : JointI I L I1 L1 r (fun I2 L2 r2 => (fun (I : TI) (L : TL) => fun r I' L' => (¬ inS n ln ln x f t ∧ r = some (.int (-nI 3)) ∧ I' = rfM I 3 ∧ L' = L) ∨ (∃ w f' t', w < n ∧ x = nI w ∧ 1 ≤ f' ∧ f' < 2 ^ ln w ∧ 1 ≤ t' ∧ t' < 2 ^ ln w ∧ f = nI f' ∧ t = nI t' ∧ ((¬ pc5 f' = pc5 t' ∧ r = some (.int (-nI 7)) ∧ I' = rfM I 7 ∧ L' = L) ∨ (pc5 f' = pc5 t' ∧ FL [(45, 0)] L L' ∧ ((¬ (∃ k' s', k' < 2 ^ 20 ∧ s' ≤ sc w ∧ sc w ≤ 16 ∧ told = nI (s' * 2 ^ 20 + k') ∧ (nI k').toInt64 < (wy (sc w) (kd w) (pl w) (wvl 0 (wt w)) t' (sc w) f')) ∧ r = some (.int (-nI 3)) ∧ ∃ I1, Fr [(44, 0)] I I1 ∧ I' = rfM I1 3) ∨ (∃ k' s', k' < 2 ^ 20 ∧ s' ≤ sc w ∧ sc w ≤ 16 ∧ told = nI (s' * 2 ^ 20 + k') ∧ (nI k').toInt64 < (wy (sc w) (kd w) (pl w) (wvl 0 (wt w)) t' (sc w) f') ∧ r = some (.int (nI (wk (kd w) (pl w) (fun s T => wy (sc w) (kd w) (pl w) (wvl 0 (wt w)) t' (sc w - s) T) f' (nI k').toInt64 s').1)) ∧ Fr [(44, 0)] I I')))))) I1 L1 r2 I2 L2) := by
  rcases A with ⟨h1, rfl, rfl, rfl⟩ | ⟨w, f', t', hw, rfl, hf1, hf2, ht1, ht2, rfl, rfl, hA⟩
  · refine ⟨KM.ref, ⟨_, rfl⟩, fun I2 L2 r2 B => ?_⟩
    rcases B with ⟨-, rfl, rfl, rfl⟩ | ⟨w, f', t', hw, e1, g1, g2, g3, g4, e2, e3, -⟩
    · exact ⟨rfl, hR.ref⟩
    · exact absurd ⟨w, hw, e1, ⟨f', g1, g2, e2⟩, ⟨t', g3, g4, e3⟩⟩ h1
  · have hin : inS n ln ln (nI w) (nI f') (nI t') := ⟨w, hw, rfl, ⟨f', hf1, hf2, rfl⟩, ⟨t', ht1, ht2, rfl⟩⟩
    rcases hA with ⟨a1, rfl, rfl, rfl⟩ | ⟨a1, a2, hA⟩
    · refine ⟨KM.ref, ⟨_, rfl⟩, fun I2 L2 r2 B => ?_⟩
      rcases B with ⟨b1, -⟩ | ⟨w2, f2, t2, hw2, e1, g1, g2, g3, g4, e2, e3, hB⟩
      · exact absurd hin b1
      · obtain ⟨rfl, rfl, rfl⟩ := sameF hN hw hf2 ht2 hw2 g2 g4 e1 e2 e3
        rcases hB with ⟨-, rfl, rfl, rfl⟩ | ⟨b1, -⟩
        · exact ⟨rfl, hR.ref⟩
        · exact absurd b1 a1
    · rcases hA with ⟨h1, rfl, rfl⟩ | ⟨k', s', p1, p2, p3, p4, p5, rfl, rfl⟩
      · refine ⟨KM.of (ks := [11]) (ps := []) Un.upk (UL.fl a2) (by decide), ⟨_, rfl⟩, fun I2 L2 r2 B => ?_⟩
        rcases B with ⟨b1, -⟩ | ⟨w2, f2, t2, hw2, e1, g1, g2, g3, g4, e2, e3, hB⟩
        · exact absurd hin b1
        · obtain ⟨rfl, rfl, rfl⟩ := sameF hN hw hf2 ht2 hw2 g2 g4 e1 e2 e3
          rcases hB with ⟨b1, -⟩ | ⟨-, b2, ⟨-, rfl, I9, b3, rfl⟩ | ⟨k', s', q1, q2, q3, q4, q5, -⟩⟩
          · exact absurd a1 b1
          · exact ⟨rfl, hR.ref2 b3 ((UL.fl a2).tr (UL.fl b2)) (by decide)⟩
          · exact absurd ⟨k', s', q1, q2, q3, q4, q5⟩ h1
      · refine ⟨KM.of (ks := []) (ps := []) Un.rf (UL.fl a2) (by decide), ⟨_, rfl⟩, fun I2 L2 r2 B => ?_⟩
        rcases B with ⟨b1, -⟩ | ⟨w2, f2, t2, hw2, e1, g1, g2, g3, g4, e2, e3, hB⟩
        · exact absurd hin b1
        · obtain ⟨rfl, rfl, rfl⟩ := sameF hN hw hf2 ht2 hw2 g2 g4 e1 e2 e3
          rcases hB with ⟨b1, -⟩ | ⟨-, b2, ⟨b1, -⟩ | ⟨k2, s2, q1, q2, q3, q4, q5, rfl, b3⟩⟩
          · exact absurd a1 b1
          · exact absurd ⟨k', s', p1, p2, p3, p4, p5⟩ b1
          · have e := (nI_eq (by omega) (by omega)).mp (p4.symm.trans q4)
            have ek : k2 = k' := by omega
            have es : s2 = s' := by omega
            subst ek
            subst es
            exact ⟨rfl, hR.un (Un.fr b3) ((UL.fl a2).tr (UL.fl b2)) (by decide) (by decide) (by decide) (by decide) (by decide)⟩
theorem J_made {c : Nat} {ro co : Nat → Nat} {x : Int32} (hT : RT I c ro co) (hX : RX I L) (hN : RN I n ln sc kd pl wt) (A : (fun r I' L' => (¬ isT n x ∧ REF I I' r 3 ∧ L' = L) ∨ (∃ w, w < n ∧ x = nI w ∧ ((c = 12 ∧ REF I I' r 8 ∧ L' = L) ∨ (c < 12 ∧ ResT I I' r c (ln w) (ln w) (nI 1) (nI w) (fun i j => wy (sc w) (kd w) (pl w) (wvl 1 (wt w)) (2 ^ j) (sc w) (2 ^ i)) ∧ FL [(16, 0)] L L')))) r I1 L1) : JointI I L I1 L1 r (fun I2 L2 r2 => (fun (I : TI) (L : TL) => fun r I' L' => (¬ isT n x ∧ MEF I I' r 3 ∧ L' = L) ∨ (∃ w, w < n ∧ x = nI w ∧ ResN I I' r c (ln w) w (fun i j => wy (sc w) (kd w) (pl w) (wvl 1 (wt w)) (2 ^ j) (sc w) (2 ^ i)) ∧ FL [(43, 0)] L L')) I1 L1 r2 I2 L2) := by
  rcases A with ⟨h1, ⟨rfl, rfl⟩, rfl⟩ | ⟨w, hw, rfl, hA⟩
  · refine ⟨KM.ref, ⟨_, rfl⟩, fun I2 L2 r2 B => ?_⟩
    rcases B with ⟨-, ⟨rfl, rfl⟩, rfl⟩ | ⟨w, hw, e1, -⟩
    · exact ⟨rfl, (RR.mk hT hX).ref⟩
    · exact absurd ⟨w, hw, e1⟩ h1
  · obtain ⟨hn4, hl1, hl5, hs16⟩ := hN.fc hw
    have hL : UL [16] L L1 := by
      rcases hA with ⟨-, -, h⟩ | ⟨-, -, h⟩
      · rw [h]
        exact UL.id
      · exact UL.fl h
    obtain ⟨k, vv, j⟩ := J_res hT hX hl1 hl5 hl1 hl5 (hA.imp (fun q => ⟨q.1, q.2.1⟩) (fun q => ⟨q.1, q.2.1⟩)) hL
    refine ⟨k, vv, fun I2 L2 r2 B => ?_⟩
    rcases B with ⟨b1, -⟩ | ⟨w2, hw2, e1, b1, b2⟩
    · exact absurd ⟨w, hw, rfl⟩ b1
    · have := eqt (by omega) (by omega) e1
      subst this
      exact j I2 L2 r2 _ (fun _ _ _ _ => rfl) (UL.fl b2) (Or.inr ⟨w2, rfl, rfl, rfl, b1⟩)
end JNC

