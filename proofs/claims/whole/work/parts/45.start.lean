/-! all cells together: the world of a run -/
def ORD : List (Nat × Nat) := [(0, 0), (1, 0), (4, 0), (9, 0), (10, 0), (11, 0), (12, 0), (13, 0), (14, 0), (15, 0), (16, 0), (17, 0), (18, 0), (19, 0), (20, 0), (21, 0), (22, 0), (23, 0), (2, 0), (3, 0), (2, 1), (3, 1), (2, 2), (3, 2), (2, 3), (3, 3), (2, 4), (3, 4), (2, 5), (3, 5), (2, 6), (3, 6), (2, 7), (3, 7), (2, 8), (3, 8), (2, 9), (3, 9), (2, 10), (3, 10), (2, 11), (3, 11), (5, 0), (6, 0), (7, 0), (8, 0), (5, 1), (6, 1), (7, 1), (8, 1), (5, 2), (6, 2), (7, 2), (8, 2), (5, 3), (6, 3), (7, 3), (8, 3), (30, 0), (31, 0), (32, 0), (33, 0), (34, 0), (35, 0), (36, 0), (37, 0), (38, 0), (39, 0), (40, 0), (41, 0), (42, 0), (43, 0), (44, 0), (45, 0), (46, 0), (47, 0), (48, 0), (49, 0), (50, 0), (51, 0), (52, 0), (53, 0)]
theorem dl_ord : ∀ q ∈ DL, q ∈ ORD := by decide +kernel
theorem arrV_cg {c : ClassId} {n : Nat} {f g : Nat → Value} (h : ∀ j, j < n → f j = g j) : arrV c n f = arrV c n g := by
  unfold arrV
  congr 1
  apply Array.ext
  · simp
  · intro i h1 h2
    simp only [Array.getElem_ofFn]
    exact h i (by simpa using h1)
def adr (r m : Nat → Nat) (g : Nat → Nat × Nat) (u : Nat → Nat × Nat × Nat × Nat) (k j : Nat) : Nat := match k with
  | 2 => (g j).1
  | 3 => (g j).2
  | 5 => (u j).1
  | 6 => (u j).2.1
  | 7 => (u j).2.2.1
  | 8 => (u j).2.2.2
  | k => if k < 30 then r k else m k
def cz (E : VE) (f g : Nat → Option Nat) (k j : Nat) : va_E := match k with
  | 1 => .inl (eC E 2, 12, .inr (.inr (.inr (.inr f))))
  | 4 => .inl (eC E 3, 4, .inr (.inr (.inr (.inr g))))
  | k => cef E k j (fun _ => 0) (fun _ => 0)
theorem list_fn {α : Type} [Inhabited α] (l : List α) : ∃ f : Nat → α, l = (List.range l.length).map f := by
  refine ⟨fun i => l.getD i default, ?_⟩
  apply List.ext_getElem?
  intro i
  rw [List.getElem?_map]
  by_cases h : i < l.length
  · rw [List.getElem?_range h, List.getElem?_eq_getElem h]
    simp [h]
  · rw [List.getElem?_eq_none (by omega), List.getElem?_eq_none (by rw [List.length_range]; omega)]
    rfl
set_option maxRecDepth 10000 in
theorem world_eq {E : VE} {h5 h6 : Nat} {w5 w6 : va_W} (H5 : Sh5 E h5 w5) (H6 : Sh6 E h6 w6) : ∃ (eA : Nat → Nat → Nat) (f g : Nat → Option Nat), eA 0 0 = h5 ∧ eA 30 0 = h6 ∧ (∀ j, j < 12 → f j = some (eA 2 j)) ∧ (∀ j, j < 4 → g j = some (eA 5 j)) ∧ w5 ++ w6 = ORD.map (fun q => (eA q.1 q.2, cz (E.1, E.2.1, eA, E.2.2.2) f g q.1 q.2)) := by
  obtain ⟨r, gs, us, rfl, hg, hu, rfl⟩ := H5
  obtain ⟨q1, q2, q3, q4, q5, q6, q7, q8, q9, q10, q11, q12, q13, q14, q15, q16, q17, q18, q19, q20, q21, q22, q23, rfl⟩ := H6
  obtain ⟨g, e1⟩ := list_fn gs
  obtain ⟨u, e2⟩ := list_fn us
  rw [hg] at e1
  rw [hu] at e2
  subst e1
  subst e2
  refine ⟨adr r (fun k => match k with | 30 => h6 | 31 => q1 | 32 => q2 | 33 => q3 | 34 => q4 | 35 => q5 | 36 => q6 | 37 => q7 | 38 => q8 | 39 => q9 | 40 => q10 | 41 => q11 | 42 => q12 | 43 => q13 | 44 => q14 | 45 => q15 | 46 => q16 | 47 => q17 | 48 => q18 | 49 => q19 | 50 => q20 | 51 => q21 | 52 => q22 | 53 => q23 | _ => 0) g u, _, _, rfl, rfl, ?_, ?_, rfl⟩
  · intro j hj
    unfold gF
    rw [List.getElem?_map, List.getElem?_map, List.getElem?_range hj]
    rfl
  · intro j hj
    unfold uF
    rw [List.getElem?_map, List.getElem?_map, List.getElem?_range hj]
    rfl
theorem cz_off {E : VE} {f g : Nat → Option Nat} {k j : Nat} (h1 : k ≠ 1) (h4 : k ≠ 4) : cz E f g k j = cef E k j (fun _ => 0) (fun _ => 0) := by
  unfold cz
  split
  · exact absurd rfl h1
  · exact absurd rfl h4
  · rfl
theorem world_all {D : va_G} {cl : Nat → ClassId} {h5 h6 sz N : Nat} {eA0 : Nat → Nat → Nat} {w5 w6 : va_W} {H : Heap} (H5 : Sh5 (D, cl, eA0, sz) h5 w5) (H6 : Sh6 (D, cl, eA0, sz) h6 w6) (hP : va_P D vwCl (w5 ++ w6) H) (hD : va_D (fun q => sz ≤ q) (w5 ++ w6)) : ∃ eA : Nat → Nat → Nat, eA 0 0 = h5 ∧ eA 30 0 = h6 ∧ va_P D vwCl (wl (D, cl, eA, sz) (fun _ _ _ => 0) (fun _ _ _ => 0)) H ∧ EOk (D, cl, eA, sz) := by
  obtain ⟨eA, f, g, a1, a2, hf, hg, hw⟩ := world_eq H5 H6
  rw [hw] at hP hD
  have hget : ∀ {k j : Nat}, (k, j) ∈ DL → ∃ i, ORD[i]? = some (k, j) := fun h => List.getElem?_of_mem (dl_ord _ h)
  refine ⟨eA, a1, a2, ?_, ?_⟩
  · intro n q hq
    obtain ⟨⟨k, j⟩, hd, rfl⟩ := List.mem_map.mp (List.mem_of_getElem? hq)
    obtain ⟨i, hi⟩ := hget hd
    have h1 := hP i _ (by rw [List.getElem?_map, hi]; rfl)
    by_cases e1 : k = 1
    · subst e1
      refine h1.trans ?_
      exact congrArg some (arrV_cg (f := fun j => va_rf (f j)) (g := fun j => va_rf (some (eA 2 j))) (fun j hj => by show va_rf (f j) = va_rf (some (eA 2 j)); rw [hf j hj]))
    · by_cases e4 : k = 4
      · subst e4
        refine h1.trans ?_
        exact congrArg some (arrV_cg (f := fun j => va_rf (g j)) (g := fun j => va_rf (some (eA 5 j))) (fun j hj => by show va_rf (g j) = va_rf (some (eA 5 j)); rw [hg j hj]))
      · have h2 : va_at D vwCl (eA k j, cz (D, cl, eA, sz) f g k j) H := h1
        rw [cz_off e1 e4] at h2
        exact h2
  · intro I L
    refine ⟨fun i j p q hp hq he => ?_, fun n q hq => ?_⟩
    · unfold wl at hp hq
      rw [List.getElem?_map] at hp hq
      obtain ⟨⟨k, x⟩, hp1, rfl⟩ := Option.map_eq_some_iff.mp hp
      obtain ⟨⟨k', x'⟩, hq1, rfl⟩ := Option.map_eq_some_iff.mp hq
      obtain ⟨i1, hi1⟩ := hget (List.mem_of_getElem? hp1)
      obtain ⟨j1, hj1⟩ := hget (List.mem_of_getElem? hq1)
      have e := hD.1 i1 j1 (eA k x, cz (D, cl, eA, sz) f g k x) (eA k' x', cz (D, cl, eA, sz) f g k' x') (by rw [List.getElem?_map, hi1]; rfl) (by rw [List.getElem?_map, hj1]; rfl) he
      subst e
      exact dl_inj i (List.getElem?_eq_some_iff.mp hp1).1 j (List.getElem?_eq_some_iff.mp hq1).1 (hp1.trans ((hi1.symm.trans hj1).trans hq1.symm))
    · obtain ⟨⟨k, x⟩, hd, rfl⟩ := List.mem_map.mp (List.mem_of_getElem? hq)
      obtain ⟨i1, hi1⟩ := hget hd
      exact hD.2 i1 (eA k x, cz (D, cl, eA, sz) f g k x) (by rw [List.getElem?_map, hi1]; rfl)
theorem rr0 : RR (fun _ _ _ => 0) (fun _ _ _ => 0) := by
  refine ⟨⟨0, fun _ => 0, fun _ => 0, ⟨rfl, by omega, fun t h => absurd h (by omega)⟩, ⟨rfl, by omega, fun t h => absurd h (by omega)⟩, fun t h => absurd h (by omega)⟩, ⟨0, fun _ => 0, fun _ => 0, fun _ _ => 0, fun _ _ => 0, fun _ _ => 0, ⟨rfl, by omega, fun t h => absurd h (by omega)⟩, ⟨rfl, by omega, fun t h => absurd h (by omega)⟩⟩, ⟨0, by omega, rfl, rfl, fun h => absurd h (by omega)⟩, fun _ _ _ => rfl, [], ⟨rfl, fun i q h => by cases h⟩, ⟨rfl, fun i q h => by cases h⟩, by decide⟩

theorem nw_f : ∀ q ∈ nwF, Cond.fieldLinkNest q.1 q.2.1 q.2.2.1 q.2.2.2.1 q.2.2.2.2.1 q.2.2.2.2.2 ∈ lw_tbl := by decide +kernel
theorem nw_m : ∀ q ∈ nwM, Cond.methodLinkNest q.1 q.2.1 q.2.2.1 q.2.2.2 ∈ lw_tbl := by decide +kernel
theorem ao_0 : Cond.arrayOver (.object RX0) ∈ lw_tbl := by decide +kernel
theorem ao_3 : Cond.arrayOver (.object RX3) ∈ lw_tbl := by decide +kernel
theorem start_nw {args : Array Value} {s : State} (hts : ∀ w ∈ lw_tbl, w.before args s = true) : NWA s :=
  ⟨⟨fun q hq => va_Nw.of rfl (hts _ (nw_f q hq)), fun q hq => va_Nw.of rfl (hts _ (nw_m q hq))⟩, va_AO.of (hts _ ao_0), va_AO.of (hts _ ao_3)⟩
theorem start_ws {args : Array Value} {s : State} (hts : ∀ w ∈ lw_tbl, w.before args s = true) : ∀ w ∈ WS, w.before args s = true := fun w hw => hts w (List.mem_filter.mp hw).1
theorem start_K {args : Array Value} {s : State} (hts : ∀ w ∈ lw_tbl, w.before args s = true) : ∃ (D : va_G) (cl : Nat → ClassId), ∀ eA sz, va_K D vwCl (ve_tys (D, cl, eA, sz)) s := by
  have hw := start_ws hts
  obtain ⟨c0, i0, h0⟩ := u_known (T := TX0) (N := 6) (n := 6) hw inW0 (hw _ (ws_of (i := 132) (by decide +kernel) (by decide +kernel)))
  obtain ⟨c1, i1, h1⟩ := u_known (T := TX1) (N := 10) (n := 10) hw inW1 (hw _ (ws_of (i := 91) (by decide +kernel) (by decide +kernel)))
  obtain ⟨c2, i2, h2⟩ := u_known (T := TX2) (N := 1) (n := 1) hw inW2 (hw _ (ws_of (i := 81) (by decide +kernel) (by decide +kernel)))
  obtain ⟨c3, i3, h3⟩ := u_known (T := TX3) (N := 5) (n := 5) hw inW3 (hw _ (ws_of (i := 164) (by decide +kernel) (by decide +kernel)))
  obtain ⟨c4, i4, h4⟩ := u_known (T := TX4) (N := 2) (n := 2) hw inW4 (hw _ (ws_of (i := 66) (by decide +kernel) (by decide +kernel)))
  obtain ⟨c5, i5, h5⟩ := u_known (T := TX5) (N := 11) (n := 11) hw inW5 (hw _ (ws_of (i := 54) (by decide +kernel) (by decide +kernel)))
  obtain ⟨c6, i6, h6⟩ := u_known (T := TX6) (N := 37) (n := 37) hw inW6 (hw _ (ws_of (i := 573) (by decide +kernel) (by decide +kernel)))
  obtain ⟨cI, kI, pI, f1, f2, f3⟩ := Cond.arrayClass_spec (hw _ w_ai)
  obtain ⟨cJ, kJ, pJ, j1, j2, j3⟩ := Cond.arrayClass_spec (hw _ w_aj)
  obtain ⟨pG, cG, kG, g1, g2, g3, g4, g5⟩ := Cond.arrayOver_spec (hts _ ao_0)
  obtain ⟨pW, cW, kW, u1, u2, u3, u4, u5⟩ := Cond.arrayOver_spec (hts _ ao_3)
  refine ⟨(fun c => match c with | 0 => c0 | 1 => c1 | 2 => c2 | 3 => c3 | 4 => c4 | 5 => c5 | 6 => c6 | _ => 0, fun c => match c with | 0 => i0 | 1 => i1 | 2 => i2 | 3 => i3 | 4 => i4 | 5 => i5 | 6 => i6 | _ => fun _ => 0), fun c => match c with | 0 => cI | 1 => cJ | 2 => cG | _ => cW, fun eA sz => ⟨?_, ?_⟩⟩
  · intro c q hc
    match c, hc with
    | 0, hc => cases hc; exact h0
    | 1, hc => cases hc; exact h1
    | 2, hc => cases hc; exact h2
    | 3, hc => cases hc; exact h3
    | 4, hc => cases hc; exact h4
    | 5, hc => cases hc; exact h5
    | 6, hc => cases hc; exact h6
    | c + 7, hc => cases hc
  · intro k q hk
    match k, hk with
    | 0, hk => cases hk; exact ⟨fun n z => ⟨fun k h => (by cases h), kI, f2, pI, f3⟩, f1⟩
    | 1, hk => cases hk; exact ⟨fun n z => ⟨fun k h => (by cases h), kJ, j2, pJ, j3⟩, j1⟩
    | 2, hk => cases hk; exact ⟨fun n z => ⟨fun k h => (by cases h), kG, g3, pG, g4⟩, kG, pG, g3, g4, g1, g5⟩
    | 3, hk => cases hk; exact ⟨fun n z => ⟨fun k h => (by cases h), kW, u3, pW, u4⟩, kW, pW, u3, u4, u1, u5⟩
    | k + 4, hk => cases hk

