theorem qc_no {a : Nat → Nat → Int64} {b R C : Nat} {v : Int64} (hv : pc5 C ≤ pc5 R → v = dN a (rsel R) (pc5 C) C) (h : ¬ lowV b v ∨ pc5 R ≠ pc5 C) : ¬ qc a b R C := fun q => by
  rcases h with h | h
  · apply h
    rw [hv (by rw [q.1]; exact Nat.le_refl _), q.1]
    exact q.2
  · exact h q.1.symm
theorem qc_yes {a : Nat → Nat → Int64} {b R C : Nat} {v : Int64} (hv : pc5 C ≤ pc5 R → v = dN a (rsel R) (pc5 C) C) (h : lowV b v) (e : pc5 R = pc5 C) : qc a b R C := by
  refine ⟨e.symm, ?_⟩
  have e2 := hv (by rw [e]; exact Nat.le_refl _)
  rw [← e] at e2
  unfold wrt
  rw [← e2]
  exact h
theorem low_0t {v : Int64} {b : Nat} (hb : b = 0) (h : ¬ 0 ≤ v) : lowV b v := by unfold lowV; rw [if_pos hb]; exact Int64.not_le.mp h
theorem low_0f {v : Int64} {b : Nat} (hb : b = 0) (h : 0 ≤ v) : ¬ lowV b v := by unfold lowV; rw [if_pos hb]; exact Int64.not_lt.mpr h
theorem low_1t {v : Int64} {b : Nat} (hb : 0 < b) (h : ¬ 0 < v) : lowV b v := by unfold lowV; rw [if_neg (by omega)]; exact Int64.not_lt.mp h
theorem low_1f {v : Int64} {b : Nat} (hb : 0 < b) (h : 0 < v) : ¬ lowV b v := by unfold lowV; rw [if_neg (by omega)]; exact Int64.not_le.mpr h
set_option maxHeartbeats 4000000 in
set_option maxRecDepth 100000 in
theorem c_X4_ofPart (l : Launch) (E : VE) (hE : EOk E) (I : TI) (L : TL) (t : Nat) (ht : t < 12) (r c : Nat) (hr : I 2 t 1 = nI r) (hc : I 2 t 2 = nI c) (hr5 : r ≤ 5) (hc5 : c ≤ 5) (R : Nat) (hR : R < 2 ^ r) (C : Nat) (hC : C < 2 ^ c) (hRC : pc5 C = pc5 R) : Ct l E yX4_ofPart cX4_ofPart 4 (some .long) rm_X4_ofPart [.ref (eA E 12 0), .ref (eA E 2 t), .int (nI R), .int (nI C)] I L (fun r9 I' L' => r9 = some (.long (wrt (ent I t) R C)) ∧ Fr [(14, 0)] I I' ∧ FL [(13, 0)] L L') := by
  refine ct_of (by decide +kernel) (Nat.le_of_ble_eq_true rfl) hE ?_
  intro a X Y hl hEE
  subst hl; subst hEE
  have hp := pow32 hc5
  have hpr := pow32 hr5
  have hR32 : R < 32 := by omega
  show V a 0 [(0, .ref (eA (vE a) 12 0)), (1, .ref (eA (vE a) 2 t)), (2, .int (nI R)), (3, .int (nI C))] [] I L
  refine v_aload_n X 0 rfl dX4_ofPart_0 ?_
  refine v_aload_n X 1 rfl dX4_ofPart_1 ?_
  refine v_iload_n X 2 rfl dX4_ofPart_2 ?_
  refine v_callV X (c_X4_findAll _ _ hE _ _ t ht r c (hr) (hc) hr5 hc5 R (hR)) k_X4_19 dl_12 (cef_12 _ _ _ _) rfl ⟨rfl, rfl, Nat.le_of_ble_eq_true rfl, Nat.le_of_ble_eq_true rfl⟩ (As := [.ref (eA (vE a) 2 t), .int (nI R)]) (rest := []) rfl rfl (Nat.le_of_ble_eq_true rfl) dX4_ofPart_3 (fun r3 I3 L3 hp3 => ?_)
  obtain ⟨rfl, hF3, hL3, hf3⟩ := hp3
  refine v_st (st' := []) rfl ?_
  refine v_iload_n X 3 rfl dX4_ofPart_6 ?_
  refine v_if_lt_n X (by omega) dX4_ofPart_7 (tgt := 25) (by decide) ?_
  refine v_iload_n X 3 rfl dX4_ofPart_10 ?_
  refine v_bipush X (v := (nI 32)) dX4_ofPart_11 (by decide) ?_
  refine v_icmp_ge_n X (by omega) (by omega) dX4_ofPart_13 (tgt := 25) (by decide) (fun h13 => ?_) (fun h13 => ?_)
  · exact absurd h13 (by omega)
  · refine v_aload_n X 0 rfl dX4_ofPart_16 ?_
    refine gf_X4_9 X dX4_ofPart_17 ?_
    refine v_iload_n X 3 rfl dX4_ofPart_20 ?_
    refine v_lald_n X dl_13 (fun _ _ => rfl) (n := 32) (by omega) (by decide) dX4_ofPart_21 ?_
    refine v_goto X (tgt := 26) dX4_ofPart_22 (by decide) ?_
    exact v_lret X Y dX4_ofPart_26 (⟨by rw [hf3 C hC (by omega), hRC]; rfl, hF3, hL3⟩)
set_option maxHeartbeats 4000000 in
set_option maxRecDepth 100000 in
theorem c_X4_firstLowColumns (l : Launch) (E : VE) (hE : EOk E) (I : TI) (L : TL) (t : Nat) (ht : t < 12) (r c : Nat) (hr : I 2 t 1 = nI r) (hc : I 2 t 2 = nI c) (hr5 : r ≤ 5) (hc5 : c ≤ 5) (R : Nat) (hR : R < 2 ^ r) (b : Nat) (hb : b < 2) : Ct l E yX4_firstLowColumns cX4_firstLowColumns 6 (some .int) rm_X4_firstLowColumns [.ref (eA E 12 0), .ref (eA E 2 t), .int (nI R), .int (nI b)] I L (fun r9 I' L' => Fr [(14, 0)] I I' ∧ FL [(13, 0)] L L' ∧ ((∃ C, 1 ≤ C ∧ C < 2 ^ c ∧ qc (ent I t) b R C ∧ (∀ D, 1 ≤ D → D < C → ¬ qc (ent I t) b R D) ∧ r9 = some (.int (nI C))) ∨ ((∀ D, 1 ≤ D → D < 2 ^ c → ¬ qc (ent I t) b R D) ∧ r9 = some (.int (-1))))) := by
  refine ct_of (by decide +kernel) (Nat.le_of_ble_eq_true rfl) hE ?_
  intro a X Y hl hEE
  subst hl; subst hEE
  have hp := pow32 hc5
  have hpr := pow32 hr5
  have hR32 : R < 32 := by omega
  show V a 0 [(0, .ref (eA (vE a) 12 0)), (1, .ref (eA (vE a) 2 t)), (2, .int (nI R)), (3, .int (nI b))] [] I L
  refine v_aload_n X 0 rfl dX4_firstLowColumns_0 ?_
  refine v_aload_n X 1 rfl dX4_firstLowColumns_1 ?_
  refine v_iload_n X 2 rfl dX4_firstLowColumns_2 ?_
  refine v_callV X (c_X4_findAll _ _ hE _ _ t ht r c (hr) (hc) hr5 hc5 R (hR)) k_X4_19 dl_12 (cef_12 _ _ _ _) rfl ⟨rfl, rfl, Nat.le_of_ble_eq_true rfl, Nat.le_of_ble_eq_true rfl⟩ (As := [.ref (eA (vE a) 2 t), .int (nI R)]) (rest := []) rfl rfl (Nat.le_of_ble_eq_true rfl) dX4_firstLowColumns_3 (fun r3 I3 L3 hp3 => ?_)
  obtain ⟨rfl, hF3, hL3, hf3⟩ := hp3
  refine v_st (st' := []) rfl ?_
  refine v_iconst X (v := (nI 1)) dX4_firstLowColumns_6 (by decide) ?_
  refine v_istore X [1, 2, 3, 4, 0] (lv' := [(0, .ref (eA (vE a) 12 0)), (1, .ref (eA (vE a) 2 t)), (2, .int (nI R)), (3, .int (nI b)), (4, .int (nI 1))]) (by decide) rfl dX4_firstLowColumns_7 ?_
  have loop9 : ∀ (fu : Nat) (C : Nat), 33 - C < fu → (1 ≤ C) → (C ≤ 2 ^ c) → (∀ D, 1 ≤ D → D < C → ¬ qc (ent I t) b R D) → V a 9 [(0, .ref (eA (vE a) 12 0)), (1, .ref (eA (vE a) 2 t)), (2, .int (nI R)), (3, .int (nI b)), (4, .int (nI C))] [] I3 L3 := by
    intro fu
    induction fu with
    | zero => intro C hm _ _ _; exact absurd hm (Nat.not_lt_zero _)
    | succ fu ih9 =>
      intro C hm9 hC1 hCp hv
      refine v_iload X 4 rfl dX4_firstLowColumns_9 ?_
      refine v_iconst X (v := (nI 1)) dX4_firstLowColumns_11 (by decide) ?_
      refine v_aload_n X 1 rfl dX4_firstLowColumns_12 ?_
      refine gf_X4_29 X ht dX4_firstLowColumns_13 ?_
      refine v_eqi (y := (nI c)) ((Fr.at hF3 (by simp) _).trans (hc)) ?_
      refine v_ishl X dX4_firstLowColumns_16 ?_
      refine v_eqi (y := (nI (2 ^ c))) (sh_one (by omega)) ?_
      refine v_icmp_ge_n X (by omega) (by omega) dX4_firstLowColumns_17 (tgt := 86) (by decide) (fun h17 => ?_) (fun h17 => ?_)
      · refine v_iconst X (v := (-1)) dX4_firstLowColumns_86 (by decide) ?_
        exact v_iret X Y dX4_firstLowColumns_87 (⟨hF3, hL3, Or.inr ⟨fun D h1 h2 => hv D h1 (by omega), rfl⟩⟩)
      · have hCc : C < 2 ^ c := by omega
        refine v_iload_n X 3 rfl dX4_firstLowColumns_20 ?_
        refine v_if_eq_n X (by omega) dX4_firstLowColumns_21 (tgt := 44) (by decide) (fun h21 => ?_) (fun h21 => ?_)
        · refine v_aload_n X 0 rfl dX4_firstLowColumns_44 ?_
          refine gf_X4_9 X dX4_firstLowColumns_45 ?_
          refine v_iload X 4 rfl dX4_firstLowColumns_48 ?_
          refine v_lald_n X dl_13 (fun _ _ => rfl) (n := 32) (by omega) (by decide) dX4_firstLowColumns_50 ?_
          refine v_lconst X (v := 0) dX4_firstLowColumns_51 rfl ?_
          refine v_lcmp_ge X dX4_firstLowColumns_52 dX4_firstLowColumns_53 (tgt := 60) (by decide) (fun h52 => ?_) (fun h52 => ?_)
          · refine v_iconst X (v := (nI 0)) dX4_firstLowColumns_60 (by decide) ?_
            refine v_istore X [1, 2, 3, 4, 5, 0] (lv' := [(0, .ref (eA (vE a) 12 0)), (1, .ref (eA (vE a) 2 t)), (2, .int (nI R)), (3, .int (nI b)), (4, .int (nI C)), (5, .int (nI 0))]) (by decide) rfl dX4_firstLowColumns_61 ?_
            refine v_iload X 5 rfl dX4_firstLowColumns_63 ?_
            refine v_if_eq_n X (by omega) dX4_firstLowColumns_65 (tgt := 80) (by decide) (fun h65 => ?_) (fun h65 => ?_)
            · refine v_iinc X [1, 2, 3, 4, 0, 5] 4 (nI (C + 1)) (lv' := [(0, .ref (eA (vE a) 12 0)), (1, .ref (eA (vE a) 2 t)), (2, .int (nI R)), (3, .int (nI b)), (4, .int (nI (C + 1))), (5, .int (nI 0))]) rfl (nI_1 _) (by decide) rfl dX4_firstLowColumns_80 ?_
              refine v_goto X (tgt := 9) dX4_firstLowColumns_83 (by decide) ?_
              refine v_sub [0, 1, 2, 3, 4] (lv' := [(0, .ref (eA (vE a) 12 0)), (1, .ref (eA (vE a) 2 t)), (2, .int (nI R)), (3, .int (nI b)), (4, .int (nI (C + 1)))]) rfl ?_
              have hno : ¬ qc (ent I t) b R C := qc_no (hf3 C hCc) (Or.inl (low_0f h21 h52))
              have hnew : ∀ D, 1 ≤ D → D < C + 1 → ¬ qc (ent I t) b R D := fun D h1 h2 => by
                rcases Nat.lt_or_ge D C with q | q
                · exact hv D h1 q
                · have e : D = C := by omega
                  rw [e]; exact hno
              exact ih9 (C + 1) (by omega) (by omega) (by omega) hnew
            · exact absurd h65 (by decide)
          · refine v_iconst X (v := (nI 1)) dX4_firstLowColumns_56 (by decide) ?_
            refine v_goto X (tgt := 61) dX4_firstLowColumns_57 (by decide) ?_
            refine v_istore X [1, 2, 3, 4, 5, 0] (lv' := [(0, .ref (eA (vE a) 12 0)), (1, .ref (eA (vE a) 2 t)), (2, .int (nI R)), (3, .int (nI b)), (4, .int (nI C)), (5, .int (nI 1))]) (by decide) rfl dX4_firstLowColumns_61 ?_
            refine v_iload X 5 rfl dX4_firstLowColumns_63 ?_
            refine v_if_eq_n X (by omega) dX4_firstLowColumns_65 (tgt := 80) (by decide) (fun h65 => ?_) (fun h65 => ?_)
            · exact absurd h65 (by decide)
            · refine v_iload_n X 2 rfl dX4_firstLowColumns_68 ?_
              refine v_iload X 4 rfl dX4_firstLowColumns_69 ?_
              refine v_callN X (c_X5_areAsMany _ _ hE _ _ R C (by omega) (by omega)) k_X4_48 ⟨rfl, rfl, Nat.le_of_ble_eq_true rfl, Nat.le_of_ble_eq_true rfl⟩ (As := [.int (nI R), .int (nI C)]) (rest := []) rfl rfl (Nat.le_of_ble_eq_true rfl) dX4_firstLowColumns_71 (fun r71 I71 L71 hp71 => ?_)
              obtain ⟨rfl, e1, e2⟩ := hp71
              have e1 := e1.symm
              have e2 := e2.symm
              subst e1; subst e2
              refine v_st (st' := [.int (bI (pc5 R = pc5 C))]) rfl ?_
              refine v_ifb_eq X dX4_firstLowColumns_74 (tgt := 80) (by decide) (fun h74 => ?_) (fun h74 => ?_)
              · refine v_iinc X [1, 2, 3, 4, 0, 5] 4 (nI (C + 1)) (lv' := [(0, .ref (eA (vE a) 12 0)), (1, .ref (eA (vE a) 2 t)), (2, .int (nI R)), (3, .int (nI b)), (4, .int (nI (C + 1))), (5, .int (nI 1))]) rfl (nI_1 _) (by decide) rfl dX4_firstLowColumns_80 ?_
                refine v_goto X (tgt := 9) dX4_firstLowColumns_83 (by decide) ?_
                refine v_sub [0, 1, 2, 3, 4] (lv' := [(0, .ref (eA (vE a) 12 0)), (1, .ref (eA (vE a) 2 t)), (2, .int (nI R)), (3, .int (nI b)), (4, .int (nI (C + 1)))]) rfl ?_
                have hno : ¬ qc (ent I t) b R C := qc_no (hf3 C hCc) (Or.inr h74)
                have hnew : ∀ D, 1 ≤ D → D < C + 1 → ¬ qc (ent I t) b R D := fun D h1 h2 => by
                  rcases Nat.lt_or_ge D C with q | q
                  · exact hv D h1 q
                  · have e : D = C := by omega
                    rw [e]; exact hno
                exact ih9 (C + 1) (by omega) (by omega) (by omega) hnew
              · refine v_iload X 4 rfl dX4_firstLowColumns_77 ?_
                exact v_iret X Y dX4_firstLowColumns_79 (⟨hF3, hL3, Or.inl ⟨C, hC1, hCc, qc_yes (hf3 C hCc) (low_0t h21 h52) h74, hv, rfl⟩⟩)
        · refine v_aload_n X 0 rfl dX4_firstLowColumns_24 ?_
          refine gf_X4_9 X dX4_firstLowColumns_25 ?_
          refine v_iload X 4 rfl dX4_firstLowColumns_28 ?_
          refine v_lald_n X dl_13 (fun _ _ => rfl) (n := 32) (by omega) (by decide) dX4_firstLowColumns_30 ?_
          refine v_lconst X (v := 0) dX4_firstLowColumns_31 rfl ?_
          refine v_lcmp_gt X dX4_firstLowColumns_32 dX4_firstLowColumns_33 (tgt := 40) (by decide) (fun h32 => ?_) (fun h32 => ?_)
          · refine v_iconst X (v := (nI 0)) dX4_firstLowColumns_40 (by decide) ?_
            refine v_goto X (tgt := 61) dX4_firstLowColumns_41 (by decide) ?_
            refine v_istore X [1, 2, 3, 4, 5, 0] (lv' := [(0, .ref (eA (vE a) 12 0)), (1, .ref (eA (vE a) 2 t)), (2, .int (nI R)), (3, .int (nI b)), (4, .int (nI C)), (5, .int (nI 0))]) (by decide) rfl dX4_firstLowColumns_61 ?_
            refine v_iload X 5 rfl dX4_firstLowColumns_63 ?_
            refine v_if_eq_n X (by omega) dX4_firstLowColumns_65 (tgt := 80) (by decide) (fun h65 => ?_) (fun h65 => ?_)
            · refine v_iinc X [1, 2, 3, 4, 0, 5] 4 (nI (C + 1)) (lv' := [(0, .ref (eA (vE a) 12 0)), (1, .ref (eA (vE a) 2 t)), (2, .int (nI R)), (3, .int (nI b)), (4, .int (nI (C + 1))), (5, .int (nI 0))]) rfl (nI_1 _) (by decide) rfl dX4_firstLowColumns_80 ?_
              refine v_goto X (tgt := 9) dX4_firstLowColumns_83 (by decide) ?_
              refine v_sub [0, 1, 2, 3, 4] (lv' := [(0, .ref (eA (vE a) 12 0)), (1, .ref (eA (vE a) 2 t)), (2, .int (nI R)), (3, .int (nI b)), (4, .int (nI (C + 1)))]) rfl ?_
              have hno : ¬ qc (ent I t) b R C := qc_no (hf3 C hCc) (Or.inl (low_1f h21 h32))
              have hnew : ∀ D, 1 ≤ D → D < C + 1 → ¬ qc (ent I t) b R D := fun D h1 h2 => by
                rcases Nat.lt_or_ge D C with q | q
                · exact hv D h1 q
                · have e : D = C := by omega
                  rw [e]; exact hno
              exact ih9 (C + 1) (by omega) (by omega) (by omega) hnew
            · exact absurd h65 (by decide)
          · refine v_iconst X (v := (nI 1)) dX4_firstLowColumns_36 (by decide) ?_
            refine v_goto X (tgt := 61) dX4_firstLowColumns_37 (by decide) ?_
            refine v_istore X [1, 2, 3, 4, 5, 0] (lv' := [(0, .ref (eA (vE a) 12 0)), (1, .ref (eA (vE a) 2 t)), (2, .int (nI R)), (3, .int (nI b)), (4, .int (nI C)), (5, .int (nI 1))]) (by decide) rfl dX4_firstLowColumns_61 ?_
            refine v_iload X 5 rfl dX4_firstLowColumns_63 ?_
            refine v_if_eq_n X (by omega) dX4_firstLowColumns_65 (tgt := 80) (by decide) (fun h65 => ?_) (fun h65 => ?_)
            · exact absurd h65 (by decide)
            · refine v_iload_n X 2 rfl dX4_firstLowColumns_68 ?_
              refine v_iload X 4 rfl dX4_firstLowColumns_69 ?_
              refine v_callN X (c_X5_areAsMany _ _ hE _ _ R C (by omega) (by omega)) k_X4_48 ⟨rfl, rfl, Nat.le_of_ble_eq_true rfl, Nat.le_of_ble_eq_true rfl⟩ (As := [.int (nI R), .int (nI C)]) (rest := []) rfl rfl (Nat.le_of_ble_eq_true rfl) dX4_firstLowColumns_71 (fun r71 I71 L71 hp71 => ?_)
              obtain ⟨rfl, e1, e2⟩ := hp71
              have e1 := e1.symm
              have e2 := e2.symm
              subst e1; subst e2
              refine v_st (st' := [.int (bI (pc5 R = pc5 C))]) rfl ?_
              refine v_ifb_eq X dX4_firstLowColumns_74 (tgt := 80) (by decide) (fun h74 => ?_) (fun h74 => ?_)
              · refine v_iinc X [1, 2, 3, 4, 0, 5] 4 (nI (C + 1)) (lv' := [(0, .ref (eA (vE a) 12 0)), (1, .ref (eA (vE a) 2 t)), (2, .int (nI R)), (3, .int (nI b)), (4, .int (nI (C + 1))), (5, .int (nI 1))]) rfl (nI_1 _) (by decide) rfl dX4_firstLowColumns_80 ?_
                refine v_goto X (tgt := 9) dX4_firstLowColumns_83 (by decide) ?_
                refine v_sub [0, 1, 2, 3, 4] (lv' := [(0, .ref (eA (vE a) 12 0)), (1, .ref (eA (vE a) 2 t)), (2, .int (nI R)), (3, .int (nI b)), (4, .int (nI (C + 1)))]) rfl ?_
                have hno : ¬ qc (ent I t) b R C := qc_no (hf3 C hCc) (Or.inr h74)
                have hnew : ∀ D, 1 ≤ D → D < C + 1 → ¬ qc (ent I t) b R D := fun D h1 h2 => by
                  rcases Nat.lt_or_ge D C with q | q
                  · exact hv D h1 q
                  · have e : D = C := by omega
                    rw [e]; exact hno
                exact ih9 (C + 1) (by omega) (by omega) (by omega) hnew
              · refine v_iload X 4 rfl dX4_firstLowColumns_77 ?_
                exact v_iret X Y dX4_firstLowColumns_79 (⟨hF3, hL3, Or.inl ⟨C, hC1, hCc, qc_yes (hf3 C hCc) (low_1t h21 h32) h74, hv, rfl⟩⟩)
  exact loop9 _ 1 (Nat.lt_succ_self _) (by decide) Nat.one_le_two_pow (fun D h1 h2 => absurd h2 (by omega))
