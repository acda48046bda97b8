theorem wk_lt {ln sc : Nat} {kd pl wt : Nat → Nat} (hn : netOk ln sc kd pl wt) (g : Nat → Nat → Int64) {f : Nat} (hf : f < 32) (l0 : Int64) : ∀ u, u ≤ sc → (wk kd pl g f l0 u).1 < 32
  | 0, _ => hf
  | u + 1, hu => by
    have ih := wk_lt hn g hf l0 u (by omega)
    unfold wk
    split
    · exact aft_lt hn (by omega) ih
    · exact ih
theorem wk_c {ln sc : Nat} {kd pl wt : Nat → Nat} (hn : netOk ln sc kd pl wt) {g g' : Nat → Nat → Int64} (hg : ∀ s, s ≤ sc → ∀ T, T < 32 → g s T = g' s T) {f : Nat} (hf : f < 32) (l0 : Int64) : ∀ u, u ≤ sc → wk kd pl g f l0 u = wk kd pl g' f l0 u
  | 0, _ => rfl
  | u + 1, hu => by
    have ih := wk_c hn hg hf l0 u (by omega)
    have hb := wk_lt hn g' hf l0 u (by omega)
    unfold wk
    rw [ih, hg (u + 1) hu _ hb]
theorem fk_c {ln sc : Nat} {kd pl wt : Nat → Nat} {g g' : Nat → Nat → Int64} (hg : ∀ s, s ≤ sc → ∀ T, T < 32 → g s T = g' s T) (hn : netOk ln sc kd pl wt) {f : Nat} (hf : f < 32) {l0 : Int64} {u : Nat} (hu : u ≤ sc) : (wk kd pl g f l0 u).1 = (wk kd pl g' f l0 u).1 := by rw [wk_c hn hg hf l0 u hu]
set_option maxHeartbeats 4000000 in
set_option maxRecDepth 100000 in
theorem c_X5_family (l : Launch) (E : VE) (hE : EOk E) (I : TI) (L : TL) (n : Nat) (ln sc : Nat → Nat) (kd pl wt : Nat → Nat → Nat) (hN : CN I n ln sc kd pl wt) (x f t told : Int32) (hto : (∃ q, q < 2 ^ 31 ∧ told = nI q) ∨ told < 0) : Ct l E yX5_family cX5_family 10 (some .int) rm_X5_family [.ref (eA E 0 0), .int x, .int f, .int t, .int told] I L (fun r I' L' => (¬ inS n ln ln x f t ∧ r = some (.int (-nI 3)) ∧ I' = rfI I 3 ∧ L' = L) ∨ (∃ w f' t', w < n ∧ x = nI w ∧ 1 ≤ f' ∧ f' < 2 ^ ln w ∧ 1 ≤ t' ∧ t' < 2 ^ ln w ∧ f = nI f' ∧ t = nI t' ∧ ((¬ pc5 f' = pc5 t' ∧ r = some (.int (-nI 7)) ∧ I' = rfI I 7 ∧ L' = L) ∨ (pc5 f' = pc5 t' ∧ FL [(16, 0)] L L' ∧ ((¬ (∃ k' s', k' < 2 ^ 20 ∧ s' ≤ sc w ∧ sc w ≤ 16 ∧ told = nI (s' * 2 ^ 20 + k') ∧ (nI k').toInt64 < wy (sc w) (kd w) (pl w) (wvl 0 (wt w)) t' (sc w) f') ∧ r = some (.int (-nI 3)) ∧ I' = rfI I 3) ∨ (∃ k' s', k' < 2 ^ 20 ∧ s' ≤ sc w ∧ sc w ≤ 16 ∧ told = nI (s' * 2 ^ 20 + k') ∧ (nI k').toInt64 < wy (sc w) (kd w) (pl w) (wvl 0 (wt w)) t' (sc w) f' ∧ r = some (.int (nI (wk (kd w) (pl w) (fun s T => wy (sc w) (kd w) (pl w) (wvl 0 (wt w)) t' (sc w - s) T) f' (nI k').toInt64 s').1)) ∧ I' = I)))))) := by
  refine ct_of (by decide +kernel) (Nat.le_of_ble_eq_true rfl) hE ?_
  intro a X Y hl hEE
  subst hl; subst hEE
  show V a 0 [(0, .ref (eA (vE a) 0 0)), (1, .int x), (2, .int f), (3, .int t), (4, .int told)] [] I L
  rcases hto with ⟨q, hq31, rfl⟩ | hneg
  · have hqd : q / 2 ^ 20 < 2 ^ 31 := Nat.lt_of_le_of_lt (Nat.div_le_self _ _) hq31
    have hqm : q % 2 ^ 20 < 2 ^ 20 := Nat.mod_lt _ (by decide)
    refine v_aload_n X 0 rfl dX5_family_0 ?_
    refine v_iload_n X 1 rfl dX5_family_1 ?_
    refine v_iload_n X 2 rfl dX5_family_2 ?_
    refine v_iload_n X 3 rfl dX5_family_3 ?_
    refine v_iconst X (v := (nI 0)) dX5_family_4 (by decide) ?_
    refine v_callV X (c_X5_leading _ _ hE _ _ n ln sc kd pl wt hN x f t 0 (by decide)) k_X5_184 dl_0 (cef_0 _ _ _ _) rfl ⟨rfl, rfl, Nat.le_of_ble_eq_true rfl, Nat.le_of_ble_eq_true rfl⟩ (As := [.int x, .int f, .int t, .int (nI 0)]) (rest := []) rfl rfl (Nat.le_of_ble_eq_true rfl) dX5_family_5 (fun r5 I5 L5 hp5 => ?_)
    rcases hp5 with ⟨hno, rfl, e1, e2⟩ | ⟨w, f', t', htw, rfl, hR1, hR2, hC1, hC2, rfl, rfl, ⟨hpc, rfl, e1, e2⟩ | ⟨hpc, rfl, e1, hL5, hah5⟩⟩
    · have e1 := e1.symm
      subst e1
      have e2 := e2.symm
      subst e2
      refine v_st (st' := [.long ((-nI 3).toInt64)]) rfl ?_
      refine v_lstore X [1, 2, 3, 4, 5, 0] (lv' := [(0, .ref (eA (vE a) 0 0)), (1, .int x), (2, .int f), (3, .int t), (4, .int (nI q)), (5, .long ((-nI 3).toInt64))]) (by decide) rfl dX5_family_8 ?_
      refine v_lload X 5 rfl dX5_family_10 ?_
      refine v_lconst X (v := 0) dX5_family_12 rfl ?_
      refine v_lcmp_ge X dX5_family_13 dX5_family_14 (tgt := 21) (by decide) (fun h13 => ?_) (fun h13 => ?_)
      · exact absurd h13 (neg_lt 3 (by decide) (by decide))
      · refine v_lload X 5 rfl dX5_family_17 ?_
        refine v_l2i X dX5_family_19 rfl ?_
        exact v_iret X Y dX5_family_20 (Or.inl ⟨hno, by rw [neg_32 3 (by decide)], rfl, rfl⟩)
    · have e1 := e1.symm
      subst e1
      have e2 := e2.symm
      subst e2
      refine v_st (st' := [.long ((-nI 7).toInt64)]) rfl ?_
      refine v_lstore X [1, 2, 3, 4, 5, 0] (lv' := [(0, .ref (eA (vE a) 0 0)), (1, .int (nI w)), (2, .int (nI f')), (3, .int (nI t')), (4, .int (nI q)), (5, .long ((-nI 7).toInt64))]) (by decide) rfl dX5_family_8 ?_
      refine v_lload X 5 rfl dX5_family_10 ?_
      refine v_lconst X (v := 0) dX5_family_12 rfl ?_
      refine v_lcmp_ge X dX5_family_13 dX5_family_14 (tgt := 21) (by decide) (fun h13 => ?_) (fun h13 => ?_)
      · exact absurd h13 (neg_lt 7 (by decide) (by decide))
      · refine v_lload X 5 rfl dX5_family_17 ?_
        refine v_l2i X dX5_family_19 rfl ?_
        exact v_iret X Y dX5_family_20 (Or.inr ⟨w, f', t', htw, rfl, hR1, hR2, hC1, hC2, rfl, rfl, Or.inl ⟨hpc, by rw [neg_32 7 (by decide)], rfl, rfl⟩⟩)
    · have e1 := e1.symm
      subst e1
      have hn4 := hN.2.1
      obtain ⟨hW, hn⟩ := hN.2.2 w htw
      obtain ⟨hl1, hl5, hsc16, hst⟩ := id hn
      have hw4 : w < 4 := by omega
      have hpr := pow32 hl5
      refine v_st (st' := [.long (wy (sc w) (kd w) (pl w) (wvl 0 (wt w)) t' (sc w) f')]) rfl ?_
      refine v_lstore X [1, 2, 3, 4, 5, 0] (lv' := [(0, .ref (eA (vE a) 0 0)), (1, .int (nI w)), (2, .int (nI f')), (3, .int (nI t')), (4, .int (nI q)), (5, .long (wy (sc w) (kd w) (pl w) (wvl 0 (wt w)) t' (sc w) f'))]) (by decide) rfl dX5_family_8 ?_
      refine v_lload X 5 rfl dX5_family_10 ?_
      refine v_lconst X (v := 0) dX5_family_12 rfl ?_
      refine v_lcmp_ge X dX5_family_13 dX5_family_14 (tgt := 21) (by decide) (fun h13 => ?_) (fun h13 => ?_)
      · refine v_aload_n X 0 rfl dX5_family_21 ?_
        refine v_iload_n X 1 rfl dX5_family_22 ?_
        refine v_callV X (c_X5_webOf _ _ hE _ _ n hN.1 hN.2.1 (nI w)) k_X5_164 dl_0 (cef_0 _ _ _ _) rfl ⟨rfl, rfl, Nat.le_of_ble_eq_true rfl, Nat.le_of_ble_eq_true rfl⟩ (As := [.int (nI w)]) (rest := []) rfl rfl (Nat.le_of_ble_eq_true rfl) dX5_family_23 (fun r23 I23 L23 hp23 => ?_)
        obtain ⟨ho23, e1, e2⟩ := hp23
        have e1 := e1.symm
        have e2 := e2.symm
        subst e1; subst e2
        rcases ho23 with ⟨w2, htw2, ew, rfl⟩ | ⟨hno, -⟩
        · have ew := (nI_eq (by omega) (by omega)).mp ew
          subst ew
          refine v_st (st' := [.ref (eA (vE a) 5 w)]) rfl ?_
          refine v_astore X [1, 2, 3, 4, 5, 6, 0] (lv' := [(0, .ref (eA (vE a) 0 0)), (1, .int (nI w)), (2, .int (nI f')), (3, .int (nI t')), (4, .int (nI q)), (5, .long (wy (sc w) (kd w) (pl w) (wvl 0 (wt w)) t' (sc w) f')), (7, .ref (eA (vE a) 5 w))]) (by decide) rfl dX5_family_26 ?_
          refine v_iload X 4 rfl dX5_family_28 ?_
          refine v_bipush X (v := (nI 20)) dX5_family_30 (by decide) ?_
          refine v_ishr X dX5_family_32 ?_
          refine v_eqi (y := (nI (q / 2 ^ 20))) (sh_r (by omega) (by omega)) ?_
          refine v_istore X [1, 2, 3, 4, 5, 6, 7, 0] (lv' := [(0, .ref (eA (vE a) 0 0)), (1, .int (nI w)), (2, .int (nI f')), (3, .int (nI t')), (4, .int (nI q)), (5, .long (wy (sc w) (kd w) (pl w) (wvl 0 (wt w)) t' (sc w) f')), (7, .ref (eA (vE a) 5 w)), (8, .int (nI (q / 2 ^ 20)))]) (by decide) rfl dX5_family_33 ?_
          refine v_iload X 4 rfl dX5_family_35 ?_
          refine v_ldc X (v := 1048575) kc_X5_194 dX5_family_37 ?_
          refine v_eqi (y := (nI 1048575)) (rfl) ?_
          refine v_iand X dX5_family_39 ?_
          refine v_eqi (y := (nI (q &&& 1048575))) (an_and _ _) ?_
          refine v_eqi (y := (nI (q % 2 ^ 20))) (congrArg nI (Nat.and_two_pow_sub_one_eq_mod q 20)) ?_
          refine v_istore X [1, 2, 3, 4, 5, 6, 7, 8, 0] (lv' := [(0, .ref (eA (vE a) 0 0)), (1, .int (nI w)), (2, .int (nI f')), (3, .int (nI t')), (4, .int (nI q)), (5, .long (wy (sc w) (kd w) (pl w) (wvl 0 (wt w)) t' (sc w) f')), (7, .ref (eA (vE a) 5 w)), (8, .int (nI (q / 2 ^ 20))), (9, .int (nI (q % 2 ^ 20)))]) (by decide) rfl dX5_family_40 ?_
          refine v_aload X 6 rfl dX5_family_42 ?_
          refine v_ifnull X dX5_family_44 ?_
          refine v_iload X 7 rfl dX5_family_47 ?_
          refine v_if_lt_n X (by omega) dX5_family_49 (tgt := 71) (by decide) ?_
          refine v_iload X 7 rfl dX5_family_52 ?_
          refine v_aload X 6 rfl dX5_family_54 ?_
          refine gf_X5_171 X hw4 dX5_family_56 ?_
          refine v_eqi (y := (nI (sc w))) (hW.2.1) ?_
          refine v_icmp_gt_n X (by omega) (by omega) dX5_family_59 (tgt := 71) (by decide) (fun h59 => ?_) (fun h59 => ?_)
          · refine v_aload_n X 0 rfl dX5_family_71 ?_
            refine v_bipush X (v := (-3)) dX5_family_72 (by decide) ?_
            refine v_callV X (c_X5_refused _ _ hE _ _ 3 (by decide) (by decide)) k_X5_58 dl_0 (cef_0 _ _ _ _) rfl ⟨rfl, rfl, Nat.le_of_ble_eq_true rfl, Nat.le_of_ble_eq_true rfl⟩ (As := [.int (-3)]) (rest := []) rfl rfl (Nat.le_of_ble_eq_true rfl) dX5_family_74 (fun r74 I74 L74 hp74 => ?_)
            obtain ⟨rfl, e1, e2⟩ := hp74
            have e1 := e1.symm
            have e2 := e2.symm
            subst e1; subst e2
            refine v_st (st' := [.int (-3)]) rfl ?_
            exact v_iret X Y dX5_family_77 (Or.inr ⟨w, f', t', htw, rfl, hR1, hR2, hC1, hC2, rfl, rfl, Or.inr ⟨hpc, hL5, Or.inl ⟨fun ⟨k', s', a1, a2, a3, a4, a5⟩ => by
                  have e := (nI_eq hq31 (by omega)).mp a4
                  omega, rfl, rfl⟩⟩⟩)
          · refine v_iload X 8 rfl dX5_family_62 ?_
            refine v_i2l X dX5_family_64 rfl ?_
            refine v_lload X 5 rfl dX5_family_65 ?_
            refine v_lcmp_lt X dX5_family_67 dX5_family_68 (tgt := 78) (by decide) (fun h67 => ?_) (fun h67 => ?_)
            · refine v_aload_n X 0 rfl dX5_family_78 ?_
              refine gf_X5_41 X dX5_family_79 ?_
              refine v_aload X 6 rfl dX5_family_82 ?_
              refine v_iload_n X 2 rfl dX5_family_84 ?_
              refine v_iload X 7 rfl dX5_family_85 ?_
              refine v_iload X 8 rfl dX5_family_87 ?_
              refine v_callV X (c_X2_linesAhead _ _ hE _ _ w hw4 (ln w) (sc w) (kd w) (pl w) (wt w) hn hW f' (q / 2 ^ 20) (q % 2 ^ 20) (by omega) h59 hqm) k_X5_195 dl_15 (cef_15 _ _ _ _) rfl ⟨rfl, rfl, Nat.le_of_ble_eq_true rfl, Nat.le_of_ble_eq_true rfl⟩ (As := [.ref (eA (vE a) 5 w), .int (nI f'), .int (nI (q / 2 ^ 20)), .int (nI (q % 2 ^ 20))]) (rest := []) rfl rfl (Nat.le_of_ble_eq_true rfl) dX5_family_89 (fun r89 I89 L89 hp89 => ?_)
              obtain ⟨rfl, e1, e2⟩ := hp89
              have e1 := e1.symm
              have e2 := e2.symm
              subst e1; subst e2
              refine v_st (st' := [.int (nI ((wk (kd w) (pl w) (fun s T => L5 16 0 (s * 32 + T)) f' (nI (q % 2 ^ 20)).toInt64 (q / 2 ^ 20)).1))]) rfl ?_
              exact v_iret X Y dX5_family_92 (Or.inr ⟨w, f', t', htw, rfl, hR1, hR2, hC1, hC2, rfl, rfl, Or.inr ⟨hpc, hL5, Or.inr ⟨q % 2 ^ 20, q / 2 ^ 20, hqm, h59, hsc16, congrArg nI (by omega), h67, by rw [fk_c (fun s hs T hT => hah5 s hs T hT) hn (by omega) h59], rfl⟩⟩⟩)
            · refine v_aload_n X 0 rfl dX5_family_71 ?_
              refine v_bipush X (v := (-3)) dX5_family_72 (by decide) ?_
              refine v_callV X (c_X5_refused _ _ hE _ _ 3 (by decide) (by decide)) k_X5_58 dl_0 (cef_0 _ _ _ _) rfl ⟨rfl, rfl, Nat.le_of_ble_eq_true rfl, Nat.le_of_ble_eq_true rfl⟩ (As := [.int (-3)]) (rest := []) rfl rfl (Nat.le_of_ble_eq_true rfl) dX5_family_74 (fun r74 I74 L74 hp74 => ?_)
              obtain ⟨rfl, e1, e2⟩ := hp74
              have e1 := e1.symm
              have e2 := e2.symm
              subst e1; subst e2
              refine v_st (st' := [.int (-3)]) rfl ?_
              exact v_iret X Y dX5_family_77 (Or.inr ⟨w, f', t', htw, rfl, hR1, hR2, hC1, hC2, rfl, rfl, Or.inr ⟨hpc, hL5, Or.inl ⟨fun ⟨k', s', a1, a2, a3, a4, a5⟩ => by
                    have e := (nI_eq hq31 (by omega)).mp a4
                    rw [show k' = q % 2 ^ 20 by omega] at a5
                    exact h67 a5, rfl, rfl⟩⟩⟩)
        · exact absurd ⟨w, htw, rfl⟩ hno
      · exact absurd (Int64.not_lt.mp (wy_0 hn _)) h13
  · skip
    refine v_aload_n X 0 rfl dX5_family_0 ?_
    refine v_iload_n X 1 rfl dX5_family_1 ?_
    refine v_iload_n X 2 rfl dX5_family_2 ?_
    refine v_iload_n X 3 rfl dX5_family_3 ?_
    refine v_iconst X (v := (nI 0)) dX5_family_4 (by decide) ?_
    refine v_callV X (c_X5_leading _ _ hE _ _ n ln sc kd pl wt hN x f t 0 (by decide)) k_X5_184 dl_0 (cef_0 _ _ _ _) rfl ⟨rfl, rfl, Nat.le_of_ble_eq_true rfl, Nat.le_of_ble_eq_true rfl⟩ (As := [.int x, .int f, .int t, .int (nI 0)]) (rest := []) rfl rfl (Nat.le_of_ble_eq_true rfl) dX5_family_5 (fun r5 I5 L5 hp5 => ?_)
    rcases hp5 with ⟨hno, rfl, e1, e2⟩ | ⟨w, f', t', htw, rfl, hR1, hR2, hC1, hC2, rfl, rfl, ⟨hpc, rfl, e1, e2⟩ | ⟨hpc, rfl, e1, hL5, hah5⟩⟩
    · have e1 := e1.symm
      subst e1
      have e2 := e2.symm
      subst e2
      refine v_st (st' := [.long ((-nI 3).toInt64)]) rfl ?_
      refine v_lstore X [1, 2, 3, 4, 5, 0] (lv' := [(0, .ref (eA (vE a) 0 0)), (1, .int x), (2, .int f), (3, .int t), (4, .int told), (5, .long ((-nI 3).toInt64))]) (by decide) rfl dX5_family_8 ?_
      refine v_lload X 5 rfl dX5_family_10 ?_
      refine v_lconst X (v := 0) dX5_family_12 rfl ?_
      refine v_lcmp_ge X dX5_family_13 dX5_family_14 (tgt := 21) (by decide) (fun h13 => ?_) (fun h13 => ?_)
      · exact absurd h13 (neg_lt 3 (by decide) (by decide))
      · refine v_lload X 5 rfl dX5_family_17 ?_
        refine v_l2i X dX5_family_19 rfl ?_
        exact v_iret X Y dX5_family_20 (Or.inl ⟨hno, by rw [neg_32 3 (by decide)], rfl, rfl⟩)
    · have e1 := e1.symm
      subst e1
      have e2 := e2.symm
      subst e2
      refine v_st (st' := [.long ((-nI 7).toInt64)]) rfl ?_
      refine v_lstore X [1, 2, 3, 4, 5, 0] (lv' := [(0, .ref (eA (vE a) 0 0)), (1, .int (nI w)), (2, .int (nI f')), (3, .int (nI t')), (4, .int told), (5, .long ((-nI 7).toInt64))]) (by decide) rfl dX5_family_8 ?_
      refine v_lload X 5 rfl dX5_family_10 ?_
      refine v_lconst X (v := 0) dX5_family_12 rfl ?_
      refine v_lcmp_ge X dX5_family_13 dX5_family_14 (tgt := 21) (by decide) (fun h13 => ?_) (fun h13 => ?_)
      · exact absurd h13 (neg_lt 7 (by decide) (by decide))
      · refine v_lload X 5 rfl dX5_family_17 ?_
        refine v_l2i X dX5_family_19 rfl ?_
        exact v_iret X Y dX5_family_20 (Or.inr ⟨w, f', t', htw, rfl, hR1, hR2, hC1, hC2, rfl, rfl, Or.inl ⟨hpc, by rw [neg_32 7 (by decide)], rfl, rfl⟩⟩)
    · have e1 := e1.symm
      subst e1
      have hn4 := hN.2.1
      obtain ⟨hW, hn⟩ := hN.2.2 w htw
      obtain ⟨hl1, hl5, hsc16, hst⟩ := id hn
      have hw4 : w < 4 := by omega
      have hpr := pow32 hl5
      refine v_st (st' := [.long (wy (sc w) (kd w) (pl w) (wvl 0 (wt w)) t' (sc w) f')]) rfl ?_
      refine v_lstore X [1, 2, 3, 4, 5, 0] (lv' := [(0, .ref (eA (vE a) 0 0)), (1, .int (nI w)), (2, .int (nI f')), (3, .int (nI t')), (4, .int told), (5, .long (wy (sc w) (kd w) (pl w) (wvl 0 (wt w)) t' (sc w) f'))]) (by decide) rfl dX5_family_8 ?_
      refine v_lload X 5 rfl dX5_family_10 ?_
      refine v_lconst X (v := 0) dX5_family_12 rfl ?_
      refine v_lcmp_ge X dX5_family_13 dX5_family_14 (tgt := 21) (by decide) (fun h13 => ?_) (fun h13 => ?_)
      · refine v_aload_n X 0 rfl dX5_family_21 ?_
        refine v_iload_n X 1 rfl dX5_family_22 ?_
        refine v_callV X (c_X5_webOf _ _ hE _ _ n hN.1 hN.2.1 (nI w)) k_X5_164 dl_0 (cef_0 _ _ _ _) rfl ⟨rfl, rfl, Nat.le_of_ble_eq_true rfl, Nat.le_of_ble_eq_true rfl⟩ (As := [.int (nI w)]) (rest := []) rfl rfl (Nat.le_of_ble_eq_true rfl) dX5_family_23 (fun r23 I23 L23 hp23 => ?_)
        obtain ⟨ho23, e1, e2⟩ := hp23
        have e1 := e1.symm
        have e2 := e2.symm
        subst e1; subst e2
        rcases ho23 with ⟨w2, htw2, ew, rfl⟩ | ⟨hno, -⟩
        · have ew := (nI_eq (by omega) (by omega)).mp ew
          subst ew
          refine v_st (st' := [.ref (eA (vE a) 5 w)]) rfl ?_
          refine v_astore X [1, 2, 3, 4, 5, 6, 0] (lv' := [(0, .ref (eA (vE a) 0 0)), (1, .int (nI w)), (2, .int (nI f')), (3, .int (nI t')), (4, .int told), (5, .long (wy (sc w) (kd w) (pl w) (wvl 0 (wt w)) t' (sc w) f')), (7, .ref (eA (vE a) 5 w))]) (by decide) rfl dX5_family_26 ?_
          refine v_iload X 4 rfl dX5_family_28 ?_
          refine v_bipush X (v := (nI 20)) dX5_family_30 (by decide) ?_
          refine v_ishr X dX5_family_32 ?_
          refine v_istore X [1, 2, 3, 4, 5, 6, 7, 0] (lv' := [(0, .ref (eA (vE a) 0 0)), (1, .int (nI w)), (2, .int (nI f')), (3, .int (nI t')), (4, .int told), (5, .long (wy (sc w) (kd w) (pl w) (wvl 0 (wt w)) t' (sc w) f')), (7, .ref (eA (vE a) 5 w)), (8, .int (told >>> ((nI 20) &&& 31)))]) (by decide) rfl dX5_family_33 ?_
          refine v_iload X 4 rfl dX5_family_35 ?_
          refine v_ldc X (v := 1048575) kc_X5_194 dX5_family_37 ?_
          refine v_eqi (y := (nI 1048575)) (rfl) ?_
          refine v_iand X dX5_family_39 ?_
          refine v_istore X [1, 2, 3, 4, 5, 6, 7, 8, 0] (lv' := [(0, .ref (eA (vE a) 0 0)), (1, .int (nI w)), (2, .int (nI f')), (3, .int (nI t')), (4, .int told), (5, .long (wy (sc w) (kd w) (pl w) (wvl 0 (wt w)) t' (sc w) f')), (7, .ref (eA (vE a) 5 w)), (8, .int (told >>> ((nI 20) &&& 31))), (9, .int (told &&& (nI 1048575)))]) (by decide) rfl dX5_family_40 ?_
          refine v_aload X 6 rfl dX5_family_42 ?_
          refine v_ifnull X dX5_family_44 ?_
          refine v_iload X 7 rfl dX5_family_47 ?_
          refine v_if_lt X dX5_family_49 (tgt := 71) (by decide) (fun h49 => ?_) (fun h49 => ?_)
          · refine v_aload_n X 0 rfl dX5_family_71 ?_
            refine v_bipush X (v := (-3)) dX5_family_72 (by decide) ?_
            refine v_callV X (c_X5_refused _ _ hE _ _ 3 (by decide) (by decide)) k_X5_58 dl_0 (cef_0 _ _ _ _) rfl ⟨rfl, rfl, Nat.le_of_ble_eq_true rfl, Nat.le_of_ble_eq_true rfl⟩ (As := [.int (-3)]) (rest := []) rfl rfl (Nat.le_of_ble_eq_true rfl) dX5_family_74 (fun r74 I74 L74 hp74 => ?_)
            obtain ⟨rfl, e1, e2⟩ := hp74
            have e1 := e1.symm
            have e2 := e2.symm
            subst e1; subst e2
            refine v_st (st' := [.int (-3)]) rfl ?_
            exact v_iret X Y dX5_family_77 (Or.inr ⟨w, f', t', htw, rfl, hR1, hR2, hC1, hC2, rfl, rfl, Or.inr ⟨hpc, hL5, Or.inl ⟨fun ⟨k', s', a1, a2, a3, a4, _⟩ => nI_pos (n := s' * 2 ^ 20 + k') (by omega) (a4 ▸ hneg), rfl, rfl⟩⟩⟩)
          · exact absurd (shr_neg hneg) h49
        · exact absurd ⟨w, htw, rfl⟩ hno
      · exact absurd (Int64.not_lt.mp (wy_0 hn _)) h13
set_option maxHeartbeats 4000000 in
set_option maxRecDepth 100000 in
theorem c_X5_made (l : Launch) (E : VE) (hE : EOk E) (I : TI) (L : TL) (c : Nat) (hc0 : I 0 0 1 = nI c) (hc12 : c ≤ 12) (n : Nat) (ln sc : Nat → Nat) (kd pl wt : Nat → Nat → Nat) (hN : CN I n ln sc kd pl wt) (x : Int32) : Ct l E yX5_made cX5_made 6 (some .int) rm_X5_made [.ref (eA E 0 0), .int x] I L (fun r I' L' => (¬ isT n x ∧ REF I I' r 3 ∧ L' = L) ∨ (∃ w, w < n ∧ x = nI w ∧ ((c = 12 ∧ REF I I' r 8 ∧ L' = L) ∨ (c < 12 ∧ ResT I I' r c (ln w) (ln w) (nI 1) (nI w) (fun i j => wy (sc w) (kd w) (pl w) (wvl 1 (wt w)) (2 ^ j) (sc w) (2 ^ i)) ∧ FL [(16, 0)] L L')))) := by
  refine ct_of (by decide +kernel) (Nat.le_of_ble_eq_true rfl) hE ?_
  intro a X Y hl hEE
  subst hl; subst hEE
  show V a 0 [(0, .ref (eA (vE a) 0 0)), (1, .int x)] [] I L
  refine v_aload_n X 0 rfl dX5_made_0 ?_
  refine v_iload_n X 1 rfl dX5_made_1 ?_
  refine v_callV X (c_X5_webOf _ _ hE _ _ n hN.1 hN.2.1 x) k_X5_164 dl_0 (cef_0 _ _ _ _) rfl ⟨rfl, rfl, Nat.le_of_ble_eq_true rfl, Nat.le_of_ble_eq_true rfl⟩ (As := [.int x]) (rest := []) rfl rfl (Nat.le_of_ble_eq_true rfl) dX5_made_2 (fun r2 I2 L2 hp2 => ?_)
  obtain ⟨ho2, e1, e2⟩ := hp2
  have e1 := e1.symm
  have e2 := e2.symm
  subst e1; subst e2
  rcases ho2 with ⟨w, htw, rfl, rfl⟩ | ⟨hno, rfl⟩
  · have hn4 := hN.2.1
    obtain ⟨hW, hn⟩ := hN.2.2 w htw
    obtain ⟨hl1, hl5, hsc16, hst⟩ := id hn
    have hw4 : w < 4 := by omega
    refine v_st (st' := [.ref (eA (vE a) 5 w)]) rfl ?_
    refine v_astore_n X [1, 2, 0] (lv' := [(0, .ref (eA (vE a) 0 0)), (1, .int (nI w)), (2, .ref (eA (vE a) 5 w))]) (by decide) rfl dX5_made_5 ?_
    refine v_aload_n X 2 rfl dX5_made_6 ?_
    refine v_ifnonnull X (tgt := 17) dX5_made_7 (by decide) ?_
    refine v_aload_n X 0 rfl dX5_made_17 ?_
    refine v_callV X (c_X5_freeGrid _ _ hE _ _ c (hc0) hc12) k_X5_62 dl_0 (cef_0 _ _ _ _) rfl ⟨rfl, rfl, Nat.le_of_ble_eq_true rfl, Nat.le_of_ble_eq_true rfl⟩ (As := []) (rest := []) rfl rfl (Nat.le_of_ble_eq_true rfl) dX5_made_18 (fun r18 I18 L18 hp18 => ?_)
    obtain ⟨hg18, e1, e2⟩ := hp18
    have e1 := e1.symm
    have e2 := e2.symm
    subst e1; subst e2
    rcases hg18 with ⟨hcl, rfl⟩ | ⟨hfull, rfl⟩
    · refine v_st (st' := [.ref (eA (vE a) 2 c)]) rfl ?_
      refine v_astore_n X [1, 2, 3, 0] (lv' := [(0, .ref (eA (vE a) 0 0)), (1, .int (nI w)), (2, .ref (eA (vE a) 5 w)), (3, .ref (eA (vE a) 2 c))]) (by decide) rfl dX5_made_21 ?_
      refine v_aload_n X 3 rfl dX5_made_22 ?_
      refine v_ifnonnull X (tgt := 33) dX5_made_23 (by decide) ?_
      refine v_aload_n X 3 rfl dX5_made_33 ?_
      refine v_aload_n X 2 rfl dX5_made_34 ?_
      refine gf_X5_177 X hw4 dX5_made_35 ?_
      refine v_eqi (y := (nI (ln w))) (hW.1) ?_
      refine v_aload_n X 2 rfl dX5_made_38 ?_
      refine gf_X5_177 X hw4 dX5_made_39 ?_
      refine v_eqi (y := (nI (ln w))) (hW.1) ?_
      refine v_iconst X (v := (nI 1)) dX5_made_42 (by decide) ?_
      refine v_callV X (c_X0_begin _ _ hE _ _ c hcl (nI (ln w)) (nI (ln w)) (nI 1)) k_X5_66 (dl_2 hcl) (cef_2 _ _ _ _) rfl ⟨rfl, rfl, Nat.le_of_ble_eq_true rfl, Nat.le_of_ble_eq_true rfl⟩ (As := [.int (nI (ln w)), .int (nI (ln w)), .int (nI 1)]) (rest := []) rfl rfl (Nat.le_of_ble_eq_true rfl) dX5_made_43 (fun r43 I43 L43 hp43 => ?_)
      obtain ⟨rfl, hF43, hb1, hb2, hb3, hb4, hb5, hb6, e2⟩ := hp43
      have e2 := e2.symm
      subst e2
      have hB : Bld I I43 c (ln w) (ln w) (nI 1) (-1) (DR (ln w) 0 0) (fun i j => wy (sc w) (kd w) (pl w) (wvl 1 (wt w)) (2 ^ j) (sc w) (2 ^ i)) := Bld.zero hF43 hb1 hb2 hb3 hb4 hb5 hb6 DR_0
      refine v_st (st' := []) rfl ?_
      refine v_aload_n X 3 rfl dX5_made_46 ?_
      refine v_iload_n X 1 rfl dX5_made_47 ?_
      refine pf_X5_114 X hcl dX5_made_48 ?_
      refine v_iconst X (v := (nI 0)) dX5_made_51 (by decide) ?_
      refine v_istore X [1, 2, 3, 4, 0] (lv' := [(0, .ref (eA (vE a) 0 0)), (1, .int (nI w)), (2, .ref (eA (vE a) 5 w)), (3, .ref (eA (vE a) 2 c)), (4, .int (nI 0))]) (by decide) rfl dX5_made_52 ?_
      have loop54 : ∀ (fu : Nat) (i : Nat) (I1 : TI) (L1 : TL), 6 - i < fu → (i ≤ ln w) → (Bld I I1 c (ln w) (ln w) (nI 1) (nI w) (DR (ln w) i 0) (fun i j => wy (sc w) (kd w) (pl w) (wvl 1 (wt w)) (2 ^ j) (sc w) (2 ^ i))) → (FL [(16, 0)] L L1) → V a 54 [(0, .ref (eA (vE a) 0 0)), (1, .int (nI w)), (2, .ref (eA (vE a) 5 w)), (3, .ref (eA (vE a) 2 c)), (4, .int (nI i))] [] I1 L1 := by
        intro fu
        induction fu with
        | zero => intro i I1 L1 hm _ _ _; exact absurd hm (Nat.not_lt_zero _)
        | succ fu ih54 =>
          intro i I1 L1 hm54 hi hB hFL
          refine v_iload X 4 rfl dX5_made_54 ?_
          refine v_aload_n X 2 rfl dX5_made_56 ?_
          refine gf_X5_177 X hw4 dX5_made_57 ?_
          refine v_eqi (y := (nI (ln w))) ((Fr.at hB.1 (by simp) _).trans (hW.1)) ?_
          refine v_icmp_ge_n X (by omega) (by omega) dX5_made_60 (tgt := 112) (by decide) (fun h60 => ?_) (fun h60 => ?_)
          · refine v_aload_n X 0 rfl dX5_made_112 ?_
            refine v_aload_n X 3 rfl dX5_made_113 ?_
            obtain ⟨f, hf2, hf1⟩ := hB.f
            refine v_callV X (c_X5_come _ _ hE _ _ c ((Fr.at hB.1 (by simp) _).trans (hc0)) hcl f hf1 hf2) k_X5_70 dl_0 (cef_0 _ _ _ _) rfl ⟨rfl, rfl, Nat.le_of_ble_eq_true rfl, Nat.le_of_ble_eq_true rfl⟩ (As := [.ref (eA (vE a) 2 c)]) (rest := []) rfl rfl (Nat.le_of_ble_eq_true rfl) dX5_made_114 (fun r114 I114 L114 hp114 => ?_)
            obtain ⟨ho, e2⟩ := hp114
            have e2 := e2.symm
            subst e2
            have hres := hB.res (by omega) (by omega) (DR_end (by omega)) hf2 hf1 ho
            rcases ho with ⟨-, rfl, -⟩ | ⟨-, rfl, -⟩
            · refine v_st (st' := [.int (-nI 8)]) rfl ?_
              exact v_iret X Y dX5_made_117 (Or.inr ⟨w, htw, rfl, Or.inr ⟨hcl, hres, hFL⟩⟩)
            · refine v_st (st' := [.int (nI c)]) rfl ?_
              exact v_iret X Y dX5_made_117 (Or.inr ⟨w, htw, rfl, Or.inr ⟨hcl, hres, hFL⟩⟩)
          · refine v_iconst X (v := (nI 0)) dX5_made_63 (by decide) ?_
            refine v_istore X [1, 2, 3, 4, 5, 0] (lv' := [(0, .ref (eA (vE a) 0 0)), (1, .int (nI w)), (2, .ref (eA (vE a) 5 w)), (3, .ref (eA (vE a) 2 c)), (4, .int (nI i)), (5, .int (nI 0))]) (by decide) rfl dX5_made_64 ?_
            have loop66 : ∀ (fu : Nat) (j : Nat) (I1 : TI) (L1 : TL), 6 - j < fu → (j ≤ ln w) → (Bld I I1 c (ln w) (ln w) (nI 1) (nI w) (DR (ln w) i j) (fun i j => wy (sc w) (kd w) (pl w) (wvl 1 (wt w)) (2 ^ j) (sc w) (2 ^ i))) → (FL [(16, 0)] L L1) → V a 66 [(0, .ref (eA (vE a) 0 0)), (1, .int (nI w)), (2, .ref (eA (vE a) 5 w)), (3, .ref (eA (vE a) 2 c)), (4, .int (nI i)), (5, .int (nI j))] [] I1 L1 := by
              intro fu
              induction fu with
              | zero => intro j I1 L1 hm _ _ _; exact absurd hm (Nat.not_lt_zero _)
              | succ fu ih66 =>
                intro j I1 L1 hm66 hj hB hFL
                refine v_iload X 5 rfl dX5_made_66 ?_
                refine v_aload_n X 2 rfl dX5_made_68 ?_
                refine gf_X5_177 X hw4 dX5_made_69 ?_
                refine v_eqi (y := (nI (ln w))) ((Fr.at hB.1 (by simp) _).trans (hW.1)) ?_
                refine v_icmp_ge_n X (by omega) (by omega) dX5_made_72 (tgt := 106) (by decide) (fun h72 => ?_) (fun h72 => ?_)
                · refine v_iinc X [1, 2, 3, 4, 0, 5] 4 (nI (i + 1)) (lv' := [(0, .ref (eA (vE a) 0 0)), (1, .int (nI w)), (2, .ref (eA (vE a) 5 w)), (3, .ref (eA (vE a) 2 c)), (4, .int (nI (i + 1))), (5, .int (nI j))]) rfl (nI_1 _) (by decide) rfl dX5_made_106 ?_
                  refine v_goto X (tgt := 54) dX5_made_109 (by decide) ?_
                  refine v_sub [0, 1, 2, 3, 4] (lv' := [(0, .ref (eA (vE a) 0 0)), (1, .int (nI w)), (2, .ref (eA (vE a) 5 w)), (3, .ref (eA (vE a) 2 c)), (4, .int (nI (i + 1)))]) rfl ?_
                  exact ih54 (i + 1) I1 L1 (by omega) (by omega) (hB.cg (DR_row (by omega))) hFL
                · refine v_aload_n X 3 rfl dX5_made_75 ?_
                  refine v_iload X 4 rfl dX5_made_76 ?_
                  refine v_iload X 5 rfl dX5_made_78 ?_
                  refine v_aload_n X 0 rfl dX5_made_80 ?_
                  refine gf_X5_41 X dX5_made_81 ?_
                  refine v_aload_n X 2 rfl dX5_made_84 ?_
                  refine v_iconst X (v := (nI 1)) dX5_made_85 (by decide) ?_
                  refine v_iload X 4 rfl dX5_made_86 ?_
                  refine v_ishl X dX5_made_88 ?_
                  refine v_eqi (y := (nI (2 ^ i))) (sh_one (by omega)) ?_
                  refine v_iconst X (v := (nI 1)) dX5_made_89 (by decide) ?_
                  refine v_iload X 5 rfl dX5_made_90 ?_
                  refine v_ishl X dX5_made_92 ?_
                  refine v_eqi (y := (nI (2 ^ j))) (sh_one (by omega)) ?_
                  refine v_iconst X (v := (nI 1)) dX5_made_93 (by decide) ?_
                  have hpi : 2 ^ i < 32 := Nat.lt_of_lt_of_le (Nat.pow_lt_pow_right (by decide) (show i < 5 by omega)) (by decide)
                  have hpj : 2 ^ j < 32 := Nat.lt_of_lt_of_le (Nat.pow_lt_pow_right (by decide) (show j < 5 by omega)) (by decide)
                  refine v_callV X (c_X2_lead _ _ hE _ _ w hw4 (ln w) (sc w) (kd w) (pl w) (wt w) hn (webR_fr hB.1 (by simp) (by simp) (by simp) (by simp) hW) (2 ^ i) (2 ^ j) 1 hpi hpj (by decide)) k_X5_180 dl_15 (cef_15 _ _ _ _) rfl ⟨rfl, rfl, Nat.le_of_ble_eq_true rfl, Nat.le_of_ble_eq_true rfl⟩ (As := [.ref (eA (vE a) 5 w), .int (nI (2 ^ i)), .int (nI (2 ^ j)), .int (nI 1)]) (rest := [.int (nI j), .int (nI i), .ref (eA (vE a) 2 c)]) rfl rfl (Nat.le_of_ble_eq_true rfl) dX5_made_94 (fun r94 I94 L94 hp94 => ?_)
                  obtain ⟨rfl, e1, hL94, hah94⟩ := hp94
                  have e1 := e1.symm
                  subst e1
                  refine v_st (st' := [.long (wy (sc w) (kd w) (pl w) (wvl 1 (wt w)) (2 ^ j) (sc w) (2 ^ i)), .int (nI j), .int (nI i), .ref (eA (vE a) 2 c)]) rfl ?_
                  refine v_callV X (c_X0_put _ _ hE _ _ c hcl (ln w) (ln w) (hB.2.1) (hB.2.2.1) (by omega) (by omega) i j (by omega) (by omega) (wy (sc w) (kd w) (pl w) (wvl 1 (wt w)) (2 ^ j) (sc w) (2 ^ i))) k_X5_97 (dl_2 hcl) (cef_2 _ _ _ _) rfl ⟨rfl, rfl, Nat.le_of_ble_eq_true rfl, Nat.le_of_ble_eq_true rfl⟩ (As := [.int (nI i), .int (nI j), .long (wy (sc w) (kd w) (pl w) (wvl 1 (wt w)) (2 ^ j) (sc w) (2 ^ i))]) (rest := []) rfl rfl (Nat.le_of_ble_eq_true rfl) dX5_made_97 (fun r97 I97 L97 hp97 => ?_)
                  obtain ⟨rfl, e1, e2⟩ := hp97
                  have e2 := e2.symm
                  subst e2
                  have hB97 := hB.put (D' := DR (ln w) i (j + 1)) (i := i) (j := j) (by omega) (by omega) DR_no (DR_put (by omega)) (v := (wy (sc w) (kd w) (pl w) (wvl 1 (wt w)) (2 ^ j) (sc w) (2 ^ i))) rfl
                  rw [← e1] at hB97
                  refine v_st (st' := []) rfl ?_
                  refine v_iinc X [1, 2, 3, 4, 5, 0] 5 (nI (j + 1)) (lv' := [(0, .ref (eA (vE a) 0 0)), (1, .int (nI w)), (2, .ref (eA (vE a) 5 w)), (3, .ref (eA (vE a) 2 c)), (4, .int (nI i)), (5, .int (nI (j + 1)))]) rfl (nI_1 _) (by decide) rfl dX5_made_100 ?_
                  refine v_goto X (tgt := 66) dX5_made_103 (by decide) ?_
                  exact ih66 (j + 1) I97 L94 (by omega) (by omega) hB97 (hFL.tr hL94)
            exact loop66 _ 0 I1 L1 (Nat.lt_succ_self _) (Nat.zero_le _) hB hFL
      exact loop54 _ 0 (upI I43 2 c 4 (nI w)) L (Nat.lt_succ_self _) (Nat.zero_le _) hB.net FL.rf
    · refine v_st (st' := [.null]) rfl ?_
      refine v_astore_nN X [1, 2, 3, 0] (lv' := [(0, .ref (eA (vE a) 0 0)), (1, .int (nI w)), (2, .ref (eA (vE a) 5 w)), (3, .null)]) (by decide) rfl dX5_made_21 ?_
      refine v_aload_nN X 3 rfl dX5_made_22 ?_
      refine v_ifnonnullN X dX5_made_23 ?_
      refine v_aload_n X 0 rfl dX5_made_26 ?_
      refine v_bipush X (v := (-8)) dX5_made_27 (by decide) ?_
      refine v_callV X (c_X5_refused _ _ hE _ _ 8 (by decide) (by decide)) k_X5_58 dl_0 (cef_0 _ _ _ _) rfl ⟨rfl, rfl, Nat.le_of_ble_eq_true rfl, Nat.le_of_ble_eq_true rfl⟩ (As := [.int (-8)]) (rest := []) rfl rfl (Nat.le_of_ble_eq_true rfl) dX5_made_29 (fun r29 I29 L29 hp29 => ?_)
      obtain ⟨rfl, e1, e2⟩ := hp29
      have e1 := e1.symm
      have e2 := e2.symm
      subst e1; subst e2
      refine v_st (st' := [.int (-8)]) rfl ?_
      exact v_iret X Y dX5_made_32 (Or.inr ⟨w, htw, rfl, Or.inl ⟨hfull, ⟨rfl, rfl⟩, rfl⟩⟩)
  · refine v_st (st' := [.null]) rfl ?_
    refine v_astore_nN X [1, 2, 0] (lv' := [(0, .ref (eA (vE a) 0 0)), (1, .int x), (2, .null)]) (by decide) rfl dX5_made_5 ?_
    refine v_aload_nN X 2 rfl dX5_made_6 ?_
    refine v_ifnonnullN X dX5_made_7 ?_
    refine v_aload_n X 0 rfl dX5_made_10 ?_
    refine v_bipush X (v := (-3)) dX5_made_11 (by decide) ?_
    refine v_callV X (c_X5_refused _ _ hE _ _ 3 (by decide) (by decide)) k_X5_58 dl_0 (cef_0 _ _ _ _) rfl ⟨rfl, rfl, Nat.le_of_ble_eq_true rfl, Nat.le_of_ble_eq_true rfl⟩ (As := [.int (-3)]) (rest := []) rfl rfl (Nat.le_of_ble_eq_true rfl) dX5_made_13 (fun r13 I13 L13 hp13 => ?_)
    obtain ⟨rfl, e1, e2⟩ := hp13
    have e1 := e1.symm
    have e2 := e2.symm
    subst e1; subst e2
    refine v_st (st' := [.int (-3)]) rfl ?_
    exact v_iret X Y dX5_made_16 (Or.inl ⟨hno, ⟨rfl, rfl⟩, rfl⟩)
