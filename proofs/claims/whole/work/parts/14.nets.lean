/-! nets -/
def asr (k p : Nat) : Nat := if k = 0 then p else p + 1
def ads (k p : Nat) : Nat := if k = 0 then p + 1 else p
def aft (k p T : Nat) : Nat := if k = 2 then T else if bitN T (asr k p) ∧ ¬ bitN T (ads k p) then T ^^^ (2 ^ asr k p ||| 2 ^ ads k p) else T
theorem asr_0 {k p : Nat} (h : k = 0) : p = asr k p := (if_pos h).symm
theorem asr_1 {k p : Nat} (h : 0 < k) : p + 1 = asr k p := (if_neg (by omega)).symm
theorem ads_0 {k p : Nat} (h : k = 0) : p + 1 = ads k p := (if_pos h).symm
theorem ads_1 {k p : Nat} (h : 0 < k) : p = ads k p := (if_neg (by omega)).symm
theorem aft_on {k p T : Nat} (h : k = 2) : aft k p T = T := if_pos h
theorem aft_go {k p T : Nat} (h : k ≠ 2) (h1 : bitN T (asr k p)) (h2 : ¬ bitN T (ads k p)) : aft k p T = T ^^^ (2 ^ asr k p ||| 2 ^ ads k p) := (if_neg h).trans (if_pos ⟨h1, h2⟩)
theorem aft_st {k p T : Nat} (h : ¬ bitN T (asr k p) ∨ bitN T (ads k p)) : aft k p T = T := by
  unfold aft
  split
  · rfl
  · rw [if_neg]
    rintro ⟨h1, h2⟩
    rcases h with h | h
    · exact h h1
    · exact h2 h
theorem aft_lt' : ∀ k, k < 3 → ∀ p, p < 5 → (¬ (k = 2 ∨ p < 4) ∨ ∀ T, T < 32 → aft k p T < 32) := by decide +kernel
def netOk (ln sc : Nat) (kd pl wt : Nat → Nat) : Prop := 1 ≤ ln ∧ ln ≤ 5 ∧ sc ≤ 16 ∧ ∀ s, s < sc → kd s ≤ 2 ∧ pl s < ln ∧ (kd s = 2 ∨ pl s + 1 < ln) ∧ 1 ≤ wt s ∧ wt s ≤ 9
theorem aft_lt {ln sc : Nat} {kd pl wt : Nat → Nat} (h : netOk ln sc kd pl wt) {s T : Nat} (hs : s < sc) (hT : T < 32) : aft (kd s) (pl s) T < 32 := by
  obtain ⟨h1, h2, h3, h4⟩ := h
  obtain ⟨a1, a2, a3, -⟩ := h4 s hs
  exact (aft_lt' (kd s) (by omega) (pl s) (by omega)).resolve_left (fun q => q (by omega)) T hT
def webR (I : TI) (w ln sc : Nat) (kd pl wt : Nat → Nat) : Prop := I 5 w 3 = nI ln ∧ I 5 w 4 = nI sc ∧ ∀ s, s < sc → I 6 w s = nI (kd s) ∧ I 7 w s = nI (pl s) ∧ I 8 w s = nI (wt s)
def wvl (b : Nat) (wt : Nat → Nat) (s : Nat) : Int64 := if b = 0 then 1 else (nI (wt s)).toInt64
def frs (k p : Nat) (v : Int64) (g : Nat → Int64) (T : Nat) : Int64 := if k = 2 ∧ bitN T p then v * g T else if aft k p T = T then g T else g T + v * g (aft k p T)
def wy (sc : Nat) (kd pl : Nat → Nat) (wv : Nat → Int64) (to : Nat) : Nat → Nat → Int64
  | 0, T => if T = to then 1 else 0
  | m + 1, T => frs (kd (sc - (m + 1))) (pl (sc - (m + 1))) (wv (sc - (m + 1))) (fun T' => wy sc kd pl wv to m T') T
theorem wy_s {sc : Nat} {kd pl : Nat → Nat} {wv : Nat → Int64} {to s : Nat} (hs : s < sc) (T : Nat) : wy sc kd pl wv to (sc - s) T = frs (kd s) (pl s) (wv s) (fun T' => wy sc kd pl wv to (sc - (s + 1)) T') T := by
  obtain ⟨m, hm⟩ : ∃ m, sc - s = m + 1 := ⟨sc - s - 1, by omega⟩
  rw [hm, show sc - (s + 1) = m by omega]
  show frs (kd (sc - (m + 1))) (pl (sc - (m + 1))) (wv (sc - (m + 1))) _ T = _
  rw [show sc - (m + 1) = s by omega]
theorem frs_c {k p : Nat} {v : Int64} {g g' : Nat → Int64} {T : Nat} (h1 : g T = g' T) (h2 : g (aft k p T) = g' (aft k p T)) : frs k p v g T = frs k p v g' T := by
  unfold frs
  rw [h1, h2]
def wk (kd pl : Nat → Nat) (g : Nat → Nat → Int64) (T0 : Nat) (l0 : Int64) : Nat → Nat × Int64
  | 0 => (T0, l0)
  | s + 1 => if aft (kd s) (pl s) (wk kd pl g T0 l0 s).1 ≠ (wk kd pl g T0 l0 s).1 ∧ g (s + 1) (wk kd pl g T0 l0 s).1 ≤ (wk kd pl g T0 l0 s).2
      then (aft (kd s) (pl s) (wk kd pl g T0 l0 s).1, (wk kd pl g T0 l0 s).2 - g (s + 1) (wk kd pl g T0 l0 s).1) else wk kd pl g T0 l0 s
set_option maxHeartbeats 4000000 in
set_option maxRecDepth 100000 in
theorem c_X3_isWeighedOn (l : Launch) (E : VE) (hE : EOk E) (I : TI) (L : TL) (w : Nat) (hw : w < 4) (ln sc : Nat) (kd pl wt : Nat → Nat) (hn : netOk ln sc kd pl wt) (hW : webR I w ln sc kd pl wt) (s : Nat) (hs : s < sc) (T : Nat) (hT : T < 32) : Ct l E yX3_isWeighedOn cX3_isWeighedOn 3 (some .boolean) rm_X3_isWeighedOn [.ref (eA E 5 w), .int (nI s), .int (nI T)] I L (fun r I' L' => r = some (.int (bI (kd s = 2 ∧ bitN T (pl s)))) ∧ I' = I ∧ L' = L) := by
  refine ct_of (by decide +kernel) (Nat.le_of_ble_eq_true rfl) hE ?_
  intro a X Y hl hEE
  subst hl; subst hEE
  obtain ⟨hl1, hl5, hsc16, hst⟩ := id hn
  obtain ⟨hk2, hpln, hkp, hw1, hw9⟩ := hst s hs
  show V a 0 [(0, .ref (eA (vE a) 5 w)), (1, .int (nI s)), (2, .int (nI T))] [] I L
  refine v_aload_n X 0 rfl dX3_isWeighedOn_0 ?_
  refine gf_X3_9 X hw dX3_isWeighedOn_1 ?_
  refine v_iload_n X 1 rfl dX3_isWeighedOn_4 ?_
  refine v_iald_n X (dl_6 hw) (fun _ _ => rfl) (n := 16) (by omega) (by decide) dX3_isWeighedOn_5 ?_
  refine v_eqi (y := (nI (kd s))) ((hW.2.2 s hs).1) ?_
  refine v_iconst X (v := (nI 2)) dX3_isWeighedOn_6 (by decide) ?_
  refine v_icmp_ne_n X (by omega) (by omega) dX3_isWeighedOn_7 (tgt := 27) (by decide) (fun h7 => ?_) (fun h7 => ?_)
  · refine v_iconst X (v := (nI 0)) dX3_isWeighedOn_27 (by decide) ?_
    exact v_zret X Y (rfl) dX3_isWeighedOn_28 (⟨retF fun q => h7 q.1, rfl, rfl⟩)
  · refine v_iload_n X 2 rfl dX3_isWeighedOn_10 ?_
    refine v_aload_n X 0 rfl dX3_isWeighedOn_11 ?_
    refine gf_X3_15 X hw dX3_isWeighedOn_12 ?_
    refine v_iload_n X 1 rfl dX3_isWeighedOn_15 ?_
    refine v_iald_n X (dl_7 hw) (fun _ _ => rfl) (n := 16) (by omega) (by decide) dX3_isWeighedOn_16 ?_
    refine v_eqi (y := (nI (pl s))) ((hW.2.2 s hs).2.1) ?_
    refine v_callN X (c_X5_holds _ _ hE _ _ T (pl s) (by omega) (by omega)) k_X3_28 ⟨rfl, rfl, Nat.le_of_ble_eq_true rfl, Nat.le_of_ble_eq_true rfl⟩ (As := [.int (nI T), .int (nI (pl s))]) (rest := []) rfl rfl (Nat.le_of_ble_eq_true rfl) dX3_isWeighedOn_17 (fun r17 I17 L17 hp17 => ?_)
    obtain ⟨rfl, e1, e2⟩ := hp17
    have e1 := e1.symm
    have e2 := e2.symm
    subst e1; subst e2
    refine v_st (st' := [.int (bI (T / 2 ^ (pl s) % 2 = 1))]) rfl ?_
    refine v_ifb_eq X dX3_isWeighedOn_20 (tgt := 27) (by decide) (fun h20 => ?_) (fun h20 => ?_)
    · refine v_iconst X (v := (nI 0)) dX3_isWeighedOn_27 (by decide) ?_
      exact v_zret X Y (rfl) dX3_isWeighedOn_28 (⟨retF fun q => h20 q.2, rfl, rfl⟩)
    · refine v_iconst X (v := (nI 1)) dX3_isWeighedOn_23 (by decide) ?_
      refine v_goto X (tgt := 28) dX3_isWeighedOn_24 (by decide) ?_
      exact v_zret X Y (rfl) dX3_isWeighedOn_28 (⟨retT ⟨h7, h20⟩, rfl, rfl⟩)
set_option maxHeartbeats 4000000 in
set_option maxRecDepth 100000 in
theorem c_X3_afterGoing (l : Launch) (E : VE) (hE : EOk E) (I : TI) (L : TL) (w : Nat) (hw : w < 4) (ln sc : Nat) (kd pl wt : Nat → Nat) (hn : netOk ln sc kd pl wt) (hW : webR I w ln sc kd pl wt) (s : Nat) (hs : s < sc) (T : Nat) (hT : T < 32) : Ct l E yX3_afterGoing cX3_afterGoing 7 (some .int) rm_X3_afterGoing [.ref (eA E 5 w), .int (nI s), .int (nI T)] I L (fun r I' L' => r = some (.int (nI (aft (kd s) (pl s) T))) ∧ I' = I ∧ L' = L) := by
  refine ct_of (by decide +kernel) (Nat.le_of_ble_eq_true rfl) hE ?_
  intro a X Y hl hEE
  subst hl; subst hEE
  obtain ⟨hl1, hl5, hsc16, hst⟩ := id hn
  obtain ⟨hk2, hpln, hkp, hw1, hw9⟩ := hst s hs
  have hsr : kd s = 2 ∨ asr (kd s) (pl s) < 5 := by unfold asr; split <;> omega
  have hds : kd s = 2 ∨ ads (kd s) (pl s) < 5 := by unfold ads; split <;> omega
  show V a 0 [(0, .ref (eA (vE a) 5 w)), (1, .int (nI s)), (2, .int (nI T))] [] I L
  refine v_aload_n X 0 rfl dX3_afterGoing_0 ?_
  refine gf_X3_9 X hw dX3_afterGoing_1 ?_
  refine v_iload_n X 1 rfl dX3_afterGoing_4 ?_
  refine v_iald_n X (dl_6 hw) (fun _ _ => rfl) (n := 16) (by omega) (by decide) dX3_afterGoing_5 ?_
  refine v_eqi (y := (nI (kd s))) ((hW.2.2 s hs).1) ?_
  refine v_iconst X (v := (nI 2)) dX3_afterGoing_6 (by decide) ?_
  refine v_icmp_ne_n X (by omega) (by omega) dX3_afterGoing_7 (tgt := 12) (by decide) (fun h7 => ?_) (fun h7 => ?_)
  · refine v_aload_n X 0 rfl dX3_afterGoing_12 ?_
    refine gf_X3_15 X hw dX3_afterGoing_13 ?_
    refine v_iload_n X 1 rfl dX3_afterGoing_16 ?_
    refine v_iald_n X (dl_7 hw) (fun _ _ => rfl) (n := 16) (by omega) (by decide) dX3_afterGoing_17 ?_
    refine v_eqi (y := (nI (pl s))) ((hW.2.2 s hs).2.1) ?_
    refine v_istore_n X [1, 2, 3, 0] (lv' := [(0, .ref (eA (vE a) 5 w)), (1, .int (nI s)), (2, .int (nI T)), (3, .int (nI (pl s)))]) (by decide) rfl dX3_afterGoing_18 ?_
    refine v_aload_n X 0 rfl dX3_afterGoing_19 ?_
    refine gf_X3_9 X hw dX3_afterGoing_20 ?_
    refine v_iload_n X 1 rfl dX3_afterGoing_23 ?_
    refine v_iald_n X (dl_6 hw) (fun _ _ => rfl) (n := 16) (by omega) (by decide) dX3_afterGoing_24 ?_
    refine v_eqi (y := (nI (kd s))) ((hW.2.2 s hs).1) ?_
    refine v_if_ne_n X (by omega) dX3_afterGoing_25 (tgt := 32) (by decide) (fun h25 => ?_) (fun h25 => ?_)
    · refine v_iload_n X 3 rfl dX3_afterGoing_32 ?_
      refine v_iconst X (v := (nI 1)) dX3_afterGoing_33 (by decide) ?_
      refine v_iadd X dX3_afterGoing_34 ?_
      refine v_eqi (y := (nI ((pl s) + 1))) (nI_add _ _) ?_
      refine v_eqi (y := (nI (asr (kd s) (pl s)))) (congrArg nI (asr_1 h25)) ?_
      refine v_istore X [1, 2, 3, 4, 0] (lv' := [(0, .ref (eA (vE a) 5 w)), (1, .int (nI s)), (2, .int (nI T)), (3, .int (nI (pl s))), (4, .int (nI (asr (kd s) (pl s))))]) (by decide) rfl dX3_afterGoing_35 ?_
      refine v_aload_n X 0 rfl dX3_afterGoing_37 ?_
      refine gf_X3_9 X hw dX3_afterGoing_38 ?_
      refine v_iload_n X 1 rfl dX3_afterGoing_41 ?_
      refine v_iald_n X (dl_6 hw) (fun _ _ => rfl) (n := 16) (by omega) (by decide) dX3_afterGoing_42 ?_
      refine v_eqi (y := (nI (kd s))) ((hW.2.2 s hs).1) ?_
      refine v_if_ne_n X (by omega) dX3_afterGoing_43 (tgt := 52) (by decide) (fun h43 => ?_) (fun h43 => ?_)
      · refine v_iload_n X 3 rfl dX3_afterGoing_52 ?_
        refine v_eqi (y := (nI (ads (kd s) (pl s)))) (congrArg nI (ads_1 h25)) ?_
        refine v_istore X [1, 2, 3, 4, 5, 0] (lv' := [(0, .ref (eA (vE a) 5 w)), (1, .int (nI s)), (2, .int (nI T)), (3, .int (nI (pl s))), (4, .int (nI (asr (kd s) (pl s)))), (5, .int (nI (ads (kd s) (pl s))))]) (by decide) rfl dX3_afterGoing_53 ?_
        refine v_iload_n X 2 rfl dX3_afterGoing_55 ?_
        refine v_iload X 4 rfl dX3_afterGoing_56 ?_
        refine v_callN X (c_X5_holds _ _ hE _ _ T (asr (kd s) (pl s)) (by omega) (by omega)) k_X3_28 ⟨rfl, rfl, Nat.le_of_ble_eq_true rfl, Nat.le_of_ble_eq_true rfl⟩ (As := [.int (nI T), .int (nI (asr (kd s) (pl s)))]) (rest := []) rfl rfl (Nat.le_of_ble_eq_true rfl) dX3_afterGoing_58 (fun r58 I58 L58 hp58 => ?_)
        obtain ⟨rfl, e1, e2⟩ := hp58
        have e1 := e1.symm
        have e2 := e2.symm
        subst e1; subst e2
        refine v_st (st' := [.int (bI (T / 2 ^ (asr (kd s) (pl s)) % 2 = 1))]) rfl ?_
        refine v_ifb_eq X dX3_afterGoing_61 (tgt := 77) (by decide) (fun h61 => ?_) (fun h61 => ?_)
        · refine v_iconst X (v := (nI 0)) dX3_afterGoing_77 (by decide) ?_
          refine v_istore X [1, 2, 3, 4, 5, 6, 0] (lv' := [(0, .ref (eA (vE a) 5 w)), (1, .int (nI s)), (2, .int (nI T)), (3, .int (nI (pl s))), (4, .int (nI (asr (kd s) (pl s)))), (5, .int (nI (ads (kd s) (pl s)))), (6, .int (nI 0))]) (by decide) rfl dX3_afterGoing_78 ?_
          refine v_iload X 6 rfl dX3_afterGoing_80 ?_
          refine v_if_eq_n X (by omega) dX3_afterGoing_82 (tgt := 99) (by decide) (fun h82 => ?_) (fun h82 => ?_)
          · refine v_iload_n X 2 rfl dX3_afterGoing_99 ?_
            exact v_iret X Y dX3_afterGoing_100 (⟨by rw [aft_st (Or.inl h61)], rfl, rfl⟩)
          · exact absurd h82 (by decide)
        · refine v_iload_n X 2 rfl dX3_afterGoing_64 ?_
          refine v_iload X 5 rfl dX3_afterGoing_65 ?_
          refine v_callN X (c_X5_holds _ _ hE _ _ T (ads (kd s) (pl s)) (by omega) (by omega)) k_X3_28 ⟨rfl, rfl, Nat.le_of_ble_eq_true rfl, Nat.le_of_ble_eq_true rfl⟩ (As := [.int (nI T), .int (nI (ads (kd s) (pl s)))]) (rest := []) rfl rfl (Nat.le_of_ble_eq_true rfl) dX3_afterGoing_67 (fun r67 I67 L67 hp67 => ?_)
          obtain ⟨rfl, e1, e2⟩ := hp67
          have e1 := e1.symm
          have e2 := e2.symm
          subst e1; subst e2
          refine v_st (st' := [.int (bI (T / 2 ^ (ads (kd s) (pl s)) % 2 = 1))]) rfl ?_
          refine v_ifb_ne X dX3_afterGoing_70 (tgt := 77) (by decide) (fun h70 => ?_) (fun h70 => ?_)
          · refine v_iconst X (v := (nI 0)) dX3_afterGoing_77 (by decide) ?_
            refine v_istore X [1, 2, 3, 4, 5, 6, 0] (lv' := [(0, .ref (eA (vE a) 5 w)), (1, .int (nI s)), (2, .int (nI T)), (3, .int (nI (pl s))), (4, .int (nI (asr (kd s) (pl s)))), (5, .int (nI (ads (kd s) (pl s)))), (6, .int (nI 0))]) (by decide) rfl dX3_afterGoing_78 ?_
            refine v_iload X 6 rfl dX3_afterGoing_80 ?_
            refine v_if_eq_n X (by omega) dX3_afterGoing_82 (tgt := 99) (by decide) (fun h82 => ?_) (fun h82 => ?_)
            · refine v_iload_n X 2 rfl dX3_afterGoing_99 ?_
              exact v_iret X Y dX3_afterGoing_100 (⟨by rw [aft_st (Or.inr h70)], rfl, rfl⟩)
            · exact absurd h82 (by decide)
          · refine v_iconst X (v := (nI 1)) dX3_afterGoing_73 (by decide) ?_
            refine v_goto X (tgt := 78) dX3_afterGoing_74 (by decide) ?_
            refine v_istore X [1, 2, 3, 4, 5, 6, 0] (lv' := [(0, .ref (eA (vE a) 5 w)), (1, .int (nI s)), (2, .int (nI T)), (3, .int (nI (pl s))), (4, .int (nI (asr (kd s) (pl s)))), (5, .int (nI (ads (kd s) (pl s)))), (6, .int (nI 1))]) (by decide) rfl dX3_afterGoing_78 ?_
            refine v_iload X 6 rfl dX3_afterGoing_80 ?_
            refine v_if_eq_n X (by omega) dX3_afterGoing_82 (tgt := 99) (by decide) (fun h82 => ?_) (fun h82 => ?_)
            · exact absurd h82 (by decide)
            · refine v_iload_n X 2 rfl dX3_afterGoing_85 ?_
              refine v_iconst X (v := (nI 1)) dX3_afterGoing_86 (by decide) ?_
              refine v_iload X 4 rfl dX3_afterGoing_87 ?_
              refine v_ishl X dX3_afterGoing_89 ?_
              refine v_eqi (y := (nI (2 ^ (asr (kd s) (pl s))))) (sh_one (by omega)) ?_
              refine v_iconst X (v := (nI 1)) dX3_afterGoing_90 (by decide) ?_
              refine v_iload X 5 rfl dX3_afterGoing_91 ?_
              refine v_ishl X dX3_afterGoing_93 ?_
              refine v_eqi (y := (nI (2 ^ (ads (kd s) (pl s))))) (sh_one (by omega)) ?_
              refine v_ior X dX3_afterGoing_94 ?_
              refine v_eqi (y := (nI ((2 ^ (asr (kd s) (pl s))) ||| (2 ^ (ads (kd s) (pl s)))))) (an_or _ _) ?_
              refine v_ixor X dX3_afterGoing_95 ?_
              refine v_eqi (y := (nI (T ^^^ ((2 ^ (asr (kd s) (pl s))) ||| (2 ^ (ads (kd s) (pl s))))))) (an_xor _ _) ?_
              refine v_goto X (tgt := 100) dX3_afterGoing_96 (by decide) ?_
              exact v_iret X Y dX3_afterGoing_100 (⟨by rw [aft_go h7 h61 h70], rfl, rfl⟩)
      · exact absurd h43 (by omega)
    · refine v_iload_n X 3 rfl dX3_afterGoing_28 ?_
      refine v_goto X (tgt := 35) dX3_afterGoing_29 (by decide) ?_
      refine v_eqi (y := (nI (asr (kd s) (pl s)))) (congrArg nI (asr_0 h25)) ?_
      refine v_istore X [1, 2, 3, 4, 0] (lv' := [(0, .ref (eA (vE a) 5 w)), (1, .int (nI s)), (2, .int (nI T)), (3, .int (nI (pl s))), (4, .int (nI (asr (kd s) (pl s))))]) (by decide) rfl dX3_afterGoing_35 ?_
      refine v_aload_n X 0 rfl dX3_afterGoing_37 ?_
      refine gf_X3_9 X hw dX3_afterGoing_38 ?_
      refine v_iload_n X 1 rfl dX3_afterGoing_41 ?_
      refine v_iald_n X (dl_6 hw) (fun _ _ => rfl) (n := 16) (by omega) (by decide) dX3_afterGoing_42 ?_
      refine v_eqi (y := (nI (kd s))) ((hW.2.2 s hs).1) ?_
      refine v_if_ne_n X (by omega) dX3_afterGoing_43 (tgt := 52) (by decide) (fun h43 => ?_) (fun h43 => ?_)
      · exact absurd h43 (by omega)
      · refine v_iload_n X 3 rfl dX3_afterGoing_46 ?_
        refine v_iconst X (v := (nI 1)) dX3_afterGoing_47 (by decide) ?_
        refine v_iadd X dX3_afterGoing_48 ?_
        refine v_eqi (y := (nI ((pl s) + 1))) (nI_add _ _) ?_
        refine v_goto X (tgt := 53) dX3_afterGoing_49 (by decide) ?_
        refine v_eqi (y := (nI (ads (kd s) (pl s)))) (congrArg nI (ads_0 h25)) ?_
        refine v_istore X [1, 2, 3, 4, 5, 0] (lv' := [(0, .ref (eA (vE a) 5 w)), (1, .int (nI s)), (2, .int (nI T)), (3, .int (nI (pl s))), (4, .int (nI (asr (kd s) (pl s)))), (5, .int (nI (ads (kd s) (pl s))))]) (by decide) rfl dX3_afterGoing_53 ?_
        refine v_iload_n X 2 rfl dX3_afterGoing_55 ?_
        refine v_iload X 4 rfl dX3_afterGoing_56 ?_
        refine v_callN X (c_X5_holds _ _ hE _ _ T (asr (kd s) (pl s)) (by omega) (by omega)) k_X3_28 ⟨rfl, rfl, Nat.le_of_ble_eq_true rfl, Nat.le_of_ble_eq_true rfl⟩ (As := [.int (nI T), .int (nI (asr (kd s) (pl s)))]) (rest := []) rfl rfl (Nat.le_of_ble_eq_true rfl) dX3_afterGoing_58 (fun r58 I58 L58 hp58 => ?_)
        obtain ⟨rfl, e1, e2⟩ := hp58
        have e1 := e1.symm
        have e2 := e2.symm
        subst e1; subst e2
        refine v_st (st' := [.int (bI (T / 2 ^ (asr (kd s) (pl s)) % 2 = 1))]) rfl ?_
        refine v_ifb_eq X dX3_afterGoing_61 (tgt := 77) (by decide) (fun h61 => ?_) (fun h61 => ?_)
        · refine v_iconst X (v := (nI 0)) dX3_afterGoing_77 (by decide) ?_
          refine v_istore X [1, 2, 3, 4, 5, 6, 0] (lv' := [(0, .ref (eA (vE a) 5 w)), (1, .int (nI s)), (2, .int (nI T)), (3, .int (nI (pl s))), (4, .int (nI (asr (kd s) (pl s)))), (5, .int (nI (ads (kd s) (pl s)))), (6, .int (nI 0))]) (by decide) rfl dX3_afterGoing_78 ?_
          refine v_iload X 6 rfl dX3_afterGoing_80 ?_
          refine v_if_eq_n X (by omega) dX3_afterGoing_82 (tgt := 99) (by decide) (fun h82 => ?_) (fun h82 => ?_)
          · refine v_iload_n X 2 rfl dX3_afterGoing_99 ?_
            exact v_iret X Y dX3_afterGoing_100 (⟨by rw [aft_st (Or.inl h61)], rfl, rfl⟩)
          · exact absurd h82 (by decide)
        · refine v_iload_n X 2 rfl dX3_afterGoing_64 ?_
          refine v_iload X 5 rfl dX3_afterGoing_65 ?_
          refine v_callN X (c_X5_holds _ _ hE _ _ T (ads (kd s) (pl s)) (by omega) (by omega)) k_X3_28 ⟨rfl, rfl, Nat.le_of_ble_eq_true rfl, Nat.le_of_ble_eq_true rfl⟩ (As := [.int (nI T), .int (nI (ads (kd s) (pl s)))]) (rest := []) rfl rfl (Nat.le_of_ble_eq_true rfl) dX3_afterGoing_67 (fun r67 I67 L67 hp67 => ?_)
          obtain ⟨rfl, e1, e2⟩ := hp67
          have e1 := e1.symm
          have e2 := e2.symm
          subst e1; subst e2
          refine v_st (st' := [.int (bI (T / 2 ^ (ads (kd s) (pl s)) % 2 = 1))]) rfl ?_
          refine v_ifb_ne X dX3_afterGoing_70 (tgt := 77) (by decide) (fun h70 => ?_) (fun h70 => ?_)
          · refine v_iconst X (v := (nI 0)) dX3_afterGoing_77 (by decide) ?_
            refine v_istore X [1, 2, 3, 4, 5, 6, 0] (lv' := [(0, .ref (eA (vE a) 5 w)), (1, .int (nI s)), (2, .int (nI T)), (3, .int (nI (pl s))), (4, .int (nI (asr (kd s) (pl s)))), (5, .int (nI (ads (kd s) (pl s)))), (6, .int (nI 0))]) (by decide) rfl dX3_afterGoing_78 ?_
            refine v_iload X 6 rfl dX3_afterGoing_80 ?_
            refine v_if_eq_n X (by omega) dX3_afterGoing_82 (tgt := 99) (by decide) (fun h82 => ?_) (fun h82 => ?_)
            · refine v_iload_n X 2 rfl dX3_afterGoing_99 ?_
              exact v_iret X Y dX3_afterGoing_100 (⟨by rw [aft_st (Or.inr h70)], rfl, rfl⟩)
            · exact absurd h82 (by decide)
          · refine v_iconst X (v := (nI 1)) dX3_afterGoing_73 (by decide) ?_
            refine v_goto X (tgt := 78) dX3_afterGoing_74 (by decide) ?_
            refine v_istore X [1, 2, 3, 4, 5, 6, 0] (lv' := [(0, .ref (eA (vE a) 5 w)), (1, .int (nI s)), (2, .int (nI T)), (3, .int (nI (pl s))), (4, .int (nI (asr (kd s) (pl s)))), (5, .int (nI (ads (kd s) (pl s)))), (6, .int (nI 1))]) (by decide) rfl dX3_afterGoing_78 ?_
            refine v_iload X 6 rfl dX3_afterGoing_80 ?_
            refine v_if_eq_n X (by omega) dX3_afterGoing_82 (tgt := 99) (by decide) (fun h82 => ?_) (fun h82 => ?_)
            · exact absurd h82 (by decide)
            · refine v_iload_n X 2 rfl dX3_afterGoing_85 ?_
              refine v_iconst X (v := (nI 1)) dX3_afterGoing_86 (by decide) ?_
              refine v_iload X 4 rfl dX3_afterGoing_87 ?_
              refine v_ishl X dX3_afterGoing_89 ?_
              refine v_eqi (y := (nI (2 ^ (asr (kd s) (pl s))))) (sh_one (by omega)) ?_
              refine v_iconst X (v := (nI 1)) dX3_afterGoing_90 (by decide) ?_
              refine v_iload X 5 rfl dX3_afterGoing_91 ?_
              refine v_ishl X dX3_afterGoing_93 ?_
              refine v_eqi (y := (nI (2 ^ (ads (kd s) (pl s))))) (sh_one (by omega)) ?_
              refine v_ior X dX3_afterGoing_94 ?_
              refine v_eqi (y := (nI ((2 ^ (asr (kd s) (pl s))) ||| (2 ^ (ads (kd s) (pl s)))))) (an_or _ _) ?_
              refine v_ixor X dX3_afterGoing_95 ?_
              refine v_eqi (y := (nI (T ^^^ ((2 ^ (asr (kd s) (pl s))) ||| (2 ^ (ads (kd s) (pl s))))))) (an_xor _ _) ?_
              refine v_goto X (tgt := 100) dX3_afterGoing_96 (by decide) ?_
              exact v_iret X Y dX3_afterGoing_100 (⟨by rw [aft_go h7 h61 h70], rfl, rfl⟩)
  · refine v_iload_n X 2 rfl dX3_afterGoing_10 ?_
    exact v_iret X Y dX3_afterGoing_11 (⟨by rw [aft_on h7], rfl, rfl⟩)
set_option maxHeartbeats 4000000 in
set_option maxRecDepth 100000 in
theorem c_X2_fromStep (l : Launch) (E : VE) (hE : EOk E) (I : TI) (L : TL) (w : Nat) (hw : w < 4) (ln sc : Nat) (kd pl wt : Nat → Nat) (hn : netOk ln sc kd pl wt) (hW : webR I w ln sc kd pl wt) (s : Nat) (hs : s < sc) (T : Nat) (hT : T < 32) (b : Nat) (hb : b < 2) : Ct l E yX2_fromStep cX2_fromStep 10 (some .long) rm_X2_fromStep [.ref (eA E 15 0), .ref (eA E 5 w), .int (nI s), .int (nI T), .int (nI b)] I L (fun r I' L' => r = some (.long (frs (kd s) (pl s) (wvl b wt s) (fun T' => L 16 0 ((s + 1) * 32 + T')) T)) ∧ I' = I ∧ L' = L) := by
  refine ct_of (by decide +kernel) (Nat.le_of_ble_eq_true rfl) hE ?_
  intro a X Y hl hEE
  subst hl; subst hEE
  obtain ⟨hl1, hl5, hsc16, hst⟩ := id hn
  obtain ⟨hk2, hpln, hkp, hw1, hw9⟩ := hst s hs
  have hlt := aft_lt hn hs hT
  show V a 0 [(0, .ref (eA (vE a) 15 0)), (1, .ref (eA (vE a) 5 w)), (2, .int (nI s)), (3, .int (nI T)), (4, .int (nI b))] [] I L
  refine v_iload X 4 rfl dX2_fromStep_0 ?_
  refine v_if_eq_n X (by omega) dX2_fromStep_2 (tgt := 15) (by decide) (fun h2 => ?_) (fun h2 => ?_)
  · refine v_lconst X (v := 1) dX2_fromStep_15 rfl ?_
    refine v_eql (y := (wvl b wt s)) ((if_pos h2).symm) ?_
    refine v_lstore X [1, 2, 3, 4, 5, 0] (lv' := [(0, .ref (eA (vE a) 15 0)), (1, .ref (eA (vE a) 5 w)), (2, .int (nI s)), (3, .int (nI T)), (4, .int (nI b)), (5, .long (wvl b wt s))]) (by decide) rfl dX2_fromStep_16 ?_
    refine v_aload_n X 0 rfl dX2_fromStep_18 ?_
    refine gf_X2_9 X dX2_fromStep_19 ?_
    refine v_iload_n X 2 rfl dX2_fromStep_22 ?_
    refine v_iconst X (v := (nI 1)) dX2_fromStep_23 (by decide) ?_
    refine v_iadd X dX2_fromStep_24 ?_
    refine v_eqi (y := (nI (s + 1))) (nI_add _ _) ?_
    refine v_bipush X (v := (nI 32)) dX2_fromStep_25 (by decide) ?_
    refine v_imul X dX2_fromStep_27 ?_
    refine v_eqi (y := (nI ((s + 1) * 32))) (pk_mul _ _) ?_
    refine v_iload_n X 3 rfl dX2_fromStep_28 ?_
    refine v_iadd X dX2_fromStep_29 ?_
    refine v_eqi (y := (nI (((s + 1) * 32) + T))) (nI_add _ _) ?_
    refine v_lald_n X dl_16 (fun _ _ => rfl) (n := 544) (by omega) (by decide) dX2_fromStep_30 ?_
    refine v_lstore X [1, 2, 3, 4, 5, 6, 0] (lv' := [(0, .ref (eA (vE a) 15 0)), (1, .ref (eA (vE a) 5 w)), (2, .int (nI s)), (3, .int (nI T)), (4, .int (nI b)), (5, .long (wvl b wt s)), (7, .long (L 16 0 (((s + 1) * 32) + T)))]) (by decide) rfl dX2_fromStep_31 ?_
    refine v_aload_n X 1 rfl dX2_fromStep_33 ?_
    refine v_iload_n X 2 rfl dX2_fromStep_34 ?_
    refine v_iload_n X 3 rfl dX2_fromStep_35 ?_
    refine v_callV X (c_X3_isWeighedOn _ _ hE _ _ w hw ln sc kd pl wt hn hW s hs T hT) k_X2_29 (dl_5 hw) (cef_5 _ _ _ _) rfl ⟨rfl, rfl, Nat.le_of_ble_eq_true rfl, Nat.le_of_ble_eq_true rfl⟩ (As := [.int (nI s), .int (nI T)]) (rest := []) rfl rfl (Nat.le_of_ble_eq_true rfl) dX2_fromStep_36 (fun r36 I36 L36 hp36 => ?_)
    obtain ⟨rfl, e1, e2⟩ := hp36
    have e1 := e1.symm
    have e2 := e2.symm
    subst e1; subst e2
    refine v_st (st' := [.int (bI (kd s = 2 ∧ bitN T (pl s)))]) rfl ?_
    refine v_ifb_eq X dX2_fromStep_39 (tgt := 48) (by decide) (fun h39 => ?_) (fun h39 => ?_)
    · refine v_aload_n X 1 rfl dX2_fromStep_48 ?_
      refine v_iload_n X 2 rfl dX2_fromStep_49 ?_
      refine v_iload_n X 3 rfl dX2_fromStep_50 ?_
      refine v_callV X (c_X3_afterGoing _ _ hE _ _ w hw ln sc kd pl wt hn hW s hs T hT) k_X2_33 (dl_5 hw) (cef_5 _ _ _ _) rfl ⟨rfl, rfl, Nat.le_of_ble_eq_true rfl, Nat.le_of_ble_eq_true rfl⟩ (As := [.int (nI s), .int (nI T)]) (rest := []) rfl rfl (Nat.le_of_ble_eq_true rfl) dX2_fromStep_51 (fun r51 I51 L51 hp51 => ?_)
      obtain ⟨rfl, e1, e2⟩ := hp51
      have e1 := e1.symm
      have e2 := e2.symm
      subst e1; subst e2
      refine v_st (st' := [.int (nI (aft (kd s) (pl s) T))]) rfl ?_
      refine v_istore X [1, 2, 3, 4, 5, 6, 7, 0] (lv' := [(0, .ref (eA (vE a) 15 0)), (1, .ref (eA (vE a) 5 w)), (2, .int (nI s)), (3, .int (nI T)), (4, .int (nI b)), (5, .long (wvl b wt s)), (7, .long (L 16 0 (((s + 1) * 32) + T))), (9, .int (nI (aft (kd s) (pl s) T)))]) (by decide) rfl dX2_fromStep_54 ?_
      refine v_iload X 7 rfl dX2_fromStep_56 ?_
      refine v_iload_n X 3 rfl dX2_fromStep_58 ?_
      refine v_icmp_ne_n X (by omega) (by omega) dX2_fromStep_59 (tgt := 67) (by decide) (fun h59 => ?_) (fun h59 => ?_)
      · refine v_lload X 6 rfl dX2_fromStep_67 ?_
        refine v_lload X 5 rfl dX2_fromStep_69 ?_
        refine v_aload_n X 0 rfl dX2_fromStep_71 ?_
        refine gf_X2_9 X dX2_fromStep_72 ?_
        refine v_iload_n X 2 rfl dX2_fromStep_75 ?_
        refine v_iconst X (v := (nI 1)) dX2_fromStep_76 (by decide) ?_
        refine v_iadd X dX2_fromStep_77 ?_
        refine v_eqi (y := (nI (s + 1))) (nI_add _ _) ?_
        refine v_bipush X (v := (nI 32)) dX2_fromStep_78 (by decide) ?_
        refine v_imul X dX2_fromStep_80 ?_
        refine v_eqi (y := (nI ((s + 1) * 32))) (pk_mul _ _) ?_
        refine v_iload X 7 rfl dX2_fromStep_81 ?_
        refine v_iadd X dX2_fromStep_83 ?_
        refine v_eqi (y := (nI (((s + 1) * 32) + (aft (kd s) (pl s) T)))) (nI_add _ _) ?_
        refine v_lald_n X dl_16 (fun _ _ => rfl) (n := 544) (by omega) (by decide) dX2_fromStep_84 ?_
        refine v_lmul X dX2_fromStep_85 ?_
        refine v_ladd X dX2_fromStep_86 ?_
        exact v_lret X Y dX2_fromStep_87 (⟨by unfold frs; rw [if_neg h39, if_neg h59], rfl, rfl⟩)
      · refine v_lload X 6 rfl dX2_fromStep_62 ?_
        refine v_goto X (tgt := 87) dX2_fromStep_64 (by decide) ?_
        exact v_lret X Y dX2_fromStep_87 (⟨by unfold frs; rw [if_neg h39, if_pos h59], rfl, rfl⟩)
    · refine v_lload X 5 rfl dX2_fromStep_42 ?_
      refine v_lload X 6 rfl dX2_fromStep_44 ?_
      refine v_lmul X dX2_fromStep_46 ?_
      exact v_lret X Y dX2_fromStep_47 (⟨by unfold frs; rw [if_pos h39], rfl, rfl⟩)
  · refine v_aload_n X 1 rfl dX2_fromStep_5 ?_
    refine gf_X2_25 X hw dX2_fromStep_6 ?_
    refine v_iload_n X 2 rfl dX2_fromStep_9 ?_
    refine v_iald_n X (dl_8 hw) (fun _ _ => rfl) (n := 16) (by omega) (by decide) dX2_fromStep_10 ?_
    refine v_eqi (y := (nI (wt s))) ((hW.2.2 s hs).2.2) ?_
    refine v_i2l X dX2_fromStep_11 rfl ?_
    refine v_goto X (tgt := 16) dX2_fromStep_12 (by decide) ?_
    refine v_eql (y := (wvl b wt s)) ((if_neg (by omega : ¬ b = 0)).symm) ?_
    refine v_lstore X [1, 2, 3, 4, 5, 0] (lv' := [(0, .ref (eA (vE a) 15 0)), (1, .ref (eA (vE a) 5 w)), (2, .int (nI s)), (3, .int (nI T)), (4, .int (nI b)), (5, .long (wvl b wt s))]) (by decide) rfl dX2_fromStep_16 ?_
    refine v_aload_n X 0 rfl dX2_fromStep_18 ?_
    refine gf_X2_9 X dX2_fromStep_19 ?_
    refine v_iload_n X 2 rfl dX2_fromStep_22 ?_
    refine v_iconst X (v := (nI 1)) dX2_fromStep_23 (by decide) ?_
    refine v_iadd X dX2_fromStep_24 ?_
    refine v_eqi (y := (nI (s + 1))) (nI_add _ _) ?_
    refine v_bipush X (v := (nI 32)) dX2_fromStep_25 (by decide) ?_
    refine v_imul X dX2_fromStep_27 ?_
    refine v_eqi (y := (nI ((s + 1) * 32))) (pk_mul _ _) ?_
    refine v_iload_n X 3 rfl dX2_fromStep_28 ?_
    refine v_iadd X dX2_fromStep_29 ?_
    refine v_eqi (y := (nI (((s + 1) * 32) + T))) (nI_add _ _) ?_
    refine v_lald_n X dl_16 (fun _ _ => rfl) (n := 544) (by omega) (by decide) dX2_fromStep_30 ?_
    refine v_lstore X [1, 2, 3, 4, 5, 6, 0] (lv' := [(0, .ref (eA (vE a) 15 0)), (1, .ref (eA (vE a) 5 w)), (2, .int (nI s)), (3, .int (nI T)), (4, .int (nI b)), (5, .long (wvl b wt s)), (7, .long (L 16 0 (((s + 1) * 32) + T)))]) (by decide) rfl dX2_fromStep_31 ?_
    refine v_aload_n X 1 rfl dX2_fromStep_33 ?_
    refine v_iload_n X 2 rfl dX2_fromStep_34 ?_
    refine v_iload_n X 3 rfl dX2_fromStep_35 ?_
    refine v_callV X (c_X3_isWeighedOn _ _ hE _ _ w hw ln sc kd pl wt hn hW s hs T hT) k_X2_29 (dl_5 hw) (cef_5 _ _ _ _) rfl ⟨rfl, rfl, Nat.le_of_ble_eq_true rfl, Nat.le_of_ble_eq_true rfl⟩ (As := [.int (nI s), .int (nI T)]) (rest := []) rfl rfl (Nat.le_of_ble_eq_true rfl) dX2_fromStep_36 (fun r36 I36 L36 hp36 => ?_)
    obtain ⟨rfl, e1, e2⟩ := hp36
    have e1 := e1.symm
    have e2 := e2.symm
    subst e1; subst e2
    refine v_st (st' := [.int (bI (kd s = 2 ∧ bitN T (pl s)))]) rfl ?_
    refine v_ifb_eq X dX2_fromStep_39 (tgt := 48) (by decide) (fun h39 => ?_) (fun h39 => ?_)
    · refine v_aload_n X 1 rfl dX2_fromStep_48 ?_
      refine v_iload_n X 2 rfl dX2_fromStep_49 ?_
      refine v_iload_n X 3 rfl dX2_fromStep_50 ?_
      refine v_callV X (c_X3_afterGoing _ _ hE _ _ w hw ln sc kd pl wt hn hW s hs T hT) k_X2_33 (dl_5 hw) (cef_5 _ _ _ _) rfl ⟨rfl, rfl, Nat.le_of_ble_eq_true rfl, Nat.le_of_ble_eq_true rfl⟩ (As := [.int (nI s), .int (nI T)]) (rest := []) rfl rfl (Nat.le_of_ble_eq_true rfl) dX2_fromStep_51 (fun r51 I51 L51 hp51 => ?_)
      obtain ⟨rfl, e1, e2⟩ := hp51
      have e1 := e1.symm
      have e2 := e2.symm
      subst e1; subst e2
      refine v_st (st' := [.int (nI (aft (kd s) (pl s) T))]) rfl ?_
      refine v_istore X [1, 2, 3, 4, 5, 6, 7, 0] (lv' := [(0, .ref (eA (vE a) 15 0)), (1, .ref (eA (vE a) 5 w)), (2, .int (nI s)), (3, .int (nI T)), (4, .int (nI b)), (5, .long (wvl b wt s)), (7, .long (L 16 0 (((s + 1) * 32) + T))), (9, .int (nI (aft (kd s) (pl s) T)))]) (by decide) rfl dX2_fromStep_54 ?_
      refine v_iload X 7 rfl dX2_fromStep_56 ?_
      refine v_iload_n X 3 rfl dX2_fromStep_58 ?_
      refine v_icmp_ne_n X (by omega) (by omega) dX2_fromStep_59 (tgt := 67) (by decide) (fun h59 => ?_) (fun h59 => ?_)
      · refine v_lload X 6 rfl dX2_fromStep_67 ?_
        refine v_lload X 5 rfl dX2_fromStep_69 ?_
        refine v_aload_n X 0 rfl dX2_fromStep_71 ?_
        refine gf_X2_9 X dX2_fromStep_72 ?_
        refine v_iload_n X 2 rfl dX2_fromStep_75 ?_
        refine v_iconst X (v := (nI 1)) dX2_fromStep_76 (by decide) ?_
        refine v_iadd X dX2_fromStep_77 ?_
        refine v_eqi (y := (nI (s + 1))) (nI_add _ _) ?_
        refine v_bipush X (v := (nI 32)) dX2_fromStep_78 (by decide) ?_
        refine v_imul X dX2_fromStep_80 ?_
        refine v_eqi (y := (nI ((s + 1) * 32))) (pk_mul _ _) ?_
        refine v_iload X 7 rfl dX2_fromStep_81 ?_
        refine v_iadd X dX2_fromStep_83 ?_
        refine v_eqi (y := (nI (((s + 1) * 32) + (aft (kd s) (pl s) T)))) (nI_add _ _) ?_
        refine v_lald_n X dl_16 (fun _ _ => rfl) (n := 544) (by omega) (by decide) dX2_fromStep_84 ?_
        refine v_lmul X dX2_fromStep_85 ?_
        refine v_ladd X dX2_fromStep_86 ?_
        exact v_lret X Y dX2_fromStep_87 (⟨by unfold frs; rw [if_neg h39, if_neg h59], rfl, rfl⟩)
      · refine v_lload X 6 rfl dX2_fromStep_62 ?_
        refine v_goto X (tgt := 87) dX2_fromStep_64 (by decide) ?_
        exact v_lret X Y dX2_fromStep_87 (⟨by unfold frs; rw [if_neg h39, if_pos h59], rfl, rfl⟩)
    · refine v_lload X 5 rfl dX2_fromStep_42 ?_
      refine v_lload X 6 rfl dX2_fromStep_44 ?_
      refine v_lmul X dX2_fromStep_46 ?_
      exact v_lret X Y dX2_fromStep_47 (⟨by unfold frs; rw [if_pos h39], rfl, rfl⟩)
theorem row_s {L : TL} {g : Nat → Int64} {p T : Nat} {v : Int64} (h : ∀ T', T' < T → L 16 0 (p + T') = g T') (hv : v = g T) : ∀ T', T' < T + 1 → upL L 16 0 (p + T) v 16 0 (p + T') = g T' := fun T' h' => by
  by_cases e : T' = T
  · rw [e, upL_eq, hv]
  · rw [upL_x (by omega)]
    exact h T' (by omega)
theorem row_o {L : TL} {P : Nat → Nat → Int64} {q T m M : Nat} {v : Int64} (hT : T < 32) (hq : q < m) (h : ∀ s, m ≤ s → s ≤ M → ∀ T', T' < 32 → L 16 0 (s * 32 + T') = P s T') : ∀ s, m ≤ s → s ≤ M → ∀ T', T' < 32 → upL L 16 0 (q * 32 + T) v 16 0 (s * 32 + T') = P s T' := fun s h1 h2 T' h3 => by
  rw [upL_x (by omega)]
  exact h s h1 h2 T' h3
set_option maxHeartbeats 4000000 in
set_option maxRecDepth 100000 in
theorem c_X2_lead (l : Launch) (E : VE) (hE : EOk E) (I : TI) (L : TL) (w : Nat) (hw : w < 4) (ln sc : Nat) (kd pl wt : Nat → Nat) (hn : netOk ln sc kd pl wt) (hW : webR I w ln sc kd pl wt) (f to b : Nat) (hf : f < 32) (hto : to < 32) (hb : b < 2) : Ct l E yX2_lead cX2_lead 7 (some .long) rm_X2_lead [.ref (eA E 15 0), .ref (eA E 5 w), .int (nI f), .int (nI to), .int (nI b)] I L (fun r I' L' => r = some (.long (wy sc kd pl (wvl b wt) to sc f)) ∧ I' = I ∧ FL [(16, 0)] L L' ∧ ∀ s, s ≤ sc → ∀ T', T' < 32 → L' 16 0 (s * 32 + T') = wy sc kd pl (wvl b wt) to (sc - s) T') := by
  refine ct_of (by decide +kernel) (Nat.le_of_ble_eq_true rfl) hE ?_
  intro a X Y hl hEE
  subst hl; subst hEE
  obtain ⟨hl1, hl5, hsc16, hst⟩ := id hn
  show V a 0 [(0, .ref (eA (vE a) 15 0)), (1, .ref (eA (vE a) 5 w)), (2, .int (nI f)), (3, .int (nI to)), (4, .int (nI b))] [] I L
  refine v_iconst X (v := (nI 0)) dX2_lead_0 (by decide) ?_
  refine v_istore X [1, 2, 3, 4, 5, 0] (lv' := [(0, .ref (eA (vE a) 15 0)), (1, .ref (eA (vE a) 5 w)), (2, .int (nI f)), (3, .int (nI to)), (4, .int (nI b)), (5, .int (nI 0))]) (by decide) rfl dX2_lead_1 ?_
  have loop3 : ∀ (fu : Nat) (T : Nat) (L1 : TL), 32 - T < fu → (T ≤ 32) → (FL [(16, 0)] L L1) → (∀ T', T' < T → L1 16 0 (sc * 32 + T') = wy sc kd pl (wvl b wt) to 0 T') → V a 3 [(0, .ref (eA (vE a) 15 0)), (1, .ref (eA (vE a) 5 w)), (2, .int (nI f)), (3, .int (nI to)), (4, .int (nI b)), (5, .int (nI T))] [] I L1 := by
    intro fu
    induction fu with
    | zero => intro T L1 hm _ _ _; exact absurd hm (Nat.not_lt_zero _)
    | succ fu ih3 =>
      intro T L1 hm3 hT hFL hv
      refine v_iload X 5 rfl dX2_lead_3 ?_
      refine v_bipush X (v := (nI 32)) dX2_lead_5 (by decide) ?_
      refine v_icmp_ge_n X (by omega) (by omega) dX2_lead_7 (tgt := 42) (by decide) (fun h7 => ?_) (fun h7 => ?_)
      · refine v_aload_n X 1 rfl dX2_lead_42 ?_
        refine gf_X2_15 X hw dX2_lead_43 ?_
        refine v_eqi (y := (nI sc)) (hW.2.1) ?_
        refine v_iconst X (v := (nI 1)) dX2_lead_46 (by decide) ?_
        refine v_isub X dX2_lead_47 ?_
        refine v_istore X [1, 2, 3, 4, 5, 0] (lv' := [(0, .ref (eA (vE a) 15 0)), (1, .ref (eA (vE a) 5 w)), (2, .int (nI f)), (3, .int (nI to)), (4, .int (nI b)), (5, .int ((nI sc) - (nI 1)))]) (by decide) rfl dX2_lead_48 ?_
        have loop50 : ∀ (fu : Nat) (m : Nat) (L1 : TL), m < fu → (m ≤ sc) → (FL [(16, 0)] L L1) → (∀ s, m ≤ s → s ≤ sc → ∀ T', T' < 32 → L1 16 0 (s * 32 + T') = wy sc kd pl (wvl b wt) to (sc - s) T') → V a 50 [(0, .ref (eA (vE a) 15 0)), (1, .ref (eA (vE a) 5 w)), (2, .int (nI f)), (3, .int (nI to)), (4, .int (nI b)), (5, .int (nI m - nI 1))] [] I L1 := by
          intro fu
          induction fu with
          | zero => intro m L1 hm _ _ _; exact absurd hm (Nat.not_lt_zero _)
          | succ fu ih50 =>
            intro m L1 hm50 hm hFL hv
            refine v_iload X 5 rfl dX2_lead_50 ?_
            refine v_if_lt X dX2_lead_52 (tgt := 101) (by decide) (fun h52 => ?_) (fun h52 => ?_)
            · have hm0 : m = 0 := down_zero (by omega) h52
              subst hm0
              refine v_iload_n X 2 rfl dX2_lead_101 ?_
              refine v_if_lt_n X (by omega) dX2_lead_102 (tgt := 120) (by decide) ?_
              refine v_iload_n X 2 rfl dX2_lead_105 ?_
              refine v_bipush X (v := (nI 32)) dX2_lead_106 (by decide) ?_
              refine v_icmp_ge_n X (by omega) (by omega) dX2_lead_108 (tgt := 120) (by decide) (fun h108 => ?_) (fun h108 => ?_)
              · exact absurd h108 (by omega)
              · refine v_aload_n X 0 rfl dX2_lead_111 ?_
                refine gf_X2_9 X dX2_lead_112 ?_
                refine v_iload_n X 2 rfl dX2_lead_115 ?_
                refine v_lald_n X dl_16 (fun _ _ => rfl) (n := 544) (by omega) (by decide) dX2_lead_116 ?_
                refine v_goto X (tgt := 121) dX2_lead_117 (by decide) ?_
                exact v_lret X Y dX2_lead_121 (⟨by rw [← show L1 16 0 (0 * 32 + f) = L1 16 0 f by rw [Nat.zero_mul, Nat.zero_add], hv 0 (Nat.zero_le _) (Nat.zero_le _) f hf, Nat.sub_zero], rfl, hFL, fun s h1 T' h2 => hv s (Nat.zero_le _) h1 T' h2⟩)
            · obtain ⟨q, rfl⟩ : ∃ q, m = q + 1 := ⟨m - 1, by have := down_pos h52; omega⟩
              refine v_lv (lv' := [(0, .ref (eA (vE a) 15 0)), (1, .ref (eA (vE a) 5 w)), (2, .int (nI f)), (3, .int (nI to)), (4, .int (nI b)), (5, .int (nI q))]) (by rw [down_at]) ?_
              refine v_iconst X (v := (nI 0)) dX2_lead_55 (by decide) ?_
              refine v_istore X [1, 2, 3, 4, 5, 6, 0] (lv' := [(0, .ref (eA (vE a) 15 0)), (1, .ref (eA (vE a) 5 w)), (2, .int (nI f)), (3, .int (nI to)), (4, .int (nI b)), (5, .int (nI q)), (6, .int (nI 0))]) (by decide) rfl dX2_lead_56 ?_
              have loop58 : ∀ (fu : Nat) (T : Nat) (L2 : TL), 32 - T < fu → (T ≤ 32) → (FL [(16, 0)] L L2) → (∀ s, q + 1 ≤ s → s ≤ sc → ∀ T', T' < 32 → L2 16 0 (s * 32 + T') = wy sc kd pl (wvl b wt) to (sc - s) T') → (∀ T', T' < T → L2 16 0 (q * 32 + T') = wy sc kd pl (wvl b wt) to (sc - q) T') → V a 58 [(0, .ref (eA (vE a) 15 0)), (1, .ref (eA (vE a) 5 w)), (2, .int (nI f)), (3, .int (nI to)), (4, .int (nI b)), (5, .int (nI q)), (6, .int (nI T))] [] I L2 := by
                intro fu
                induction fu with
                | zero => intro T L2 hm _ _ _ _; exact absurd hm (Nat.not_lt_zero _)
                | succ fu ih58 =>
                  intro T L2 hm58 hT hFL2 hv3 hr
                  refine v_iload X 6 rfl dX2_lead_58 ?_
                  refine v_bipush X (v := (nI 32)) dX2_lead_60 (by decide) ?_
                  refine v_icmp_ge_n X (by omega) (by omega) dX2_lead_62 (tgt := 95) (by decide) (fun h62 => ?_) (fun h62 => ?_)
                  · refine v_iinc X [1, 2, 3, 4, 5, 0, 6] 5 (nI q - nI 1) (lv' := [(0, .ref (eA (vE a) 15 0)), (1, .ref (eA (vE a) 5 w)), (2, .int (nI f)), (3, .int (nI to)), (4, .int (nI b)), (5, .int (nI q - nI 1)), (6, .int (nI T))]) rfl (down_dec q) (by decide) rfl dX2_lead_95 ?_
                    refine v_goto X (tgt := 50) dX2_lead_98 (by decide) ?_
                    refine v_sub [0, 1, 2, 3, 4, 5] (lv' := [(0, .ref (eA (vE a) 15 0)), (1, .ref (eA (vE a) 5 w)), (2, .int (nI f)), (3, .int (nI to)), (4, .int (nI b)), (5, .int (nI q - nI 1))]) rfl ?_
                    have hv4 : ∀ s, q ≤ s → s ≤ sc → ∀ T', T' < 32 → L2 16 0 (s * 32 + T') = wy sc kd pl (wvl b wt) to (sc - s) T' := fun s h1 h2 T' h3 => by
                      rcases Nat.lt_or_ge q s with z | z
                      · exact hv3 s (by omega) h2 T' h3
                      · have e : s = q := by omega
                        rw [e]
                        exact hr T' (by omega)
                    exact ih50 q L2 (by omega) (by omega) hFL2 hv4
                  · refine v_aload_n X 0 rfl dX2_lead_65 ?_
                    refine gf_X2_9 X dX2_lead_66 ?_
                    refine v_iload X 5 rfl dX2_lead_69 ?_
                    refine v_bipush X (v := (nI 32)) dX2_lead_71 (by decide) ?_
                    refine v_imul X dX2_lead_73 ?_
                    refine v_eqi (y := (nI (q * 32))) (pk_mul _ _) ?_
                    refine v_iload X 6 rfl dX2_lead_74 ?_
                    refine v_iadd X dX2_lead_76 ?_
                    refine v_eqi (y := (nI ((q * 32) + T))) (nI_add _ _) ?_
                    refine v_aload_n X 0 rfl dX2_lead_77 ?_
                    refine v_aload_n X 1 rfl dX2_lead_78 ?_
                    refine v_iload X 5 rfl dX2_lead_79 ?_
                    refine v_iload X 6 rfl dX2_lead_81 ?_
                    refine v_iload X 4 rfl dX2_lead_83 ?_
                    refine v_callV X (c_X2_fromStep _ _ hE _ _ w hw ln sc kd pl wt hn hW q (by omega) T (by omega) b hb) k_X2_21 dl_15 (cef_15 _ _ _ _) rfl ⟨rfl, rfl, Nat.le_of_ble_eq_true rfl, Nat.le_of_ble_eq_true rfl⟩ (As := [.ref (eA (vE a) 5 w), .int (nI q), .int (nI T), .int (nI b)]) (rest := [.int (nI ((q * 32) + T)), .ref (eA (vE a) 16 0)]) rfl rfl (Nat.le_of_ble_eq_true rfl) dX2_lead_85 (fun r85 I85 L85 hp85 => ?_)
                    obtain ⟨rfl, e1, e2⟩ := hp85
                    have e1 := e1.symm
                    have e2 := e2.symm
                    subst e1; subst e2
                    refine v_st (st' := [.long (frs (kd q) (pl q) (wvl b wt q) (fun T' => L2 16 0 ((q + 1) * 32 + T')) T), .int (nI ((q * 32) + T)), .ref (eA (vE a) 16 0)]) rfl ?_
                    have hfr : frs (kd q) (pl q) (wvl b wt q) (fun T' => L2 16 0 ((q + 1) * 32 + T')) T = wy sc kd pl (wvl b wt) to (sc - q) T := by
                      rw [wy_s (by omega)]
                      exact frs_c (hv3 (q + 1) (Nat.le_refl _) (by omega) T (by omega)) (hv3 (q + 1) (Nat.le_refl _) (by omega) _ (aft_lt hn (by omega) (by omega)))
                    refine v_last_n X dl_16 (fun _ _ => rfl) (n := 544) (by omega) (by decide) dX2_lead_88 ?_
                    refine v_iinc X [1, 2, 3, 4, 5, 6, 0] 6 (nI (T + 1)) (lv' := [(0, .ref (eA (vE a) 15 0)), (1, .ref (eA (vE a) 5 w)), (2, .int (nI f)), (3, .int (nI to)), (4, .int (nI b)), (5, .int (nI q)), (6, .int (nI (T + 1)))]) rfl (nI_1 _) (by decide) rfl dX2_lead_89 ?_
                    refine v_goto X (tgt := 58) dX2_lead_92 (by decide) ?_
                    exact ih58 (T + 1) (upL L2 16 0 ((q * 32) + T) (frs (kd q) (pl q) (wvl b wt q) (fun T' => L2 16 0 ((q + 1) * 32 + T')) T)) (by omega) (by omega) (hFL2.up (by simp)) (row_o (by omega) (by omega) hv3) (row_s hr hfr)
              exact loop58 _ 0 L1 (Nat.lt_succ_self _) (by decide) hFL hv (fun T' h => absurd h (Nat.not_lt_zero _))
        have hv2 : ∀ s, sc ≤ s → s ≤ sc → ∀ T', T' < 32 → L1 16 0 (s * 32 + T') = wy sc kd pl (wvl b wt) to (sc - s) T' := fun s h1 h2 T' h3 => by
          have e : s = sc := by omega
          rw [e, Nat.sub_self]
          exact hv T' (by omega)
        exact loop50 _ sc L1 (Nat.lt_succ_self _) (Nat.le_refl _) hFL hv2
      · refine v_aload_n X 0 rfl dX2_lead_10 ?_
        refine gf_X2_9 X dX2_lead_11 ?_
        refine v_aload_n X 1 rfl dX2_lead_14 ?_
        refine gf_X2_15 X hw dX2_lead_15 ?_
        refine v_eqi (y := (nI sc)) (hW.2.1) ?_
        refine v_bipush X (v := (nI 32)) dX2_lead_18 (by decide) ?_
        refine v_imul X dX2_lead_20 ?_
        refine v_eqi (y := (nI (sc * 32))) (pk_mul _ _) ?_
        refine v_iload X 5 rfl dX2_lead_21 ?_
        refine v_iadd X dX2_lead_23 ?_
        refine v_eqi (y := (nI ((sc * 32) + T))) (nI_add _ _) ?_
        refine v_iload X 5 rfl dX2_lead_24 ?_
        refine v_iload_n X 3 rfl dX2_lead_26 ?_
        refine v_icmp_ne_n X (by omega) (by omega) dX2_lead_27 (tgt := 34) (by decide) (fun h27 => ?_) (fun h27 => ?_)
        · refine v_lconst X (v := 0) dX2_lead_34 rfl ?_
          refine v_last_n X dl_16 (fun _ _ => rfl) (n := 544) (by omega) (by decide) dX2_lead_35 ?_
          refine v_iinc X [1, 2, 3, 4, 5, 0] 5 (nI (T + 1)) (lv' := [(0, .ref (eA (vE a) 15 0)), (1, .ref (eA (vE a) 5 w)), (2, .int (nI f)), (3, .int (nI to)), (4, .int (nI b)), (5, .int (nI (T + 1)))]) rfl (nI_1 _) (by decide) rfl dX2_lead_36 ?_
          refine v_goto X (tgt := 3) dX2_lead_39 (by decide) ?_
          exact ih3 (T + 1) (upL L1 16 0 ((sc * 32) + T) 0) (by omega) (by omega) (hFL.up (by simp)) (row_s hv (if_neg h27).symm)
        · refine v_lconst X (v := 1) dX2_lead_30 rfl ?_
          refine v_goto X (tgt := 35) dX2_lead_31 (by decide) ?_
          refine v_last_n X dl_16 (fun _ _ => rfl) (n := 544) (by omega) (by decide) dX2_lead_35 ?_
          refine v_iinc X [1, 2, 3, 4, 5, 0] 5 (nI (T + 1)) (lv' := [(0, .ref (eA (vE a) 15 0)), (1, .ref (eA (vE a) 5 w)), (2, .int (nI f)), (3, .int (nI to)), (4, .int (nI b)), (5, .int (nI (T + 1)))]) rfl (nI_1 _) (by decide) rfl dX2_lead_36 ?_
          refine v_goto X (tgt := 3) dX2_lead_39 (by decide) ?_
          exact ih3 (T + 1) (upL L1 16 0 ((sc * 32) + T) 1) (by omega) (by omega) (hFL.up (by simp)) (row_s hv (if_pos h27).symm)
  exact loop3 _ 0 L (Nat.lt_succ_self _) (by decide) FL.rf (fun T' h => absurd h (Nat.not_lt_zero _))
set_option maxHeartbeats 4000000 in
set_option maxRecDepth 100000 in
theorem c_X2_linesAhead (l : Launch) (E : VE) (hE : EOk E) (I : TI) (L : TL) (w : Nat) (hw : w < 4) (ln sc : Nat) (kd pl wt : Nat → Nat) (hn : netOk ln sc kd pl wt) (hW : webR I w ln sc kd pl wt) (f u k0 : Nat) (hf : f < 32) (hu : u ≤ sc) (hk0 : k0 < 2 ^ 20) : Ct l E yX2_linesAhead cX2_linesAhead 12 (some .int) rm_X2_linesAhead [.ref (eA E 15 0), .ref (eA E 5 w), .int (nI f), .int (nI u), .int (nI k0)] I L (fun r I' L' => r = some (.int (nI (wk kd pl (fun s T => L 16 0 (s * 32 + T)) f (nI k0).toInt64 u).1)) ∧ I' = I ∧ L' = L) := by
  refine ct_of (by decide +kernel) (Nat.le_of_ble_eq_true rfl) hE ?_
  intro a X Y hl hEE
  subst hl; subst hEE
  obtain ⟨hl1, hl5, hsc16, hst⟩ := id hn
  show V a 0 [(0, .ref (eA (vE a) 15 0)), (1, .ref (eA (vE a) 5 w)), (2, .int (nI f)), (3, .int (nI u)), (4, .int (nI k0))] [] I L
  refine v_iload_n X 2 rfl dX2_linesAhead_0 ?_
  refine v_istore X [1, 2, 3, 4, 5, 0] (lv' := [(0, .ref (eA (vE a) 15 0)), (1, .ref (eA (vE a) 5 w)), (2, .int (nI f)), (3, .int (nI u)), (4, .int (nI k0)), (5, .int (nI f))]) (by decide) rfl dX2_linesAhead_1 ?_
  refine v_iload X 4 rfl dX2_linesAhead_3 ?_
  refine v_i2l X dX2_linesAhead_5 rfl ?_
  refine v_lstore X [1, 2, 3, 4, 5, 6, 0] (lv' := [(0, .ref (eA (vE a) 15 0)), (1, .ref (eA (vE a) 5 w)), (2, .int (nI f)), (3, .int (nI u)), (4, .int (nI k0)), (5, .int (nI f)), (6, .long ((nI k0).toInt64))]) (by decide) rfl dX2_linesAhead_6 ?_
  refine v_iconst X (v := (nI 0)) dX2_linesAhead_8 (by decide) ?_
  refine v_istore X [1, 2, 3, 4, 5, 6, 7, 0] (lv' := [(0, .ref (eA (vE a) 15 0)), (1, .ref (eA (vE a) 5 w)), (2, .int (nI f)), (3, .int (nI u)), (4, .int (nI k0)), (5, .int (nI f)), (6, .long ((nI k0).toInt64)), (8, .int (nI 0))]) (by decide) rfl dX2_linesAhead_9 ?_
  have loop11 : ∀ (fu : Nat) (s : Nat) (T : Nat) (left : Int64), u - s < fu → (s ≤ u) → (T < 32) → (wk kd pl (fun s T => L 16 0 (s * 32 + T)) f (nI k0).toInt64 s = (T, left)) → V a 11 [(0, .ref (eA (vE a) 15 0)), (1, .ref (eA (vE a) 5 w)), (2, .int (nI f)), (3, .int (nI u)), (4, .int (nI k0)), (5, .int (nI T)), (6, .long left), (8, .int (nI s))] [] I L := by
    intro fu
    induction fu with
    | zero => intro s T left hm _ _ _; exact absurd hm (Nat.not_lt_zero _)
    | succ fu ih11 =>
      intro s T left hm11 hsu hT hw2
      refine v_iload X 7 rfl dX2_linesAhead_11 ?_
      refine v_iload_n X 3 rfl dX2_linesAhead_13 ?_
      refine v_icmp_ge_n X (by omega) (by omega) dX2_linesAhead_14 (tgt := 85) (by decide) (fun h14 => ?_) (fun h14 => ?_)
      · refine v_iload X 5 rfl dX2_linesAhead_85 ?_
        exact v_iret X Y dX2_linesAhead_87 (⟨by rw [show u = s by omega, hw2], rfl, rfl⟩)
      · refine v_iload X 7 rfl dX2_linesAhead_17 ?_
        refine v_aload_n X 1 rfl dX2_linesAhead_19 ?_
        refine gf_X2_15 X hw dX2_linesAhead_20 ?_
        refine v_eqi (y := (nI sc)) (hW.2.1) ?_
        refine v_icmp_ge_n X (by omega) (by omega) dX2_linesAhead_23 (tgt := 85) (by decide) (fun h23 => ?_) (fun h23 => ?_)
        · exact absurd h23 (by omega)
        · have hs : s < sc := by omega
          have hlt := aft_lt hn hs hT
          refine v_aload_n X 1 rfl dX2_linesAhead_26 ?_
          refine v_iload X 7 rfl dX2_linesAhead_27 ?_
          refine v_iload X 5 rfl dX2_linesAhead_29 ?_
          refine v_callV X (c_X3_afterGoing _ _ hE _ _ w hw ln sc kd pl wt hn hW s hs T hT) k_X2_33 (dl_5 hw) (cef_5 _ _ _ _) rfl ⟨rfl, rfl, Nat.le_of_ble_eq_true rfl, Nat.le_of_ble_eq_true rfl⟩ (As := [.int (nI s), .int (nI T)]) (rest := []) rfl rfl (Nat.le_of_ble_eq_true rfl) dX2_linesAhead_31 (fun r31 I31 L31 hp31 => ?_)
          obtain ⟨rfl, e1, e2⟩ := hp31
          have e1 := e1.symm
          have e2 := e2.symm
          subst e1; subst e2
          refine v_st (st' := [.int (nI (aft (kd s) (pl s) T))]) rfl ?_
          refine v_istore X [1, 2, 3, 4, 5, 6, 7, 8, 0] (lv' := [(0, .ref (eA (vE a) 15 0)), (1, .ref (eA (vE a) 5 w)), (2, .int (nI f)), (3, .int (nI u)), (4, .int (nI k0)), (5, .int (nI T)), (6, .long left), (8, .int (nI s)), (9, .int (nI (aft (kd s) (pl s) T)))]) (by decide) rfl dX2_linesAhead_34 ?_
          refine v_aload_n X 0 rfl dX2_linesAhead_36 ?_
          refine gf_X2_9 X dX2_linesAhead_37 ?_
          refine v_iload X 7 rfl dX2_linesAhead_40 ?_
          refine v_iconst X (v := (nI 1)) dX2_linesAhead_42 (by decide) ?_
          refine v_iadd X dX2_linesAhead_43 ?_
          refine v_eqi (y := (nI (s + 1))) (nI_add _ _) ?_
          refine v_bipush X (v := (nI 32)) dX2_linesAhead_44 (by decide) ?_
          refine v_imul X dX2_linesAhead_46 ?_
          refine v_eqi (y := (nI ((s + 1) * 32))) (pk_mul _ _) ?_
          refine v_iload X 5 rfl dX2_linesAhead_47 ?_
          refine v_iadd X dX2_linesAhead_49 ?_
          refine v_eqi (y := (nI (((s + 1) * 32) + T))) (nI_add _ _) ?_
          refine v_lald_n X dl_16 (fun _ _ => rfl) (n := 544) (by omega) (by decide) dX2_linesAhead_50 ?_
          refine v_lstore X [1, 2, 3, 4, 5, 6, 7, 8, 9, 0] (lv' := [(0, .ref (eA (vE a) 15 0)), (1, .ref (eA (vE a) 5 w)), (2, .int (nI f)), (3, .int (nI u)), (4, .int (nI k0)), (5, .int (nI T)), (6, .long left), (8, .int (nI s)), (9, .int (nI (aft (kd s) (pl s) T))), (10, .long (L 16 0 (((s + 1) * 32) + T)))]) (by decide) rfl dX2_linesAhead_51 ?_
          refine v_iload X 8 rfl dX2_linesAhead_53 ?_
          refine v_iload X 5 rfl dX2_linesAhead_55 ?_
          refine v_icmp_eq_n X (by omega) (by omega) dX2_linesAhead_57 (tgt := 79) (by decide) (fun h57 => ?_) (fun h57 => ?_)
          · refine v_iinc X [1, 2, 3, 4, 5, 6, 7, 0, 8, 9] 7 (nI (s + 1)) (lv' := [(0, .ref (eA (vE a) 15 0)), (1, .ref (eA (vE a) 5 w)), (2, .int (nI f)), (3, .int (nI u)), (4, .int (nI k0)), (5, .int (nI T)), (6, .long left), (8, .int (nI (s + 1))), (9, .int (nI (aft (kd s) (pl s) T))), (10, .long (L 16 0 (((s + 1) * 32) + T)))]) rfl (nI_1 _) (by decide) rfl dX2_linesAhead_79 ?_
            refine v_goto X (tgt := 11) dX2_linesAhead_82 (by decide) ?_
            refine v_sub [0, 1, 2, 3, 4, 5, 6, 7] (lv' := [(0, .ref (eA (vE a) 15 0)), (1, .ref (eA (vE a) 5 w)), (2, .int (nI f)), (3, .int (nI u)), (4, .int (nI k0)), (5, .int (nI T)), (6, .long left), (8, .int (nI (s + 1)))]) rfl ?_
            exact ih11 (s + 1) T left (by omega) (by omega) hT (by show ite _ _ _ = _; rw [hw2]; exact if_neg (fun z => z.1 h57))
          · refine v_lload X 6 rfl dX2_linesAhead_60 ?_
            refine v_lload X 9 rfl dX2_linesAhead_62 ?_
            refine v_lcmp_lt X dX2_linesAhead_64 dX2_linesAhead_65 (tgt := 79) (by decide) (fun h64 => ?_) (fun h64 => ?_)
            · refine v_iinc X [1, 2, 3, 4, 5, 6, 7, 0, 8, 9] 7 (nI (s + 1)) (lv' := [(0, .ref (eA (vE a) 15 0)), (1, .ref (eA (vE a) 5 w)), (2, .int (nI f)), (3, .int (nI u)), (4, .int (nI k0)), (5, .int (nI T)), (6, .long left), (8, .int (nI (s + 1))), (9, .int (nI (aft (kd s) (pl s) T))), (10, .long (L 16 0 (((s + 1) * 32) + T)))]) rfl (nI_1 _) (by decide) rfl dX2_linesAhead_79 ?_
              refine v_goto X (tgt := 11) dX2_linesAhead_82 (by decide) ?_
              refine v_sub [0, 1, 2, 3, 4, 5, 6, 7] (lv' := [(0, .ref (eA (vE a) 15 0)), (1, .ref (eA (vE a) 5 w)), (2, .int (nI f)), (3, .int (nI u)), (4, .int (nI k0)), (5, .int (nI T)), (6, .long left), (8, .int (nI (s + 1)))]) rfl ?_
              exact ih11 (s + 1) T left (by omega) (by omega) hT (by show ite _ _ _ = _; rw [hw2]; exact if_neg (fun z => absurd z.2 (Int64.not_le.mpr h64)))
            · refine v_lload X 6 rfl dX2_linesAhead_68 ?_
              refine v_lload X 9 rfl dX2_linesAhead_70 ?_
              refine v_lsub X dX2_linesAhead_72 ?_
              refine v_lstore X [1, 2, 3, 4, 5, 6, 0, 7, 8, 9] (lv' := [(0, .ref (eA (vE a) 15 0)), (1, .ref (eA (vE a) 5 w)), (2, .int (nI f)), (3, .int (nI u)), (4, .int (nI k0)), (5, .int (nI T)), (6, .long (left - (L 16 0 (((s + 1) * 32) + T)))), (8, .int (nI s)), (9, .int (nI (aft (kd s) (pl s) T))), (10, .long (L 16 0 (((s + 1) * 32) + T)))]) (by decide) rfl dX2_linesAhead_73 ?_
              refine v_iload X 8 rfl dX2_linesAhead_75 ?_
              refine v_istore X [1, 2, 3, 4, 5, 0, 6, 7, 8, 9] (lv' := [(0, .ref (eA (vE a) 15 0)), (1, .ref (eA (vE a) 5 w)), (2, .int (nI f)), (3, .int (nI u)), (4, .int (nI k0)), (5, .int (nI (aft (kd s) (pl s) T))), (6, .long (left - (L 16 0 (((s + 1) * 32) + T)))), (8, .int (nI s)), (9, .int (nI (aft (kd s) (pl s) T))), (10, .long (L 16 0 (((s + 1) * 32) + T)))]) (by decide) rfl dX2_linesAhead_77 ?_
              refine v_iinc X [1, 2, 3, 4, 5, 6, 7, 0, 8, 9] 7 (nI (s + 1)) (lv' := [(0, .ref (eA (vE a) 15 0)), (1, .ref (eA (vE a) 5 w)), (2, .int (nI f)), (3, .int (nI u)), (4, .int (nI k0)), (5, .int (nI (aft (kd s) (pl s) T))), (6, .long (left - (L 16 0 (((s + 1) * 32) + T)))), (8, .int (nI (s + 1))), (9, .int (nI (aft (kd s) (pl s) T))), (10, .long (L 16 0 (((s + 1) * 32) + T)))]) rfl (nI_1 _) (by decide) rfl dX2_linesAhead_79 ?_
              refine v_goto X (tgt := 11) dX2_linesAhead_82 (by decide) ?_
              refine v_sub [0, 1, 2, 3, 4, 5, 6, 7] (lv' := [(0, .ref (eA (vE a) 15 0)), (1, .ref (eA (vE a) 5 w)), (2, .int (nI f)), (3, .int (nI u)), (4, .int (nI k0)), (5, .int (nI (aft (kd s) (pl s) T))), (6, .long (left - (L 16 0 (((s + 1) * 32) + T)))), (8, .int (nI (s + 1)))]) rfl ?_
              exact ih11 (s + 1) (aft (kd s) (pl s) T) (left - (L 16 0 (((s + 1) * 32) + T))) (by omega) (by omega) hlt (by show ite _ _ _ = _; rw [hw2]; exact if_pos ⟨h57, Int64.not_lt.mp h64⟩)
  exact loop11 _ 0 f ((nI k0).toInt64) (Nat.lt_succ_self _) (Nat.zero_le _) hf rfl
set_option maxHeartbeats 4000000 in
set_option maxRecDepth 100000 in
theorem c_X3_begin (l : Launch) (E : VE) (hE : EOk E) (I : TI) (L : TL) (w : Nat) (hw : w < 4) (n : Int32) : Ct l E yX3_begin cX3_begin 2 none rm_X3_begin [.ref (eA E 5 w), .int n] I L (fun r I' L' => r = none ∧ I' = upI (upI I 5 w 3 n) 5 w 4 (nI 0) ∧ L' = L) := by
  refine ct_of (by decide +kernel) (Nat.le_of_ble_eq_true rfl) hE ?_
  intro a X Y hl hEE
  subst hl; subst hEE
  show V a 0 [(0, .ref (eA (vE a) 5 w)), (1, .int n)] [] I L
  refine v_aload_n X 0 rfl dX3_begin_0 ?_
  refine v_iload_n X 1 rfl dX3_begin_1 ?_
  refine pf_X3_21 X hw dX3_begin_2 ?_
  refine v_aload_n X 0 rfl dX3_begin_5 ?_
  refine v_iconst X (v := (nI 0)) dX3_begin_6 (by decide) ?_
  refine pf_X3_25 X hw dX3_begin_7 ?_
  exact v_vret X Y dX3_begin_10 (⟨rfl, rfl, rfl⟩)
abbrev tkP (ln : Nat) (k i : Int32) : Prop := ((k = nI 0 ∨ k = nI 1) ∧ 0 ≤ i ∧ i < nI (ln - 1)) ∨ (k = nI 2 ∧ 0 ≤ i ∧ i < nI ln)
set_option maxHeartbeats 4000000 in
set_option maxRecDepth 100000 in
theorem c_X3_takes (l : Launch) (E : VE) (hE : EOk E) (I : TI) (L : TL) (w : Nat) (hw : w < 4) (ln : Nat) (hln : I 5 w 3 = nI ln) (hl1 : 1 ≤ ln) (hl5 : ln ≤ 5) (k i : Int32) : Ct l E yX3_takes cX3_takes 3 (some .boolean) rm_X3_takes [.ref (eA E 5 w), .int k, .int i] I L (fun r I' L' => r = some (.int (bI (tkP ln k i))) ∧ I' = I ∧ L' = L) := by
  refine ct_of (by decide +kernel) (Nat.le_of_ble_eq_true rfl) hE ?_
  intro a X Y hl hEE
  subst hl; subst hEE
  show V a 0 [(0, .ref (eA (vE a) 5 w)), (1, .int k), (2, .int i)] [] I L
  refine v_iload_n X 1 rfl dX3_takes_0 ?_
  refine v_if_eq X dX3_takes_1 (tgt := 9) (by decide) (fun h1 => ?_) (fun h1 => ?_)
  · refine v_iload_n X 2 rfl dX3_takes_9 ?_
    refine v_if_lt X dX3_takes_10 (tgt := 27) (by decide) (fun h10 => ?_) (fun h10 => ?_)
    · refine v_iconst X (v := (nI 0)) dX3_takes_27 (by decide) ?_
      exact v_zret X Y (rfl) dX3_takes_28 (⟨retF (fun q => q.elim (fun z => absurd z.2.1 (Int32.not_le.mpr h10)) (fun z => absurd (h1.symm.trans z.1) (by decide))), rfl, rfl⟩)
    · refine v_iload_n X 2 rfl dX3_takes_13 ?_
      refine v_aload_n X 0 rfl dX3_takes_14 ?_
      refine gf_X3_21 X hw dX3_takes_15 ?_
      refine v_eqi (y := (nI ln)) (hln) ?_
      refine v_iconst X (v := (nI 1)) dX3_takes_18 (by decide) ?_
      refine v_isub X dX3_takes_19 ?_
      refine v_eqi (y := (nI (ln - 1))) (pk_sub (by omega)) ?_
      refine v_icmp_ge X dX3_takes_20 (tgt := 27) (by decide) (fun h20 => ?_) (fun h20 => ?_)
      · refine v_iconst X (v := (nI 0)) dX3_takes_27 (by decide) ?_
        exact v_zret X Y (rfl) dX3_takes_28 (⟨retF (fun q => q.elim (fun z => absurd z.2.2 (Int32.not_lt.mpr h20)) (fun z => absurd (h1.symm.trans z.1) (by decide))), rfl, rfl⟩)
      · refine v_iconst X (v := (nI 1)) dX3_takes_23 (by decide) ?_
        refine v_goto X (tgt := 28) dX3_takes_24 (by decide) ?_
        exact v_zret X Y (rfl) dX3_takes_28 (⟨retT (Or.inl ⟨Or.inl h1, Int32.not_lt.mp h10, Int32.not_le.mp h20⟩), rfl, rfl⟩)
  · refine v_iload_n X 1 rfl dX3_takes_4 ?_
    refine v_iconst X (v := (nI 1)) dX3_takes_5 (by decide) ?_
    refine v_icmp_ne X dX3_takes_6 (tgt := 29) (by decide) (fun h6 => ?_) (fun h6 => ?_)
    · refine v_iload_n X 1 rfl dX3_takes_29 ?_
      refine v_iconst X (v := (nI 2)) dX3_takes_30 (by decide) ?_
      refine v_icmp_ne X dX3_takes_31 (tgt := 50) (by decide) (fun h31 => ?_) (fun h31 => ?_)
      · refine v_iconst X (v := (nI 0)) dX3_takes_50 (by decide) ?_
        exact v_zret X Y (rfl) dX3_takes_51 (⟨retF (fun q => q.elim (fun z => z.1.elim h1 h6) (fun z => h31 z.1)), rfl, rfl⟩)
      · refine v_iload_n X 2 rfl dX3_takes_34 ?_
        refine v_if_lt X dX3_takes_35 (tgt := 50) (by decide) (fun h35 => ?_) (fun h35 => ?_)
        · refine v_iconst X (v := (nI 0)) dX3_takes_50 (by decide) ?_
          exact v_zret X Y (rfl) dX3_takes_51 (⟨retF (fun q => q.elim (fun z => z.1.elim h1 h6) (fun z => absurd z.2.1 (Int32.not_le.mpr h35))), rfl, rfl⟩)
        · refine v_iload_n X 2 rfl dX3_takes_38 ?_
          refine v_aload_n X 0 rfl dX3_takes_39 ?_
          refine gf_X3_21 X hw dX3_takes_40 ?_
          refine v_eqi (y := (nI ln)) (hln) ?_
          refine v_icmp_ge X dX3_takes_43 (tgt := 50) (by decide) (fun h43 => ?_) (fun h43 => ?_)
          · refine v_iconst X (v := (nI 0)) dX3_takes_50 (by decide) ?_
            exact v_zret X Y (rfl) dX3_takes_51 (⟨retF (fun q => q.elim (fun z => z.1.elim h1 h6) (fun z => absurd z.2.2 (Int32.not_lt.mpr h43))), rfl, rfl⟩)
          · refine v_iconst X (v := (nI 1)) dX3_takes_46 (by decide) ?_
            refine v_goto X (tgt := 51) dX3_takes_47 (by decide) ?_
            exact v_zret X Y (rfl) dX3_takes_51 (⟨retT (Or.inr ⟨h31, Int32.not_lt.mp h35, Int32.not_le.mp h43⟩), rfl, rfl⟩)
    · refine v_iload_n X 2 rfl dX3_takes_9 ?_
      refine v_if_lt X dX3_takes_10 (tgt := 27) (by decide) (fun h10 => ?_) (fun h10 => ?_)
      · refine v_iconst X (v := (nI 0)) dX3_takes_27 (by decide) ?_
        exact v_zret X Y (rfl) dX3_takes_28 (⟨retF (fun q => q.elim (fun z => absurd z.2.1 (Int32.not_le.mpr h10)) (fun z => absurd (h6.symm.trans z.1) (by decide))), rfl, rfl⟩)
      · refine v_iload_n X 2 rfl dX3_takes_13 ?_
        refine v_aload_n X 0 rfl dX3_takes_14 ?_
        refine gf_X3_21 X hw dX3_takes_15 ?_
        refine v_eqi (y := (nI ln)) (hln) ?_
        refine v_iconst X (v := (nI 1)) dX3_takes_18 (by decide) ?_
        refine v_isub X dX3_takes_19 ?_
        refine v_eqi (y := (nI (ln - 1))) (pk_sub (by omega)) ?_
        refine v_icmp_ge X dX3_takes_20 (tgt := 27) (by decide) (fun h20 => ?_) (fun h20 => ?_)
        · refine v_iconst X (v := (nI 0)) dX3_takes_27 (by decide) ?_
          exact v_zret X Y (rfl) dX3_takes_28 (⟨retF (fun q => q.elim (fun z => absurd z.2.2 (Int32.not_lt.mpr h20)) (fun z => absurd (h6.symm.trans z.1) (by decide))), rfl, rfl⟩)
        · refine v_iconst X (v := (nI 1)) dX3_takes_23 (by decide) ?_
          refine v_goto X (tgt := 28) dX3_takes_24 (by decide) ?_
          exact v_zret X Y (rfl) dX3_takes_28 (⟨retT (Or.inl ⟨Or.inr h6, Int32.not_lt.mp h10, Int32.not_le.mp h20⟩), rfl, rfl⟩)
set_option maxHeartbeats 4000000 in
set_option maxRecDepth 100000 in
theorem c_X3_add (l : Launch) (E : VE) (hE : EOk E) (I : TI) (L : TL) (w : Nat) (hw : w < 4) (sc : Nat) (hsc : I 5 w 4 = nI sc) (hs16 : sc < 16) (k i v : Int32) : Ct l E yX3_add cX3_add 4 none rm_X3_add [.ref (eA E 5 w), .int k, .int i, .int v] I L (fun r I' L' => r = none ∧ I' = upI (upI (upI (upI I 6 w sc k) 7 w sc i) 8 w sc v) 5 w 4 (nI (sc + 1)) ∧ L' = L) := by
  refine ct_of (by decide +kernel) (Nat.le_of_ble_eq_true rfl) hE ?_
  intro a X Y hl hEE
  subst hl; subst hEE
  show V a 0 [(0, .ref (eA (vE a) 5 w)), (1, .int k), (2, .int i), (3, .int v)] [] I L
  refine v_aload_n X 0 rfl dX3_add_0 ?_
  refine gf_X3_25 X hw dX3_add_1 ?_
  refine v_eqi (y := (nI sc)) (hsc) ?_
  refine v_bipush X (v := (nI 16)) dX3_add_4 (by decide) ?_
  refine v_icmp_ge_n X (by omega) (by omega) dX3_add_6 (tgt := 49) (by decide) (fun h6 => ?_) (fun h6 => ?_)
  · exact absurd h6 (by omega)
  · refine v_aload_n X 0 rfl dX3_add_9 ?_
    refine gf_X3_9 X hw dX3_add_10 ?_
    refine v_aload_n X 0 rfl dX3_add_13 ?_
    refine gf_X3_25 X hw dX3_add_14 ?_
    refine v_eqi (y := (nI sc)) (hsc) ?_
    refine v_iload_n X 1 rfl dX3_add_17 ?_
    refine v_iast_n X (dl_6 hw) (fun _ _ => rfl) (n := 16) (by omega) (by decide) dX3_add_18 ?_
    refine v_aload_n X 0 rfl dX3_add_19 ?_
    refine gf_X3_15 X hw dX3_add_20 ?_
    refine v_aload_n X 0 rfl dX3_add_23 ?_
    refine gf_X3_25 X hw dX3_add_24 ?_
    refine v_eqi (y := (nI sc)) ((upI_k (by decide)).trans (hsc)) ?_
    refine v_iload_n X 2 rfl dX3_add_27 ?_
    refine v_iast_n X (dl_7 hw) (fun _ _ => rfl) (n := 16) (by omega) (by decide) dX3_add_28 ?_
    refine v_aload_n X 0 rfl dX3_add_29 ?_
    refine gf_X3_18 X hw dX3_add_30 ?_
    refine v_aload_n X 0 rfl dX3_add_33 ?_
    refine gf_X3_25 X hw dX3_add_34 ?_
    refine v_eqi (y := (nI sc)) ((upI_k (by decide)).trans ((upI_k (by decide)).trans (hsc))) ?_
    refine v_iload_n X 3 rfl dX3_add_37 ?_
    refine v_iast_n X (dl_8 hw) (fun _ _ => rfl) (n := 16) (by omega) (by decide) dX3_add_38 ?_
    refine v_aload_n X 0 rfl dX3_add_39 ?_
    refine v_dup X dX3_add_40 rfl ?_
    refine gf_X3_25 X hw dX3_add_41 ?_
    refine v_eqi (y := (nI sc)) ((upI_k (by decide)).trans ((upI_k (by decide)).trans ((upI_k (by decide)).trans (hsc)))) ?_
    refine v_iconst X (v := (nI 1)) dX3_add_44 (by decide) ?_
    refine v_iadd X dX3_add_45 ?_
    refine v_eqi (y := (nI (sc + 1))) (nI_add _ _) ?_
    refine pf_X3_25 X hw dX3_add_46 ?_
    exact v_vret X Y dX3_add_49 (⟨rfl, rfl, rfl⟩)
