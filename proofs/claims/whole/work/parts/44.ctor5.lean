/-! the tables' constructor: the grids and the webs come in two loops -/
def gP (E : VE) (p : Nat × Nat) : va_W := [(p.1, .inr (0, [.ref p.2, .int 0, .int 0, .int 0, .int 0, .int 0])), (p.2, .inl (eC E 0, 25, .inl (fun _ => 0)))]
def wP (E : VE) (p : Nat × Nat × Nat × Nat) : va_W := [(p.1, .inr (3, [.ref p.2.1, .ref p.2.2.1, .ref p.2.2.2, .int 0, .int 0])), (p.2.1, .inl (eC E 0, 16, .inl (fun _ => 0))), (p.2.2.1, .inl (eC E 0, 16, .inl (fun _ => 0))), (p.2.2.2, .inl (eC E 0, 16, .inl (fun _ => 0)))]
def W5 (E : VE) (r : Nat → Nat) (f g : Nat → Option Nat) (gs : List (Nat × Nat)) (us : List (Nat × Nat × Nat × Nat)) : va_W := [(r 0, .inr (5, [.ref (r 1), .int 0, .ref (r 4), .int 0, .ref (r 9), .int 0, .ref (r 10), .ref (r 11), .ref (r 12), .ref (r 15), .ref (r 17)])), (r 1, .inl (eC E 2, 12, .inr (.inr (.inr (.inr f))))), (r 4, .inl (eC E 3, 4, .inr (.inr (.inr (.inr g))))), (r 9, .inl (eC E 0, 16, .inl (fun _ => 0))), (r 10, .inl (eC E 0, 5, .inl (fun _ => 0))), (r 11, .inl (eC E 0, 9, .inl (fun _ => 0))), (r 12, .inr (4, [.ref (r 13), .ref (r 14)])), (r 13, .inl (eC E 1, 32, .inr (.inl (fun _ => 0)))), (r 14, .inl (eC E 0, 5, .inl (fun _ => 0))), (r 15, .inr (2, [.ref (r 16)])), (r 16, .inl (eC E 1, 544, .inr (.inl (fun _ => 0)))), (r 17, .inr (1, [.ref (r 18), .ref (r 19), .ref (r 20), .ref (r 21), .int 0, .int 0, .ref (r 22), .ref (r 23), .long 0, .long 0])), (r 18, .inl (eC E 0, 9, .inl (fun _ => 0))), (r 19, .inl (eC E 0, 9, .inl (fun _ => 0))), (r 20, .inl (eC E 1, 9, .inr (.inl (fun _ => 0)))), (r 21, .inl (eC E 1, 9, .inr (.inl (fun _ => 0)))), (r 22, .inl (eC E 1, 9, .inr (.inl (fun _ => 0)))), (r 23, .inl (eC E 1, 9, .inr (.inl (fun _ => 0))))] ++ (gs.flatMap (gP E) ++ us.flatMap (wP E))
def gF (gs : List (Nat × Nat)) : Nat → Option Nat := fun i => (gs.map Prod.fst)[i]?
def uF (us : List (Nat × Nat × Nat × Nat)) : Nat → Option Nat := fun i => (us.map Prod.fst)[i]?
theorem gF_up (gs : List (Nat × Nat)) (p : Nat × Nat) : va_up (gF gs) gs.length (some p.1) = gF (gs ++ [p]) := by
  funext i
  unfold va_up gF
  by_cases h : i = gs.length
  · subst h
    rw [if_pos rfl, List.map_append, List.getElem?_append_right (by rw [List.length_map]; exact Nat.le_refl _), List.length_map, Nat.sub_self]
    rfl
  · rw [if_neg h, List.map_append]
    by_cases h2 : i < gs.length
    · rw [List.getElem?_append_left (by rw [List.length_map]; exact h2)]
    · rw [List.getElem?_eq_none (by rw [List.length_map]; omega), List.getElem?_eq_none (by rw [List.length_append, List.length_map]; show _ ≤ _; simp; omega)]
theorem uF_up (us : List (Nat × Nat × Nat × Nat)) (p : Nat × Nat × Nat × Nat) : va_up (uF us) us.length (some p.1) = uF (us ++ [p]) := by
  funext i
  unfold va_up uF
  by_cases h : i = us.length
  · subst h
    rw [if_pos rfl, List.map_append, List.getElem?_append_right (by rw [List.length_map]; exact Nat.le_refl _), List.length_map, Nat.sub_self]
    rfl
  · rw [if_neg h, List.map_append]
    by_cases h2 : i < us.length
    · rw [List.getElem?_append_left (by rw [List.length_map]; exact h2)]
    · rw [List.getElem?_eq_none (by rw [List.length_map]; omega), List.getElem?_eq_none (by rw [List.length_append, List.length_map]; show _ ≤ _; simp; omega)]
theorem W5_g {E : VE} {r : Nat → Nat} {f g : Nat → Option Nat} {gs : List (Nat × Nat)} {p : Nat × Nat} {f' : Nat → Option Nat} : (W5 E r f g gs [] ++ gP E p).set 1 (r 1, .inl (eC E 2, 12, .inr (.inr (.inr (.inr f'))))) = W5 E r f' g (gs ++ [p]) [] := by
  unfold W5
  rw [List.flatMap_append]
  simp [List.flatMap_nil]
theorem W5_u {E : VE} {r : Nat → Nat} {f g : Nat → Option Nat} {gs : List (Nat × Nat)} {us : List (Nat × Nat × Nat × Nat)} {p : Nat × Nat × Nat × Nat} {g' : Nat → Option Nat} : (W5 E r f g gs us ++ wP E p).set 2 (r 4, .inl (eC E 3, 4, .inr (.inr (.inr (.inr g'))))) = W5 E r f g' gs (us ++ [p]) := by
  unfold W5
  rw [List.flatMap_append]
  simp [List.flatMap_nil]

abbrev rmN5 : Room := { frames := 2, cells := 57, slots := 1278, locals := 40 }
def fs0_5 : List Value := [.null, .int 0, .null, .int 0, .null, .int 0, .null, .null, .null, .null, .null]
def Sh5 (E : VE) (h : Nat) (ws1 : va_W) : Prop := ∃ (r : Nat → Nat) (gs : List (Nat × Nat)) (us : List (Nat × Nat × Nat × Nat)), r 0 = h ∧ gs.length = 12 ∧ us.length = 4 ∧ ws1 = W5 E r (gF gs) (uF us) gs us
theorem hfs_0 : ∀ j, j < 6 → defaultValue (tyX0 j) = vp_V fs0_0 j := fun j hj => match j, hj with | 0, _ => rfl | 1, _ => rfl | 2, _ => rfl | 3, _ => rfl | 4, _ => rfl | 5, _ => rfl | k + 6, hj => absurd hj (by omega)
theorem hfs_1 : ∀ j, j < 10 → defaultValue (tyX1 j) = vp_V fs0_1 j := fun j hj => match j, hj with | 0, _ => rfl | 1, _ => rfl | 2, _ => rfl | 3, _ => rfl | 4, _ => rfl | 5, _ => rfl | 6, _ => rfl | 7, _ => rfl | 8, _ => rfl | 9, _ => rfl | k + 10, hj => absurd hj (by omega)
theorem hfs_2 : ∀ j, j < 1 → defaultValue (tyX2 j) = vp_V fs0_2 j := fun j hj => match j, hj with | 0, _ => rfl | k + 1, hj => absurd hj (by omega)
theorem hfs_3 : ∀ j, j < 5 → defaultValue (tyX3 j) = vp_V fs0_3 j := fun j hj => match j, hj with | 0, _ => rfl | 1, _ => rfl | 2, _ => rfl | 3, _ => rfl | 4, _ => rfl | k + 5, hj => absurd hj (by omega)
theorem hfs_4 : ∀ j, j < 2 → defaultValue (tyX4 j) = vp_V fs0_4 j := fun j hj => match j, hj with | 0, _ => rfl | 1, _ => rfl | k + 2, hj => absurd hj (by omega)
theorem hfs_5 : ∀ j, j < 11 → defaultValue (tyX5 j) = vp_V fs0_5 j := fun j hj => match j, hj with | 0, _ => rfl | 1, _ => rfl | 2, _ => rfl | 3, _ => rfl | 4, _ => rfl | 5, _ => rfl | 6, _ => rfl | 7, _ => rfl | 8, _ => rfl | 9, _ => rfl | 10, _ => rfl | k + 11, hj => absurd hj (by omega)
theorem hfs_6 : ∀ j, j < 37 → defaultValue (tyX6 j) = vp_V fs0_6 j := fun j hj => match j, hj with | 0, _ => rfl | 1, _ => rfl | 2, _ => rfl | 3, _ => rfl | 4, _ => rfl | 5, _ => rfl | 6, _ => rfl | 7, _ => rfl | 8, _ => rfl | 9, _ => rfl | 10, _ => rfl | 11, _ => rfl | 12, _ => rfl | 13, _ => rfl | 14, _ => rfl | 15, _ => rfl | 16, _ => rfl | 17, _ => rfl | 18, _ => rfl | 19, _ => rfl | 20, _ => rfl | 21, _ => rfl | 22, _ => rfl | 23, _ => rfl | 24, _ => rfl | 25, _ => rfl | 26, _ => rfl | 27, _ => rfl | 28, _ => rfl | 29, _ => rfl | 30, _ => rfl | 31, _ => rfl | 32, _ => rfl | 33, _ => rfl | 34, _ => rfl | 35, _ => rfl | 36, _ => rfl | k + 37, hj => absurd hj (by omega)
theorem x5_webs {a : VA} {A : Nat → Prop} {h : Nat} (X : GOk a A RX5 cX5_init rmN5 2) (Y : GRet a A 57 1278 (Sh5 (vE a) h)) {r : Nat → Nat} (hr : r 0 = h) {gs : List (Nat × Nat)} (hg : gs.length = 12) : ∀ (m : Nat) (us : List (Nat × Nat × Nat × Nat)), us.length + m = 4 → G a A 106 [(0, .ref h), (1, .int (nI us.length))] [] (W5 (vE a) r (gF gs) (uF us) gs us) (41 + 4 * us.length) (1066 + 53 * us.length) := by
  subst hr
  intro m
  induction m with
  | zero =>
    intro us hm
    refine g_iload_n X 1 rfl dX5_init_106 ?_
    refine g_iconst X (v := nI 4) dX5_init_107 (by decide) ?_
    refine g_icmp_ge X (tgt := 130) dX5_init_108 (by decide) (fun _ => ?_) (fun q => absurd (show nI 4 ≤ nI us.length by rw [show us.length = 4 by omega]; decide) q)
    exact g_vret X Y dX5_init_130 ⟨r, gs, us, rfl, hg, by omega, rfl⟩ (by omega) (by omega)
  | succ m ih =>
    intro us hm
    have hlt : us.length < 4 := by omega
    refine g_iload_n X 1 rfl dX5_init_106 ?_
    refine g_iconst X (v := nI 4) dX5_init_107 (by decide) ?_
    refine g_icmp_ge X (tgt := 130) dX5_init_108 (by decide) (fun q => absurd ((nI_leI (by decide) (by omega)).mp q) (by omega)) (fun _ => ?_)
    refine g_aload_n X 0 rfl dX5_init_111 ?_
    refine g_getf X (ci := 5) (x := r 0) 0 2 rfl rfl inW5 (by decide) fl_X5_17 rfl dX5_init_112 ?_
    refine g_iload_n X 1 rfl dX5_init_115 ?_
    refine g_new X inW3 tyX3 tyX3_ok (ws_of (i := 63) (by decide +kernel) (by decide +kernel)) (ws_of (i := 164) (by decide +kernel) (by decide +kernel)) (ws_of (i := 47) (by decide +kernel) (by decide +kernel)) (ci := 3) rfl hfs_3 (show _ ≤ 57 by omega) (show _ ≤ 1278 by omega) dX5_init_116 ?_
    intro q
    refine g_dup X dX5_init_119 rfl ?_
    refine g_callIN X ct_X3_init (host := "WellTables") (show _ ∈ nwM by decide +kernel) (ws_of (i := 47) (by decide +kernel) (by decide +kernel)) (ws_of (i := 167) (by decide +kernel) (by decide +kernel)) (by decide +kernel) (ws_of (i := 166) (by decide +kernel) (by decide +kernel)) rfl ⟨rfl, rfl, ble rfl, ble rfl⟩ (ble rfl) ⟨show _ ≤ 57 by omega, show _ ≤ 1278 by omega⟩ dX5_init_120 ?_
    rintro ws1 ⟨q1, q2, q3, rfl⟩
    refine g_aast X (C := RX3) (T := TX3) (N := 5) (ci := 3) (t0 := 3) (n := 4) 2 (f := uF us) rfl rfl rfl (List.mem_append_right _ List.mem_cons_self) hlt (by decide) dX5_init_123 ?_
    refine g_iinc X [1, 0] 1 (nI (us.length + 1)) rfl (by rw [show Int32.ofInt 1 = nI 1 by decide]; exact nI_add _ _) (by decide) rfl dX5_init_124 ?_
    refine g_goto X (tgt := 106) dX5_init_127 (by decide) ?_
    have hl : (us ++ [(q, q1, q2, q3)]).length = us.length + 1 := by rw [List.length_append]; rfl
    refine g_ws (ws' := W5 (vE a) r (gF gs) (uF (us ++ [(q, q1, q2, q3)])) gs (us ++ [(q, q1, q2, q3)])) ?_ ?_
    · rw [← uF_up us (q, q1, q2, q3)]
      exact W5_u (p := (q, q1, q2, q3))
    have K := ih (us ++ [(q, q1, q2, q3)]) (by omega)
    rw [hl] at K
    exact g_cn (by omega) (by omega) K
theorem x5_grids {a : VA} {A : Nat → Prop} {h : Nat} (X : GOk a A RX5 cX5_init rmN5 2) (Y : GRet a A 57 1278 (Sh5 (vE a) h)) {r : Nat → Nat} (hr : r 0 = h) : ∀ (m : Nat) (gs : List (Nat × Nat)), gs.length + m = 12 → G a A 79 [(0, .ref h), (1, .int (nI gs.length))] [] (W5 (vE a) r (gF gs) (uF []) gs []) (17 + 2 * gs.length) (694 + 31 * gs.length) := by
  subst hr
  intro m
  induction m with
  | zero =>
    intro gs hm
    have hg : gs.length = 12 := by omega
    refine g_iload_n X 1 rfl dX5_init_79 ?_
    refine g_bipush X (v := nI 12) dX5_init_80 (by decide) ?_
    refine g_icmp_ge X (tgt := 104) dX5_init_82 (by decide) (fun _ => ?_) (fun q => absurd (show nI 12 ≤ nI gs.length by rw [hg]; decide) q)
    refine g_iconst X (v := nI 0) dX5_init_104 (by decide) ?_
    refine g_istore_n X [1, 0] (by decide) rfl dX5_init_105 ?_
    rw [hg]
    exact x5_webs X Y rfl hg 4 [] rfl
  | succ m ih =>
    intro gs hm
    have hlt : gs.length < 12 := by omega
    refine g_iload_n X 1 rfl dX5_init_79 ?_
    refine g_bipush X (v := nI 12) dX5_init_80 (by decide) ?_
    refine g_icmp_ge X (tgt := 104) dX5_init_82 (by decide) (fun q => absurd ((nI_leI (by decide) (by omega)).mp q) (by omega)) (fun _ => ?_)
    refine g_aload_n X 0 rfl dX5_init_85 ?_
    refine g_getf X (ci := 5) (x := r 0) 0 0 rfl rfl inW5 (by decide) fl_X5_11 rfl dX5_init_86 ?_
    refine g_iload_n X 1 rfl dX5_init_89 ?_
    refine g_new X inW0 tyX0 tyX0_ok (ws_of (i := 61) (by decide +kernel) (by decide +kernel)) (ws_of (i := 132) (by decide +kernel) (by decide +kernel)) (ws_of (i := 46) (by decide +kernel) (by decide +kernel)) (ci := 0) rfl hfs_0 (show _ ≤ 57 by omega) (show _ ≤ 1278 by omega) dX5_init_90 ?_
    intro q
    refine g_dup X dX5_init_93 rfl ?_
    refine g_callIN X ct_X0_init (host := "WellTables") (show _ ∈ nwM by decide +kernel) (ws_of (i := 46) (by decide +kernel) (by decide +kernel)) (ws_of (i := 135) (by decide +kernel) (by decide +kernel)) (by decide +kernel) (ws_of (i := 134) (by decide +kernel) (by decide +kernel)) rfl ⟨rfl, rfl, ble rfl, ble rfl⟩ (ble rfl) ⟨show _ ≤ 57 by omega, show _ ≤ 1278 by omega⟩ dX5_init_94 ?_
    rintro ws1 ⟨q1, rfl⟩
    refine g_aast X (C := RX0) (T := TX0) (N := 6) (ci := 0) (t0 := 2) (n := 12) 1 (f := gF gs) rfl rfl rfl (List.mem_append_right _ List.mem_cons_self) hlt (by decide) dX5_init_97 ?_
    refine g_iinc X [1, 0] 1 (nI (gs.length + 1)) rfl (by rw [show Int32.ofInt 1 = nI 1 by decide]; exact nI_add _ _) (by decide) rfl dX5_init_98 ?_
    refine g_goto X (tgt := 79) dX5_init_101 (by decide) ?_
    have hl : (gs ++ [(q, q1)]).length = gs.length + 1 := by rw [List.length_append]; rfl
    refine g_ws (ws' := W5 (vE a) r (gF (gs ++ [(q, q1)])) (uF []) (gs ++ [(q, q1)]) []) ?_ ?_
    · rw [← gF_up gs (q, q1)]
      exact W5_g (p := (q, q1))
    have K := ih (gs ++ [(q, q1)]) (by omega)
    rw [hl] at K
    exact g_cn (by omega) (by omega) K

set_option maxHeartbeats 1000000 in
theorem ct_X5_init {l : Launch} {E : VE} : CtN l E yX5_init cX5_init 2 rmN5 5 fs0_5 57 1278 (Sh5 E) := by
  refine ctn_of (by decide) rfl (ble rfl) ?_
  intro a A h X Y hl hE
  subst hl
  subst hE
  refine g_ws (ws' := [(h, .inr (5, [.null, .int 0, .null, .int 0, .null, .int 0, .null, .null, .null, .null, .null]))]) rfl ?_
  refine g_aload_n X 0 rfl dX5_init_0 ?_
  refine g_objInit X (idx := 3) (ws_of (i := 58) (by decide +kernel) (by decide +kernel)) w_oi w_oc (ble rfl) (ble rfl) dX5_init_1 ?_
  refine g_aload_n X 0 rfl dX5_init_4 ?_
  refine g_bipush X (v := nI 12) dX5_init_5 (by decide) ?_
  refine g_anew X (C := RX0) (t0 := 2) rfl (ws_of (i := 61) (by decide +kernel) (by decide +kernel)) X.2.2.2.2.2.1.2.1 (N := 12) (by decide) (ble rfl) (ble rfl) dX5_init_7 ?_
  intro q1
  refine g_putF X Y.2.2.1 (ci := 5) 0 0 rfl rfl inW5 tyX5 tyX5_ok nmX5 (by decide) fl_X5_11 rfl rfl (tyX5_ok 0 (by decide)) rfl rfl (ble rfl) dX5_init_10 ?_
  refine g_ws (ws' := [(h, .inr (5, [.ref q1, .int 0, .null, .int 0, .null, .int 0, .null, .null, .null, .null, .null])), (q1, .inl (eC (vE a) 2, 12, .inr (.inr (.inr (.inr (fun _ => none))))))]) rfl ?_
  refine g_aload_n X 0 rfl dX5_init_13 ?_
  refine g_iconst X (v := nI 4) dX5_init_14 (by decide) ?_
  refine g_anew X (C := RX3) (t0 := 3) rfl (ws_of (i := 63) (by decide +kernel) (by decide +kernel)) X.2.2.2.2.2.1.2.2 (N := 4) (by decide) (ble rfl) (ble rfl) dX5_init_15 ?_
  intro q4
  refine g_putF X Y.2.2.1 (ci := 5) 0 2 rfl rfl inW5 tyX5 tyX5_ok nmX5 (by decide) fl_X5_17 rfl rfl (tyX5_ok 2 (by decide)) rfl rfl (ble rfl) dX5_init_18 ?_
  refine g_ws (ws' := [(h, .inr (5, [.ref q1, .int 0, .ref q4, .int 0, .null, .int 0, .null, .null, .null, .null, .null])), (q1, .inl (eC (vE a) 2, 12, .inr (.inr (.inr (.inr (fun _ => none)))))), (q4, .inl (eC (vE a) 3, 4, .inr (.inr (.inr (.inr (fun _ => none))))))]) rfl ?_
  refine g_aload_n X 0 rfl dX5_init_21 ?_
  refine g_bipush X (v := nI 16) dX5_init_22 (by decide) ?_
  refine g_newI X w_ai (N := 16) (by decide) (ble rfl) (ble rfl) dX5_init_24 ?_
  intro q9
  refine g_putF X Y.2.2.1 (ci := 5) 0 4 rfl rfl inW5 tyX5 tyX5_ok nmX5 (by decide) fl_X5_21 rfl rfl (tyX5_ok 4 (by decide)) rfl rfl (ble rfl) dX5_init_26 ?_
  refine g_ws (ws' := [(h, .inr (5, [.ref q1, .int 0, .ref q4, .int 0, .ref q9, .int 0, .null, .null, .null, .null, .null])), (q1, .inl (eC (vE a) 2, 12, .inr (.inr (.inr (.inr (fun _ => none)))))), (q4, .inl (eC (vE a) 3, 4, .inr (.inr (.inr (.inr (fun _ => none)))))), (q9, .inl (eC (vE a) 0, 16, .inl (fun _ => 0)))]) rfl ?_
  refine g_aload_n X 0 rfl dX5_init_29 ?_
  refine g_iconst X (v := nI 5) dX5_init_30 (by decide) ?_
  refine g_newI X w_ai (N := 5) (by decide) (ble rfl) (ble rfl) dX5_init_31 ?_
  intro q10
  refine g_putF X Y.2.2.1 (ci := 5) 0 6 rfl rfl inW5 tyX5 tyX5_ok nmX5 (by decide) fl_X5_25 rfl rfl (tyX5_ok 6 (by decide)) rfl rfl (ble rfl) dX5_init_33 ?_
  refine g_ws (ws' := [(h, .inr (5, [.ref q1, .int 0, .ref q4, .int 0, .ref q9, .int 0, .ref q10, .null, .null, .null, .null])), (q1, .inl (eC (vE a) 2, 12, .inr (.inr (.inr (.inr (fun _ => none)))))), (q4, .inl (eC (vE a) 3, 4, .inr (.inr (.inr (.inr (fun _ => none)))))), (q9, .inl (eC (vE a) 0, 16, .inl (fun _ => 0))), (q10, .inl (eC (vE a) 0, 5, .inl (fun _ => 0)))]) rfl ?_
  refine g_aload_n X 0 rfl dX5_init_36 ?_
  refine g_bipush X (v := nI 9) dX5_init_37 (by decide) ?_
  refine g_newI X w_ai (N := 9) (by decide) (ble rfl) (ble rfl) dX5_init_39 ?_
  intro q11
  refine g_putF X Y.2.2.1 (ci := 5) 0 7 rfl rfl inW5 tyX5 tyX5_ok nmX5 (by decide) fl_X5_28 rfl rfl (tyX5_ok 7 (by decide)) rfl rfl (ble rfl) dX5_init_41 ?_
  refine g_ws (ws' := [(h, .inr (5, [.ref q1, .int 0, .ref q4, .int 0, .ref q9, .int 0, .ref q10, .ref q11, .null, .null, .null])), (q1, .inl (eC (vE a) 2, 12, .inr (.inr (.inr (.inr (fun _ => none)))))), (q4, .inl (eC (vE a) 3, 4, .inr (.inr (.inr (.inr (fun _ => none)))))), (q9, .inl (eC (vE a) 0, 16, .inl (fun _ => 0))), (q10, .inl (eC (vE a) 0, 5, .inl (fun _ => 0))), (q11, .inl (eC (vE a) 0, 9, .inl (fun _ => 0)))]) rfl ?_
  refine g_aload_n X 0 rfl dX5_init_44 ?_
  refine g_new X inW4 tyX4 tyX4_ok (ws_of (i := 65) (by decide +kernel) (by decide +kernel)) (ws_of (i := 66) (by decide +kernel) (by decide +kernel)) (ws_of (i := 43) (by decide +kernel) (by decide +kernel)) (ci := 4) rfl hfs_4 (ble rfl) (ble rfl) dX5_init_45 ?_
  intro q12
  refine g_dup X dX5_init_48 rfl ?_
  refine g_callIN X ct_X4_init (host := "WellTables") (show _ ∈ nwM by decide +kernel) (ws_of (i := 43) (by decide +kernel) (by decide +kernel)) (ws_of (i := 69) (by decide +kernel) (by decide +kernel)) (by decide +kernel) (ws_of (i := 68) (by decide +kernel) (by decide +kernel)) rfl ⟨rfl, rfl, ble rfl, ble rfl⟩ (ble rfl) ⟨ble rfl, ble rfl⟩ dX5_init_49 ?_
  rintro ws1 ⟨q13, q14, rfl⟩
  refine g_putF X Y.2.2.1 (ci := 5) 0 8 rfl rfl inW5 tyX5 tyX5_ok nmX5 (by decide) fl_X5_34 rfl rfl (tyX5_ok 8 (by decide)) rfl rfl (ble rfl) dX5_init_52 ?_
  refine g_ws (ws' := [(h, .inr (5, [.ref q1, .int 0, .ref q4, .int 0, .ref q9, .int 0, .ref q10, .ref q11, .ref q12, .null, .null])), (q1, .inl (eC (vE a) 2, 12, .inr (.inr (.inr (.inr (fun _ => none)))))), (q4, .inl (eC (vE a) 3, 4, .inr (.inr (.inr (.inr (fun _ => none)))))), (q9, .inl (eC (vE a) 0, 16, .inl (fun _ => 0))), (q10, .inl (eC (vE a) 0, 5, .inl (fun _ => 0))), (q11, .inl (eC (vE a) 0, 9, .inl (fun _ => 0))), (q12, .inr (4, [.ref q13, .ref q14])), (q13, .inl (eC (vE a) 1, 32, .inr (.inl (fun _ => 0)))), (q14, .inl (eC (vE a) 0, 5, .inl (fun _ => 0)))]) rfl ?_
  refine g_aload_n X 0 rfl dX5_init_55 ?_
  refine g_new X inW2 tyX2 tyX2_ok (ws_of (i := 80) (by decide +kernel) (by decide +kernel)) (ws_of (i := 81) (by decide +kernel) (by decide +kernel)) (ws_of (i := 44) (by decide +kernel) (by decide +kernel)) (ci := 2) rfl hfs_2 (ble rfl) (ble rfl) dX5_init_56 ?_
  intro q15
  refine g_dup X dX5_init_59 rfl ?_
  refine g_callIN X ct_X2_init (host := "WellTables") (show _ ∈ nwM by decide +kernel) (ws_of (i := 44) (by decide +kernel) (by decide +kernel)) (ws_of (i := 84) (by decide +kernel) (by decide +kernel)) (by decide +kernel) (ws_of (i := 83) (by decide +kernel) (by decide +kernel)) rfl ⟨rfl, rfl, ble rfl, ble rfl⟩ (ble rfl) ⟨ble rfl, ble rfl⟩ dX5_init_60 ?_
  rintro ws1 ⟨q16, rfl⟩
  refine g_putF X Y.2.2.1 (ci := 5) 0 9 rfl rfl inW5 tyX5 tyX5_ok nmX5 (by decide) fl_X5_41 rfl rfl (tyX5_ok 9 (by decide)) rfl rfl (ble rfl) dX5_init_63 ?_
  refine g_ws (ws' := [(h, .inr (5, [.ref q1, .int 0, .ref q4, .int 0, .ref q9, .int 0, .ref q10, .ref q11, .ref q12, .ref q15, .null])), (q1, .inl (eC (vE a) 2, 12, .inr (.inr (.inr (.inr (fun _ => none)))))), (q4, .inl (eC (vE a) 3, 4, .inr (.inr (.inr (.inr (fun _ => none)))))), (q9, .inl (eC (vE a) 0, 16, .inl (fun _ => 0))), (q10, .inl (eC (vE a) 0, 5, .inl (fun _ => 0))), (q11, .inl (eC (vE a) 0, 9, .inl (fun _ => 0))), (q12, .inr (4, [.ref q13, .ref q14])), (q13, .inl (eC (vE a) 1, 32, .inr (.inl (fun _ => 0)))), (q14, .inl (eC (vE a) 0, 5, .inl (fun _ => 0))), (q15, .inr (2, [.ref q16])), (q16, .inl (eC (vE a) 1, 544, .inr (.inl (fun _ => 0))))]) rfl ?_
  refine g_aload_n X 0 rfl dX5_init_66 ?_
  refine g_new X inW1 tyX1 tyX1_ok (ws_of (i := 90) (by decide +kernel) (by decide +kernel)) (ws_of (i := 91) (by decide +kernel) (by decide +kernel)) (ws_of (i := 45) (by decide +kernel) (by decide +kernel)) (ci := 1) rfl hfs_1 (ble rfl) (ble rfl) dX5_init_67 ?_
  intro q17
  refine g_dup X dX5_init_70 rfl ?_
  refine g_callIN X ct_X1_init (host := "WellTables") (show _ ∈ nwM by decide +kernel) (ws_of (i := 45) (by decide +kernel) (by decide +kernel)) (ws_of (i := 94) (by decide +kernel) (by decide +kernel)) (by decide +kernel) (ws_of (i := 93) (by decide +kernel) (by decide +kernel)) rfl ⟨rfl, rfl, ble rfl, ble rfl⟩ (ble rfl) ⟨ble rfl, ble rfl⟩ dX5_init_71 ?_
  rintro ws1 ⟨q18, q19, q20, q21, q22, q23, rfl⟩
  refine g_putF X Y.2.2.1 (ci := 5) 0 10 rfl rfl inW5 tyX5 tyX5_ok nmX5 (by decide) fl_X5_48 rfl rfl (tyX5_ok 10 (by decide)) rfl rfl (ble rfl) dX5_init_74 ?_
  refine g_ws (ws' := [(h, .inr (5, [.ref q1, .int 0, .ref q4, .int 0, .ref q9, .int 0, .ref q10, .ref q11, .ref q12, .ref q15, .ref q17])), (q1, .inl (eC (vE a) 2, 12, .inr (.inr (.inr (.inr (fun _ => none)))))), (q4, .inl (eC (vE a) 3, 4, .inr (.inr (.inr (.inr (fun _ => none)))))), (q9, .inl (eC (vE a) 0, 16, .inl (fun _ => 0))), (q10, .inl (eC (vE a) 0, 5, .inl (fun _ => 0))), (q11, .inl (eC (vE a) 0, 9, .inl (fun _ => 0))), (q12, .inr (4, [.ref q13, .ref q14])), (q13, .inl (eC (vE a) 1, 32, .inr (.inl (fun _ => 0)))), (q14, .inl (eC (vE a) 0, 5, .inl (fun _ => 0))), (q15, .inr (2, [.ref q16])), (q16, .inl (eC (vE a) 1, 544, .inr (.inl (fun _ => 0)))), (q17, .inr (1, [.ref q18, .ref q19, .ref q20, .ref q21, .int 0, .int 0, .ref q22, .ref q23, .long 0, .long 0])), (q18, .inl (eC (vE a) 0, 9, .inl (fun _ => 0))), (q19, .inl (eC (vE a) 0, 9, .inl (fun _ => 0))), (q20, .inl (eC (vE a) 1, 9, .inr (.inl (fun _ => 0)))), (q21, .inl (eC (vE a) 1, 9, .inr (.inl (fun _ => 0)))), (q22, .inl (eC (vE a) 1, 9, .inr (.inl (fun _ => 0)))), (q23, .inl (eC (vE a) 1, 9, .inr (.inl (fun _ => 0))))]) rfl ?_
  refine g_iconst X (v := nI 0) dX5_init_77 (by decide) ?_
  refine g_istore_n X [1, 0] (by decide) rfl dX5_init_78 ?_
  have K := x5_grids X Y (r := fun k => match k with | 0 => h | 1 => q1 | 4 => q4 | 9 => q9 | 10 => q10 | 11 => q11 | 12 => q12 | 13 => q13 | 14 => q14 | 15 => q15 | 16 => q16 | 17 => q17 | 18 => q18 | 19 => q19 | 20 => q20 | 21 => q21 | 22 => q22 | 23 => q23 | _ => 0) rfl 12 [] rfl
  exact K
