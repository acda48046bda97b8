theorem tsw (x : Int32) {n : Nat} {m : Int} (hm : m = (n : Int)) (hn : n < 2 ^ 31) : (∃ k, k ≤ n ∧ x = nI k) ∨ ((x.toInt < 0 ∨ m < x.toInt) ∧ ∀ k, k ≤ n → x ≠ nI k) := by
  subst hm
  have hx : ∀ k, k ≤ n → x = nI k → x.toInt = (k : Int) := fun k hk e => by rw [e]; exact nI_toInt (by omega)
  by_cases h : x.toInt < 0 ∨ (n : Int) < x.toInt
  · refine Or.inr ⟨h, fun k hk e => ?_⟩
    have := hx k hk e
    omega
  · refine Or.inl ⟨x.toInt.toNat, by omega, ?_⟩
    apply Int32.toInt_inj.mp
    rw [nI_toInt (by omega)]
    omega
def isS (m : Nat) (b : Int32) : Prop := ∃ n, 1 ≤ n ∧ n < 2 ^ m ∧ b = nI n
theorem isS_iff {m : Nat} {b : Int32} (hm : m ≤ 5) : isS m b ↔ (0 < b ∧ b < nI (2 ^ m)) := by
  have hp := pow32 hm
  constructor
  · rintro ⟨n, h1, h2, rfl⟩
    exact ⟨(nI_0lt (by omega)).mpr (by omega), (nI_ltI (by omega) (by omega)).mpr h2⟩
  · rintro ⟨h1, h2⟩
    obtain ⟨n, hn, rfl⟩ := ix_of (Int32.le_of_lt h1) h2 (by omega)
    exact ⟨n, (nI_0lt (by omega)).mp h1, hn, rfl⟩
def isD (n : Int32) : Prop := ∃ k, 1 ≤ k ∧ k ≤ 5 ∧ n = nI k
theorem isD_iff {n : Int32} : isD n ↔ (nI 1 ≤ n ∧ n ≤ nI 5) := by
  constructor
  · rintro ⟨k, h1, h2, rfl⟩
    exact ⟨(nI_leI (by omega) (by omega)).mpr h1, (nI_leI (by omega) (by omega)).mpr h2⟩
  · rintro ⟨h1, h2⟩
    obtain ⟨k, hk, rfl⟩ := ix_of' (Int32.le_trans (by decide) h1) h2 (by decide)
    exact ⟨k, (nI_leI (by omega) (by omega)).mp h1, hk, rfl⟩
def inS (c : Nat) (ro co : Nat → Nat) (x R C : Int32) : Prop := ∃ t, t < c ∧ x = nI t ∧ isS (ro t) R ∧ isS (co t) C
theorem inS_no' {c : Nat} {ro co : Nat → Nat} {x R C : Int32} (h : ¬ isT c x) : ¬ inS c ro co x R C := fun ⟨t, ht, e, _⟩ => h ⟨t, ht, e⟩
theorem inS_no {c : Nat} {ro co : Nat → Nat} {t : Nat} {R C : Int32} (hr : ro t ≤ 5) (hc : co t ≤ 5) (hc12 : c ≤ 12) (ht : t < c) (h : ¬ (0 < R ∧ R < nI (2 ^ ro t)) ∨ ¬ (0 < C ∧ C < nI (2 ^ co t))) : ¬ inS c ro co (nI t) R C := fun ⟨u, hu, e, h1, h2⟩ => by
  have e2 : t = u := (nI_eq (by omega) (by omega)).mp e
  subst e2
  rcases h with h | h
  · exact h ((isS_iff hr).mp h1)
  · exact h ((isS_iff hc).mp h2)
def lookA (I I' : TI) (L L' : TL) (r : Option Value) (t rr cc : Nat) : Nat → Prop
  | 0 => r = some (.int (I 2 t 3)) ∧ I' = I ∧ L' = L
  | 1 => r = some (.int (nI rr)) ∧ I' = I ∧ L' = L
  | 2 => r = some (.int (nI cc)) ∧ I' = I ∧ L' = L
  | 3 => Fr [(14, 0)] I I' ∧ FL [(13, 0)] L L' ∧ ∃ y, flRes (ent I t) 0 rr cc y ∧ r = some (.int (if y = -1 then nI 1 else nI 0))
  | 4 => Fr [(14, 0)] I I' ∧ FL [(13, 0)] L L' ∧ ∃ y, flRes (ent I t) 1 rr cc y ∧ r = some (.int (if y = -1 then nI 1 else nI 0))
  | 5 => Fr [(14, 0)] I I' ∧ FL [(13, 0)] L L' ∧ r = some (.int (nI (looksS (ent I t) 0 rr cc)))
  | 6 => Fr [(14, 0)] I I' ∧ FL [(13, 0)] L L' ∧ r = some (.int (nI (looksS (ent I t) 1 rr cc)))
  | _ => ((I 2 t 3 = nI 1 ∧ r = some (.int (I 2 t 4)) ∧ I' = I) ∨ (¬ I 2 t 3 = nI 1 ∧ REF I I' r 5)) ∧ L' = L
def sameG (I : TI) (ro co : Nat → Nat) (t u : Nat) : Prop := ro t = ro u ∧ co t = co u ∧ ∀ i j, i < ro t → j < co t → I 3 t (5 * i + j) = I 3 u (5 * i + j)
theorem sel_t {p : Prop} [Decidable p] {a b : Int32} (h : p) : some (Value.int a) = some (.int (if p then a else b)) := by rw [if_pos h]
theorem sel_f {p : Prop} [Decidable p] {a b : Int32} (h : ¬ p) : some (Value.int b) = some (.int (if p then a else b)) := by rw [if_neg h]
set_option maxHeartbeats 4000000 in
set_option maxRecDepth 100000 in
theorem c_X5_look (l : Launch) (E : VE) (hE : EOk E) (I : TI) (L : TL) (c : Nat) (ro co : Nat → Nat) (hT : CT I c ro co) (x what : Int32) : Ct l E yX5_look cX5_look 4 (some .int) rm_X5_look [.ref (eA E 0 0), .int x, .int what] I L (fun r I' L' => (¬ isT c x ∧ REF I I' r 3 ∧ L' = L) ∨ (∃ t, t < c ∧ x = nI t ∧ (∀ k, k < 8 → what = nI k → lookA I I' L L' r t (ro t) (co t) k) ∧ ((∀ k, k < 8 → what ≠ nI k) → REF I I' r 7 ∧ L' = L))) := by
  refine ct_of (by decide +kernel) (Nat.le_of_ble_eq_true rfl) hE ?_
  intro a X Y hl hEE
  subst hl; subst hEE
  show V a 0 [(0, .ref (eA (vE a) 0 0)), (1, .int x), (2, .int what)] [] I L
  refine v_aload_n X 0 rfl dX5_look_0 ?_
  refine v_iload_n X 1 rfl dX5_look_1 ?_
  refine v_callV X (c_X5_gridOf _ _ hE _ _ c hT.1 hT.2.1 x) k_X5_74 dl_0 (cef_0 _ _ _ _) rfl ⟨rfl, rfl, Nat.le_of_ble_eq_true rfl, Nat.le_of_ble_eq_true rfl⟩ (As := [.int x]) (rest := []) rfl rfl (Nat.le_of_ble_eq_true rfl) dX5_look_2 (fun r2 I2 L2 hp2 => ?_)
  obtain ⟨ho2, e1, e2⟩ := hp2
  have e1 := e1.symm
  have e2 := e2.symm
  subst e1; subst e2
  rcases ho2 with ⟨t, htt, rfl, rfl⟩ | ⟨hnot, rfl⟩
  · have hc12 := hT.2.1
    obtain ⟨hrt, hct, hr1t, hr5t, hc1t, hc5t⟩ := hT.2.2 t htt
    have ht12t : t < 12 := by omega
    have hnet : t ≠ c := by omega
    refine v_st (st' := [.ref (eA (vE a) 2 t)]) rfl ?_
    refine v_astore_n X [1, 2, 3, 0] (lv' := [(0, .ref (eA (vE a) 0 0)), (1, .int (nI t)), (2, .int what), (3, .ref (eA (vE a) 2 t))]) (by decide) rfl dX5_look_5 ?_
    refine v_aload_n X 3 rfl dX5_look_6 ?_
    refine v_ifnonnull X (tgt := 17) dX5_look_7 (by decide) ?_
    refine v_iload_n X 2 rfl dX5_look_17 ?_
    rcases tsw what (n := 7) (m := 7) rfl (by decide) with ⟨k, hk, rfl⟩ | ⟨hout, hno⟩
    · rcases (show k = 0 ∨ k = 1 ∨ k = 2 ∨ k = 3 ∨ k = 4 ∨ k = 5 ∨ k = 6 ∨ k = 7 by omega) with rfl | rfl | rfl | rfl | rfl | rfl | rfl | rfl
      · refine v_tableIn X dX5_look_18 (by decide) (by decide) (off := 46) rfl (tgt := 64) (by decide) ?_
        refine v_aload_n X 3 rfl dX5_look_64 ?_
        refine gf_X5_85 X ht12t dX5_look_65 ?_
        exact v_iret X Y dX5_look_68 (Or.inr ⟨t, htt, rfl, fun k hk e => by
              have e := (nI_eq (by decide) (by omega)).mp e
              subst e
              exact ⟨rfl, rfl, rfl⟩, fun h => absurd rfl (h 0 (by decide))⟩)
      · refine v_tableIn X dX5_look_18 (by decide) (by decide) (off := 51) rfl (tgt := 69) (by decide) ?_
        refine v_aload_n X 3 rfl dX5_look_69 ?_
        refine gf_X5_101 X ht12t dX5_look_70 ?_
        refine v_eqi (y := (nI (ro t))) (hrt) ?_
        exact v_iret X Y dX5_look_73 (Or.inr ⟨t, htt, rfl, fun k hk e => by
              have e := (nI_eq (by decide) (by omega)).mp e
              subst e
              exact ⟨rfl, rfl, rfl⟩, fun h => absurd rfl (h 1 (by decide))⟩)
      · refine v_tableIn X dX5_look_18 (by decide) (by decide) (off := 56) rfl (tgt := 74) (by decide) ?_
        refine v_aload_n X 3 rfl dX5_look_74 ?_
        refine gf_X5_104 X ht12t dX5_look_75 ?_
        refine v_eqi (y := (nI (co t))) (hct) ?_
        exact v_iret X Y dX5_look_78 (Or.inr ⟨t, htt, rfl, fun k hk e => by
              have e := (nI_eq (by decide) (by omega)).mp e
              subst e
              exact ⟨rfl, rfl, rfl⟩, fun h => absurd rfl (h 2 (by decide))⟩)
      · refine v_tableIn X dX5_look_18 (by decide) (by decide) (off := 61) rfl (tgt := 79) (by decide) ?_
        refine v_aload_n X 0 rfl dX5_look_79 ?_
        refine gf_X5_34 X dX5_look_80 ?_
        refine v_aload_n X 3 rfl dX5_look_83 ?_
        refine v_iconst X (v := (nI 0)) dX5_look_84 (by decide) ?_
        refine v_callV X (c_X4_firstLow _ _ hE _ _ t ht12t (ro t) (co t) (hrt) (hct) hr5t hc5t 0 (by decide)) k_X5_107 dl_12 (cef_12 _ _ _ _) rfl ⟨rfl, rfl, Nat.le_of_ble_eq_true rfl, Nat.le_of_ble_eq_true rfl⟩ (As := [.ref (eA (vE a) 2 t), .int (nI 0)]) (rest := []) rfl rfl (Nat.le_of_ble_eq_true rfl) dX5_look_85 (fun r85 I85 L85 hp85 => ?_)
        obtain ⟨hF85, hL85, y, rfl, hy⟩ := hp85
        refine v_st (st' := [.int y]) rfl ?_
        refine v_iconst X (v := (-1)) dX5_look_88 (by decide) ?_
        refine v_icmp_ne X dX5_look_89 (tgt := 96) (by decide) (fun h89 => ?_) (fun h89 => ?_)
        · refine v_iconst X (v := (nI 0)) dX5_look_96 (by decide) ?_
          exact v_iret X Y dX5_look_97 (Or.inr ⟨t, htt, rfl, fun k hk e => by
                have e := (nI_eq (by decide) (by omega)).mp e
                subst e
                exact ⟨hF85, hL85, y, hy, sel_f h89⟩, fun h => absurd rfl (h 3 (by decide))⟩)
        · refine v_iconst X (v := (nI 1)) dX5_look_92 (by decide) ?_
          refine v_goto X (tgt := 97) dX5_look_93 (by decide) ?_
          exact v_iret X Y dX5_look_97 (Or.inr ⟨t, htt, rfl, fun k hk e => by
                have e := (nI_eq (by decide) (by omega)).mp e
                subst e
                exact ⟨hF85, hL85, y, hy, sel_t h89⟩, fun h => absurd rfl (h 3 (by decide))⟩)
      · refine v_tableIn X dX5_look_18 (by decide) (by decide) (off := 80) rfl (tgt := 98) (by decide) ?_
        refine v_aload_n X 0 rfl dX5_look_98 ?_
        refine gf_X5_34 X dX5_look_99 ?_
        refine v_aload_n X 3 rfl dX5_look_102 ?_
        refine v_iconst X (v := (nI 1)) dX5_look_103 (by decide) ?_
        refine v_callV X (c_X4_firstLow _ _ hE _ _ t ht12t (ro t) (co t) (hrt) (hct) hr5t hc5t 1 (by decide)) k_X5_107 dl_12 (cef_12 _ _ _ _) rfl ⟨rfl, rfl, Nat.le_of_ble_eq_true rfl, Nat.le_of_ble_eq_true rfl⟩ (As := [.ref (eA (vE a) 2 t), .int (nI 1)]) (rest := []) rfl rfl (Nat.le_of_ble_eq_true rfl) dX5_look_104 (fun r104 I104 L104 hp104 => ?_)
        obtain ⟨hF104, hL104, y, rfl, hy⟩ := hp104
        refine v_st (st' := [.int y]) rfl ?_
        refine v_iconst X (v := (-1)) dX5_look_107 (by decide) ?_
        refine v_icmp_ne X dX5_look_108 (tgt := 115) (by decide) (fun h108 => ?_) (fun h108 => ?_)
        · refine v_iconst X (v := (nI 0)) dX5_look_115 (by decide) ?_
          exact v_iret X Y dX5_look_116 (Or.inr ⟨t, htt, rfl, fun k hk e => by
                have e := (nI_eq (by decide) (by omega)).mp e
                subst e
                exact ⟨hF104, hL104, y, hy, sel_f h108⟩, fun h => absurd rfl (h 4 (by decide))⟩)
        · refine v_iconst X (v := (nI 1)) dX5_look_111 (by decide) ?_
          refine v_goto X (tgt := 116) dX5_look_112 (by decide) ?_
          exact v_iret X Y dX5_look_116 (Or.inr ⟨t, htt, rfl, fun k hk e => by
                have e := (nI_eq (by decide) (by omega)).mp e
                subst e
                exact ⟨hF104, hL104, y, hy, sel_t h108⟩, fun h => absurd rfl (h 4 (by decide))⟩)
      · refine v_tableIn X dX5_look_18 (by decide) (by decide) (off := 99) rfl (tgt := 117) (by decide) ?_
        refine v_aload_n X 0 rfl dX5_look_117 ?_
        refine gf_X5_34 X dX5_look_118 ?_
        refine v_aload_n X 3 rfl dX5_look_121 ?_
        refine v_iconst X (v := (nI 0)) dX5_look_122 (by decide) ?_
        refine v_callV X (c_X4_looks _ _ hE _ _ t ht12t (ro t) (co t) (hrt) (hct) hr5t hc5t 0 (by decide)) k_X5_111 dl_12 (cef_12 _ _ _ _) rfl ⟨rfl, rfl, Nat.le_of_ble_eq_true rfl, Nat.le_of_ble_eq_true rfl⟩ (As := [.ref (eA (vE a) 2 t), .int (nI 0)]) (rest := []) rfl rfl (Nat.le_of_ble_eq_true rfl) dX5_look_123 (fun r123 I123 L123 hp123 => ?_)
        obtain ⟨hF123, hL123, rfl⟩ := hp123
        refine v_st (st' := [.int (nI (looksS (ent I t) 0 (ro t) (co t)))]) rfl ?_
        exact v_iret X Y dX5_look_126 (Or.inr ⟨t, htt, rfl, fun k hk e => by
              have e := (nI_eq (by decide) (by omega)).mp e
              subst e
              exact ⟨hF123, hL123, rfl⟩, fun h => absurd rfl (h 5 (by decide))⟩)
      · refine v_tableIn X dX5_look_18 (by decide) (by decide) (off := 109) rfl (tgt := 127) (by decide) ?_
        refine v_aload_n X 0 rfl dX5_look_127 ?_
        refine gf_X5_34 X dX5_look_128 ?_
        refine v_aload_n X 3 rfl dX5_look_131 ?_
        refine v_iconst X (v := (nI 1)) dX5_look_132 (by decide) ?_
        refine v_callV X (c_X4_looks _ _ hE _ _ t ht12t (ro t) (co t) (hrt) (hct) hr5t hc5t 1 (by decide)) k_X5_111 dl_12 (cef_12 _ _ _ _) rfl ⟨rfl, rfl, Nat.le_of_ble_eq_true rfl, Nat.le_of_ble_eq_true rfl⟩ (As := [.ref (eA (vE a) 2 t), .int (nI 1)]) (rest := []) rfl rfl (Nat.le_of_ble_eq_true rfl) dX5_look_133 (fun r133 I133 L133 hp133 => ?_)
        obtain ⟨hF133, hL133, rfl⟩ := hp133
        refine v_st (st' := [.int (nI (looksS (ent I t) 1 (ro t) (co t)))]) rfl ?_
        exact v_iret X Y dX5_look_136 (Or.inr ⟨t, htt, rfl, fun k hk e => by
              have e := (nI_eq (by decide) (by omega)).mp e
              subst e
              exact ⟨hF133, hL133, rfl⟩, fun h => absurd rfl (h 6 (by decide))⟩)
      · refine v_tableIn X dX5_look_18 (by decide) (by decide) (off := 119) rfl (tgt := 137) (by decide) ?_
        refine v_aload_n X 3 rfl dX5_look_137 ?_
        refine gf_X5_85 X ht12t dX5_look_138 ?_
        refine v_iconst X (v := (nI 1)) dX5_look_141 (by decide) ?_
        refine v_icmp_ne X dX5_look_142 (tgt := 152) (by decide) (fun h142 => ?_) (fun h142 => ?_)
        · refine v_aload_n X 0 rfl dX5_look_152 ?_
          refine v_bipush X (v := (-5)) dX5_look_153 (by decide) ?_
          refine v_callV X (c_X5_refused _ _ hE _ _ 5 (by decide) (by decide)) k_X5_58 dl_0 (cef_0 _ _ _ _) rfl ⟨rfl, rfl, Nat.le_of_ble_eq_true rfl, Nat.le_of_ble_eq_true rfl⟩ (As := [.int (-5)]) (rest := []) rfl rfl (Nat.le_of_ble_eq_true rfl) dX5_look_155 (fun r155 I155 L155 hp155 => ?_)
          obtain ⟨rfl, e1, e2⟩ := hp155
          have e1 := e1.symm
          have e2 := e2.symm
          subst e1; subst e2
          refine v_st (st' := [.int (-5)]) rfl ?_
          exact v_iret X Y dX5_look_158 (Or.inr ⟨t, htt, rfl, fun k hk e => by
                have e := (nI_eq (by decide) (by omega)).mp e
                subst e
                exact ⟨Or.inr ⟨h142, rfl, rfl⟩, rfl⟩, fun h => absurd rfl (h 7 (by decide))⟩)
        · refine v_aload_n X 3 rfl dX5_look_145 ?_
          refine gf_X5_114 X ht12t dX5_look_146 ?_
          refine v_goto X (tgt := 158) dX5_look_149 (by decide) ?_
          exact v_iret X Y dX5_look_158 (Or.inr ⟨t, htt, rfl, fun k hk e => by
                have e := (nI_eq (by decide) (by omega)).mp e
                subst e
                exact ⟨Or.inl ⟨h142, rfl, rfl⟩, rfl⟩, fun h => absurd rfl (h 7 (by decide))⟩)
    · refine v_tableOut X dX5_look_18 hout (tgt := 159) (by decide) ?_
      refine v_aload_n X 0 rfl dX5_look_159 ?_
      refine v_bipush X (v := (-7)) dX5_look_160 (by decide) ?_
      refine v_callV X (c_X5_refused _ _ hE _ _ 7 (by decide) (by decide)) k_X5_58 dl_0 (cef_0 _ _ _ _) rfl ⟨rfl, rfl, Nat.le_of_ble_eq_true rfl, Nat.le_of_ble_eq_true rfl⟩ (As := [.int (-7)]) (rest := []) rfl rfl (Nat.le_of_ble_eq_true rfl) dX5_look_162 (fun r162 I162 L162 hp162 => ?_)
      obtain ⟨rfl, e1, e2⟩ := hp162
      have e1 := e1.symm
      have e2 := e2.symm
      subst e1; subst e2
      refine v_st (st' := [.int (-7)]) rfl ?_
      exact v_iret X Y dX5_look_165 (Or.inr ⟨t, htt, rfl, fun k hk e => absurd e (hno k (by omega)), fun _ => ⟨⟨rfl, rfl⟩, rfl⟩⟩)
  · refine v_st (st' := [.null]) rfl ?_
    refine v_astore_nN X [1, 2, 3, 0] (lv' := [(0, .ref (eA (vE a) 0 0)), (1, .int x), (2, .int what), (3, .null)]) (by decide) rfl dX5_look_5 ?_
    refine v_aload_nN X 3 rfl dX5_look_6 ?_
    refine v_ifnonnullN X dX5_look_7 ?_
    refine v_aload_n X 0 rfl dX5_look_10 ?_
    refine v_bipush X (v := (-3)) dX5_look_11 (by decide) ?_
    refine v_callV X (c_X5_refused _ _ hE _ _ 3 (by decide) (by decide)) k_X5_58 dl_0 (cef_0 _ _ _ _) rfl ⟨rfl, rfl, Nat.le_of_ble_eq_true rfl, Nat.le_of_ble_eq_true rfl⟩ (As := [.int (-3)]) (rest := []) rfl rfl (Nat.le_of_ble_eq_true rfl) dX5_look_13 (fun r13 I13 L13 hp13 => ?_)
    obtain ⟨rfl, e1, e2⟩ := hp13
    have e1 := e1.symm
    have e2 := e2.symm
    subst e1; subst e2
    refine v_st (st' := [.int (-3)]) rfl ?_
    exact v_iret X Y dX5_look_16 (Or.inl ⟨hnot, ⟨rfl, rfl⟩, rfl⟩)
set_option maxHeartbeats 4000000 in
set_option maxRecDepth 100000 in
theorem c_X5_worth (l : Launch) (E : VE) (hE : EOk E) (I : TI) (L : TL) (c : Nat) (ro co : Nat → Nat) (hT : CT I c ro co) (x R C : Int32) : Ct l E yX5_worth cX5_worth 5 (some .long) rm_X5_worth [.ref (eA E 0 0), .int x, .int R, .int C] I L (fun r I' L' => (¬ inS c ro co x R C ∧ r = some (.long 0) ∧ I' = rfI I 3 ∧ L' = L) ∨ (∃ t R' C', t < c ∧ x = nI t ∧ 1 ≤ R' ∧ R' < 2 ^ ro t ∧ 1 ≤ C' ∧ C' < 2 ^ co t ∧ R = nI R' ∧ C = nI C' ∧ ((¬ pc5 R' = pc5 C' ∧ r = some (.long 0) ∧ I' = rfI I 7 ∧ L' = L) ∨ (pc5 R' = pc5 C' ∧ r = some (.long (wrt (ent I t) R' C')) ∧ Fr [(14, 0)] I I' ∧ FL [(13, 0)] L L')))) := by
  refine ct_of (by decide +kernel) (Nat.le_of_ble_eq_true rfl) hE ?_
  intro a X Y hl hEE
  subst hl; subst hEE
  show V a 0 [(0, .ref (eA (vE a) 0 0)), (1, .int x), (2, .int R), (3, .int C)] [] I L
  refine v_aload_n X 0 rfl dX5_worth_0 ?_
  refine v_iload_n X 1 rfl dX5_worth_1 ?_
  refine v_callV X (c_X5_gridOf _ _ hE _ _ c hT.1 hT.2.1 x) k_X5_74 dl_0 (cef_0 _ _ _ _) rfl ⟨rfl, rfl, Nat.le_of_ble_eq_true rfl, Nat.le_of_ble_eq_true rfl⟩ (As := [.int x]) (rest := []) rfl rfl (Nat.le_of_ble_eq_true rfl) dX5_worth_2 (fun r2 I2 L2 hp2 => ?_)
  obtain ⟨ho2, e1, e2⟩ := hp2
  have e1 := e1.symm
  have e2 := e2.symm
  subst e1; subst e2
  rcases ho2 with ⟨t, htt, rfl, rfl⟩ | ⟨hnot, rfl⟩
  · have hc12 := hT.2.1
    obtain ⟨hrt, hct, hr1t, hr5t, hc1t, hc5t⟩ := hT.2.2 t htt
    have ht12t : t < 12 := by omega
    have hnet : t ≠ c := by omega
    refine v_st (st' := [.ref (eA (vE a) 2 t)]) rfl ?_
    refine v_astore X [1, 2, 3, 4, 0] (lv' := [(0, .ref (eA (vE a) 0 0)), (1, .int (nI t)), (2, .int R), (3, .int C), (4, .ref (eA (vE a) 2 t))]) (by decide) rfl dX5_worth_5 ?_
    refine v_aload X 4 rfl dX5_worth_7 ?_
    refine v_ifnull X dX5_worth_9 ?_
    refine v_iload_n X 2 rfl dX5_worth_12 ?_
    refine v_aload X 4 rfl dX5_worth_13 ?_
    refine gf_X5_101 X ht12t dX5_worth_15 ?_
    refine v_eqi (y := (nI (ro t))) (hrt) ?_
    refine v_callS X (c_X5_areSome _ _ hE _ _ R (ro t) (by omega)) k_X5_120 ⟨rfl, rfl, Nat.le_of_ble_eq_true rfl, Nat.le_of_ble_eq_true rfl⟩ (As := [.int R, .int (nI (ro t))]) (rest := []) rfl rfl (Nat.le_of_ble_eq_true rfl) dX5_worth_18 (fun r18 I18 L18 hp18 => ?_)
    obtain ⟨rfl, e1, e2⟩ := hp18
    have e1 := e1.symm
    have e2 := e2.symm
    subst e1; subst e2
    refine v_st (st' := [.int (bI (0 < R ∧ R < nI (2 ^ (ro t))))]) rfl ?_
    refine v_ifb_eq X dX5_worth_21 (tgt := 36) (by decide) (fun h21 => ?_) (fun h21 => ?_)
    · refine v_aload_n X 0 rfl dX5_worth_36 ?_
      refine v_bipush X (v := (-3)) dX5_worth_37 (by decide) ?_
      refine v_callV X (c_X5_nought _ _ hE _ _ 3 (by decide) (by decide)) k_X5_82 dl_0 (cef_0 _ _ _ _) rfl ⟨rfl, rfl, Nat.le_of_ble_eq_true rfl, Nat.le_of_ble_eq_true rfl⟩ (As := [.int (-3)]) (rest := []) rfl rfl (Nat.le_of_ble_eq_true rfl) dX5_worth_39 (fun r39 I39 L39 hp39 => ?_)
      obtain ⟨rfl, e1, e2⟩ := hp39
      have e1 := e1.symm
      have e2 := e2.symm
      subst e1; subst e2
      refine v_st (st' := [.int (nI 0)]) rfl ?_
      refine v_i2l X dX5_worth_42 rfl ?_
      exact v_lret X Y dX5_worth_43 (Or.inl ⟨inS_no hr5t hc5t hc12 htt (Or.inl h21), rfl, rfl, rfl⟩)
    · refine v_iload_n X 3 rfl dX5_worth_24 ?_
      refine v_aload X 4 rfl dX5_worth_25 ?_
      refine gf_X5_104 X ht12t dX5_worth_27 ?_
      refine v_eqi (y := (nI (co t))) (hct) ?_
      refine v_callS X (c_X5_areSome _ _ hE _ _ C (co t) (by omega)) k_X5_120 ⟨rfl, rfl, Nat.le_of_ble_eq_true rfl, Nat.le_of_ble_eq_true rfl⟩ (As := [.int C, .int (nI (co t))]) (rest := []) rfl rfl (Nat.le_of_ble_eq_true rfl) dX5_worth_30 (fun r30 I30 L30 hp30 => ?_)
      obtain ⟨rfl, e1, e2⟩ := hp30
      have e1 := e1.symm
      have e2 := e2.symm
      subst e1; subst e2
      refine v_st (st' := [.int (bI (0 < C ∧ C < nI (2 ^ (co t))))]) rfl ?_
      refine v_ifb_ne X dX5_worth_33 (tgt := 44) (by decide) (fun h33 => ?_) (fun h33 => ?_)
      · obtain ⟨R', hR1, hR2, rfl⟩ := (isS_iff hr5t).mpr h21
        obtain ⟨C', hC1, hC2, rfl⟩ := (isS_iff hc5t).mpr h33
        have hpr := pow32 hr5t
        have hpc := pow32 hc5t
        refine v_iload_n X 2 rfl dX5_worth_44 ?_
        refine v_iload_n X 3 rfl dX5_worth_45 ?_
        refine v_callS X (c_X5_areAsMany _ _ hE _ _ R' C' (by omega) (by omega)) k_X5_123 ⟨rfl, rfl, Nat.le_of_ble_eq_true rfl, Nat.le_of_ble_eq_true rfl⟩ (As := [.int (nI R'), .int (nI C')]) (rest := []) rfl rfl (Nat.le_of_ble_eq_true rfl) dX5_worth_46 (fun r46 I46 L46 hp46 => ?_)
        obtain ⟨rfl, e1, e2⟩ := hp46
        have e1 := e1.symm
        have e2 := e2.symm
        subst e1; subst e2
        refine v_st (st' := [.int (bI (pc5 R' = pc5 C'))]) rfl ?_
        refine v_ifb_ne X dX5_worth_49 (tgt := 60) (by decide) (fun h49 => ?_) (fun h49 => ?_)
        · refine v_aload_n X 0 rfl dX5_worth_60 ?_
          refine gf_X5_34 X dX5_worth_61 ?_
          refine v_aload X 4 rfl dX5_worth_64 ?_
          refine v_iload_n X 2 rfl dX5_worth_66 ?_
          refine v_iload_n X 3 rfl dX5_worth_67 ?_
          refine v_callV X (c_X4_ofPart _ _ hE _ _ t ht12t (ro t) (co t) (hrt) (hct) hr5t hc5t R' hR2 C' hC2 h49.symm) k_X5_126 dl_12 (cef_12 _ _ _ _) rfl ⟨rfl, rfl, Nat.le_of_ble_eq_true rfl, Nat.le_of_ble_eq_true rfl⟩ (As := [.ref (eA (vE a) 2 t), .int (nI R'), .int (nI C')]) (rest := []) rfl rfl (Nat.le_of_ble_eq_true rfl) dX5_worth_68 (fun r68 I68 L68 hp68 => ?_)
          obtain ⟨rfl, hF68, hL68⟩ := hp68
          refine v_st (st' := [.long (wrt (ent I t) R' C')]) rfl ?_
          exact v_lret X Y dX5_worth_71 (Or.inr ⟨t, R', C', htt, rfl, hR1, hR2, hC1, hC2, rfl, rfl, Or.inr ⟨h49, rfl, hF68, hL68⟩⟩)
        · refine v_aload_n X 0 rfl dX5_worth_52 ?_
          refine v_bipush X (v := (-7)) dX5_worth_53 (by decide) ?_
          refine v_callV X (c_X5_nought _ _ hE _ _ 7 (by decide) (by decide)) k_X5_82 dl_0 (cef_0 _ _ _ _) rfl ⟨rfl, rfl, Nat.le_of_ble_eq_true rfl, Nat.le_of_ble_eq_true rfl⟩ (As := [.int (-7)]) (rest := []) rfl rfl (Nat.le_of_ble_eq_true rfl) dX5_worth_55 (fun r55 I55 L55 hp55 => ?_)
          obtain ⟨rfl, e1, e2⟩ := hp55
          have e1 := e1.symm
          have e2 := e2.symm
          subst e1; subst e2
          refine v_st (st' := [.int (nI 0)]) rfl ?_
          refine v_i2l X dX5_worth_58 rfl ?_
          exact v_lret X Y dX5_worth_59 (Or.inr ⟨t, R', C', htt, rfl, hR1, hR2, hC1, hC2, rfl, rfl, Or.inl ⟨h49, rfl, rfl, rfl⟩⟩)
      · refine v_aload_n X 0 rfl dX5_worth_36 ?_
        refine v_bipush X (v := (-3)) dX5_worth_37 (by decide) ?_
        refine v_callV X (c_X5_nought _ _ hE _ _ 3 (by decide) (by decide)) k_X5_82 dl_0 (cef_0 _ _ _ _) rfl ⟨rfl, rfl, Nat.le_of_ble_eq_true rfl, Nat.le_of_ble_eq_true rfl⟩ (As := [.int (-3)]) (rest := []) rfl rfl (Nat.le_of_ble_eq_true rfl) dX5_worth_39 (fun r39 I39 L39 hp39 => ?_)
        obtain ⟨rfl, e1, e2⟩ := hp39
        have e1 := e1.symm
        have e2 := e2.symm
        subst e1; subst e2
        refine v_st (st' := [.int (nI 0)]) rfl ?_
        refine v_i2l X dX5_worth_42 rfl ?_
        exact v_lret X Y dX5_worth_43 (Or.inl ⟨inS_no hr5t hc5t hc12 htt (Or.inr h33), rfl, rfl, rfl⟩)
  · refine v_st (st' := [.null]) rfl ?_
    refine v_astoreN X [1, 2, 3, 4, 0] (lv' := [(0, .ref (eA (vE a) 0 0)), (1, .int x), (2, .int R), (3, .int C), (4, .null)]) (by decide) rfl dX5_worth_5 ?_
    refine v_aloadN X 4 rfl dX5_worth_7 ?_
    refine v_ifnullN X (tgt := 36) dX5_worth_9 (by decide) ?_
    refine v_aload_n X 0 rfl dX5_worth_36 ?_
    refine v_bipush X (v := (-3)) dX5_worth_37 (by decide) ?_
    refine v_callV X (c_X5_nought _ _ hE _ _ 3 (by decide) (by decide)) k_X5_82 dl_0 (cef_0 _ _ _ _) rfl ⟨rfl, rfl, Nat.le_of_ble_eq_true rfl, Nat.le_of_ble_eq_true rfl⟩ (As := [.int (-3)]) (rest := []) rfl rfl (Nat.le_of_ble_eq_true rfl) dX5_worth_39 (fun r39 I39 L39 hp39 => ?_)
    obtain ⟨rfl, e1, e2⟩ := hp39
    have e1 := e1.symm
    have e2 := e2.symm
    subst e1; subst e2
    refine v_st (st' := [.int (nI 0)]) rfl ?_
    refine v_i2l X dX5_worth_42 rfl ?_
    exact v_lret X Y dX5_worth_43 (Or.inl ⟨inS_no' hnot, rfl, rfl, rfl⟩)
set_option maxHeartbeats 4000000 in
set_option maxRecDepth 100000 in
theorem c_X5_low (l : Launch) (E : VE) (hE : EOk E) (I : TI) (L : TL) (c : Nat) (ro co : Nat → Nat) (hT : CT I c ro co) (x : Int32) (b : Nat) (hb : b < 2) : Ct l E yX5_low cX5_low 4 (some .int) rm_X5_low [.ref (eA E 0 0), .int x, .int (nI b)] I L (fun r I' L' => (¬ isT c x ∧ REF I I' r 3 ∧ L' = L) ∨ (∃ t, t < c ∧ x = nI t ∧ Fr [(14, 0)] I I' ∧ FL [(13, 0)] L L' ∧ ∃ y, flRes (ent I t) b (ro t) (co t) y ∧ r = some (.int y))) := by
  refine ct_of (by decide +kernel) (Nat.le_of_ble_eq_true rfl) hE ?_
  intro a X Y hl hEE
  subst hl; subst hEE
  show V a 0 [(0, .ref (eA (vE a) 0 0)), (1, .int x), (2, .int (nI b))] [] I L
  refine v_aload_n X 0 rfl dX5_low_0 ?_
  refine v_iload_n X 1 rfl dX5_low_1 ?_
  refine v_callV X (c_X5_gridOf _ _ hE _ _ c hT.1 hT.2.1 x) k_X5_74 dl_0 (cef_0 _ _ _ _) rfl ⟨rfl, rfl, Nat.le_of_ble_eq_true rfl, Nat.le_of_ble_eq_true rfl⟩ (As := [.int x]) (rest := []) rfl rfl (Nat.le_of_ble_eq_true rfl) dX5_low_2 (fun r2 I2 L2 hp2 => ?_)
  obtain ⟨ho2, e1, e2⟩ := hp2
  have e1 := e1.symm
  have e2 := e2.symm
  subst e1; subst e2
  rcases ho2 with ⟨t, htt, rfl, rfl⟩ | ⟨hnot, rfl⟩
  · have hc12 := hT.2.1
    obtain ⟨hrt, hct, hr1t, hr5t, hc1t, hc5t⟩ := hT.2.2 t htt
    have ht12t : t < 12 := by omega
    have hnet : t ≠ c := by omega
    refine v_st (st' := [.ref (eA (vE a) 2 t)]) rfl ?_
    refine v_astore_n X [1, 2, 3, 0] (lv' := [(0, .ref (eA (vE a) 0 0)), (1, .int (nI t)), (2, .int (nI b)), (3, .ref (eA (vE a) 2 t))]) (by decide) rfl dX5_low_5 ?_
    refine v_aload_n X 3 rfl dX5_low_6 ?_
    refine v_ifnonnull X (tgt := 17) dX5_low_7 (by decide) ?_
    refine v_aload_n X 0 rfl dX5_low_17 ?_
    refine gf_X5_34 X dX5_low_18 ?_
    refine v_aload_n X 3 rfl dX5_low_21 ?_
    refine v_iload_n X 2 rfl dX5_low_22 ?_
    refine v_callV X (c_X4_firstLow _ _ hE _ _ t ht12t (ro t) (co t) (hrt) (hct) hr5t hc5t b hb) k_X5_107 dl_12 (cef_12 _ _ _ _) rfl ⟨rfl, rfl, Nat.le_of_ble_eq_true rfl, Nat.le_of_ble_eq_true rfl⟩ (As := [.ref (eA (vE a) 2 t), .int (nI b)]) (rest := []) rfl rfl (Nat.le_of_ble_eq_true rfl) dX5_low_23 (fun r23 I23 L23 hp23 => ?_)
    obtain ⟨hF23, hL23, y, rfl, hy⟩ := hp23
    refine v_st (st' := [.int y]) rfl ?_
    exact v_iret X Y dX5_low_26 (Or.inr ⟨t, htt, rfl, hF23, hL23, y, hy, rfl⟩)
  · refine v_st (st' := [.null]) rfl ?_
    refine v_astore_nN X [1, 2, 3, 0] (lv' := [(0, .ref (eA (vE a) 0 0)), (1, .int x), (2, .int (nI b)), (3, .null)]) (by decide) rfl dX5_low_5 ?_
    refine v_aload_nN X 3 rfl dX5_low_6 ?_
    refine v_ifnonnullN X dX5_low_7 ?_
    refine v_aload_n X 0 rfl dX5_low_10 ?_
    refine v_bipush X (v := (-3)) dX5_low_11 (by decide) ?_
    refine v_callV X (c_X5_refused _ _ hE _ _ 3 (by decide) (by decide)) k_X5_58 dl_0 (cef_0 _ _ _ _) rfl ⟨rfl, rfl, Nat.le_of_ble_eq_true rfl, Nat.le_of_ble_eq_true rfl⟩ (As := [.int (-3)]) (rest := []) rfl rfl (Nat.le_of_ble_eq_true rfl) dX5_low_13 (fun r13 I13 L13 hp13 => ?_)
    obtain ⟨rfl, e1, e2⟩ := hp13
    have e1 := e1.symm
    have e2 := e2.symm
    subst e1; subst e2
    refine v_st (st' := [.int (-3)]) rfl ?_
    exact v_iret X Y dX5_low_16 (Or.inl ⟨hnot, ⟨rfl, rfl⟩, rfl⟩)
set_option maxHeartbeats 4000000 in
set_option maxRecDepth 100000 in
theorem c_X5_count (l : Launch) (E : VE) (hE : EOk E) (I : TI) (L : TL) (c : Nat) (ro co : Nat → Nat) (hT : CT I c ro co) (x s : Int32) : Ct l E yX5_count cX5_count 4 (some .int) rm_X5_count [.ref (eA E 0 0), .int x, .int s] I L (fun r I' L' => (¬ isT c x ∧ REF I I' r 3 ∧ L' = L) ∨ (∃ t, t < c ∧ x = nI t ∧ ((¬ (-1 ≤ s ∧ s ≤ nI 1) ∧ REF I I' r 7 ∧ L' = L) ∨ (-1 ≤ s ∧ s ≤ nI 1 ∧ Fr [(14, 0)] I I' ∧ FL [(13, 0)] L L' ∧ r = some (.int (nI (manyS (ent I t) s (ro t) (co t)))))))) := by
  refine ct_of (by decide +kernel) (Nat.le_of_ble_eq_true rfl) hE ?_
  intro a X Y hl hEE
  subst hl; subst hEE
  show V a 0 [(0, .ref (eA (vE a) 0 0)), (1, .int x), (2, .int s)] [] I L
  refine v_aload_n X 0 rfl dX5_count_0 ?_
  refine v_iload_n X 1 rfl dX5_count_1 ?_
  refine v_callV X (c_X5_gridOf _ _ hE _ _ c hT.1 hT.2.1 x) k_X5_74 dl_0 (cef_0 _ _ _ _) rfl ⟨rfl, rfl, Nat.le_of_ble_eq_true rfl, Nat.le_of_ble_eq_true rfl⟩ (As := [.int x]) (rest := []) rfl rfl (Nat.le_of_ble_eq_true rfl) dX5_count_2 (fun r2 I2 L2 hp2 => ?_)
  obtain ⟨ho2, e1, e2⟩ := hp2
  have e1 := e1.symm
  have e2 := e2.symm
  subst e1; subst e2
  rcases ho2 with ⟨t, htt, rfl, rfl⟩ | ⟨hnot, rfl⟩
  · have hc12 := hT.2.1
    obtain ⟨hrt, hct, hr1t, hr5t, hc1t, hc5t⟩ := hT.2.2 t htt
    have ht12t : t < 12 := by omega
    have hnet : t ≠ c := by omega
    refine v_st (st' := [.ref (eA (vE a) 2 t)]) rfl ?_
    refine v_astore_n X [1, 2, 3, 0] (lv' := [(0, .ref (eA (vE a) 0 0)), (1, .int (nI t)), (2, .int s), (3, .ref (eA (vE a) 2 t))]) (by decide) rfl dX5_count_5 ?_
    refine v_aload_n X 3 rfl dX5_count_6 ?_
    refine v_ifnonnull X (tgt := 17) dX5_count_7 (by decide) ?_
    refine v_iload_n X 2 rfl dX5_count_17 ?_
    refine v_iconst X (v := (-1)) dX5_count_18 (by decide) ?_
    refine v_icmp_lt X dX5_count_19 (tgt := 27) (by decide) (fun h19 => ?_) (fun h19 => ?_)
    · refine v_aload_n X 0 rfl dX5_count_27 ?_
      refine v_bipush X (v := (-7)) dX5_count_28 (by decide) ?_
      refine v_callV X (c_X5_refused _ _ hE _ _ 7 (by decide) (by decide)) k_X5_58 dl_0 (cef_0 _ _ _ _) rfl ⟨rfl, rfl, Nat.le_of_ble_eq_true rfl, Nat.le_of_ble_eq_true rfl⟩ (As := [.int (-7)]) (rest := []) rfl rfl (Nat.le_of_ble_eq_true rfl) dX5_count_30 (fun r30 I30 L30 hp30 => ?_)
      obtain ⟨rfl, e1, e2⟩ := hp30
      have e1 := e1.symm
      have e2 := e2.symm
      subst e1; subst e2
      refine v_st (st' := [.int (-7)]) rfl ?_
      exact v_iret X Y dX5_count_33 (Or.inr ⟨t, htt, rfl, Or.inl ⟨fun q => absurd q.1 (Int32.not_le.mpr h19), ⟨rfl, rfl⟩, rfl⟩⟩)
    · refine v_iload_n X 2 rfl dX5_count_22 ?_
      refine v_iconst X (v := (nI 1)) dX5_count_23 (by decide) ?_
      refine v_icmp_le X dX5_count_24 (tgt := 34) (by decide) (fun h24 => ?_) (fun h24 => ?_)
      · refine v_aload_n X 0 rfl dX5_count_34 ?_
        refine gf_X5_34 X dX5_count_35 ?_
        refine v_aload_n X 3 rfl dX5_count_38 ?_
        refine v_iload_n X 2 rfl dX5_count_39 ?_
        refine v_callV X (c_X4_manyOf _ _ hE _ _ t ht12t (ro t) (co t) (hrt) (hct) hr5t hc5t s) k_X5_130 dl_12 (cef_12 _ _ _ _) rfl ⟨rfl, rfl, Nat.le_of_ble_eq_true rfl, Nat.le_of_ble_eq_true rfl⟩ (As := [.ref (eA (vE a) 2 t), .int s]) (rest := []) rfl rfl (Nat.le_of_ble_eq_true rfl) dX5_count_40 (fun r40 I40 L40 hp40 => ?_)
        obtain ⟨hF40, hL40, rfl⟩ := hp40
        refine v_st (st' := [.int (nI (manyS (ent I t) s (ro t) (co t)))]) rfl ?_
        exact v_iret X Y dX5_count_43 (Or.inr ⟨t, htt, rfl, Or.inr ⟨Int32.not_lt.mp h19, h24, hF40, hL40, rfl⟩⟩)
      · refine v_aload_n X 0 rfl dX5_count_27 ?_
        refine v_bipush X (v := (-7)) dX5_count_28 (by decide) ?_
        refine v_callV X (c_X5_refused _ _ hE _ _ 7 (by decide) (by decide)) k_X5_58 dl_0 (cef_0 _ _ _ _) rfl ⟨rfl, rfl, Nat.le_of_ble_eq_true rfl, Nat.le_of_ble_eq_true rfl⟩ (As := [.int (-7)]) (rest := []) rfl rfl (Nat.le_of_ble_eq_true rfl) dX5_count_30 (fun r30 I30 L30 hp30 => ?_)
        obtain ⟨rfl, e1, e2⟩ := hp30
        have e1 := e1.symm
        have e2 := e2.symm
        subst e1; subst e2
        refine v_st (st' := [.int (-7)]) rfl ?_
        exact v_iret X Y dX5_count_33 (Or.inr ⟨t, htt, rfl, Or.inl ⟨fun q => h24 q.2, ⟨rfl, rfl⟩, rfl⟩⟩)
  · refine v_st (st' := [.null]) rfl ?_
    refine v_astore_nN X [1, 2, 3, 0] (lv' := [(0, .ref (eA (vE a) 0 0)), (1, .int x), (2, .int s), (3, .null)]) (by decide) rfl dX5_count_5 ?_
    refine v_aload_nN X 3 rfl dX5_count_6 ?_
    refine v_ifnonnullN X dX5_count_7 ?_
    refine v_aload_n X 0 rfl dX5_count_10 ?_
    refine v_bipush X (v := (-3)) dX5_count_11 (by decide) ?_
    refine v_callV X (c_X5_refused _ _ hE _ _ 3 (by decide) (by decide)) k_X5_58 dl_0 (cef_0 _ _ _ _) rfl ⟨rfl, rfl, Nat.le_of_ble_eq_true rfl, Nat.le_of_ble_eq_true rfl⟩ (As := [.int (-3)]) (rest := []) rfl rfl (Nat.le_of_ble_eq_true rfl) dX5_count_13 (fun r13 I13 L13 hp13 => ?_)
    obtain ⟨rfl, e1, e2⟩ := hp13
    have e1 := e1.symm
    have e2 := e2.symm
    subst e1; subst e2
    refine v_st (st' := [.int (-3)]) rfl ?_
    exact v_iret X Y dX5_count_16 (Or.inl ⟨hnot, ⟨rfl, rfl⟩, rfl⟩)
set_option maxHeartbeats 4000000 in
set_option maxRecDepth 100000 in
theorem c_X5_same (l : Launch) (E : VE) (hE : EOk E) (I : TI) (L : TL) (c : Nat) (ro co : Nat → Nat) (hT : CT I c ro co) (x y : Int32) : Ct l E yX5_same cX5_same 7 (some .int) rm_X5_same [.ref (eA E 0 0), .int x, .int y] I L (fun r I' L' => (¬ (isT c x ∧ isT c y) ∧ REF I I' r 3 ∧ L' = L) ∨ (∃ t u, t < c ∧ u < c ∧ x = nI t ∧ y = nI u ∧ ((sameG I ro co t u ∧ r = some (.int (nI 1))) ∨ (¬ sameG I ro co t u ∧ r = some (.int (nI 0)))) ∧ I' = I ∧ L' = L)) := by
  refine ct_of (by decide +kernel) (Nat.le_of_ble_eq_true rfl) hE ?_
  intro a X Y hl hEE
  subst hl; subst hEE
  show V a 0 [(0, .ref (eA (vE a) 0 0)), (1, .int x), (2, .int y)] [] I L
  refine v_aload_n X 0 rfl dX5_same_0 ?_
  refine v_iload_n X 1 rfl dX5_same_1 ?_
  refine v_callV X (c_X5_gridOf _ _ hE _ _ c hT.1 hT.2.1 x) k_X5_74 dl_0 (cef_0 _ _ _ _) rfl ⟨rfl, rfl, Nat.le_of_ble_eq_true rfl, Nat.le_of_ble_eq_true rfl⟩ (As := [.int x]) (rest := []) rfl rfl (Nat.le_of_ble_eq_true rfl) dX5_same_2 (fun r2 I2 L2 hp2 => ?_)
  obtain ⟨ho2, e1, e2⟩ := hp2
  have e1 := e1.symm
  have e2 := e2.symm
  subst e1; subst e2
  rcases ho2 with ⟨t, htt, rfl, rfl⟩ | ⟨hnot, rfl⟩
  · have hc12 := hT.2.1
    obtain ⟨hrt, hct, hr1t, hr5t, hc1t, hc5t⟩ := hT.2.2 t htt
    have ht12t : t < 12 := by omega
    have hnet : t ≠ c := by omega
    refine v_st (st' := [.ref (eA (vE a) 2 t)]) rfl ?_
    refine v_astore_n X [1, 2, 3, 0] (lv' := [(0, .ref (eA (vE a) 0 0)), (1, .int (nI t)), (2, .int y), (3, .ref (eA (vE a) 2 t))]) (by decide) rfl dX5_same_5 ?_
    refine v_aload_n X 0 rfl dX5_same_6 ?_
    refine v_iload_n X 2 rfl dX5_same_7 ?_
    refine v_callV X (c_X5_gridOf _ _ hE _ _ c hT.1 hT.2.1 y) k_X5_74 dl_0 (cef_0 _ _ _ _) rfl ⟨rfl, rfl, Nat.le_of_ble_eq_true rfl, Nat.le_of_ble_eq_true rfl⟩ (As := [.int y]) (rest := []) rfl rfl (Nat.le_of_ble_eq_true rfl) dX5_same_8 (fun r8 I8 L8 hp8 => ?_)
    obtain ⟨ho8, e1, e2⟩ := hp8
    have e1 := e1.symm
    have e2 := e2.symm
    subst e1; subst e2
    rcases ho8 with ⟨u, htu, rfl, rfl⟩ | ⟨hnou, rfl⟩
    · skip
      obtain ⟨hru, hcu, hr1u, hr5u, hc1u, hc5u⟩ := hT.2.2 u htu
      have ht12u : u < 12 := by omega
      have hneu : u ≠ c := by omega
      refine v_st (st' := [.ref (eA (vE a) 2 u)]) rfl ?_
      refine v_astore X [1, 2, 3, 4, 0] (lv' := [(0, .ref (eA (vE a) 0 0)), (1, .int (nI t)), (2, .int (nI u)), (3, .ref (eA (vE a) 2 t)), (4, .ref (eA (vE a) 2 u))]) (by decide) rfl dX5_same_11 ?_
      refine v_aload_n X 3 rfl dX5_same_13 ?_
      refine v_ifnull X dX5_same_14 ?_
      refine v_aload X 4 rfl dX5_same_17 ?_
      refine v_ifnonnull X (tgt := 29) dX5_same_19 (by decide) ?_
      refine v_aload_n X 3 rfl dX5_same_29 ?_
      refine gf_X5_101 X ht12t dX5_same_30 ?_
      refine v_eqi (y := (nI (ro t))) (hrt) ?_
      refine v_aload X 4 rfl dX5_same_33 ?_
      refine gf_X5_101 X ht12u dX5_same_35 ?_
      refine v_eqi (y := (nI (ro u))) (hru) ?_
      refine v_icmp_ne_n X (by omega) (by omega) dX5_same_38 (tgt := 53) (by decide) (fun h38 => ?_) (fun h38 => ?_)
      · refine v_iconst X (v := (nI 0)) dX5_same_53 (by decide) ?_
        exact v_iret X Y dX5_same_54 (Or.inr ⟨t, u, htt, htu, rfl, rfl, Or.inr ⟨fun q => h38 q.1, rfl⟩, rfl, rfl⟩)
      · refine v_aload_n X 3 rfl dX5_same_41 ?_
        refine gf_X5_104 X ht12t dX5_same_42 ?_
        refine v_eqi (y := (nI (co t))) (hct) ?_
        refine v_aload X 4 rfl dX5_same_45 ?_
        refine gf_X5_104 X ht12u dX5_same_47 ?_
        refine v_eqi (y := (nI (co u))) (hcu) ?_
        refine v_icmp_eq_n X (by omega) (by omega) dX5_same_50 (tgt := 55) (by decide) (fun h50 => ?_) (fun h50 => ?_)
        · refine v_iconst X (v := (nI 0)) dX5_same_55 (by decide) ?_
          refine v_istore X [1, 2, 3, 4, 5, 0] (lv' := [(0, .ref (eA (vE a) 0 0)), (1, .int (nI t)), (2, .int (nI u)), (3, .ref (eA (vE a) 2 t)), (4, .ref (eA (vE a) 2 u)), (5, .int (nI 0))]) (by decide) rfl dX5_same_56 ?_
          have loop58 : ∀ (fu : Nat) (i : Nat), 6 - i < fu → (i ≤ ro t) → (∀ i' j', i' < i → j' < co t → I 3 t (5 * i' + j') = I 3 u (5 * i' + j')) → V a 58 [(0, .ref (eA (vE a) 0 0)), (1, .int (nI t)), (2, .int (nI u)), (3, .ref (eA (vE a) 2 t)), (4, .ref (eA (vE a) 2 u)), (5, .int (nI i))] [] I L := by
            intro fu
            induction fu with
            | zero => intro i hm _ _; exact absurd hm (Nat.not_lt_zero _)
            | succ fu ih58 =>
              intro i hm58 hi hv
              refine v_iload X 5 rfl dX5_same_58 ?_
              refine v_aload_n X 3 rfl dX5_same_60 ?_
              refine gf_X5_101 X ht12t dX5_same_61 ?_
              refine v_eqi (y := (nI (ro t))) (hrt) ?_
              refine v_icmp_ge_n X (by omega) (by omega) dX5_same_64 (tgt := 113) (by decide) (fun h64 => ?_) (fun h64 => ?_)
              · refine v_iconst X (v := (nI 1)) dX5_same_113 (by decide) ?_
                exact v_iret X Y dX5_same_114 (Or.inr ⟨t, u, htt, htu, rfl, rfl, Or.inl ⟨⟨h38, h50, fun i' j' h1 h2 => hv i' j' (by omega) h2⟩, rfl⟩, rfl, rfl⟩)
              · refine v_iconst X (v := (nI 0)) dX5_same_67 (by decide) ?_
                refine v_istore X [1, 2, 3, 4, 5, 6, 0] (lv' := [(0, .ref (eA (vE a) 0 0)), (1, .int (nI t)), (2, .int (nI u)), (3, .ref (eA (vE a) 2 t)), (4, .ref (eA (vE a) 2 u)), (5, .int (nI i)), (6, .int (nI 0))]) (by decide) rfl dX5_same_68 ?_
                have loop70 : ∀ (fu : Nat) (j : Nat), 6 - j < fu → (j ≤ co t) → (∀ j', j' < j → I 3 t (5 * i + j') = I 3 u (5 * i + j')) → V a 70 [(0, .ref (eA (vE a) 0 0)), (1, .int (nI t)), (2, .int (nI u)), (3, .ref (eA (vE a) 2 t)), (4, .ref (eA (vE a) 2 u)), (5, .int (nI i)), (6, .int (nI j))] [] I L := by
                  intro fu
                  induction fu with
                  | zero => intro j hm _ _; exact absurd hm (Nat.not_lt_zero _)
                  | succ fu ih70 =>
                    intro j hm70 hj hw
                    refine v_iload X 6 rfl dX5_same_70 ?_
                    refine v_aload_n X 3 rfl dX5_same_72 ?_
                    refine gf_X5_104 X ht12t dX5_same_73 ?_
                    refine v_eqi (y := (nI (co t))) (hct) ?_
                    refine v_icmp_ge_n X (by omega) (by omega) dX5_same_76 (tgt := 107) (by decide) (fun h76 => ?_) (fun h76 => ?_)
                    · refine v_iinc X [1, 2, 3, 4, 5, 0, 6] 5 (nI (i + 1)) (lv' := [(0, .ref (eA (vE a) 0 0)), (1, .int (nI t)), (2, .int (nI u)), (3, .ref (eA (vE a) 2 t)), (4, .ref (eA (vE a) 2 u)), (5, .int (nI (i + 1))), (6, .int (nI j))]) rfl (nI_1 _) (by decide) rfl dX5_same_107 ?_
                      refine v_goto X (tgt := 58) dX5_same_110 (by decide) ?_
                      refine v_sub [0, 1, 2, 3, 4, 5] (lv' := [(0, .ref (eA (vE a) 0 0)), (1, .int (nI t)), (2, .int (nI u)), (3, .ref (eA (vE a) 2 t)), (4, .ref (eA (vE a) 2 u)), (5, .int (nI (i + 1)))]) rfl ?_
                      have hnew : ∀ i' j', i' < i + 1 → j' < co t → I 3 t (5 * i' + j') = I 3 u (5 * i' + j') := fun a b h h' => by
                        rcases Nat.lt_or_ge a i with z | z
                        · exact hv a b z h'
                        · have e : a = i := by omega
                          subst e
                          exact hw b (by omega)
                      exact ih58 (i + 1) (by omega) (by omega) hnew
                    · refine v_aload_n X 3 rfl dX5_same_79 ?_
                      refine v_iload X 5 rfl dX5_same_80 ?_
                      refine v_iload X 6 rfl dX5_same_82 ?_
                      refine v_callV X (c_X0_number _ _ hE _ _ t ht12t (ro t) (co t) (hrt) (hct) hr5t hc5t i j (by omega) (by omega)) k_X5_93 (dl_2 ht12t) (cef_2 _ _ _ _) rfl ⟨rfl, rfl, Nat.le_of_ble_eq_true rfl, Nat.le_of_ble_eq_true rfl⟩ (As := [.int (nI i), .int (nI j)]) (rest := []) rfl rfl (Nat.le_of_ble_eq_true rfl) dX5_same_84 (fun r84 I84 L84 hp84 => ?_)
                      obtain ⟨rfl, e1, e2⟩ := hp84
                      have e1 := e1.symm
                      have e2 := e2.symm
                      subst e1; subst e2
                      refine v_st (st' := [.int (I 3 t (5 * i + j))]) rfl ?_
                      refine v_aload X 4 rfl dX5_same_87 ?_
                      refine v_iload X 5 rfl dX5_same_89 ?_
                      refine v_iload X 6 rfl dX5_same_91 ?_
                      refine v_callV X (c_X0_number _ _ hE _ _ u ht12u (ro u) (co u) (hru) (hcu) hr5u hc5u i j (by omega) (by omega)) k_X5_93 (dl_2 ht12u) (cef_2 _ _ _ _) rfl ⟨rfl, rfl, Nat.le_of_ble_eq_true rfl, Nat.le_of_ble_eq_true rfl⟩ (As := [.int (nI i), .int (nI j)]) (rest := [.int (I 3 t (5 * i + j))]) rfl rfl (Nat.le_of_ble_eq_true rfl) dX5_same_93 (fun r93 I93 L93 hp93 => ?_)
                      obtain ⟨rfl, e1, e2⟩ := hp93
                      have e1 := e1.symm
                      have e2 := e2.symm
                      subst e1; subst e2
                      refine v_st (st' := [.int (I 3 u (5 * i + j)), .int (I 3 t (5 * i + j))]) rfl ?_
                      refine v_icmp_eq X dX5_same_96 (tgt := 101) (by decide) (fun h96 => ?_) (fun h96 => ?_)
                      · refine v_iinc X [1, 2, 3, 4, 5, 6, 0] 6 (nI (j + 1)) (lv' := [(0, .ref (eA (vE a) 0 0)), (1, .int (nI t)), (2, .int (nI u)), (3, .ref (eA (vE a) 2 t)), (4, .ref (eA (vE a) 2 u)), (5, .int (nI i)), (6, .int (nI (j + 1)))]) rfl (nI_1 _) (by decide) rfl dX5_same_101 ?_
                        refine v_goto X (tgt := 70) dX5_same_104 (by decide) ?_
                        have hnew : ∀ j', j' < j + 1 → I 3 t (5 * i + j') = I 3 u (5 * i + j') := fun b h => by
                          rcases Nat.lt_or_ge b j with z | z
                          · exact hw b z
                          · have e : b = j := by omega
                            subst e
                            exact h96
                        exact ih70 (j + 1) (by omega) (by omega) hnew
                      · refine v_iconst X (v := (nI 0)) dX5_same_99 (by decide) ?_
                        exact v_iret X Y dX5_same_100 (Or.inr ⟨t, u, htt, htu, rfl, rfl, Or.inr ⟨fun q => h96 (q.2.2 i j (by omega) (by omega)), rfl⟩, rfl, rfl⟩)
                exact loop70 _ 0 (Nat.lt_succ_self _) (Nat.zero_le _) (fun b h => absurd h (Nat.not_lt_zero _))
          exact loop58 _ 0 (Nat.lt_succ_self _) (Nat.zero_le _) (fun a b h => absurd h (Nat.not_lt_zero _))
        · refine v_iconst X (v := (nI 0)) dX5_same_53 (by decide) ?_
          exact v_iret X Y dX5_same_54 (Or.inr ⟨t, u, htt, htu, rfl, rfl, Or.inr ⟨fun q => h50 q.2.1, rfl⟩, rfl, rfl⟩)
    · refine v_st (st' := [.null]) rfl ?_
      refine v_astoreN X [1, 2, 3, 4, 0] (lv' := [(0, .ref (eA (vE a) 0 0)), (1, .int (nI t)), (2, .int y), (3, .ref (eA (vE a) 2 t)), (4, .null)]) (by decide) rfl dX5_same_11 ?_
      refine v_aload_n X 3 rfl dX5_same_13 ?_
      refine v_ifnull X dX5_same_14 ?_
      refine v_aloadN X 4 rfl dX5_same_17 ?_
      refine v_ifnonnullN X dX5_same_19 ?_
      refine v_aload_n X 0 rfl dX5_same_22 ?_
      refine v_bipush X (v := (-3)) dX5_same_23 (by decide) ?_
      refine v_callV X (c_X5_refused _ _ hE _ _ 3 (by decide) (by decide)) k_X5_58 dl_0 (cef_0 _ _ _ _) rfl ⟨rfl, rfl, Nat.le_of_ble_eq_true rfl, Nat.le_of_ble_eq_true rfl⟩ (As := [.int (-3)]) (rest := []) rfl rfl (Nat.le_of_ble_eq_true rfl) dX5_same_25 (fun r25 I25 L25 hp25 => ?_)
      obtain ⟨rfl, e1, e2⟩ := hp25
      have e1 := e1.symm
      have e2 := e2.symm
      subst e1; subst e2
      refine v_st (st' := [.int (-3)]) rfl ?_
      exact v_iret X Y dX5_same_28 (Or.inl ⟨fun q => hnou q.2, ⟨rfl, rfl⟩, rfl⟩)
  · refine v_st (st' := [.null]) rfl ?_
    refine v_astore_nN X [1, 2, 3, 0] (lv' := [(0, .ref (eA (vE a) 0 0)), (1, .int x), (2, .int y), (3, .null)]) (by decide) rfl dX5_same_5 ?_
    refine v_aload_n X 0 rfl dX5_same_6 ?_
    refine v_iload_n X 2 rfl dX5_same_7 ?_
    refine v_callV X (c_X5_gridOf _ _ hE _ _ c hT.1 hT.2.1 y) k_X5_74 dl_0 (cef_0 _ _ _ _) rfl ⟨rfl, rfl, Nat.le_of_ble_eq_true rfl, Nat.le_of_ble_eq_true rfl⟩ (As := [.int y]) (rest := []) rfl rfl (Nat.le_of_ble_eq_true rfl) dX5_same_8 (fun r8 I8 L8 hp8 => ?_)
    obtain ⟨ho8, e1, e2⟩ := hp8
    have e1 := e1.symm
    have e2 := e2.symm
    subst e1; subst e2
    rcases ho8 with ⟨u, htu, rfl, rfl⟩ | ⟨hnou, rfl⟩
    · have hc12 := hT.2.1
      obtain ⟨hru, hcu, hr1u, hr5u, hc1u, hc5u⟩ := hT.2.2 u htu
      have ht12u : u < 12 := by omega
      have hneu : u ≠ c := by omega
      refine v_st (st' := [.ref (eA (vE a) 2 u)]) rfl ?_
      refine v_astore X [1, 2, 3, 4, 0] (lv' := [(0, .ref (eA (vE a) 0 0)), (1, .int x), (2, .int (nI u)), (3, .null), (4, .ref (eA (vE a) 2 u))]) (by decide) rfl dX5_same_11 ?_
      refine v_aload_nN X 3 rfl dX5_same_13 ?_
      refine v_ifnullN X (tgt := 22) dX5_same_14 (by decide) ?_
      refine v_aload_n X 0 rfl dX5_same_22 ?_
      refine v_bipush X (v := (-3)) dX5_same_23 (by decide) ?_
      refine v_callV X (c_X5_refused _ _ hE _ _ 3 (by decide) (by decide)) k_X5_58 dl_0 (cef_0 _ _ _ _) rfl ⟨rfl, rfl, Nat.le_of_ble_eq_true rfl, Nat.le_of_ble_eq_true rfl⟩ (As := [.int (-3)]) (rest := []) rfl rfl (Nat.le_of_ble_eq_true rfl) dX5_same_25 (fun r25 I25 L25 hp25 => ?_)
      obtain ⟨rfl, e1, e2⟩ := hp25
      have e1 := e1.symm
      have e2 := e2.symm
      subst e1; subst e2
      refine v_st (st' := [.int (-3)]) rfl ?_
      exact v_iret X Y dX5_same_28 (Or.inl ⟨fun q => hnot q.1, ⟨rfl, rfl⟩, rfl⟩)
    · refine v_st (st' := [.null]) rfl ?_
      refine v_astoreN X [1, 2, 3, 4, 0] (lv' := [(0, .ref (eA (vE a) 0 0)), (1, .int x), (2, .int y), (3, .null), (4, .null)]) (by decide) rfl dX5_same_11 ?_
      refine v_aload_nN X 3 rfl dX5_same_13 ?_
      refine v_ifnullN X (tgt := 22) dX5_same_14 (by decide) ?_
      refine v_aload_n X 0 rfl dX5_same_22 ?_
      refine v_bipush X (v := (-3)) dX5_same_23 (by decide) ?_
      refine v_callV X (c_X5_refused _ _ hE _ _ 3 (by decide) (by decide)) k_X5_58 dl_0 (cef_0 _ _ _ _) rfl ⟨rfl, rfl, Nat.le_of_ble_eq_true rfl, Nat.le_of_ble_eq_true rfl⟩ (As := [.int (-3)]) (rest := []) rfl rfl (Nat.le_of_ble_eq_true rfl) dX5_same_25 (fun r25 I25 L25 hp25 => ?_)
      obtain ⟨rfl, e1, e2⟩ := hp25
      have e1 := e1.symm
      have e2 := e2.symm
      subst e1; subst e2
      refine v_st (st' := [.int (-3)]) rfl ?_
      exact v_iret X Y dX5_same_28 (Or.inl ⟨fun q => hnot q.1, ⟨rfl, rfl⟩, rfl⟩)
