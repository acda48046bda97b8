/-! the model's tables that come -/
section NN
variable {I I1 I2 : TI} {L1 : TL} {m n i j c : Nat} {V V' : Nat → Nat → Int64} {kd : Int32} {r : Option Value}
def NX (L1 : TL) (m i j : Nat) (V : Nat → Nat → Int64) : Prop := ∀ a b, b < m → (a < i ∨ (a = i ∧ b < j)) → L1 43 0 (5 * a + b) = V a b
theorem NX.ini : NX L1 m 0 0 V := fun a b _ h => by omega
theorem NX.put (hm : m ≤ 5) (hj : j < m) (h : NX L1 m i j V) {v : Int64} (hv : v = V i j) : NX (upL L1 43 0 (5 * i + j) v) m i (j + 1) V := fun a b hb hab => by
  by_cases e : a = i ∧ b = j
  · obtain ⟨rfl, rfl⟩ := e
    rw [upL_eq, hv]
  · rw [upL_x (by omega)]
    exact h a b hb (by omega)
theorem NX.row (h : NX L1 m i j V) (e : m ≤ j) : NX L1 m (i + 1) 0 V := fun a b hb hab => h a b hb (by omega)
def AddM (I I' : TI) (c n m : Nat) (kd : Int32) (V : Nat → Nat → Int64) : Prop := Fr [(30, 0), (31, 0), (32, 0), (33, 0), (34, 0)] I I' ∧ (∀ x, x ≠ 5 → I' 30 0 x = I 30 0 x) ∧ I' 30 0 5 = nI (c + 1) ∧ (∀ x, I' 32 0 x = if x = c then nI n else I 32 0 x) ∧ (∀ x, I' 33 0 x = if x = c then nI m else I 33 0 x) ∧ (∀ x, I' 34 0 x = if x = c then kd else I 34 0 x) ∧ (∀ x, x < 25 * c ∨ 25 * c + 25 ≤ x → I' 31 0 x = I 31 0 x) ∧ (∀ a b, a < 5 → b < 5 → I' 31 0 (25 * c + 5 * a + b) = if a < n ∧ b < m then (V a b).toInt32 else nI 0)
def ResM (I I' : TI) (r : Option Value) (c n m : Nat) (kd : Int32) (V : Nat → Nat → Int64) : Prop := (c < 12 ∧ (∀ a b, a < n → b < m → nm (V a b)) ∧ AddM I I' c n m kd V ∧ r = some (.int (nI c))) ∨ ((c = 12 ∨ ∃ a b, a < n ∧ b < m ∧ ¬ nm (V a b)) ∧ MEF I I' r 8)
theorem AddM.cg (e : ∀ a b, a < n → b < m → V a b = V' a b) (h : AddM I I1 c n m kd V) : AddM I I1 c n m kd V' := by
  obtain ⟨h1, h2, h3, h4, h5, h6, h7, h8⟩ := h
  refine ⟨h1, h2, h3, h4, h5, h6, h7, fun a b ha hb => (h8 a b ha hb).trans ?_⟩
  by_cases q : a < n ∧ b < m
  · rw [if_pos q, if_pos q, e a b q.1 q.2]
  · rw [if_neg q, if_neg q]
theorem ResM.cg (e : ∀ a b, a < n → b < m → V a b = V' a b) (h : ResM I I1 r c n m kd V) : ResM I I1 r c n m kd V' := by
  rcases h with ⟨h1, h2, h3, h4⟩ | ⟨h1, h2⟩
  · exact Or.inl ⟨h1, fun a b ha hb => (e a b ha hb) ▸ h2 a b ha hb, h3.cg e, h4⟩
  · refine Or.inr ⟨?_, h2⟩
    rcases h1 with h1 | ⟨a, b, ha, hb, h1⟩
    · exact Or.inl h1
    · exact Or.inr ⟨a, b, ha, hb, (e a b ha hb) ▸ h1⟩
theorem ResM.val (h : ResM I I1 r c n m kd V) : ∃ x, r = some (.int x) := by
  rcases h with ⟨_, _, _, h⟩ | ⟨_, h, _⟩
  · exact ⟨_, h⟩
  · exact ⟨_, h⟩
def FM (I0 I1 : TI) (c m i j : Nat) (V : Nat → Nat → Int64) : Prop := Fr [(31, 0)] I0 I1 ∧ (∀ x, x < 25 * c ∨ 25 * c + 25 ≤ x → I1 31 0 x = I0 31 0 x) ∧ (∀ a b, a < 5 → b < 5 → I1 31 0 (25 * c + 5 * a + b) = if b < m ∧ (a < i ∨ (a = i ∧ b < j)) then (V a b).toInt32 else nI 0)
theorem FM.ini (h : ∀ x, x < 25 → I1 31 0 (25 * c + x) = nI 0) : FM I1 I1 c m 0 0 V := ⟨Fr.rf, fun _ _ => rfl, fun a b ha hb => by
  rw [if_neg (by omega), Nat.add_assoc]
  exact h _ (by omega)⟩
theorem FM.put (hm : m ≤ 5) (hj : j < m) (hi : i < 5) (h : FM I1 I2 c m i j V) {v : Int32} (hv : v = (V i j).toInt32) : FM I1 (upI I2 31 0 (25 * c + 5 * i + j) v) c m i (j + 1) V := by
  refine ⟨h.1.up (by simp), fun x hx => (upI_x (by omega)).trans (h.2.1 x hx), fun a b ha hb => ?_⟩
  by_cases e : a = i ∧ b = j
  · obtain ⟨rfl, rfl⟩ := e
    rw [upI_eq, hv, if_pos (by omega)]
  · rw [upI_x (by omega), h.2.2 a b ha hb]
    by_cases q : b < m ∧ (a < i ∨ (a = i ∧ b < j))
    · rw [if_pos q, if_pos (by omega)]
    · rw [if_neg q, if_neg (by omega)]
theorem FM.row (h : FM I1 I2 c m i j V) (e : m ≤ j) : FM I1 I2 c m (i + 1) 0 V := by
  refine ⟨h.1, h.2.1, fun a b ha hb => (h.2.2 a b ha hb).trans ?_⟩
  by_cases q : b < m ∧ (a < i ∨ (a = i ∧ b < j))
  · rw [if_pos q, if_pos (by omega)]
  · rw [if_neg q, if_neg (by omega)]
theorem FM.add (hB : BegM I I1 c (nI n) (nI m) kd) (h : FM I1 I2 c m i j V) (hi : i = n) (hj : j = 0) : AddM I I2 c n m kd V := by
  subst hi; subst hj
  obtain ⟨h1, h2, h3, h4, h5, h6, h7, h8⟩ := hB
  obtain ⟨g1, g2, g3⟩ := h
  refine ⟨h1.tr (g1.mono (by simp)), fun x hx => (g1.at (by simp) x).trans (h2 x hx), (g1.at (by simp) _).trans h3, fun x => (g1.at (by simp) _).trans (h4 x), fun x => (g1.at (by simp) _).trans (h5 x), fun x => (g1.at (by simp) _).trans (h6 x), fun x hx => (g2 x hx).trans (h7 x hx), fun a b ha hb => (g3 a b ha hb).trans ?_⟩
  by_cases q : a < i ∧ b < m
  · rw [if_pos q, if_pos (by omega)]
  · rw [if_neg q, if_neg (by omega)]
theorem BegM.add (h : BegM I I1 c (nI n) (nI m) kd) (hm : m ≤ 5) : AddM I I1 c n m kd (fun _ _ => 0) := by
  have h0 := FM.ini (I1 := I1) (m := m) (V := fun _ _ => 0) h.2.2.2.2.2.2.2
  obtain ⟨h1, h2, h3, h4, h5, h6, h7, h8⟩ := h
  refine ⟨h1, h2, h3, h4, h5, h6, h7, fun a b ha hb => ?_⟩
  rw [Nat.add_assoc, h8 _ (by omega)]
  split <;> rfl
end NN
theorem bI_nat (p : Prop) [Decidable p] : ∃ s : Nat, bI p = nI s ∧ ((s = 1 ∧ p) ∨ (s = 0 ∧ ¬ p)) := by
  by_cases h : p
  · exact ⟨1, bI_t h, Or.inl ⟨rfl, h⟩⟩
  · exact ⟨0, bI_f h, Or.inr ⟨rfl, h⟩⟩
def rbcL (f g : Nat → Int32) : Nat → Int64
  | 0 => 0
  | k + 1 => rbcL f g k + (f k).toInt64 * (g k).toInt64
def sameM (I : TI) (ro co : Nat → Nat) (t u : Nat) : Prop := (ro t = ro u ∧ co t = co u) ∧ ∀ x, x < 25 → I 31 0 (25 * t + x) = I 31 0 (25 * u + x)
theorem in_H {s : Int32} : ((0 : Int64) ≤ s.toInt64 ∧ s.toInt64 ≤ 2) ↔ (0 ≤ s ∧ s ≤ nI 2) := by
  rw [show (0 : Int64) = (0 : Int32).toInt64 by decide, show (2 : Int64) = (nI 2).toInt64 by decide, wide_le, wide_le]

set_option maxHeartbeats 4000000 in
set_option maxRecDepth 100000 in
theorem c_X6_comes (l : Launch) (E : VE) (hE : EOk E) (I : TI) (L : TL) (c : Nat) (ro co : Nat → Nat) (hT : MT I c ro co) (n m : Nat) (hn1 : 1 ≤ n) (hn5 : n ≤ 5) (hm5 : m ≤ 5) (kd : Int32) : Ct l E yX6_comes cX6_comes 7 (some .int) rm_X6_comes [.ref (eA E 30 0), .int (nI n), .int (nI m), .int kd] I L (fun r I' L' => ResM I I' r c n m kd (fun a b => L 43 0 (5 * a + b)) ∧ L' = L) := by
  refine ct_of (by decide +kernel) (Nat.le_of_ble_eq_true rfl) hE ?_
  intro a X Y hl hEE
  subst hl; subst hEE
  show V a 0 [(0, .ref (eA (vE a) 30 0)), (1, .int (nI n)), (2, .int (nI m)), (3, .int kd)] [] I L
  refine v_iconst X (v := (nI 0)) dX6_comes_0 (by decide) ?_
  refine v_istore X [1, 2, 3, 4, 0] (lv' := [(0, .ref (eA (vE a) 30 0)), (1, .int (nI n)), (2, .int (nI m)), (3, .int kd), (4, .int (nI 0))]) (by decide) rfl dX6_comes_1 ?_
  have loop3 : ∀ (fu : Nat) (i : Nat), 6 - i < fu → (i ≤ n) → (∀ a b, a < n → b < m → (a < i ∨ (a = i ∧ b < 0)) → nm (L 43 0 (5 * a + b))) → V a 3 [(0, .ref (eA (vE a) 30 0)), (1, .int (nI n)), (2, .int (nI m)), (3, .int kd), (4, .int (nI i))] [] I L := by
    intro fu
    induction fu with
    | zero => intro i hm _ _; exact absurd hm (Nat.not_lt_zero _)
    | succ fu ih3 =>
      intro i hm3 hi hv
      refine v_iload X 4 rfl dX6_comes_3 ?_
      refine v_iload_n X 1 rfl dX6_comes_5 ?_
      refine v_icmp_ge_n X (by omega) (by omega) dX6_comes_6 (tgt := 61) (by decide) (fun h6 => ?_) (fun h6 => ?_)
      · have hall : ∀ a b, a < n → b < m → nm (L 43 0 (5 * a + b)) := fun a b ha hb => hv a b ha hb (by omega)
        refine v_aload_n X 0 rfl dX6_comes_61 ?_
        refine v_iload_n X 1 rfl dX6_comes_62 ?_
        refine v_iload_n X 2 rfl dX6_comes_63 ?_
        refine v_iload_n X 3 rfl dX6_comes_64 ?_
        refine v_callV X (c_X6_begins _ _ hE _ _ c (hT.1) hT.2.1 (nI n) (nI m) kd) k_X6_94 dl_30 (cef_30 _ _ _ _) rfl ⟨rfl, rfl, Nat.le_of_ble_eq_true rfl, Nat.le_of_ble_eq_true rfl⟩ (As := [.int (nI n), .int (nI m), .int kd]) (rest := []) rfl rfl (Nat.le_of_ble_eq_true rfl) dX6_comes_65 (fun r65 I65 L65 hp65 => ?_)
        obtain ⟨ho65, e2⟩ := hp65
        have e2 := e2.symm
        subst e2
        rcases ho65 with ⟨hfull, rfl, e1⟩ | ⟨hcl, rfl, hB⟩
        · have e1 := e1.symm
          subst e1
          refine v_st (st' := [.int (-nI 8)]) rfl ?_
          refine v_istore X [1, 2, 3, 4, 0] (lv' := [(0, .ref (eA (vE a) 30 0)), (1, .int (nI n)), (2, .int (nI m)), (3, .int kd), (4, .int (-nI 8))]) (by decide) rfl dX6_comes_68 ?_
          refine v_iconst X (v := (nI 0)) dX6_comes_70 (by decide) ?_
          refine v_istore X [1, 2, 3, 4, 5, 0] (lv' := [(0, .ref (eA (vE a) 30 0)), (1, .int (nI n)), (2, .int (nI m)), (3, .int kd), (4, .int (-nI 8)), (5, .int (nI 0))]) (by decide) rfl dX6_comes_71 ?_
          refine v_iload X 5 rfl dX6_comes_73 ?_
          refine v_iload_n X 1 rfl dX6_comes_75 ?_
          refine v_icmp_ge_n X (by omega) (by omega) dX6_comes_76 (tgt := 132) (by decide) (fun h76 => ?_) (fun h76 => ?_)
          · exact absurd h76 (by omega)
          · refine v_iload X 4 rfl dX6_comes_79 ?_
            refine v_if_lt X dX6_comes_81 (tgt := 132) (by decide) (fun h81 => ?_) (fun h81 => ?_)
            · refine v_iload X 4 rfl dX6_comes_132 ?_
              exact v_iret X Y dX6_comes_134 (⟨Or.inr ⟨Or.inl hfull, rfl, rfl⟩, rfl⟩)
            · exact absurd (by decide) h81
        · refine v_st (st' := [.int (nI c)]) rfl ?_
          refine v_istore X [1, 2, 3, 4, 0] (lv' := [(0, .ref (eA (vE a) 30 0)), (1, .int (nI n)), (2, .int (nI m)), (3, .int kd), (4, .int (nI c))]) (by decide) rfl dX6_comes_68 ?_
          refine v_iconst X (v := (nI 0)) dX6_comes_70 (by decide) ?_
          refine v_istore X [1, 2, 3, 4, 5, 0] (lv' := [(0, .ref (eA (vE a) 30 0)), (1, .int (nI n)), (2, .int (nI m)), (3, .int kd), (4, .int (nI c)), (5, .int (nI 0))]) (by decide) rfl dX6_comes_71 ?_
          have loop73 : ∀ (fu : Nat) (i : Nat) (I1 : TI), 6 - i < fu → (i ≤ n) → (FM I65 I1 c m i 0 (fun a b => L 43 0 (5 * a + b))) → V a 73 [(0, .ref (eA (vE a) 30 0)), (1, .int (nI n)), (2, .int (nI m)), (3, .int kd), (4, .int (nI c)), (5, .int (nI i))] [] I1 L := by
            intro fu
            induction fu with
            | zero => intro i I1 hm _ _; exact absurd hm (Nat.not_lt_zero _)
            | succ fu ih73 =>
              intro i I1 hm73 hi hM
              refine v_iload X 5 rfl dX6_comes_73 ?_
              refine v_iload_n X 1 rfl dX6_comes_75 ?_
              refine v_icmp_ge_n X (by omega) (by omega) dX6_comes_76 (tgt := 132) (by decide) (fun h76 => ?_) (fun h76 => ?_)
              · refine v_iload X 4 rfl dX6_comes_132 ?_
                exact v_iret X Y dX6_comes_134 (⟨Or.inl ⟨hcl, hall, FM.add hB hM (by omega) rfl, rfl⟩, rfl⟩)
              · refine v_iload X 4 rfl dX6_comes_79 ?_
                refine v_if_lt_n X (by omega) dX6_comes_81 (tgt := 132) (by decide) ?_
                refine v_iconst X (v := (nI 0)) dX6_comes_84 (by decide) ?_
                refine v_istore X [1, 2, 3, 4, 5, 6, 0] (lv' := [(0, .ref (eA (vE a) 30 0)), (1, .int (nI n)), (2, .int (nI m)), (3, .int kd), (4, .int (nI c)), (5, .int (nI i)), (6, .int (nI 0))]) (by decide) rfl dX6_comes_85 ?_
                have loop87 : ∀ (fu : Nat) (j : Nat) (I1 : TI), 6 - j < fu → (j ≤ m) → (FM I65 I1 c m i j (fun a b => L 43 0 (5 * a + b))) → V a 87 [(0, .ref (eA (vE a) 30 0)), (1, .int (nI n)), (2, .int (nI m)), (3, .int kd), (4, .int (nI c)), (5, .int (nI i)), (6, .int (nI j))] [] I1 L := by
                  intro fu
                  induction fu with
                  | zero => intro j I1 hm _ _; exact absurd hm (Nat.not_lt_zero _)
                  | succ fu ih87 =>
                    intro j I1 hm87 hj hM
                    refine v_iload X 6 rfl dX6_comes_87 ?_
                    refine v_iload_n X 2 rfl dX6_comes_89 ?_
                    refine v_icmp_ge_n X (by omega) (by omega) dX6_comes_90 (tgt := 126) (by decide) (fun h90 => ?_) (fun h90 => ?_)
                    · refine v_iinc X [1, 2, 3, 4, 5, 0, 6] 5 (nI (i + 1)) (lv' := [(0, .ref (eA (vE a) 30 0)), (1, .int (nI n)), (2, .int (nI m)), (3, .int kd), (4, .int (nI c)), (5, .int (nI (i + 1))), (6, .int (nI j))]) rfl (nI_1 _) (by decide) rfl dX6_comes_126 ?_
                      refine v_goto X (tgt := 73) dX6_comes_129 (by decide) ?_
                      refine v_sub [0, 1, 2, 3, 4, 5] (lv' := [(0, .ref (eA (vE a) 30 0)), (1, .int (nI n)), (2, .int (nI m)), (3, .int kd), (4, .int (nI c)), (5, .int (nI (i + 1)))]) rfl ?_
                      exact ih73 (i + 1) I1 (by omega) (by omega) (hM.row (by omega))
                    · refine v_aload_n X 0 rfl dX6_comes_93 ?_
                      refine gf_X6_7 X dX6_comes_94 ?_
                      refine v_iload X 4 rfl dX6_comes_97 ?_
                      refine v_iload X 5 rfl dX6_comes_99 ?_
                      refine v_iload X 6 rfl dX6_comes_101 ?_
                      refine v_callS X (c_X6_place _ _ hE _ _ c i j) k_X6_113 ⟨rfl, rfl, Nat.le_of_ble_eq_true rfl, Nat.le_of_ble_eq_true rfl⟩ (As := [.int (nI c), .int (nI i), .int (nI j)]) (rest := [.ref (eA (vE a) 31 0)]) rfl rfl (Nat.le_of_ble_eq_true rfl) dX6_comes_103 (fun r103 I103 L103 hp103 => ?_)
                      obtain ⟨rfl, e1, e2⟩ := hp103
                      have e1 := e1.symm
                      have e2 := e2.symm
                      subst e1; subst e2
                      refine v_st (st' := [.int (nI (25 * c + 5 * i + j)), .ref (eA (vE a) 31 0)]) rfl ?_
                      refine v_aload_n X 0 rfl dX6_comes_106 ?_
                      refine gf_X6_47 X dX6_comes_107 ?_
                      refine v_iconst X (v := (nI 5)) dX6_comes_110 (by decide) ?_
                      refine v_iload X 5 rfl dX6_comes_111 ?_
                      refine v_imul X dX6_comes_113 ?_
                      refine v_eqi (y := (nI (5 * i))) (pk_mul _ _) ?_
                      refine v_iload X 6 rfl dX6_comes_114 ?_
                      refine v_iadd X dX6_comes_116 ?_
                      refine v_eqi (y := (nI ((5 * i) + j))) (nI_add _ _) ?_
                      refine v_lald_n X dl_43 (fun _ _ => rfl) (n := 25) (by omega) (by decide) dX6_comes_117 ?_
                      refine v_l2i X dX6_comes_118 rfl ?_
                      refine v_iast_n X dl_31 (fun _ _ => rfl) (n := 300) (by omega) (by decide) dX6_comes_119 ?_
                      refine v_iinc X [1, 2, 3, 4, 5, 6, 0] 6 (nI (j + 1)) (lv' := [(0, .ref (eA (vE a) 30 0)), (1, .int (nI n)), (2, .int (nI m)), (3, .int kd), (4, .int (nI c)), (5, .int (nI i)), (6, .int (nI (j + 1)))]) rfl (nI_1 _) (by decide) rfl dX6_comes_120 ?_
                      refine v_goto X (tgt := 87) dX6_comes_123 (by decide) ?_
                      exact ih87 (j + 1) (upI I1 31 0 (25 * c + 5 * i + j) ((L 43 0 ((5 * i) + j)).toInt32)) (by omega) (by omega) (hM.put hm5 (by omega) (by omega) rfl)
                exact loop87 _ 0 I1 (Nat.lt_succ_self _) (Nat.zero_le _) hM
          exact loop73 _ 0 I65 (Nat.lt_succ_self _) (Nat.zero_le _) (FM.ini hB.2.2.2.2.2.2.2)
      · refine v_iconst X (v := (nI 0)) dX6_comes_9 (by decide) ?_
        refine v_istore X [1, 2, 3, 4, 5, 0] (lv' := [(0, .ref (eA (vE a) 30 0)), (1, .int (nI n)), (2, .int (nI m)), (3, .int kd), (4, .int (nI i)), (5, .int (nI 0))]) (by decide) rfl dX6_comes_10 ?_
        have loop12 : ∀ (fu : Nat) (j : Nat), 6 - j < fu → (j ≤ m) → (∀ a b, a < n → b < m → (a < i ∨ (a = i ∧ b < j)) → nm (L 43 0 (5 * a + b))) → V a 12 [(0, .ref (eA (vE a) 30 0)), (1, .int (nI n)), (2, .int (nI m)), (3, .int kd), (4, .int (nI i)), (5, .int (nI j))] [] I L := by
          intro fu
          induction fu with
          | zero => intro j hm _ _; exact absurd hm (Nat.not_lt_zero _)
          | succ fu ih12 =>
            intro j hm12 hj hv
            refine v_iload X 5 rfl dX6_comes_12 ?_
            refine v_iload_n X 2 rfl dX6_comes_14 ?_
            refine v_icmp_ge_n X (by omega) (by omega) dX6_comes_15 (tgt := 55) (by decide) (fun h15 => ?_) (fun h15 => ?_)
            · refine v_iinc X [1, 2, 3, 4, 0, 5] 4 (nI (i + 1)) (lv' := [(0, .ref (eA (vE a) 30 0)), (1, .int (nI n)), (2, .int (nI m)), (3, .int kd), (4, .int (nI (i + 1))), (5, .int (nI j))]) rfl (nI_1 _) (by decide) rfl dX6_comes_55 ?_
              refine v_goto X (tgt := 3) dX6_comes_58 (by decide) ?_
              refine v_sub [0, 1, 2, 3, 4] (lv' := [(0, .ref (eA (vE a) 30 0)), (1, .int (nI n)), (2, .int (nI m)), (3, .int kd), (4, .int (nI (i + 1)))]) rfl ?_
              exact ih3 (i + 1) (by omega) (by omega) (fun a b ha hb h => hv a b ha hb (by omega))
            · refine v_aload_n X 0 rfl dX6_comes_18 ?_
              refine gf_X6_47 X dX6_comes_19 ?_
              refine v_iconst X (v := (nI 5)) dX6_comes_22 (by decide) ?_
              refine v_iload X 4 rfl dX6_comes_23 ?_
              refine v_imul X dX6_comes_25 ?_
              refine v_eqi (y := (nI (5 * i))) (pk_mul _ _) ?_
              refine v_iload X 5 rfl dX6_comes_26 ?_
              refine v_iadd X dX6_comes_28 ?_
              refine v_eqi (y := (nI ((5 * i) + j))) (nI_add _ _) ?_
              refine v_lald_n X dl_43 (fun _ _ => rfl) (n := 25) (by omega) (by decide) dX6_comes_29 ?_
              refine v_ldc2 X kc_X6_109 dX6_comes_30 ?_
              refine v_ldc2 X kc_X6_111 dX6_comes_33 ?_
              refine v_callS X (c_X6_isIn _ _ hE _ _ (L 43 0 ((5 * i) + j)) (-1000) 1000) k_X6_90 ⟨rfl, rfl, Nat.le_of_ble_eq_true rfl, Nat.le_of_ble_eq_true rfl⟩ (As := [.long (L 43 0 ((5 * i) + j)), .long (-1000), .long 1000]) (rest := []) rfl rfl (Nat.le_of_ble_eq_true rfl) dX6_comes_36 (fun r36 I36 L36 hp36 => ?_)
              obtain ⟨rfl, e1, e2⟩ := hp36
              have e1 := e1.symm
              have e2 := e2.symm
              subst e1; subst e2
              refine v_st (st' := [.int (bI ((-1000) ≤ (L 43 0 ((5 * i) + j)) ∧ (L 43 0 ((5 * i) + j)) ≤ 1000))]) rfl ?_
              refine v_ifb_ne X dX6_comes_39 (tgt := 49) (by decide) (fun h39 => ?_) (fun h39 => ?_)
              · refine v_iinc X [1, 2, 3, 4, 5, 0] 5 (nI (j + 1)) (lv' := [(0, .ref (eA (vE a) 30 0)), (1, .int (nI n)), (2, .int (nI m)), (3, .int kd), (4, .int (nI i)), (5, .int (nI (j + 1)))]) rfl (nI_1 _) (by decide) rfl dX6_comes_49 ?_
                refine v_goto X (tgt := 12) dX6_comes_52 (by decide) ?_
                have hnew : ∀ a b, a < n → b < m → (a < i ∨ (a = i ∧ b < (j + 1))) → nm (L 43 0 (5 * a + b)) := fun a b ha hb h => by
                  by_cases e : a = i ∧ b = j
                  · obtain ⟨rfl, rfl⟩ := e; exact h39
                  · exact hv a b ha hb (by omega)
                exact ih12 (j + 1) (by omega) (by omega) hnew
              · refine v_aload_n X 0 rfl dX6_comes_42 ?_
                refine v_bipush X (v := (-8)) dX6_comes_43 (by decide) ?_
                refine v_callV X (c_X6_no _ _ hE _ _ 8 (by decide) (by decide)) k_X6_80 dl_30 (cef_30 _ _ _ _) rfl ⟨rfl, rfl, Nat.le_of_ble_eq_true rfl, Nat.le_of_ble_eq_true rfl⟩ (As := [.int (-8)]) (rest := []) rfl rfl (Nat.le_of_ble_eq_true rfl) dX6_comes_45 (fun r45 I45 L45 hp45 => ?_)
                obtain ⟨rfl, e1, e2⟩ := hp45
                have e1 := e1.symm
                have e2 := e2.symm
                subst e1; subst e2
                refine v_st (st' := [.int (-8)]) rfl ?_
                exact v_iret X Y dX6_comes_48 (⟨Or.inr ⟨Or.inr ⟨i, j, h6, h15, h39⟩, rfl, rfl⟩, rfl⟩)
        exact loop12 _ 0 (Nat.lt_succ_self _) (Nat.zero_le _) hv
  exact loop3 _ 0 (Nat.lt_succ_self _) (Nat.zero_le _) (fun a b _ _ h => by omega)
set_option maxHeartbeats 4000000 in
set_option maxRecDepth 100000 in
theorem c_X6_product (l : Launch) (E : VE) (hE : EOk E) (I : TI) (L : TL) (c : Nat) (ro co : Nat → Nat) (hT : MT I c ro co) (x y : Int32) : Ct l E yX6_product cX6_product 8 (some .int) rm_X6_product [.ref (eA E 30 0), .int x, .int y] I L (fun r I' L' => (¬ (isT c x ∧ isT c y) ∧ MEF I I' r 3 ∧ L' = L) ∨ (∃ t u, t < c ∧ u < c ∧ x = nI t ∧ y = nI u ∧ ((¬ co t = ro u ∧ MEF I I' r 7 ∧ L' = L) ∨ (co t = ro u ∧ ResM I I' r c (ro t) (co u) (nI 3) (fun i j => rbcL (fun k => I 31 0 (25 * t + 5 * i + k)) (fun k => I 31 0 (25 * u + 5 * k + j)) (ro u)) ∧ FL [(43, 0)] L L')))) := by
  refine ct_of (by decide +kernel) (Nat.le_of_ble_eq_true rfl) hE ?_
  intro a X Y hl hEE
  subst hl; subst hEE
  show V a 0 [(0, .ref (eA (vE a) 30 0)), (1, .int x), (2, .int y)] [] I L
  refine v_aload_n X 0 rfl dX6_product_0 ?_
  refine v_iload_n X 1 rfl dX6_product_1 ?_
  refine v_callV X (c_X6_isTable _ _ hE _ _ c (hT.1) x) k_X6_98 dl_30 (cef_30 _ _ _ _) rfl ⟨rfl, rfl, Nat.le_of_ble_eq_true rfl, Nat.le_of_ble_eq_true rfl⟩ (As := [.int x]) (rest := []) rfl rfl (Nat.le_of_ble_eq_true rfl) dX6_product_2 (fun r2 I2 L2 hp2 => ?_)
  obtain ⟨rfl, e1, e2⟩ := hp2
  have e1 := e1.symm
  have e2 := e2.symm
  subst e1; subst e2
  refine v_st (st' := [.int (bI (inR c x))]) rfl ?_
  refine v_ifb_eq X dX6_product_5 (tgt := 16) (by decide) (fun h5 => ?_) (fun h5 => ?_)
  · refine v_aload_n X 0 rfl dX6_product_16 ?_
    refine v_bipush X (v := (-3)) dX6_product_17 (by decide) ?_
    refine v_callV X (c_X6_no _ _ hE _ _ 3 (by decide) (by decide)) k_X6_80 dl_30 (cef_30 _ _ _ _) rfl ⟨rfl, rfl, Nat.le_of_ble_eq_true rfl, Nat.le_of_ble_eq_true rfl⟩ (As := [.int (-3)]) (rest := []) rfl rfl (Nat.le_of_ble_eq_true rfl) dX6_product_19 (fun r19 I19 L19 hp19 => ?_)
    obtain ⟨rfl, e1, e2⟩ := hp19
    have e1 := e1.symm
    have e2 := e2.symm
    subst e1; subst e2
    refine v_st (st' := [.int (-3)]) rfl ?_
    exact v_iret X Y dX6_product_22 (Or.inl ⟨fun q => (fun q => h5 ((inR_T (by have := hT.2.1; omega)).mpr q)) q.1, ⟨rfl, rfl⟩, rfl⟩)
  · obtain ⟨t, htt, rfl⟩ := inR_of (by have := hT.2.1; omega) h5
    have hc12 := hT.2.1
    obtain ⟨hrt, hct, hr1t, hr5t, hc1t, hc5t⟩ := hT.2.2 t htt
    have ht12t : t < 12 := by omega
    refine v_aload_n X 0 rfl dX6_product_8 ?_
    refine v_iload_n X 2 rfl dX6_product_9 ?_
    refine v_callV X (c_X6_isTable _ _ hE _ _ c (hT.1) y) k_X6_98 dl_30 (cef_30 _ _ _ _) rfl ⟨rfl, rfl, Nat.le_of_ble_eq_true rfl, Nat.le_of_ble_eq_true rfl⟩ (As := [.int y]) (rest := []) rfl rfl (Nat.le_of_ble_eq_true rfl) dX6_product_10 (fun r10 I10 L10 hp10 => ?_)
    obtain ⟨rfl, e1, e2⟩ := hp10
    have e1 := e1.symm
    have e2 := e2.symm
    subst e1; subst e2
    refine v_st (st' := [.int (bI (inR c y))]) rfl ?_
    refine v_ifb_ne X dX6_product_13 (tgt := 23) (by decide) (fun h13 => ?_) (fun h13 => ?_)
    · obtain ⟨u, htu, rfl⟩ := inR_of (by have := hT.2.1; omega) h13
      obtain ⟨hru, hcu, hr1u, hr5u, hc1u, hc5u⟩ := hT.2.2 u htu
      have ht12u : u < 12 := by omega
      refine v_aload_n X 0 rfl dX6_product_23 ?_
      refine gf_X6_16 X dX6_product_24 ?_
      refine v_iload_n X 1 rfl dX6_product_27 ?_
      refine v_iald_n X dl_33 (fun _ _ => rfl) (n := 12) (by omega) (by decide) dX6_product_28 ?_
      refine v_eqi (y := (nI (co t))) (hct) ?_
      refine v_aload_n X 0 rfl dX6_product_29 ?_
      refine gf_X6_13 X dX6_product_30 ?_
      refine v_iload_n X 2 rfl dX6_product_33 ?_
      refine v_iald_n X dl_32 (fun _ _ => rfl) (n := 12) (by omega) (by decide) dX6_product_34 ?_
      refine v_eqi (y := (nI (ro u))) (hru) ?_
      refine v_icmp_eq_n X (by omega) (by omega) dX6_product_35 (tgt := 45) (by decide) (fun h35 => ?_) (fun h35 => ?_)
      · refine v_iconst X (v := (nI 0)) dX6_product_45 (by decide) ?_
        refine v_istore_n X [1, 2, 3, 0] (lv' := [(0, .ref (eA (vE a) 30 0)), (1, .int (nI t)), (2, .int (nI u)), (3, .int (nI 0))]) (by decide) rfl dX6_product_46 ?_
        have loop47 : ∀ (fu : Nat) (i : Nat) (L1 : TL), 6 - i < fu → (i ≤ (ro t)) → (FL [(43, 0)] L L1) → (NX L1 (co u) i 0 (fun i j => rbcL (fun k => I 31 0 (25 * t + 5 * i + k)) (fun k => I 31 0 (25 * u + 5 * k + j)) (ro u))) → V a 47 [(0, .ref (eA (vE a) 30 0)), (1, .int (nI t)), (2, .int (nI u)), (3, .int (nI i))] [] I L1 := by
          intro fu
          induction fu with
          | zero => intro i L1 hm _ _ _; exact absurd hm (Nat.not_lt_zero _)
          | succ fu ih47 =>
            intro i L1 hm47 hi hFL hN
            refine v_iload_n X 3 rfl dX6_product_47 ?_
            refine v_aload_n X 0 rfl dX6_product_48 ?_
            refine gf_X6_13 X dX6_product_49 ?_
            refine v_iload_n X 1 rfl dX6_product_52 ?_
            refine v_iald_n X dl_32 (fun _ _ => rfl) (n := 12) (by omega) (by decide) dX6_product_53 ?_
            refine v_eqi (y := (nI (ro t))) (hrt) ?_
            refine v_icmp_ge_n X (by omega) (by omega) dX6_product_54 (tgt := 152) (by decide) (fun h54 => ?_) (fun h54 => ?_)
            · refine v_aload_n X 0 rfl dX6_product_152 ?_
              refine v_aload_n X 0 rfl dX6_product_153 ?_
              refine gf_X6_13 X dX6_product_154 ?_
              refine v_iload_n X 1 rfl dX6_product_157 ?_
              refine v_iald_n X dl_32 (fun _ _ => rfl) (n := 12) (by omega) (by decide) dX6_product_158 ?_
              refine v_eqi (y := (nI (ro t))) (hrt) ?_
              refine v_aload_n X 0 rfl dX6_product_159 ?_
              refine gf_X6_16 X dX6_product_160 ?_
              refine v_iload_n X 2 rfl dX6_product_163 ?_
              refine v_iald_n X dl_33 (fun _ _ => rfl) (n := 12) (by omega) (by decide) dX6_product_164 ?_
              refine v_eqi (y := (nI (co u))) (hcu) ?_
              refine v_iconst X (v := (nI 3)) dX6_product_165 (by decide) ?_
              refine v_callV X (c_X6_comes _ _ hE _ _ c ro co hT (ro t) (co u) (by omega) (by omega) (by omega) (nI 3)) k_X6_160 dl_30 (cef_30 _ _ _ _) rfl ⟨rfl, rfl, Nat.le_of_ble_eq_true rfl, Nat.le_of_ble_eq_true rfl⟩ (As := [.int (nI (ro t)), .int (nI (co u)), .int (nI 3)]) (rest := []) rfl rfl (Nat.le_of_ble_eq_true rfl) dX6_product_166 (fun r166 I166 L166 hp166 => ?_)
              obtain ⟨hres0, e2⟩ := hp166
              have e2 := e2.symm
              subst e2
              have hres := ResM.cg (fun a b ha hb => hN a b hb (by omega)) hres0
              obtain ⟨x9, rfl⟩ := hres.val
              refine v_st (st' := [.int x9]) rfl ?_
              exact v_iret X Y dX6_product_169 (Or.inr ⟨t, u, htt, htu, rfl, rfl, Or.inr ⟨h35, hres, hFL⟩⟩)
            · refine v_iconst X (v := (nI 0)) dX6_product_57 (by decide) ?_
              refine v_istore X [1, 2, 3, 4, 0] (lv' := [(0, .ref (eA (vE a) 30 0)), (1, .int (nI t)), (2, .int (nI u)), (3, .int (nI i)), (4, .int (nI 0))]) (by decide) rfl dX6_product_58 ?_
              have loop60 : ∀ (fu : Nat) (j : Nat) (L1 : TL), 6 - j < fu → (j ≤ (co u)) → (FL [(43, 0)] L L1) → (NX L1 (co u) i j (fun i j => rbcL (fun k => I 31 0 (25 * t + 5 * i + k)) (fun k => I 31 0 (25 * u + 5 * k + j)) (ro u))) → V a 60 [(0, .ref (eA (vE a) 30 0)), (1, .int (nI t)), (2, .int (nI u)), (3, .int (nI i)), (4, .int (nI j))] [] I L1 := by
                intro fu
                induction fu with
                | zero => intro j L1 hm _ _ _; exact absurd hm (Nat.not_lt_zero _)
                | succ fu ih60 =>
                  intro j L1 hm60 hj hFL hN
                  refine v_iload X 4 rfl dX6_product_60 ?_
                  refine v_aload_n X 0 rfl dX6_product_62 ?_
                  refine gf_X6_16 X dX6_product_63 ?_
                  refine v_iload_n X 2 rfl dX6_product_66 ?_
                  refine v_iald_n X dl_33 (fun _ _ => rfl) (n := 12) (by omega) (by decide) dX6_product_67 ?_
                  refine v_eqi (y := (nI (co u))) (hcu) ?_
                  refine v_icmp_ge_n X (by omega) (by omega) dX6_product_68 (tgt := 146) (by decide) (fun h68 => ?_) (fun h68 => ?_)
                  · refine v_iinc X [1, 2, 3, 0, 4] 3 (nI (i + 1)) (lv' := [(0, .ref (eA (vE a) 30 0)), (1, .int (nI t)), (2, .int (nI u)), (3, .int (nI (i + 1))), (4, .int (nI j))]) rfl (nI_1 _) (by decide) rfl dX6_product_146 ?_
                    refine v_goto X (tgt := 47) dX6_product_149 (by decide) ?_
                    refine v_sub [0, 1, 2, 3] (lv' := [(0, .ref (eA (vE a) 30 0)), (1, .int (nI t)), (2, .int (nI u)), (3, .int (nI (i + 1)))]) rfl ?_
                    exact ih47 (i + 1) L1 (by omega) (by omega) hFL (hN.row (by omega))
                  · refine v_lconst X (v := 0) dX6_product_71 rfl ?_
                    refine v_lstore X [1, 2, 3, 4, 5, 0] (lv' := [(0, .ref (eA (vE a) 30 0)), (1, .int (nI t)), (2, .int (nI u)), (3, .int (nI i)), (4, .int (nI j)), (5, .long 0)]) (by decide) rfl dX6_product_72 ?_
                    refine v_iconst X (v := (nI 0)) dX6_product_74 (by decide) ?_
                    refine v_istore X [1, 2, 3, 4, 5, 6, 0] (lv' := [(0, .ref (eA (vE a) 30 0)), (1, .int (nI t)), (2, .int (nI u)), (3, .int (nI i)), (4, .int (nI j)), (5, .long 0), (7, .int (nI 0))]) (by decide) rfl dX6_product_75 ?_
                    have loop77 : ∀ (fu : Nat) (k : Nat) (sm : Int64), 6 - k < fu → (k ≤ ro u) → (sm = rbcL (fun k => I 31 0 (25 * t + 5 * i + k)) (fun k => I 31 0 (25 * u + 5 * k + j)) k) → V a 77 [(0, .ref (eA (vE a) 30 0)), (1, .int (nI t)), (2, .int (nI u)), (3, .int (nI i)), (4, .int (nI j)), (5, .long sm), (7, .int (nI k))] [] I L1 := by
                      intro fu
                      induction fu with
                      | zero => intro k sm hm _ _; exact absurd hm (Nat.not_lt_zero _)
                      | succ fu ih77 =>
                        intro k sm hm77 hk hs
                        refine v_iload X 6 rfl dX6_product_77 ?_
                        refine v_aload_n X 0 rfl dX6_product_79 ?_
                        refine gf_X6_13 X dX6_product_80 ?_
                        refine v_iload_n X 2 rfl dX6_product_83 ?_
                        refine v_iald_n X dl_32 (fun _ _ => rfl) (n := 12) (by omega) (by decide) dX6_product_84 ?_
                        refine v_eqi (y := (nI (ro u))) (hru) ?_
                        refine v_icmp_ge_n X (by omega) (by omega) dX6_product_85 (tgt := 127) (by decide) (fun h85 => ?_) (fun h85 => ?_)
                        · refine v_aload_n X 0 rfl dX6_product_127 ?_
                          refine gf_X6_47 X dX6_product_128 ?_
                          refine v_iconst X (v := (nI 5)) dX6_product_131 (by decide) ?_
                          refine v_iload_n X 3 rfl dX6_product_132 ?_
                          refine v_imul X dX6_product_133 ?_
                          refine v_eqi (y := (nI (5 * i))) (pk_mul _ _) ?_
                          refine v_iload X 4 rfl dX6_product_134 ?_
                          refine v_iadd X dX6_product_136 ?_
                          refine v_eqi (y := (nI ((5 * i) + j))) (nI_add _ _) ?_
                          refine v_lload X 5 rfl dX6_product_137 ?_
                          refine v_last_n X dl_43 (fun _ _ => rfl) (n := 25) (by omega) (by decide) dX6_product_139 ?_
                          refine v_iinc X [1, 2, 3, 4, 0, 5, 6] 4 (nI (j + 1)) (lv' := [(0, .ref (eA (vE a) 30 0)), (1, .int (nI t)), (2, .int (nI u)), (3, .int (nI i)), (4, .int (nI (j + 1))), (5, .long sm), (7, .int (nI k))]) rfl (nI_1 _) (by decide) rfl dX6_product_140 ?_
                          refine v_goto X (tgt := 60) dX6_product_143 (by decide) ?_
                          refine v_sub [0, 1, 2, 3, 4] (lv' := [(0, .ref (eA (vE a) 30 0)), (1, .int (nI t)), (2, .int (nI u)), (3, .int (nI i)), (4, .int (nI (j + 1)))]) rfl ?_
                          exact ih60 (j + 1) (upL L1 43 0 ((5 * i) + j) sm) (by omega) (by omega) (hFL.up (by simp)) (hN.put (by omega) (by omega) (by rw [hs, show k = ro u by omega]))
                        · refine v_lload X 5 rfl dX6_product_88 ?_
                          refine v_aload_n X 0 rfl dX6_product_90 ?_
                          refine gf_X6_7 X dX6_product_91 ?_
                          refine v_iload_n X 1 rfl dX6_product_94 ?_
                          refine v_iload_n X 3 rfl dX6_product_95 ?_
                          refine v_iload X 6 rfl dX6_product_96 ?_
                          refine v_callS X (c_X6_place _ _ hE _ _ t i k) k_X6_113 ⟨rfl, rfl, Nat.le_of_ble_eq_true rfl, Nat.le_of_ble_eq_true rfl⟩ (As := [.int (nI t), .int (nI i), .int (nI k)]) (rest := [.ref (eA (vE a) 31 0), .long sm]) rfl rfl (Nat.le_of_ble_eq_true rfl) dX6_product_98 (fun r98 I98 L98 hp98 => ?_)
                          obtain ⟨rfl, e1, e2⟩ := hp98
                          have e1 := e1.symm
                          have e2 := e2.symm
                          subst e1; subst e2
                          refine v_st (st' := [.int (nI (25 * t + 5 * i + k)), .ref (eA (vE a) 31 0), .long sm]) rfl ?_
                          refine v_iald_n X dl_31 (fun _ _ => rfl) (n := 300) (by omega) (by decide) dX6_product_101 ?_
                          refine v_i2l X dX6_product_102 rfl ?_
                          refine v_aload_n X 0 rfl dX6_product_103 ?_
                          refine gf_X6_7 X dX6_product_104 ?_
                          refine v_iload_n X 2 rfl dX6_product_107 ?_
                          refine v_iload X 6 rfl dX6_product_108 ?_
                          refine v_iload X 4 rfl dX6_product_110 ?_
                          refine v_callS X (c_X6_place _ _ hE _ _ u k j) k_X6_113 ⟨rfl, rfl, Nat.le_of_ble_eq_true rfl, Nat.le_of_ble_eq_true rfl⟩ (As := [.int (nI u), .int (nI k), .int (nI j)]) (rest := [.ref (eA (vE a) 31 0), .long ((I 31 0 (25 * t + 5 * i + k)).toInt64), .long sm]) rfl rfl (Nat.le_of_ble_eq_true rfl) dX6_product_112 (fun r112 I112 L112 hp112 => ?_)
                          obtain ⟨rfl, e1, e2⟩ := hp112
                          have e1 := e1.symm
                          have e2 := e2.symm
                          subst e1; subst e2
                          refine v_st (st' := [.int (nI (25 * u + 5 * k + j)), .ref (eA (vE a) 31 0), .long ((I 31 0 (25 * t + 5 * i + k)).toInt64), .long sm]) rfl ?_
                          refine v_iald_n X dl_31 (fun _ _ => rfl) (n := 300) (by omega) (by decide) dX6_product_115 ?_
                          refine v_i2l X dX6_product_116 rfl ?_
                          refine v_lmul X dX6_product_117 ?_
                          refine v_ladd X dX6_product_118 ?_
                          refine v_lstore X [1, 2, 3, 4, 5, 0, 6] (lv' := [(0, .ref (eA (vE a) 30 0)), (1, .int (nI t)), (2, .int (nI u)), (3, .int (nI i)), (4, .int (nI j)), (5, .long (sm + ((I 31 0 (25 * t + 5 * i + k)).toInt64 * (I 31 0 (25 * u + 5 * k + j)).toInt64))), (7, .int (nI k))]) (by decide) rfl dX6_product_119 ?_
                          refine v_iinc X [1, 2, 3, 4, 5, 6, 0] 6 (nI (k + 1)) (lv' := [(0, .ref (eA (vE a) 30 0)), (1, .int (nI t)), (2, .int (nI u)), (3, .int (nI i)), (4, .int (nI j)), (5, .long (sm + ((I 31 0 (25 * t + 5 * i + k)).toInt64 * (I 31 0 (25 * u + 5 * k + j)).toInt64))), (7, .int (nI (k + 1)))]) rfl (nI_1 _) (by decide) rfl dX6_product_121 ?_
                          refine v_goto X (tgt := 77) dX6_product_124 (by decide) ?_
                          exact ih77 (k + 1) (sm + ((I 31 0 (25 * t + 5 * i + k)).toInt64 * (I 31 0 (25 * u + 5 * k + j)).toInt64)) (by omega) (by omega) (by rw [hs]; rfl)
                    exact loop77 _ 0 0 (Nat.lt_succ_self _) (Nat.zero_le _) rfl
              exact loop60 _ 0 L1 (Nat.lt_succ_self _) (Nat.zero_le _) hFL hN
        exact loop47 _ 0 L (Nat.lt_succ_self _) (Nat.zero_le _) FL.rf NX.ini
      · refine v_aload_n X 0 rfl dX6_product_38 ?_
        refine v_bipush X (v := (-7)) dX6_product_39 (by decide) ?_
        refine v_callV X (c_X6_no _ _ hE _ _ 7 (by decide) (by decide)) k_X6_80 dl_30 (cef_30 _ _ _ _) rfl ⟨rfl, rfl, Nat.le_of_ble_eq_true rfl, Nat.le_of_ble_eq_true rfl⟩ (As := [.int (-7)]) (rest := []) rfl rfl (Nat.le_of_ble_eq_true rfl) dX6_product_41 (fun r41 I41 L41 hp41 => ?_)
        obtain ⟨rfl, e1, e2⟩ := hp41
        have e1 := e1.symm
        have e2 := e2.symm
        subst e1; subst e2
        refine v_st (st' := [.int (-7)]) rfl ?_
        exact v_iret X Y dX6_product_44 (Or.inr ⟨t, u, htt, htu, rfl, rfl, Or.inl ⟨h35, ⟨rfl, rfl⟩, rfl⟩⟩)
    · refine v_aload_n X 0 rfl dX6_product_16 ?_
      refine v_bipush X (v := (-3)) dX6_product_17 (by decide) ?_
      refine v_callV X (c_X6_no _ _ hE _ _ 3 (by decide) (by decide)) k_X6_80 dl_30 (cef_30 _ _ _ _) rfl ⟨rfl, rfl, Nat.le_of_ble_eq_true rfl, Nat.le_of_ble_eq_true rfl⟩ (As := [.int (-3)]) (rest := []) rfl rfl (Nat.le_of_ble_eq_true rfl) dX6_product_19 (fun r19 I19 L19 hp19 => ?_)
      obtain ⟨rfl, e1, e2⟩ := hp19
      have e1 := e1.symm
      have e2 := e2.symm
      subst e1; subst e2
      refine v_st (st' := [.int (-3)]) rfl ?_
      exact v_iret X Y dX6_product_22 (Or.inl ⟨fun q => h13 ((inR_T (by have := hT.2.1; omega)).mpr q.2), ⟨rfl, rfl⟩, rfl⟩)
set_option maxHeartbeats 4000000 in
set_option maxRecDepth 100000 in
theorem c_X6_areAlike (l : Launch) (E : VE) (hE : EOk E) (I : TI) (L : TL) (t u : Nat) (ht : t < 12) (hu : u < 12) (rt ct ru cu : Nat) (hrt : I 32 0 t = nI rt) (hct : I 33 0 t = nI ct) (hru : I 32 0 u = nI ru) (hcu : I 33 0 u = nI cu) (h5 : rt ≤ 5 ∧ ct ≤ 5 ∧ ru ≤ 5 ∧ cu ≤ 5) : Ct l E yX6_areAlike cX6_areAlike 3 (some .boolean) rm_X6_areAlike [.ref (eA E 30 0), .int (nI t), .int (nI u)] I L (fun r I' L' => r = some (.int (bI (rt = ru ∧ ct = cu))) ∧ I' = I ∧ L' = L) := by
  refine ct_of (by decide +kernel) (Nat.le_of_ble_eq_true rfl) hE ?_
  intro a X Y hl hEE
  subst hl; subst hEE
  obtain ⟨h51, h52, h53, h54⟩ := id h5
  show V a 0 [(0, .ref (eA (vE a) 30 0)), (1, .int (nI t)), (2, .int (nI u))] [] I L
  refine v_aload_n X 0 rfl dX6_areAlike_0 ?_
  refine gf_X6_13 X dX6_areAlike_1 ?_
  refine v_iload_n X 1 rfl dX6_areAlike_4 ?_
  refine v_iald_n X dl_32 (fun _ _ => rfl) (n := 12) (by omega) (by decide) dX6_areAlike_5 ?_
  refine v_eqi (y := (nI rt)) (hrt) ?_
  refine v_aload_n X 0 rfl dX6_areAlike_6 ?_
  refine gf_X6_13 X dX6_areAlike_7 ?_
  refine v_iload_n X 2 rfl dX6_areAlike_10 ?_
  refine v_iald_n X dl_32 (fun _ _ => rfl) (n := 12) (by omega) (by decide) dX6_areAlike_11 ?_
  refine v_eqi (y := (nI ru)) (hru) ?_
  refine v_icmp_ne_n X (by omega) (by omega) dX6_areAlike_12 (tgt := 34) (by decide) (fun h12 => ?_) (fun h12 => ?_)
  · refine v_iconst X (v := (nI 0)) dX6_areAlike_34 (by decide) ?_
    exact v_zret X Y (rfl) dX6_areAlike_35 (⟨retF fun q => h12 q.1, rfl, rfl⟩)
  · refine v_aload_n X 0 rfl dX6_areAlike_15 ?_
    refine gf_X6_16 X dX6_areAlike_16 ?_
    refine v_iload_n X 1 rfl dX6_areAlike_19 ?_
    refine v_iald_n X dl_33 (fun _ _ => rfl) (n := 12) (by omega) (by decide) dX6_areAlike_20 ?_
    refine v_eqi (y := (nI ct)) (hct) ?_
    refine v_aload_n X 0 rfl dX6_areAlike_21 ?_
    refine gf_X6_16 X dX6_areAlike_22 ?_
    refine v_iload_n X 2 rfl dX6_areAlike_25 ?_
    refine v_iald_n X dl_33 (fun _ _ => rfl) (n := 12) (by omega) (by decide) dX6_areAlike_26 ?_
    refine v_eqi (y := (nI cu)) (hcu) ?_
    refine v_icmp_ne_n X (by omega) (by omega) dX6_areAlike_27 (tgt := 34) (by decide) (fun h27 => ?_) (fun h27 => ?_)
    · refine v_iconst X (v := (nI 0)) dX6_areAlike_34 (by decide) ?_
      exact v_zret X Y (rfl) dX6_areAlike_35 (⟨retF fun q => h27 q.2, rfl, rfl⟩)
    · refine v_iconst X (v := (nI 1)) dX6_areAlike_30 (by decide) ?_
      refine v_goto X (tgt := 35) dX6_areAlike_31 (by decide) ?_
      exact v_zret X Y (rfl) dX6_areAlike_35 (⟨retT ⟨h12, h27⟩, rfl, rfl⟩)
set_option maxHeartbeats 4000000 in
set_option maxRecDepth 100000 in
theorem c_X6_sum (l : Launch) (E : VE) (hE : EOk E) (I : TI) (L : TL) (c : Nat) (ro co : Nat → Nat) (hT : MT I c ro co) (x y : Int32) : Ct l E yX6_sum cX6_sum 4 (some .int) rm_X6_sum [.ref (eA E 30 0), .int x, .int y] I L (fun r I' L' => (¬ (isT c x ∧ isT c y) ∧ MEF I I' r 3 ∧ L' = L) ∨ (∃ t u, t < c ∧ u < c ∧ x = nI t ∧ y = nI u ∧ ((¬ (ro t = ro u ∧ co t = co u) ∧ MEF I I' r 7 ∧ L' = L) ∨ ((ro t = ro u ∧ co t = co u) ∧ ResM I I' r c (ro t) (co t) (nI 3) (fun i j => (I 31 0 (25 * t + (5 * i + j)) + I 31 0 (25 * u + (5 * i + j))).toInt64) ∧ FL [(43, 0)] L L')))) := by
  refine ct_of (by decide +kernel) (Nat.le_of_ble_eq_true rfl) hE ?_
  intro a X Y hl hEE
  subst hl; subst hEE
  show V a 0 [(0, .ref (eA (vE a) 30 0)), (1, .int x), (2, .int y)] [] I L
  refine v_aload_n X 0 rfl dX6_sum_0 ?_
  refine v_iload_n X 1 rfl dX6_sum_1 ?_
  refine v_callV X (c_X6_isTable _ _ hE _ _ c (hT.1) x) k_X6_98 dl_30 (cef_30 _ _ _ _) rfl ⟨rfl, rfl, Nat.le_of_ble_eq_true rfl, Nat.le_of_ble_eq_true rfl⟩ (As := [.int x]) (rest := []) rfl rfl (Nat.le_of_ble_eq_true rfl) dX6_sum_2 (fun r2 I2 L2 hp2 => ?_)
  obtain ⟨rfl, e1, e2⟩ := hp2
  have e1 := e1.symm
  have e2 := e2.symm
  subst e1; subst e2
  refine v_st (st' := [.int (bI (inR c x))]) rfl ?_
  refine v_ifb_eq X dX6_sum_5 (tgt := 16) (by decide) (fun h5 => ?_) (fun h5 => ?_)
  · refine v_aload_n X 0 rfl dX6_sum_16 ?_
    refine v_bipush X (v := (-3)) dX6_sum_17 (by decide) ?_
    refine v_callV X (c_X6_no _ _ hE _ _ 3 (by decide) (by decide)) k_X6_80 dl_30 (cef_30 _ _ _ _) rfl ⟨rfl, rfl, Nat.le_of_ble_eq_true rfl, Nat.le_of_ble_eq_true rfl⟩ (As := [.int (-3)]) (rest := []) rfl rfl (Nat.le_of_ble_eq_true rfl) dX6_sum_19 (fun r19 I19 L19 hp19 => ?_)
    obtain ⟨rfl, e1, e2⟩ := hp19
    have e1 := e1.symm
    have e2 := e2.symm
    subst e1; subst e2
    refine v_st (st' := [.int (-3)]) rfl ?_
    exact v_iret X Y dX6_sum_22 (Or.inl ⟨fun q => (fun q => h5 ((inR_T (by have := hT.2.1; omega)).mpr q)) q.1, ⟨rfl, rfl⟩, rfl⟩)
  · obtain ⟨t, htt, rfl⟩ := inR_of (by have := hT.2.1; omega) h5
    have hc12 := hT.2.1
    obtain ⟨hrt, hct, hr1t, hr5t, hc1t, hc5t⟩ := hT.2.2 t htt
    have ht12t : t < 12 := by omega
    refine v_aload_n X 0 rfl dX6_sum_8 ?_
    refine v_iload_n X 2 rfl dX6_sum_9 ?_
    refine v_callV X (c_X6_isTable _ _ hE _ _ c (hT.1) y) k_X6_98 dl_30 (cef_30 _ _ _ _) rfl ⟨rfl, rfl, Nat.le_of_ble_eq_true rfl, Nat.le_of_ble_eq_true rfl⟩ (As := [.int y]) (rest := []) rfl rfl (Nat.le_of_ble_eq_true rfl) dX6_sum_10 (fun r10 I10 L10 hp10 => ?_)
    obtain ⟨rfl, e1, e2⟩ := hp10
    have e1 := e1.symm
    have e2 := e2.symm
    subst e1; subst e2
    refine v_st (st' := [.int (bI (inR c y))]) rfl ?_
    refine v_ifb_ne X dX6_sum_13 (tgt := 23) (by decide) (fun h13 => ?_) (fun h13 => ?_)
    · obtain ⟨u, htu, rfl⟩ := inR_of (by have := hT.2.1; omega) h13
      obtain ⟨hru, hcu, hr1u, hr5u, hc1u, hc5u⟩ := hT.2.2 u htu
      have ht12u : u < 12 := by omega
      refine v_aload_n X 0 rfl dX6_sum_23 ?_
      refine v_iload_n X 1 rfl dX6_sum_24 ?_
      refine v_iload_n X 2 rfl dX6_sum_25 ?_
      refine v_callV X (c_X6_areAlike _ _ hE _ _ t u ht12t ht12u (ro t) (co t) (ro u) (co u) hrt hct hru hcu ⟨hr5t, hc5t, hr5u, hc5u⟩) k_X6_163 dl_30 (cef_30 _ _ _ _) rfl ⟨rfl, rfl, Nat.le_of_ble_eq_true rfl, Nat.le_of_ble_eq_true rfl⟩ (As := [.int (nI t), .int (nI u)]) (rest := []) rfl rfl (Nat.le_of_ble_eq_true rfl) dX6_sum_26 (fun r26 I26 L26 hp26 => ?_)
      obtain ⟨rfl, e1, e2⟩ := hp26
      have e1 := e1.symm
      have e2 := e2.symm
      subst e1; subst e2
      refine v_st (st' := [.int (bI (ro t = ro u ∧ co t = co u))]) rfl ?_
      refine v_ifb_ne X dX6_sum_29 (tgt := 39) (by decide) (fun h29 => ?_) (fun h29 => ?_)
      · refine v_iconst X (v := (nI 0)) dX6_sum_39 (by decide) ?_
        refine v_istore_n X [1, 2, 3, 0] (lv' := [(0, .ref (eA (vE a) 30 0)), (1, .int (nI t)), (2, .int (nI u)), (3, .int (nI 0))]) (by decide) rfl dX6_sum_40 ?_
        have loop41 : ∀ (fu : Nat) (k : Nat) (L1 : TL), 26 - k < fu → (k ≤ 25) → (FL [(43, 0)] L L1) → (∀ x, x < k → L1 43 0 x = (I 31 0 (25 * t + x) + I 31 0 (25 * u + x)).toInt64) → V a 41 [(0, .ref (eA (vE a) 30 0)), (1, .int (nI t)), (2, .int (nI u)), (3, .int (nI k))] [] I L1 := by
          intro fu
          induction fu with
          | zero => intro k L1 hm _ _ _; exact absurd hm (Nat.not_lt_zero _)
          | succ fu ih41 =>
            intro k L1 hm41 hk hFL hN
            refine v_iload_n X 3 rfl dX6_sum_41 ?_
            refine v_bipush X (v := (nI 25)) dX6_sum_42 (by decide) ?_
            refine v_icmp_ge_n X (by omega) (by omega) dX6_sum_44 (tgt := 83) (by decide) (fun h44 => ?_) (fun h44 => ?_)
            · refine v_aload_n X 0 rfl dX6_sum_83 ?_
              refine v_aload_n X 0 rfl dX6_sum_84 ?_
              refine gf_X6_13 X dX6_sum_85 ?_
              refine v_iload_n X 1 rfl dX6_sum_88 ?_
              refine v_iald_n X dl_32 (fun _ _ => rfl) (n := 12) (by omega) (by decide) dX6_sum_89 ?_
              refine v_eqi (y := (nI (ro t))) (hrt) ?_
              refine v_aload_n X 0 rfl dX6_sum_90 ?_
              refine gf_X6_16 X dX6_sum_91 ?_
              refine v_iload_n X 1 rfl dX6_sum_94 ?_
              refine v_iald_n X dl_33 (fun _ _ => rfl) (n := 12) (by omega) (by decide) dX6_sum_95 ?_
              refine v_eqi (y := (nI (co t))) (hct) ?_
              refine v_iconst X (v := (nI 3)) dX6_sum_96 (by decide) ?_
              refine v_callV X (c_X6_comes _ _ hE _ _ c ro co hT (ro t) (co t) (by omega) (by omega) (by omega) (nI 3)) k_X6_160 dl_30 (cef_30 _ _ _ _) rfl ⟨rfl, rfl, Nat.le_of_ble_eq_true rfl, Nat.le_of_ble_eq_true rfl⟩ (As := [.int (nI (ro t)), .int (nI (co t)), .int (nI 3)]) (rest := []) rfl rfl (Nat.le_of_ble_eq_true rfl) dX6_sum_97 (fun r97 I97 L97 hp97 => ?_)
              obtain ⟨hres0, e2⟩ := hp97
              have e2 := e2.symm
              subst e2
              have hres := ResM.cg (fun a b ha hb => hN (5 * a + b) (by omega)) hres0
              obtain ⟨x9, rfl⟩ := hres.val
              refine v_st (st' := [.int x9]) rfl ?_
              exact v_iret X Y dX6_sum_100 (Or.inr ⟨t, u, htt, htu, rfl, rfl, Or.inr ⟨h29, hres, hFL⟩⟩)
            · refine v_aload_n X 0 rfl dX6_sum_47 ?_
              refine gf_X6_47 X dX6_sum_48 ?_
              refine v_iload_n X 3 rfl dX6_sum_51 ?_
              refine v_aload_n X 0 rfl dX6_sum_52 ?_
              refine gf_X6_7 X dX6_sum_53 ?_
              refine v_bipush X (v := (nI 25)) dX6_sum_56 (by decide) ?_
              refine v_iload_n X 1 rfl dX6_sum_58 ?_
              refine v_imul X dX6_sum_59 ?_
              refine v_eqi (y := (nI (25 * t))) (pk_mul _ _) ?_
              refine v_iload_n X 3 rfl dX6_sum_60 ?_
              refine v_iadd X dX6_sum_61 ?_
              refine v_eqi (y := (nI ((25 * t) + k))) (nI_add _ _) ?_
              refine v_iald_n X dl_31 (fun _ _ => rfl) (n := 300) (by omega) (by decide) dX6_sum_62 ?_
              refine v_aload_n X 0 rfl dX6_sum_63 ?_
              refine gf_X6_7 X dX6_sum_64 ?_
              refine v_bipush X (v := (nI 25)) dX6_sum_67 (by decide) ?_
              refine v_iload_n X 2 rfl dX6_sum_69 ?_
              refine v_imul X dX6_sum_70 ?_
              refine v_eqi (y := (nI (25 * u))) (pk_mul _ _) ?_
              refine v_iload_n X 3 rfl dX6_sum_71 ?_
              refine v_iadd X dX6_sum_72 ?_
              refine v_eqi (y := (nI ((25 * u) + k))) (nI_add _ _) ?_
              refine v_iald_n X dl_31 (fun _ _ => rfl) (n := 300) (by omega) (by decide) dX6_sum_73 ?_
              refine v_iadd X dX6_sum_74 ?_
              refine v_i2l X dX6_sum_75 rfl ?_
              refine v_last_n X dl_43 (fun _ _ => rfl) (n := 25) (by omega) (by decide) dX6_sum_76 ?_
              refine v_iinc X [1, 2, 3, 0] 3 (nI (k + 1)) (lv' := [(0, .ref (eA (vE a) 30 0)), (1, .int (nI t)), (2, .int (nI u)), (3, .int (nI (k + 1)))]) rfl (nI_1 _) (by decide) rfl dX6_sum_77 ?_
              refine v_goto X (tgt := 41) dX6_sum_80 (by decide) ?_
              have hnew : ∀ x, x < k + 1 → upL L1 43 0 k (I 31 0 (25 * t + k) + I 31 0 (25 * u + k)).toInt64 43 0 x = (I 31 0 (25 * t + x) + I 31 0 (25 * u + x)).toInt64 := fun x hx => by
                by_cases e : x = k
                · rw [e, upL_eq]
                · rw [upL_x e]; exact hN x (by omega)
              exact ih41 (k + 1) (upL L1 43 0 k (((I 31 0 ((25 * t) + k)) + (I 31 0 ((25 * u) + k))).toInt64)) (by omega) (by omega) (hFL.up (by simp)) hnew
        exact loop41 _ 0 L (Nat.lt_succ_self _) (Nat.zero_le _) FL.rf (fun x h => absurd h (Nat.not_lt_zero _))
      · refine v_aload_n X 0 rfl dX6_sum_32 ?_
        refine v_bipush X (v := (-7)) dX6_sum_33 (by decide) ?_
        refine v_callV X (c_X6_no _ _ hE _ _ 7 (by decide) (by decide)) k_X6_80 dl_30 (cef_30 _ _ _ _) rfl ⟨rfl, rfl, Nat.le_of_ble_eq_true rfl, Nat.le_of_ble_eq_true rfl⟩ (As := [.int (-7)]) (rest := []) rfl rfl (Nat.le_of_ble_eq_true rfl) dX6_sum_35 (fun r35 I35 L35 hp35 => ?_)
        obtain ⟨rfl, e1, e2⟩ := hp35
        have e1 := e1.symm
        have e2 := e2.symm
        subst e1; subst e2
        refine v_st (st' := [.int (-7)]) rfl ?_
        exact v_iret X Y dX6_sum_38 (Or.inr ⟨t, u, htt, htu, rfl, rfl, Or.inl ⟨h29, ⟨rfl, rfl⟩, rfl⟩⟩)
    · refine v_aload_n X 0 rfl dX6_sum_16 ?_
      refine v_bipush X (v := (-3)) dX6_sum_17 (by decide) ?_
      refine v_callV X (c_X6_no _ _ hE _ _ 3 (by decide) (by decide)) k_X6_80 dl_30 (cef_30 _ _ _ _) rfl ⟨rfl, rfl, Nat.le_of_ble_eq_true rfl, Nat.le_of_ble_eq_true rfl⟩ (As := [.int (-3)]) (rest := []) rfl rfl (Nat.le_of_ble_eq_true rfl) dX6_sum_19 (fun r19 I19 L19 hp19 => ?_)
      obtain ⟨rfl, e1, e2⟩ := hp19
      have e1 := e1.symm
      have e2 := e2.symm
      subst e1; subst e2
      refine v_st (st' := [.int (-3)]) rfl ?_
      exact v_iret X Y dX6_sum_22 (Or.inl ⟨fun q => h13 ((inR_T (by have := hT.2.1; omega)).mpr q.2), ⟨rfl, rfl⟩, rfl⟩)
set_option maxHeartbeats 4000000 in
set_option maxRecDepth 100000 in
theorem c_X6_part (l : Launch) (E : VE) (hE : EOk E) (I : TI) (L : TL) (c : Nat) (ro co : Nat → Nat) (hT : MT I c ro co) (x R C : Int32) : Ct l E yX6_part cX6_part 8 (some .int) rm_X6_part [.ref (eA E 30 0), .int x, .int R, .int C] I L (fun r I' L' => (¬ inS c ro co x R C ∧ MEF I I' r 3 ∧ L' = L) ∨ (∃ t R' C', t < c ∧ x = nI t ∧ 1 ≤ R' ∧ R' < 2 ^ ro t ∧ 1 ≤ C' ∧ C' < 2 ^ co t ∧ R = nI R' ∧ C = nI C' ∧ ResM I I' r c (pc5 R') (pc5 C') (nI 3) (fun a b => (I 31 0 (25 * t + 5 * rsel R' a + rsel C' b)).toInt64) ∧ FL [(43, 0)] L L')) := by
  refine ct_of (by decide +kernel) (Nat.le_of_ble_eq_true rfl) hE ?_
  intro a X Y hl hEE
  subst hl; subst hEE
  show V a 0 [(0, .ref (eA (vE a) 30 0)), (1, .int x), (2, .int R), (3, .int C)] [] I L
  refine v_aload_n X 0 rfl dX6_part_0 ?_
  refine v_iload_n X 1 rfl dX6_part_1 ?_
  refine v_callV X (c_X6_isTable _ _ hE _ _ c (hT.1) x) k_X6_98 dl_30 (cef_30 _ _ _ _) rfl ⟨rfl, rfl, Nat.le_of_ble_eq_true rfl, Nat.le_of_ble_eq_true rfl⟩ (As := [.int x]) (rest := []) rfl rfl (Nat.le_of_ble_eq_true rfl) dX6_part_2 (fun r2 I2 L2 hp2 => ?_)
  obtain ⟨rfl, e1, e2⟩ := hp2
  have e1 := e1.symm
  have e2 := e2.symm
  subst e1; subst e2
  refine v_st (st' := [.int (bI (inR c x))]) rfl ?_
  refine v_ifb_eq X dX6_part_5 (tgt := 34) (by decide) (fun h5 => ?_) (fun h5 => ?_)
  · refine v_aload_n X 0 rfl dX6_part_34 ?_
    refine v_bipush X (v := (-3)) dX6_part_35 (by decide) ?_
    refine v_callV X (c_X6_no _ _ hE _ _ 3 (by decide) (by decide)) k_X6_80 dl_30 (cef_30 _ _ _ _) rfl ⟨rfl, rfl, Nat.le_of_ble_eq_true rfl, Nat.le_of_ble_eq_true rfl⟩ (As := [.int (-3)]) (rest := []) rfl rfl (Nat.le_of_ble_eq_true rfl) dX6_part_37 (fun r37 I37 L37 hp37 => ?_)
    obtain ⟨rfl, e1, e2⟩ := hp37
    have e1 := e1.symm
    have e2 := e2.symm
    subst e1; subst e2
    refine v_st (st' := [.int (-3)]) rfl ?_
    exact v_iret X Y dX6_part_40 (Or.inl ⟨(inS_no' (fun q => h5 ((inR_T (by have := hT.2.1; omega)).mpr q))), ⟨rfl, rfl⟩, rfl⟩)
  · obtain ⟨t, htt, rfl⟩ := inR_of (by have := hT.2.1; omega) h5
    have hc12 := hT.2.1
    obtain ⟨hrt, hct, hr1t, hr5t, hc1t, hc5t⟩ := hT.2.2 t htt
    have ht12t : t < 12 := by omega
    refine v_iload_n X 2 rfl dX6_part_8 ?_
    refine v_aload_n X 0 rfl dX6_part_9 ?_
    refine gf_X6_13 X dX6_part_10 ?_
    refine v_iload_n X 1 rfl dX6_part_13 ?_
    refine v_iald_n X dl_32 (fun _ _ => rfl) (n := 12) (by omega) (by decide) dX6_part_14 ?_
    refine v_eqi (y := (nI (ro t))) (hrt) ?_
    refine v_callS X (c_X6_isSome _ _ hE _ _ R (ro t) (by omega)) k_X6_119 ⟨rfl, rfl, Nat.le_of_ble_eq_true rfl, Nat.le_of_ble_eq_true rfl⟩ (As := [.int R, .int (nI (ro t))]) (rest := []) rfl rfl (Nat.le_of_ble_eq_true rfl) dX6_part_15 (fun r15 I15 L15 hp15 => ?_)
    obtain ⟨rfl, e1, e2⟩ := hp15
    have e1 := e1.symm
    have e2 := e2.symm
    subst e1; subst e2
    refine v_st (st' := [.int (bI (0 < R ∧ R < nI (2 ^ (ro t))))]) rfl ?_
    refine v_ifb_eq X dX6_part_18 (tgt := 34) (by decide) (fun h18 => ?_) (fun h18 => ?_)
    · refine v_aload_n X 0 rfl dX6_part_34 ?_
      refine v_bipush X (v := (-3)) dX6_part_35 (by decide) ?_
      refine v_callV X (c_X6_no _ _ hE _ _ 3 (by decide) (by decide)) k_X6_80 dl_30 (cef_30 _ _ _ _) rfl ⟨rfl, rfl, Nat.le_of_ble_eq_true rfl, Nat.le_of_ble_eq_true rfl⟩ (As := [.int (-3)]) (rest := []) rfl rfl (Nat.le_of_ble_eq_true rfl) dX6_part_37 (fun r37 I37 L37 hp37 => ?_)
      obtain ⟨rfl, e1, e2⟩ := hp37
      have e1 := e1.symm
      have e2 := e2.symm
      subst e1; subst e2
      refine v_st (st' := [.int (-3)]) rfl ?_
      exact v_iret X Y dX6_part_40 (Or.inl ⟨(inS_no hr5t hc5t hT.2.1 htt (Or.inl h18)), ⟨rfl, rfl⟩, rfl⟩)
    · refine v_iload_n X 3 rfl dX6_part_21 ?_
      refine v_aload_n X 0 rfl dX6_part_22 ?_
      refine gf_X6_16 X dX6_part_23 ?_
      refine v_iload_n X 1 rfl dX6_part_26 ?_
      refine v_iald_n X dl_33 (fun _ _ => rfl) (n := 12) (by omega) (by decide) dX6_part_27 ?_
      refine v_eqi (y := (nI (co t))) (hct) ?_
      refine v_callS X (c_X6_isSome _ _ hE _ _ C (co t) (by omega)) k_X6_119 ⟨rfl, rfl, Nat.le_of_ble_eq_true rfl, Nat.le_of_ble_eq_true rfl⟩ (As := [.int C, .int (nI (co t))]) (rest := []) rfl rfl (Nat.le_of_ble_eq_true rfl) dX6_part_28 (fun r28 I28 L28 hp28 => ?_)
      obtain ⟨rfl, e1, e2⟩ := hp28
      have e1 := e1.symm
      have e2 := e2.symm
      subst e1; subst e2
      refine v_st (st' := [.int (bI (0 < C ∧ C < nI (2 ^ (co t))))]) rfl ?_
      refine v_ifb_ne X dX6_part_31 (tgt := 41) (by decide) (fun h31 => ?_) (fun h31 => ?_)
      · obtain ⟨R', hR1, hR2, rfl⟩ := (isS_iff hr5t).mpr h18
        obtain ⟨C', hC1, hC2, rfl⟩ := (isS_iff hc5t).mpr h31
        have hpr := pow32 hr5t
        have hpc := pow32 hc5t
        have hR5 := pc5_le R'
        have hC5 := pc5_le C'
        refine v_iconst X (v := (nI 0)) dX6_part_41 (by decide) ?_
        refine v_istore X [1, 2, 3, 4, 0] (lv' := [(0, .ref (eA (vE a) 30 0)), (1, .int (nI t)), (2, .int (nI R')), (3, .int (nI C')), (4, .int (nI 0))]) (by decide) rfl dX6_part_42 ?_
        refine v_iconst X (v := (nI 0)) dX6_part_44 (by decide) ?_
        refine v_istore X [1, 2, 3, 4, 5, 0] (lv' := [(0, .ref (eA (vE a) 30 0)), (1, .int (nI t)), (2, .int (nI R')), (3, .int (nI C')), (4, .int (nI 0)), (5, .int (nI 0))]) (by decide) rfl dX6_part_45 ?_
        have loop47 : ∀ (fu : Nat) (i : Nat) (k : Nat) (L1 : TL), 6 - i < fu → (i ≤ 5) → (k = (rl R' i).length) → (FL [(43, 0)] L L1) → (NX L1 (pc5 C') k 0 (fun a b => (I 31 0 (25 * t + 5 * rsel R' a + rsel C' b)).toInt64)) → V a 47 [(0, .ref (eA (vE a) 30 0)), (1, .int (nI t)), (2, .int (nI R')), (3, .int (nI C')), (4, .int (nI k)), (5, .int (nI i))] [] I L1 := by
          intro fu
          induction fu with
          | zero => intro i k L1 hm _ _ _ _; exact absurd hm (Nat.not_lt_zero _)
          | succ fu ih47 =>
            intro i k L1 hm47 hi hk hFL hN
            refine v_iload X 5 rfl dX6_part_47 ?_
            refine v_iconst X (v := (nI 5)) dX6_part_49 (by decide) ?_
            refine v_icmp_ge_n X (by omega) (by omega) dX6_part_50 (tgt := 133) (by decide) (fun h50 => ?_) (fun h50 => ?_)
            · have hk5 : k = pc5 R' := by rw [hk, show i = 5 by omega]; exact rl_len R' (by omega)
              have hRp := pc5_pos R' (by omega) (by omega)
              subst hk5
              refine v_aload_n X 0 rfl dX6_part_133 ?_
              refine v_iload X 4 rfl dX6_part_134 ?_
              refine v_iload_n X 3 rfl dX6_part_136 ?_
              refine v_callS X (c_X6_bits _ _ hE _ _ C' (by omega)) k_X6_116 ⟨rfl, rfl, Nat.le_of_ble_eq_true rfl, Nat.le_of_ble_eq_true rfl⟩ (As := [.int (nI C')]) (rest := [.int (nI (pc5 R')), .ref (eA (vE a) 30 0)]) rfl rfl (Nat.le_of_ble_eq_true rfl) dX6_part_137 (fun r137 I137 L137 hp137 => ?_)
              obtain ⟨rfl, e1, e2⟩ := hp137
              have e1 := e1.symm
              have e2 := e2.symm
              subst e1; subst e2
              refine v_st (st' := [.int (nI (pc5 C')), .int (nI (pc5 R')), .ref (eA (vE a) 30 0)]) rfl ?_
              refine v_iconst X (v := (nI 3)) dX6_part_140 (by decide) ?_
              refine v_callV X (c_X6_comes _ _ hE _ _ c ro co hT (pc5 R') (pc5 C') (by omega) (by omega) (by omega) (nI 3)) k_X6_160 dl_30 (cef_30 _ _ _ _) rfl ⟨rfl, rfl, Nat.le_of_ble_eq_true rfl, Nat.le_of_ble_eq_true rfl⟩ (As := [.int (nI (pc5 R')), .int (nI (pc5 C')), .int (nI 3)]) (rest := []) rfl rfl (Nat.le_of_ble_eq_true rfl) dX6_part_141 (fun r141 I141 L141 hp141 => ?_)
              obtain ⟨hres0, e2⟩ := hp141
              have e2 := e2.symm
              subst e2
              have hres := ResM.cg (fun a b ha hb => hN a b hb (by omega)) hres0
              obtain ⟨x9, rfl⟩ := hres.val
              refine v_st (st' := [.int x9]) rfl ?_
              exact v_iret X Y dX6_part_144 (Or.inr ⟨t, R', C', htt, rfl, hR1, hR2, hC1, hC2, rfl, rfl, hres, hFL⟩)
            · refine v_iload_n X 2 rfl dX6_part_53 ?_
              refine v_iload X 5 rfl dX6_part_54 ?_
              refine v_ishr X dX6_part_56 ?_
              refine v_eqi (y := (nI (R' / 2 ^ i))) (sh_r (by omega) (by omega)) ?_
              refine v_iconst X (v := (nI 1)) dX6_part_57 (by decide) ?_
              refine v_iand X dX6_part_58 ?_
              refine v_eqi (y := (nI ((R' / 2 ^ i) &&& 1))) (an_and _ _) ?_
              refine v_eqi (y := (nI (R' / 2 ^ i % 2))) (congrArg nI (Nat.and_one_is_mod _)) ?_
              refine v_if_ne_n X (by omega) dX6_part_59 (tgt := 65) (by decide) (fun h59 => ?_) (fun h59 => ?_)
              · obtain ⟨hselR, hkR⟩ := rsel_at R' (by omega) i (by omega) (by omega)
                rw [← hk] at hselR hkR
                refine v_iconst X (v := (nI 0)) dX6_part_65 (by decide) ?_
                refine v_istore X [1, 2, 3, 4, 5, 6, 0] (lv' := [(0, .ref (eA (vE a) 30 0)), (1, .int (nI t)), (2, .int (nI R')), (3, .int (nI C')), (4, .int (nI k)), (5, .int (nI i)), (6, .int (nI 0))]) (by decide) rfl dX6_part_66 ?_
                refine v_iconst X (v := (nI 0)) dX6_part_68 (by decide) ?_
                refine v_istore X [1, 2, 3, 4, 5, 6, 7, 0] (lv' := [(0, .ref (eA (vE a) 30 0)), (1, .int (nI t)), (2, .int (nI R')), (3, .int (nI C')), (4, .int (nI k)), (5, .int (nI i)), (6, .int (nI 0)), (7, .int (nI 0))]) (by decide) rfl dX6_part_69 ?_
                have loop71 : ∀ (fu : Nat) (j : Nat) (m : Nat) (L1 : TL), 6 - j < fu → (j ≤ 5) → (m = (rl C' j).length) → (FL [(43, 0)] L L1) → (NX L1 (pc5 C') k m (fun a b => (I 31 0 (25 * t + 5 * rsel R' a + rsel C' b)).toInt64)) → V a 71 [(0, .ref (eA (vE a) 30 0)), (1, .int (nI t)), (2, .int (nI R')), (3, .int (nI C')), (4, .int (nI k)), (5, .int (nI i)), (6, .int (nI m)), (7, .int (nI j))] [] I L1 := by
                  intro fu
                  induction fu with
                  | zero => intro j m L1 hm _ _ _ _; exact absurd hm (Nat.not_lt_zero _)
                  | succ fu ih71 =>
                    intro j m L1 hm71 hj hm hFL hN
                    refine v_iload X 7 rfl dX6_part_71 ?_
                    refine v_iconst X (v := (nI 5)) dX6_part_73 (by decide) ?_
                    refine v_icmp_ge_n X (by omega) (by omega) dX6_part_74 (tgt := 124) (by decide) (fun h74 => ?_) (fun h74 => ?_)
                    · refine v_iinc X [1, 2, 3, 4, 0, 5, 6, 7] 4 (nI (k + 1)) (lv' := [(0, .ref (eA (vE a) 30 0)), (1, .int (nI t)), (2, .int (nI R')), (3, .int (nI C')), (4, .int (nI (k + 1))), (5, .int (nI i)), (6, .int (nI m)), (7, .int (nI j))]) rfl (nI_1 _) (by decide) rfl dX6_part_124 ?_
                      have hm5 : m = pc5 C' := by rw [hm, show j = 5 by omega]; exact rl_len C' (by omega)
                      refine v_iinc X [1, 2, 3, 4, 5, 0, 6, 7] 5 (nI (i + 1)) (lv' := [(0, .ref (eA (vE a) 30 0)), (1, .int (nI t)), (2, .int (nI R')), (3, .int (nI C')), (4, .int (nI (k + 1))), (5, .int (nI (i + 1))), (6, .int (nI m)), (7, .int (nI j))]) rfl (nI_1 _) (by decide) rfl dX6_part_127 ?_
                      refine v_goto X (tgt := 47) dX6_part_130 (by decide) ?_
                      refine v_sub [0, 1, 2, 3, 4, 5] (lv' := [(0, .ref (eA (vE a) 30 0)), (1, .int (nI t)), (2, .int (nI R')), (3, .int (nI C')), (4, .int (nI (k + 1))), (5, .int (nI (i + 1)))]) rfl ?_
                      exact ih47 (i + 1) (k + 1) L1 (by omega) (by omega) (by rw [rl_y (by omega), List.length_append, ← hk]; rfl) hFL (hN.row (by omega))
                    · refine v_iload_n X 3 rfl dX6_part_77 ?_
                      refine v_iload X 7 rfl dX6_part_78 ?_
                      refine v_ishr X dX6_part_80 ?_
                      refine v_eqi (y := (nI (C' / 2 ^ j))) (sh_r (by omega) (by omega)) ?_
                      refine v_iconst X (v := (nI 1)) dX6_part_81 (by decide) ?_
                      refine v_iand X dX6_part_82 ?_
                      refine v_eqi (y := (nI ((C' / 2 ^ j) &&& 1))) (an_and _ _) ?_
                      refine v_eqi (y := (nI (C' / 2 ^ j % 2))) (congrArg nI (Nat.and_one_is_mod _)) ?_
                      refine v_if_ne_n X (by omega) dX6_part_83 (tgt := 89) (by decide) (fun h83 => ?_) (fun h83 => ?_)
                      · obtain ⟨hselC, hkC⟩ := rsel_at C' (by omega) j (by omega) (by omega)
                        rw [← hm] at hselC hkC
                        refine v_aload_n X 0 rfl dX6_part_89 ?_
                        refine gf_X6_47 X dX6_part_90 ?_
                        refine v_iconst X (v := (nI 5)) dX6_part_93 (by decide) ?_
                        refine v_iload X 4 rfl dX6_part_94 ?_
                        refine v_imul X dX6_part_96 ?_
                        refine v_eqi (y := (nI (5 * k))) (pk_mul _ _) ?_
                        refine v_iload X 6 rfl dX6_part_97 ?_
                        refine v_iadd X dX6_part_99 ?_
                        refine v_eqi (y := (nI ((5 * k) + m))) (nI_add _ _) ?_
                        refine v_aload_n X 0 rfl dX6_part_100 ?_
                        refine gf_X6_7 X dX6_part_101 ?_
                        refine v_iload_n X 1 rfl dX6_part_104 ?_
                        refine v_iload X 5 rfl dX6_part_105 ?_
                        refine v_iload X 7 rfl dX6_part_107 ?_
                        refine v_callS X (c_X6_place _ _ hE _ _ t i j) k_X6_113 ⟨rfl, rfl, Nat.le_of_ble_eq_true rfl, Nat.le_of_ble_eq_true rfl⟩ (As := [.int (nI t), .int (nI i), .int (nI j)]) (rest := [.ref (eA (vE a) 31 0), .int (nI ((5 * k) + m)), .ref (eA (vE a) 43 0)]) rfl rfl (Nat.le_of_ble_eq_true rfl) dX6_part_109 (fun r109 I109 L109 hp109 => ?_)
                        obtain ⟨rfl, e1, e2⟩ := hp109
                        have e1 := e1.symm
                        have e2 := e2.symm
                        subst e1; subst e2
                        refine v_st (st' := [.int (nI (25 * t + 5 * i + j)), .ref (eA (vE a) 31 0), .int (nI ((5 * k) + m)), .ref (eA (vE a) 43 0)]) rfl ?_
                        refine v_iald_n X dl_31 (fun _ _ => rfl) (n := 300) (by omega) (by decide) dX6_part_112 ?_
                        refine v_i2l X dX6_part_113 rfl ?_
                        refine v_last_n X dl_43 (fun _ _ => rfl) (n := 25) (by omega) (by decide) dX6_part_114 ?_
                        refine v_iinc X [1, 2, 3, 4, 5, 6, 0, 7] 6 (nI (m + 1)) (lv' := [(0, .ref (eA (vE a) 30 0)), (1, .int (nI t)), (2, .int (nI R')), (3, .int (nI C')), (4, .int (nI k)), (5, .int (nI i)), (6, .int (nI (m + 1))), (7, .int (nI j))]) rfl (nI_1 _) (by decide) rfl dX6_part_115 ?_
                        refine v_iinc X [1, 2, 3, 4, 5, 6, 7, 0] 7 (nI (j + 1)) (lv' := [(0, .ref (eA (vE a) 30 0)), (1, .int (nI t)), (2, .int (nI R')), (3, .int (nI C')), (4, .int (nI k)), (5, .int (nI i)), (6, .int (nI (m + 1))), (7, .int (nI (j + 1)))]) rfl (nI_1 _) (by decide) rfl dX6_part_118 ?_
                        refine v_goto X (tgt := 71) dX6_part_121 (by decide) ?_
                        exact ih71 (j + 1) (m + 1) (upL L1 43 0 ((5 * k) + m) ((I 31 0 (25 * t + 5 * i + j)).toInt64)) (by omega) (by omega) (by rw [rl_y (by omega), List.length_append, ← hm]; rfl) (hFL.up (by simp)) (hN.put (by omega) (by omega) (by rw [hselR, hselC]))
                      · refine v_goto X (tgt := 118) dX6_part_86 (by decide) ?_
                        refine v_iinc X [1, 2, 3, 4, 5, 6, 7, 0] 7 (nI (j + 1)) (lv' := [(0, .ref (eA (vE a) 30 0)), (1, .int (nI t)), (2, .int (nI R')), (3, .int (nI C')), (4, .int (nI k)), (5, .int (nI i)), (6, .int (nI m)), (7, .int (nI (j + 1)))]) rfl (nI_1 _) (by decide) rfl dX6_part_118 ?_
                        refine v_goto X (tgt := 71) dX6_part_121 (by decide) ?_
                        exact ih71 (j + 1) m L1 (by omega) (by omega) (by rw [rl_n (by omega)]; exact hm) hFL hN
                exact loop71 _ 0 0 L1 (Nat.lt_succ_self _) (Nat.zero_le _) rfl hFL hN
              · refine v_goto X (tgt := 127) dX6_part_62 (by decide) ?_
                refine v_iinc X [1, 2, 3, 4, 5, 0] 5 (nI (i + 1)) (lv' := [(0, .ref (eA (vE a) 30 0)), (1, .int (nI t)), (2, .int (nI R')), (3, .int (nI C')), (4, .int (nI k)), (5, .int (nI (i + 1)))]) rfl (nI_1 _) (by decide) rfl dX6_part_127 ?_
                refine v_goto X (tgt := 47) dX6_part_130 (by decide) ?_
                exact ih47 (i + 1) k L1 (by omega) (by omega) (by rw [rl_n (by omega)]; exact hk) hFL hN
        exact loop47 _ 0 0 L (Nat.lt_succ_self _) (Nat.zero_le _) rfl FL.rf NX.ini
      · refine v_aload_n X 0 rfl dX6_part_34 ?_
        refine v_bipush X (v := (-3)) dX6_part_35 (by decide) ?_
        refine v_callV X (c_X6_no _ _ hE _ _ 3 (by decide) (by decide)) k_X6_80 dl_30 (cef_30 _ _ _ _) rfl ⟨rfl, rfl, Nat.le_of_ble_eq_true rfl, Nat.le_of_ble_eq_true rfl⟩ (As := [.int (-3)]) (rest := []) rfl rfl (Nat.le_of_ble_eq_true rfl) dX6_part_37 (fun r37 I37 L37 hp37 => ?_)
        obtain ⟨rfl, e1, e2⟩ := hp37
        have e1 := e1.symm
        have e2 := e2.symm
        subst e1; subst e2
        refine v_st (st' := [.int (-3)]) rfl ?_
        exact v_iret X Y dX6_part_40 (Or.inl ⟨(inS_no hr5t hc5t hT.2.1 htt (Or.inr h31)), ⟨rfl, rfl⟩, rfl⟩)
set_option maxHeartbeats 4000000 in
set_option maxRecDepth 100000 in
theorem c_X6_turn (l : Launch) (E : VE) (hE : EOk E) (I : TI) (L : TL) (c : Nat) (ro co : Nat → Nat) (hT : MT I c ro co) (x how : Int32) : Ct l E yX6_turn cX6_turn 9 (some .int) rm_X6_turn [.ref (eA E 30 0), .int x, .int how] I L (fun r I' L' => (¬ isT c x ∧ MEF I I' r 3 ∧ L' = L) ∨ (∃ t, t < c ∧ x = nI t ∧ ((¬ (0 ≤ how ∧ how ≤ nI 2) ∧ MEF I I' r 7 ∧ L' = L) ∨ (∃ n', n' ≤ 2 ∧ how = nI n' ∧ ResM I I' r c (if n' = 0 then co t else ro t) (if n' = 0 then ro t else co t) (nI 3) (fun a b => (I 31 0 (25 * t + 5 * (if n' = 0 then b else ro t - 1 - a) + (if n' = 0 then a else if n' = 1 then co t - 1 - b else b))).toInt64) ∧ FL [(43, 0)] L L')))) := by
  refine ct_of (by decide +kernel) (Nat.le_of_ble_eq_true rfl) hE ?_
  intro a X Y hl hEE
  subst hl; subst hEE
  show V a 0 [(0, .ref (eA (vE a) 30 0)), (1, .int x), (2, .int how)] [] I L
  refine v_aload_n X 0 rfl dX6_turn_0 ?_
  refine v_iload_n X 1 rfl dX6_turn_1 ?_
  refine v_callV X (c_X6_isTable _ _ hE _ _ c (hT.1) x) k_X6_98 dl_30 (cef_30 _ _ _ _) rfl ⟨rfl, rfl, Nat.le_of_ble_eq_true rfl, Nat.le_of_ble_eq_true rfl⟩ (As := [.int x]) (rest := []) rfl rfl (Nat.le_of_ble_eq_true rfl) dX6_turn_2 (fun r2 I2 L2 hp2 => ?_)
  obtain ⟨rfl, e1, e2⟩ := hp2
  have e1 := e1.symm
  have e2 := e2.symm
  subst e1; subst e2
  refine v_st (st' := [.int (bI (inR c x))]) rfl ?_
  refine v_ifb_ne X dX6_turn_5 (tgt := 15) (by decide) (fun h5 => ?_) (fun h5 => ?_)
  · obtain ⟨t, htt, rfl⟩ := inR_of (by have := hT.2.1; omega) h5
    have hc12 := hT.2.1
    obtain ⟨hrt, hct, hr1t, hr5t, hc1t, hc5t⟩ := hT.2.2 t htt
    have ht12t : t < 12 := by omega
    refine v_iload_n X 2 rfl dX6_turn_15 ?_
    refine v_i2l X dX6_turn_16 rfl ?_
    refine v_lconst X (v := 0) dX6_turn_17 rfl ?_
    refine v_ldc2 X kc_X6_166 dX6_turn_18 ?_
    refine v_callS X (c_X6_isIn _ _ hE _ _ how.toInt64 0 2) k_X6_90 ⟨rfl, rfl, Nat.le_of_ble_eq_true rfl, Nat.le_of_ble_eq_true rfl⟩ (As := [.long how.toInt64, .long 0, .long 2]) (rest := []) rfl rfl (Nat.le_of_ble_eq_true rfl) dX6_turn_21 (fun r21 I21 L21 hp21 => ?_)
    obtain ⟨rfl, e1, e2⟩ := hp21
    have e1 := e1.symm
    have e2 := e2.symm
    subst e1; subst e2
    refine v_st (st' := [.int (bI (0 ≤ how.toInt64 ∧ how.toInt64 ≤ 2))]) rfl ?_
    refine v_ifb_ne X dX6_turn_24 (tgt := 34) (by decide) (fun h24 => ?_) (fun h24 => ?_)
    · obtain ⟨hh0, hh2⟩ := in_H.mp h24
      obtain ⟨n', hn2, rfl⟩ := ix_of' hh0 hh2 (by decide)
      obtain ⟨nn, hnn⟩ : ∃ nn, nn = (if n' = 0 then co t else ro t) := ⟨_, rfl⟩
      obtain ⟨mm, hmm⟩ : ∃ mm, mm = (if n' = 0 then ro t else co t) := ⟨_, rfl⟩
      have hnz : n' = 0 → nn = co t ∧ mm = ro t := fun z => ⟨hnn.trans (if_pos z), hmm.trans (if_pos z)⟩
      have hnp : 0 < n' → nn = ro t ∧ mm = co t := fun z => ⟨hnn.trans (if_neg (by omega)), hmm.trans (if_neg (by omega))⟩
      have hnb : nn ≤ 5 ∧ mm ≤ 5 ∧ 1 ≤ nn := by
        rcases Nat.eq_zero_or_pos n' with z | z
        · have := hnz z; omega
        · have := hnp z; omega
      refine v_iload_n X 2 rfl dX6_turn_34 ?_
      refine v_if_ne_n X (by omega) dX6_turn_35 (tgt := 47) (by decide) (fun h35 => ?_) (fun h35 => ?_)
      · refine v_aload_n X 0 rfl dX6_turn_47 ?_
        refine gf_X6_13 X dX6_turn_48 ?_
        refine v_iload_n X 1 rfl dX6_turn_51 ?_
        refine v_iald_n X dl_32 (fun _ _ => rfl) (n := 12) (by omega) (by decide) dX6_turn_52 ?_
        refine v_eqi (y := (nI (ro t))) (hrt) ?_
        refine v_eqi (y := (nI nn)) (congrArg nI (hnp h35).1.symm) ?_
        refine v_istore_n X [1, 2, 3, 0] (lv' := [(0, .ref (eA (vE a) 30 0)), (1, .int (nI t)), (2, .int (nI n')), (3, .int (nI nn))]) (by decide) rfl dX6_turn_53 ?_
        refine v_iload_n X 2 rfl dX6_turn_54 ?_
        refine v_if_ne_n X (by omega) dX6_turn_55 (tgt := 67) (by decide) (fun h55 => ?_) (fun h55 => ?_)
        · refine v_aload_n X 0 rfl dX6_turn_67 ?_
          refine gf_X6_16 X dX6_turn_68 ?_
          refine v_iload_n X 1 rfl dX6_turn_71 ?_
          refine v_iald_n X dl_33 (fun _ _ => rfl) (n := 12) (by omega) (by decide) dX6_turn_72 ?_
          refine v_eqi (y := (nI (co t))) (hct) ?_
          refine v_eqi (y := (nI mm)) (congrArg nI (hnp h55).2.symm) ?_
          refine v_istore X [1, 2, 3, 4, 0] (lv' := [(0, .ref (eA (vE a) 30 0)), (1, .int (nI t)), (2, .int (nI n')), (3, .int (nI nn)), (4, .int (nI mm))]) (by decide) rfl dX6_turn_73 ?_
          refine v_iconst X (v := (nI 0)) dX6_turn_75 (by decide) ?_
          refine v_istore X [1, 2, 3, 4, 5, 0] (lv' := [(0, .ref (eA (vE a) 30 0)), (1, .int (nI t)), (2, .int (nI n')), (3, .int (nI nn)), (4, .int (nI mm)), (5, .int (nI 0))]) (by decide) rfl dX6_turn_76 ?_
          have loop78 : ∀ (fu : Nat) (i : Nat) (L1 : TL), 6 - i < fu → (i ≤ nn) → (FL [(43, 0)] L L1) → (NX L1 mm i 0 (fun a b => (I 31 0 (25 * t + 5 * (if n' = 0 then b else ro t - 1 - a) + (if n' = 0 then a else if n' = 1 then co t - 1 - b else b))).toInt64)) → V a 78 [(0, .ref (eA (vE a) 30 0)), (1, .int (nI t)), (2, .int (nI n')), (3, .int (nI nn)), (4, .int (nI mm)), (5, .int (nI i))] [] I L1 := by
            intro fu
            induction fu with
            | zero => intro i L1 hm _ _ _; exact absurd hm (Nat.not_lt_zero _)
            | succ fu ih78 =>
              intro i L1 hm78 hi hFL hN
              refine v_iload X 5 rfl dX6_turn_78 ?_
              refine v_iload_n X 3 rfl dX6_turn_80 ?_
              refine v_icmp_ge_n X (by omega) (by omega) dX6_turn_81 (tgt := 177) (by decide) (fun h81 => ?_) (fun h81 => ?_)
              · refine v_aload_n X 0 rfl dX6_turn_177 ?_
                refine v_iload_n X 3 rfl dX6_turn_178 ?_
                refine v_iload X 4 rfl dX6_turn_179 ?_
                refine v_iconst X (v := (nI 3)) dX6_turn_181 (by decide) ?_
                refine v_callV X (c_X6_comes _ _ hE _ _ c ro co hT nn mm (by omega) (by omega) (by omega) (nI 3)) k_X6_160 dl_30 (cef_30 _ _ _ _) rfl ⟨rfl, rfl, Nat.le_of_ble_eq_true rfl, Nat.le_of_ble_eq_true rfl⟩ (As := [.int (nI nn), .int (nI mm), .int (nI 3)]) (rest := []) rfl rfl (Nat.le_of_ble_eq_true rfl) dX6_turn_182 (fun r182 I182 L182 hp182 => ?_)
                obtain ⟨hres0, e2⟩ := hp182
                have e2 := e2.symm
                subst e2
                have hres := ResM.cg (fun a b ha hb => hN a b hb (by omega)) hres0
                obtain ⟨x9, rfl⟩ := hres.val
                refine v_st (st' := [.int x9]) rfl ?_
                exact v_iret X Y dX6_turn_185 (Or.inr ⟨t, htt, rfl, Or.inr ⟨n', hn2, rfl, by rw [← hnn, ← hmm]; exact hres, hFL⟩⟩)
              · refine v_iconst X (v := (nI 0)) dX6_turn_84 (by decide) ?_
                refine v_istore X [1, 2, 3, 4, 5, 6, 0] (lv' := [(0, .ref (eA (vE a) 30 0)), (1, .int (nI t)), (2, .int (nI n')), (3, .int (nI nn)), (4, .int (nI mm)), (5, .int (nI i)), (6, .int (nI 0))]) (by decide) rfl dX6_turn_85 ?_
                have loop87 : ∀ (fu : Nat) (j : Nat) (L1 : TL), 6 - j < fu → (j ≤ mm) → (FL [(43, 0)] L L1) → (NX L1 mm i j (fun a b => (I 31 0 (25 * t + 5 * (if n' = 0 then b else ro t - 1 - a) + (if n' = 0 then a else if n' = 1 then co t - 1 - b else b))).toInt64)) → V a 87 [(0, .ref (eA (vE a) 30 0)), (1, .int (nI t)), (2, .int (nI n')), (3, .int (nI nn)), (4, .int (nI mm)), (5, .int (nI i)), (6, .int (nI j))] [] I L1 := by
                  intro fu
                  induction fu with
                  | zero => intro j L1 hm _ _ _; exact absurd hm (Nat.not_lt_zero _)
                  | succ fu ih87 =>
                    intro j L1 hm87 hj hFL hN
                    refine v_iload X 6 rfl dX6_turn_87 ?_
                    refine v_iload X 4 rfl dX6_turn_89 ?_
                    refine v_icmp_ge_n X (by omega) (by omega) dX6_turn_91 (tgt := 171) (by decide) (fun h91 => ?_) (fun h91 => ?_)
                    · refine v_iinc X [1, 2, 3, 4, 5, 0, 6] 5 (nI (i + 1)) (lv' := [(0, .ref (eA (vE a) 30 0)), (1, .int (nI t)), (2, .int (nI n')), (3, .int (nI nn)), (4, .int (nI mm)), (5, .int (nI (i + 1))), (6, .int (nI j))]) rfl (nI_1 _) (by decide) rfl dX6_turn_171 ?_
                      refine v_goto X (tgt := 78) dX6_turn_174 (by decide) ?_
                      refine v_sub [0, 1, 2, 3, 4, 5] (lv' := [(0, .ref (eA (vE a) 30 0)), (1, .int (nI t)), (2, .int (nI n')), (3, .int (nI nn)), (4, .int (nI mm)), (5, .int (nI (i + 1)))]) rfl ?_
                      exact ih78 (i + 1) L1 (by omega) (by omega) hFL (hN.row (by omega))
                    · have hb1 : 0 < n' → nn = ro t ∧ mm = co t := hnp
                      have hb0 : n' = 0 → nn = co t ∧ mm = ro t := hnz
                      refine v_iload_n X 2 rfl dX6_turn_94 ?_
                      refine v_if_ne_n X (by omega) dX6_turn_95 (tgt := 103) (by decide) (fun h95 => ?_) (fun h95 => ?_)
                      · refine v_iload_n X 3 rfl dX6_turn_103 ?_
                        refine v_iconst X (v := (nI 1)) dX6_turn_104 (by decide) ?_
                        refine v_isub X dX6_turn_105 ?_
                        refine v_eqi (y := (nI (nn - 1))) (pk_sub (by omega)) ?_
                        refine v_iload X 5 rfl dX6_turn_106 ?_
                        refine v_isub X dX6_turn_108 ?_
                        refine v_eqi (y := (nI ((nn - 1) - i))) (pk_sub (by omega)) ?_
                        refine v_istore X [1, 2, 3, 4, 5, 6, 7, 0] (lv' := [(0, .ref (eA (vE a) 30 0)), (1, .int (nI t)), (2, .int (nI n')), (3, .int (nI nn)), (4, .int (nI mm)), (5, .int (nI i)), (6, .int (nI j)), (7, .int (nI ((nn - 1) - i)))]) (by decide) rfl dX6_turn_109 ?_
                        refine v_iload_n X 2 rfl dX6_turn_111 ?_
                        refine v_if_ne_n X (by omega) dX6_turn_112 (tgt := 120) (by decide) (fun h112 => ?_) (fun h112 => ?_)
                        · refine v_iload_n X 2 rfl dX6_turn_120 ?_
                          refine v_iconst X (v := (nI 1)) dX6_turn_121 (by decide) ?_
                          refine v_icmp_ne_n X (by omega) (by omega) dX6_turn_122 (tgt := 135) (by decide) (fun h122 => ?_) (fun h122 => ?_)
                          · refine v_iload X 6 rfl dX6_turn_135 ?_
                            refine v_istore X [1, 2, 3, 4, 5, 6, 7, 8, 0] (lv' := [(0, .ref (eA (vE a) 30 0)), (1, .int (nI t)), (2, .int (nI n')), (3, .int (nI nn)), (4, .int (nI mm)), (5, .int (nI i)), (6, .int (nI j)), (7, .int (nI ((nn - 1) - i))), (8, .int (nI j))]) (by decide) rfl dX6_turn_137 ?_
                            have hx7 : ((nn - 1) - i) < 5 ∧ j < 5 := by
                              rcases Nat.eq_zero_or_pos n' with z | z
                              · have := hnz z; omega
                              · have := hnp z; omega
                            refine v_aload_n X 0 rfl dX6_turn_139 ?_
                            refine gf_X6_47 X dX6_turn_140 ?_
                            refine v_iconst X (v := (nI 5)) dX6_turn_143 (by decide) ?_
                            refine v_iload X 5 rfl dX6_turn_144 ?_
                            refine v_imul X dX6_turn_146 ?_
                            refine v_eqi (y := (nI (5 * i))) (pk_mul _ _) ?_
                            refine v_iload X 6 rfl dX6_turn_147 ?_
                            refine v_iadd X dX6_turn_149 ?_
                            refine v_eqi (y := (nI ((5 * i) + j))) (nI_add _ _) ?_
                            refine v_aload_n X 0 rfl dX6_turn_150 ?_
                            refine gf_X6_7 X dX6_turn_151 ?_
                            refine v_iload_n X 1 rfl dX6_turn_154 ?_
                            refine v_iload X 7 rfl dX6_turn_155 ?_
                            refine v_iload X 8 rfl dX6_turn_157 ?_
                            refine v_callS X (c_X6_place _ _ hE _ _ t ((nn - 1) - i) j) k_X6_113 ⟨rfl, rfl, Nat.le_of_ble_eq_true rfl, Nat.le_of_ble_eq_true rfl⟩ (As := [.int (nI t), .int (nI ((nn - 1) - i)), .int (nI j)]) (rest := [.ref (eA (vE a) 31 0), .int (nI ((5 * i) + j)), .ref (eA (vE a) 43 0)]) rfl rfl (Nat.le_of_ble_eq_true rfl) dX6_turn_159 (fun r159 I159 L159 hp159 => ?_)
                            obtain ⟨rfl, e1, e2⟩ := hp159
                            have e1 := e1.symm
                            have e2 := e2.symm
                            subst e1; subst e2
                            refine v_st (st' := [.int (nI (25 * t + 5 * ((nn - 1) - i) + j)), .ref (eA (vE a) 31 0), .int (nI ((5 * i) + j)), .ref (eA (vE a) 43 0)]) rfl ?_
                            refine v_iald_n X dl_31 (fun _ _ => rfl) (n := 300) (by omega) (by decide) dX6_turn_162 ?_
                            refine v_i2l X dX6_turn_163 rfl ?_
                            refine v_last_n X dl_43 (fun _ _ => rfl) (n := 25) (by omega) (by decide) dX6_turn_164 ?_
                            refine v_iinc X [1, 2, 3, 4, 5, 6, 0, 7, 8] 6 (nI (j + 1)) (lv' := [(0, .ref (eA (vE a) 30 0)), (1, .int (nI t)), (2, .int (nI n')), (3, .int (nI nn)), (4, .int (nI mm)), (5, .int (nI i)), (6, .int (nI (j + 1))), (7, .int (nI ((nn - 1) - i))), (8, .int (nI j))]) rfl (nI_1 _) (by decide) rfl dX6_turn_165 ?_
                            refine v_goto X (tgt := 87) dX6_turn_168 (by decide) ?_
                            refine v_sub [0, 1, 2, 3, 4, 5, 6] (lv' := [(0, .ref (eA (vE a) 30 0)), (1, .int (nI t)), (2, .int (nI n')), (3, .int (nI nn)), (4, .int (nI mm)), (5, .int (nI i)), (6, .int (nI (j + 1)))]) rfl ?_
                            exact ih87 (j + 1) (upL L1 43 0 ((5 * i) + j) ((I 31 0 (25 * t + 5 * ((nn - 1) - i) + j)).toInt64)) (by omega) (by omega) (hFL.up (by simp)) (hN.put (by omega) (by omega) (by rw [if_neg (by omega), if_neg (by omega), if_neg (by omega), (hnp (by omega)).1]))
                          · refine v_iload X 4 rfl dX6_turn_125 ?_
                            refine v_iconst X (v := (nI 1)) dX6_turn_127 (by decide) ?_
                            refine v_isub X dX6_turn_128 ?_
                            refine v_eqi (y := (nI (mm - 1))) (pk_sub (by omega)) ?_
                            refine v_iload X 6 rfl dX6_turn_129 ?_
                            refine v_isub X dX6_turn_131 ?_
                            refine v_eqi (y := (nI ((mm - 1) - j))) (pk_sub (by omega)) ?_
                            refine v_goto X (tgt := 137) dX6_turn_132 (by decide) ?_
                            refine v_istore X [1, 2, 3, 4, 5, 6, 7, 8, 0] (lv' := [(0, .ref (eA (vE a) 30 0)), (1, .int (nI t)), (2, .int (nI n')), (3, .int (nI nn)), (4, .int (nI mm)), (5, .int (nI i)), (6, .int (nI j)), (7, .int (nI ((nn - 1) - i))), (8, .int (nI ((mm - 1) - j)))]) (by decide) rfl dX6_turn_137 ?_
                            have hx7 : ((nn - 1) - i) < 5 ∧ ((mm - 1) - j) < 5 := by
                              rcases Nat.eq_zero_or_pos n' with z | z
                              · have := hnz z; omega
                              · have := hnp z; omega
                            refine v_aload_n X 0 rfl dX6_turn_139 ?_
                            refine gf_X6_47 X dX6_turn_140 ?_
                            refine v_iconst X (v := (nI 5)) dX6_turn_143 (by decide) ?_
                            refine v_iload X 5 rfl dX6_turn_144 ?_
                            refine v_imul X dX6_turn_146 ?_
                            refine v_eqi (y := (nI (5 * i))) (pk_mul _ _) ?_
                            refine v_iload X 6 rfl dX6_turn_147 ?_
                            refine v_iadd X dX6_turn_149 ?_
                            refine v_eqi (y := (nI ((5 * i) + j))) (nI_add _ _) ?_
                            refine v_aload_n X 0 rfl dX6_turn_150 ?_
                            refine gf_X6_7 X dX6_turn_151 ?_
                            refine v_iload_n X 1 rfl dX6_turn_154 ?_
                            refine v_iload X 7 rfl dX6_turn_155 ?_
                            refine v_iload X 8 rfl dX6_turn_157 ?_
                            refine v_callS X (c_X6_place _ _ hE _ _ t ((nn - 1) - i) ((mm - 1) - j)) k_X6_113 ⟨rfl, rfl, Nat.le_of_ble_eq_true rfl, Nat.le_of_ble_eq_true rfl⟩ (As := [.int (nI t), .int (nI ((nn - 1) - i)), .int (nI ((mm - 1) - j))]) (rest := [.ref (eA (vE a) 31 0), .int (nI ((5 * i) + j)), .ref (eA (vE a) 43 0)]) rfl rfl (Nat.le_of_ble_eq_true rfl) dX6_turn_159 (fun r159 I159 L159 hp159 => ?_)
                            obtain ⟨rfl, e1, e2⟩ := hp159
                            have e1 := e1.symm
                            have e2 := e2.symm
                            subst e1; subst e2
                            refine v_st (st' := [.int (nI (25 * t + 5 * ((nn - 1) - i) + ((mm - 1) - j))), .ref (eA (vE a) 31 0), .int (nI ((5 * i) + j)), .ref (eA (vE a) 43 0)]) rfl ?_
                            refine v_iald_n X dl_31 (fun _ _ => rfl) (n := 300) (by omega) (by decide) dX6_turn_162 ?_
                            refine v_i2l X dX6_turn_163 rfl ?_
                            refine v_last_n X dl_43 (fun _ _ => rfl) (n := 25) (by omega) (by decide) dX6_turn_164 ?_
                            refine v_iinc X [1, 2, 3, 4, 5, 6, 0, 7, 8] 6 (nI (j + 1)) (lv' := [(0, .ref (eA (vE a) 30 0)), (1, .int (nI t)), (2, .int (nI n')), (3, .int (nI nn)), (4, .int (nI mm)), (5, .int (nI i)), (6, .int (nI (j + 1))), (7, .int (nI ((nn - 1) - i))), (8, .int (nI ((mm - 1) - j)))]) rfl (nI_1 _) (by decide) rfl dX6_turn_165 ?_
                            refine v_goto X (tgt := 87) dX6_turn_168 (by decide) ?_
                            refine v_sub [0, 1, 2, 3, 4, 5, 6] (lv' := [(0, .ref (eA (vE a) 30 0)), (1, .int (nI t)), (2, .int (nI n')), (3, .int (nI nn)), (4, .int (nI mm)), (5, .int (nI i)), (6, .int (nI (j + 1)))]) rfl ?_
                            exact ih87 (j + 1) (upL L1 43 0 ((5 * i) + j) ((I 31 0 (25 * t + 5 * ((nn - 1) - i) + ((mm - 1) - j))).toInt64)) (by omega) (by omega) (hFL.up (by simp)) (hN.put (by omega) (by omega) (by rw [if_neg (by omega), if_neg (by omega), if_pos (by omega), (hnp (by omega)).1, (hnp (by omega)).2]))
                        · exact absurd h112 (by omega)
                      · exact absurd h95 (by omega)
                exact loop87 _ 0 L1 (Nat.lt_succ_self _) (Nat.zero_le _) hFL hN
          exact loop78 _ 0 L (Nat.lt_succ_self _) (Nat.zero_le _) FL.rf NX.ini
        · exact absurd h55 (by omega)
      · refine v_aload_n X 0 rfl dX6_turn_38 ?_
        refine gf_X6_16 X dX6_turn_39 ?_
        refine v_iload_n X 1 rfl dX6_turn_42 ?_
        refine v_iald_n X dl_33 (fun _ _ => rfl) (n := 12) (by omega) (by decide) dX6_turn_43 ?_
        refine v_eqi (y := (nI (co t))) (hct) ?_
        refine v_goto X (tgt := 53) dX6_turn_44 (by decide) ?_
        refine v_eqi (y := (nI nn)) (congrArg nI (hnz h35).1.symm) ?_
        refine v_istore_n X [1, 2, 3, 0] (lv' := [(0, .ref (eA (vE a) 30 0)), (1, .int (nI t)), (2, .int (nI n')), (3, .int (nI nn))]) (by decide) rfl dX6_turn_53 ?_
        refine v_iload_n X 2 rfl dX6_turn_54 ?_
        refine v_if_ne_n X (by omega) dX6_turn_55 (tgt := 67) (by decide) (fun h55 => ?_) (fun h55 => ?_)
        · exact absurd h55 (by omega)
        · refine v_aload_n X 0 rfl dX6_turn_58 ?_
          refine gf_X6_13 X dX6_turn_59 ?_
          refine v_iload_n X 1 rfl dX6_turn_62 ?_
          refine v_iald_n X dl_32 (fun _ _ => rfl) (n := 12) (by omega) (by decide) dX6_turn_63 ?_
          refine v_eqi (y := (nI (ro t))) (hrt) ?_
          refine v_goto X (tgt := 73) dX6_turn_64 (by decide) ?_
          refine v_eqi (y := (nI mm)) (congrArg nI (hnz h55).2.symm) ?_
          refine v_istore X [1, 2, 3, 4, 0] (lv' := [(0, .ref (eA (vE a) 30 0)), (1, .int (nI t)), (2, .int (nI n')), (3, .int (nI nn)), (4, .int (nI mm))]) (by decide) rfl dX6_turn_73 ?_
          refine v_iconst X (v := (nI 0)) dX6_turn_75 (by decide) ?_
          refine v_istore X [1, 2, 3, 4, 5, 0] (lv' := [(0, .ref (eA (vE a) 30 0)), (1, .int (nI t)), (2, .int (nI n')), (3, .int (nI nn)), (4, .int (nI mm)), (5, .int (nI 0))]) (by decide) rfl dX6_turn_76 ?_
          have loop78 : ∀ (fu : Nat) (i : Nat) (L1 : TL), 6 - i < fu → (i ≤ nn) → (FL [(43, 0)] L L1) → (NX L1 mm i 0 (fun a b => (I 31 0 (25 * t + 5 * (if n' = 0 then b else ro t - 1 - a) + (if n' = 0 then a else if n' = 1 then co t - 1 - b else b))).toInt64)) → V a 78 [(0, .ref (eA (vE a) 30 0)), (1, .int (nI t)), (2, .int (nI n')), (3, .int (nI nn)), (4, .int (nI mm)), (5, .int (nI i))] [] I L1 := by
            intro fu
            induction fu with
            | zero => intro i L1 hm _ _ _; exact absurd hm (Nat.not_lt_zero _)
            | succ fu ih78 =>
              intro i L1 hm78 hi hFL hN
              refine v_iload X 5 rfl dX6_turn_78 ?_
              refine v_iload_n X 3 rfl dX6_turn_80 ?_
              refine v_icmp_ge_n X (by omega) (by omega) dX6_turn_81 (tgt := 177) (by decide) (fun h81 => ?_) (fun h81 => ?_)
              · refine v_aload_n X 0 rfl dX6_turn_177 ?_
                refine v_iload_n X 3 rfl dX6_turn_178 ?_
                refine v_iload X 4 rfl dX6_turn_179 ?_
                refine v_iconst X (v := (nI 3)) dX6_turn_181 (by decide) ?_
                refine v_callV X (c_X6_comes _ _ hE _ _ c ro co hT nn mm (by omega) (by omega) (by omega) (nI 3)) k_X6_160 dl_30 (cef_30 _ _ _ _) rfl ⟨rfl, rfl, Nat.le_of_ble_eq_true rfl, Nat.le_of_ble_eq_true rfl⟩ (As := [.int (nI nn), .int (nI mm), .int (nI 3)]) (rest := []) rfl rfl (Nat.le_of_ble_eq_true rfl) dX6_turn_182 (fun r182 I182 L182 hp182 => ?_)
                obtain ⟨hres0, e2⟩ := hp182
                have e2 := e2.symm
                subst e2
                have hres := ResM.cg (fun a b ha hb => hN a b hb (by omega)) hres0
                obtain ⟨x9, rfl⟩ := hres.val
                refine v_st (st' := [.int x9]) rfl ?_
                exact v_iret X Y dX6_turn_185 (Or.inr ⟨t, htt, rfl, Or.inr ⟨n', hn2, rfl, by rw [← hnn, ← hmm]; exact hres, hFL⟩⟩)
              · refine v_iconst X (v := (nI 0)) dX6_turn_84 (by decide) ?_
                refine v_istore X [1, 2, 3, 4, 5, 6, 0] (lv' := [(0, .ref (eA (vE a) 30 0)), (1, .int (nI t)), (2, .int (nI n')), (3, .int (nI nn)), (4, .int (nI mm)), (5, .int (nI i)), (6, .int (nI 0))]) (by decide) rfl dX6_turn_85 ?_
                have loop87 : ∀ (fu : Nat) (j : Nat) (L1 : TL), 6 - j < fu → (j ≤ mm) → (FL [(43, 0)] L L1) → (NX L1 mm i j (fun a b => (I 31 0 (25 * t + 5 * (if n' = 0 then b else ro t - 1 - a) + (if n' = 0 then a else if n' = 1 then co t - 1 - b else b))).toInt64)) → V a 87 [(0, .ref (eA (vE a) 30 0)), (1, .int (nI t)), (2, .int (nI n')), (3, .int (nI nn)), (4, .int (nI mm)), (5, .int (nI i)), (6, .int (nI j))] [] I L1 := by
                  intro fu
                  induction fu with
                  | zero => intro j L1 hm _ _ _; exact absurd hm (Nat.not_lt_zero _)
                  | succ fu ih87 =>
                    intro j L1 hm87 hj hFL hN
                    refine v_iload X 6 rfl dX6_turn_87 ?_
                    refine v_iload X 4 rfl dX6_turn_89 ?_
                    refine v_icmp_ge_n X (by omega) (by omega) dX6_turn_91 (tgt := 171) (by decide) (fun h91 => ?_) (fun h91 => ?_)
                    · refine v_iinc X [1, 2, 3, 4, 5, 0, 6] 5 (nI (i + 1)) (lv' := [(0, .ref (eA (vE a) 30 0)), (1, .int (nI t)), (2, .int (nI n')), (3, .int (nI nn)), (4, .int (nI mm)), (5, .int (nI (i + 1))), (6, .int (nI j))]) rfl (nI_1 _) (by decide) rfl dX6_turn_171 ?_
                      refine v_goto X (tgt := 78) dX6_turn_174 (by decide) ?_
                      refine v_sub [0, 1, 2, 3, 4, 5] (lv' := [(0, .ref (eA (vE a) 30 0)), (1, .int (nI t)), (2, .int (nI n')), (3, .int (nI nn)), (4, .int (nI mm)), (5, .int (nI (i + 1)))]) rfl ?_
                      exact ih78 (i + 1) L1 (by omega) (by omega) hFL (hN.row (by omega))
                    · have hb1 : 0 < n' → nn = ro t ∧ mm = co t := hnp
                      have hb0 : n' = 0 → nn = co t ∧ mm = ro t := hnz
                      refine v_iload_n X 2 rfl dX6_turn_94 ?_
                      refine v_if_ne_n X (by omega) dX6_turn_95 (tgt := 103) (by decide) (fun h95 => ?_) (fun h95 => ?_)
                      · exact absurd h95 (by omega)
                      · refine v_iload X 6 rfl dX6_turn_98 ?_
                        refine v_goto X (tgt := 109) dX6_turn_100 (by decide) ?_
                        refine v_istore X [1, 2, 3, 4, 5, 6, 7, 0] (lv' := [(0, .ref (eA (vE a) 30 0)), (1, .int (nI t)), (2, .int (nI n')), (3, .int (nI nn)), (4, .int (nI mm)), (5, .int (nI i)), (6, .int (nI j)), (7, .int (nI j))]) (by decide) rfl dX6_turn_109 ?_
                        refine v_iload_n X 2 rfl dX6_turn_111 ?_
                        refine v_if_ne_n X (by omega) dX6_turn_112 (tgt := 120) (by decide) (fun h112 => ?_) (fun h112 => ?_)
                        · exact absurd h112 (by omega)
                        · refine v_iload X 5 rfl dX6_turn_115 ?_
                          refine v_goto X (tgt := 137) dX6_turn_117 (by decide) ?_
                          refine v_istore X [1, 2, 3, 4, 5, 6, 7, 8, 0] (lv' := [(0, .ref (eA (vE a) 30 0)), (1, .int (nI t)), (2, .int (nI n')), (3, .int (nI nn)), (4, .int (nI mm)), (5, .int (nI i)), (6, .int (nI j)), (7, .int (nI j)), (8, .int (nI i))]) (by decide) rfl dX6_turn_137 ?_
                          have hx7 : j < 5 ∧ i < 5 := by
                            rcases Nat.eq_zero_or_pos n' with z | z
                            · have := hnz z; omega
                            · have := hnp z; omega
                          refine v_aload_n X 0 rfl dX6_turn_139 ?_
                          refine gf_X6_47 X dX6_turn_140 ?_
                          refine v_iconst X (v := (nI 5)) dX6_turn_143 (by decide) ?_
                          refine v_iload X 5 rfl dX6_turn_144 ?_
                          refine v_imul X dX6_turn_146 ?_
                          refine v_eqi (y := (nI (5 * i))) (pk_mul _ _) ?_
                          refine v_iload X 6 rfl dX6_turn_147 ?_
                          refine v_iadd X dX6_turn_149 ?_
                          refine v_eqi (y := (nI ((5 * i) + j))) (nI_add _ _) ?_
                          refine v_aload_n X 0 rfl dX6_turn_150 ?_
                          refine gf_X6_7 X dX6_turn_151 ?_
                          refine v_iload_n X 1 rfl dX6_turn_154 ?_
                          refine v_iload X 7 rfl dX6_turn_155 ?_
                          refine v_iload X 8 rfl dX6_turn_157 ?_
                          refine v_callS X (c_X6_place _ _ hE _ _ t j i) k_X6_113 ⟨rfl, rfl, Nat.le_of_ble_eq_true rfl, Nat.le_of_ble_eq_true rfl⟩ (As := [.int (nI t), .int (nI j), .int (nI i)]) (rest := [.ref (eA (vE a) 31 0), .int (nI ((5 * i) + j)), .ref (eA (vE a) 43 0)]) rfl rfl (Nat.le_of_ble_eq_true rfl) dX6_turn_159 (fun r159 I159 L159 hp159 => ?_)
                          obtain ⟨rfl, e1, e2⟩ := hp159
                          have e1 := e1.symm
                          have e2 := e2.symm
                          subst e1; subst e2
                          refine v_st (st' := [.int (nI (25 * t + 5 * j + i)), .ref (eA (vE a) 31 0), .int (nI ((5 * i) + j)), .ref (eA (vE a) 43 0)]) rfl ?_
                          refine v_iald_n X dl_31 (fun _ _ => rfl) (n := 300) (by omega) (by decide) dX6_turn_162 ?_
                          refine v_i2l X dX6_turn_163 rfl ?_
                          refine v_last_n X dl_43 (fun _ _ => rfl) (n := 25) (by omega) (by decide) dX6_turn_164 ?_
                          refine v_iinc X [1, 2, 3, 4, 5, 6, 0, 7, 8] 6 (nI (j + 1)) (lv' := [(0, .ref (eA (vE a) 30 0)), (1, .int (nI t)), (2, .int (nI n')), (3, .int (nI nn)), (4, .int (nI mm)), (5, .int (nI i)), (6, .int (nI (j + 1))), (7, .int (nI j)), (8, .int (nI i))]) rfl (nI_1 _) (by decide) rfl dX6_turn_165 ?_
                          refine v_goto X (tgt := 87) dX6_turn_168 (by decide) ?_
                          refine v_sub [0, 1, 2, 3, 4, 5, 6] (lv' := [(0, .ref (eA (vE a) 30 0)), (1, .int (nI t)), (2, .int (nI n')), (3, .int (nI nn)), (4, .int (nI mm)), (5, .int (nI i)), (6, .int (nI (j + 1)))]) rfl ?_
                          exact ih87 (j + 1) (upL L1 43 0 ((5 * i) + j) ((I 31 0 (25 * t + 5 * j + i)).toInt64)) (by omega) (by omega) (hFL.up (by simp)) (hN.put (by omega) (by omega) (by rw [if_pos h95, if_pos h95]))
                exact loop87 _ 0 L1 (Nat.lt_succ_self _) (Nat.zero_le _) hFL hN
          exact loop78 _ 0 L (Nat.lt_succ_self _) (Nat.zero_le _) FL.rf NX.ini
    · refine v_aload_n X 0 rfl dX6_turn_27 ?_
      refine v_bipush X (v := (-7)) dX6_turn_28 (by decide) ?_
      refine v_callV X (c_X6_no _ _ hE _ _ 7 (by decide) (by decide)) k_X6_80 dl_30 (cef_30 _ _ _ _) rfl ⟨rfl, rfl, Nat.le_of_ble_eq_true rfl, Nat.le_of_ble_eq_true rfl⟩ (As := [.int (-7)]) (rest := []) rfl rfl (Nat.le_of_ble_eq_true rfl) dX6_turn_30 (fun r30 I30 L30 hp30 => ?_)
      obtain ⟨rfl, e1, e2⟩ := hp30
      have e1 := e1.symm
      have e2 := e2.symm
      subst e1; subst e2
      refine v_st (st' := [.int (-7)]) rfl ?_
      exact v_iret X Y dX6_turn_33 (Or.inr ⟨t, htt, rfl, Or.inl ⟨fun q => h24 (in_H.mpr q), ⟨rfl, rfl⟩, rfl⟩⟩)
  · refine v_aload_n X 0 rfl dX6_turn_8 ?_
    refine v_bipush X (v := (-3)) dX6_turn_9 (by decide) ?_
    refine v_callV X (c_X6_no _ _ hE _ _ 3 (by decide) (by decide)) k_X6_80 dl_30 (cef_30 _ _ _ _) rfl ⟨rfl, rfl, Nat.le_of_ble_eq_true rfl, Nat.le_of_ble_eq_true rfl⟩ (As := [.int (-3)]) (rest := []) rfl rfl (Nat.le_of_ble_eq_true rfl) dX6_turn_11 (fun r11 I11 L11 hp11 => ?_)
    obtain ⟨rfl, e1, e2⟩ := hp11
    have e1 := e1.symm
    have e2 := e2.symm
    subst e1; subst e2
    refine v_st (st' := [.int (-3)]) rfl ?_
    exact v_iret X Y dX6_turn_14 (Or.inl ⟨(fun q => h5 ((inR_T (by have := hT.2.1; omega)).mpr q)), ⟨rfl, rfl⟩, rfl⟩)
set_option maxHeartbeats 4000000 in
set_option maxRecDepth 100000 in
theorem c_X6_same (l : Launch) (E : VE) (hE : EOk E) (I : TI) (L : TL) (c : Nat) (ro co : Nat → Nat) (hT : MT I c ro co) (x y : Int32) : Ct l E yX6_same cX6_same 5 (some .int) rm_X6_same [.ref (eA E 30 0), .int x, .int y] I L (fun r I' L' => (¬ (isT c x ∧ isT c y) ∧ MEF I I' r 3 ∧ L' = L) ∨ (∃ t u, t < c ∧ u < c ∧ x = nI t ∧ y = nI u ∧ ((sameM I ro co t u ∧ r = some (.int (nI 1))) ∨ (¬ sameM I ro co t u ∧ r = some (.int (nI 0)))) ∧ I' = I ∧ L' = L)) := by
  refine ct_of (by decide +kernel) (Nat.le_of_ble_eq_true rfl) hE ?_
  intro a X Y hl hEE
  subst hl; subst hEE
  show V a 0 [(0, .ref (eA (vE a) 30 0)), (1, .int x), (2, .int y)] [] I L
  refine v_aload_n X 0 rfl dX6_same_0 ?_
  refine v_iload_n X 1 rfl dX6_same_1 ?_
  refine v_callV X (c_X6_isTable _ _ hE _ _ c (hT.1) x) k_X6_98 dl_30 (cef_30 _ _ _ _) rfl ⟨rfl, rfl, Nat.le_of_ble_eq_true rfl, Nat.le_of_ble_eq_true rfl⟩ (As := [.int x]) (rest := []) rfl rfl (Nat.le_of_ble_eq_true rfl) dX6_same_2 (fun r2 I2 L2 hp2 => ?_)
  obtain ⟨rfl, e1, e2⟩ := hp2
  have e1 := e1.symm
  have e2 := e2.symm
  subst e1; subst e2
  refine v_st (st' := [.int (bI (inR c x))]) rfl ?_
  refine v_ifb_eq X dX6_same_5 (tgt := 16) (by decide) (fun h5 => ?_) (fun h5 => ?_)
  · refine v_aload_n X 0 rfl dX6_same_16 ?_
    refine v_bipush X (v := (-3)) dX6_same_17 (by decide) ?_
    refine v_callV X (c_X6_no _ _ hE _ _ 3 (by decide) (by decide)) k_X6_80 dl_30 (cef_30 _ _ _ _) rfl ⟨rfl, rfl, Nat.le_of_ble_eq_true rfl, Nat.le_of_ble_eq_true rfl⟩ (As := [.int (-3)]) (rest := []) rfl rfl (Nat.le_of_ble_eq_true rfl) dX6_same_19 (fun r19 I19 L19 hp19 => ?_)
    obtain ⟨rfl, e1, e2⟩ := hp19
    have e1 := e1.symm
    have e2 := e2.symm
    subst e1; subst e2
    refine v_st (st' := [.int (-3)]) rfl ?_
    exact v_iret X Y dX6_same_22 (Or.inl ⟨fun q => (fun q => h5 ((inR_T (by have := hT.2.1; omega)).mpr q)) q.1, ⟨rfl, rfl⟩, rfl⟩)
  · obtain ⟨t, htt, rfl⟩ := inR_of (by have := hT.2.1; omega) h5
    have hc12 := hT.2.1
    obtain ⟨hrt, hct, hr1t, hr5t, hc1t, hc5t⟩ := hT.2.2 t htt
    have ht12t : t < 12 := by omega
    refine v_aload_n X 0 rfl dX6_same_8 ?_
    refine v_iload_n X 2 rfl dX6_same_9 ?_
    refine v_callV X (c_X6_isTable _ _ hE _ _ c (hT.1) y) k_X6_98 dl_30 (cef_30 _ _ _ _) rfl ⟨rfl, rfl, Nat.le_of_ble_eq_true rfl, Nat.le_of_ble_eq_true rfl⟩ (As := [.int y]) (rest := []) rfl rfl (Nat.le_of_ble_eq_true rfl) dX6_same_10 (fun r10 I10 L10 hp10 => ?_)
    obtain ⟨rfl, e1, e2⟩ := hp10
    have e1 := e1.symm
    have e2 := e2.symm
    subst e1; subst e2
    refine v_st (st' := [.int (bI (inR c y))]) rfl ?_
    refine v_ifb_ne X dX6_same_13 (tgt := 23) (by decide) (fun h13 => ?_) (fun h13 => ?_)
    · obtain ⟨u, htu, rfl⟩ := inR_of (by have := hT.2.1; omega) h13
      obtain ⟨hru, hcu, hr1u, hr5u, hc1u, hc5u⟩ := hT.2.2 u htu
      have ht12u : u < 12 := by omega
      refine v_aload_n X 0 rfl dX6_same_23 ?_
      refine v_iload_n X 1 rfl dX6_same_24 ?_
      refine v_iload_n X 2 rfl dX6_same_25 ?_
      refine v_callV X (c_X6_areAlike _ _ hE _ _ t u ht12t ht12u (ro t) (co t) (ro u) (co u) hrt hct hru hcu ⟨hr5t, hc5t, hr5u, hc5u⟩) k_X6_163 dl_30 (cef_30 _ _ _ _) rfl ⟨rfl, rfl, Nat.le_of_ble_eq_true rfl, Nat.le_of_ble_eq_true rfl⟩ (As := [.int (nI t), .int (nI u)]) (rest := []) rfl rfl (Nat.le_of_ble_eq_true rfl) dX6_same_26 (fun r26 I26 L26 hp26 => ?_)
      obtain ⟨rfl, e1, e2⟩ := hp26
      have e1 := e1.symm
      have e2 := e2.symm
      subst e1; subst e2
      refine v_st (st' := [.int (bI (ro t = ro u ∧ co t = co u))]) rfl ?_
      refine v_istore_n X [1, 2, 3, 0] (lv' := [(0, .ref (eA (vE a) 30 0)), (1, .int (nI t)), (2, .int (nI u)), (3, .int (bI (ro t = ro u ∧ co t = co u)))]) (by decide) rfl dX6_same_29 ?_
      obtain ⟨s0, es0, hs0⟩ := bI_nat (ro t = ro u ∧ co t = co u)
      refine v_lv (lv' := [(0, .ref (eA (vE a) 30 0)), (1, .int (nI t)), (2, .int (nI u)), (3, .int (nI s0))]) (by rw [es0]) ?_
      refine v_iconst X (v := (nI 0)) dX6_same_30 (by decide) ?_
      refine v_istore X [1, 2, 3, 4, 0] (lv' := [(0, .ref (eA (vE a) 30 0)), (1, .int (nI t)), (2, .int (nI u)), (3, .int (nI s0)), (4, .int (nI 0))]) (by decide) rfl dX6_same_31 ?_
      have loop33 : ∀ (fu : Nat) (k : Nat) (s9 : Nat), 26 - k < fu → (k ≤ 25) → ((s9 = 1 ∧ (ro t = ro u ∧ co t = co u) ∧ ∀ x, x < k → I 31 0 (25 * t + x) = I 31 0 (25 * u + x)) ∨ (s9 = 0 ∧ ¬ sameM I ro co t u)) → V a 33 [(0, .ref (eA (vE a) 30 0)), (1, .int (nI t)), (2, .int (nI u)), (3, .int (nI s9)), (4, .int (nI k))] [] I L := by
        intro fu
        induction fu with
        | zero => intro k s9 hm _ _; exact absurd hm (Nat.not_lt_zero _)
        | succ fu ih33 =>
          intro k s9 hm33 hk hs
          refine v_iload X 4 rfl dX6_same_33 ?_
          refine v_bipush X (v := (nI 25)) dX6_same_35 (by decide) ?_
          refine v_icmp_ge_n X (by omega) (by omega) dX6_same_37 (tgt := 83) (by decide) (fun h37 => ?_) (fun h37 => ?_)
          · refine v_iload_n X 3 rfl dX6_same_83 ?_
            refine v_if_eq_n X (by omega) dX6_same_84 (tgt := 91) (by decide) (fun h84 => ?_) (fun h84 => ?_)
            · refine v_iconst X (v := (nI 0)) dX6_same_91 (by decide) ?_
              exact v_iret X Y dX6_same_92 (Or.inr ⟨t, u, htt, htu, rfl, rfl, Or.inr ⟨(hs.resolve_left (by omega)).2, rfl⟩, rfl, rfl⟩)
            · refine v_iconst X (v := (nI 1)) dX6_same_87 (by decide) ?_
              refine v_goto X (tgt := 92) dX6_same_88 (by decide) ?_
              exact v_iret X Y dX6_same_92 (Or.inr ⟨t, u, htt, htu, rfl, rfl, Or.inl ⟨⟨(hs.resolve_right (by omega)).2.1, fun x hx => (hs.resolve_right (by omega)).2.2 x (by omega)⟩, rfl⟩, rfl, rfl⟩)
          · refine v_iload_n X 3 rfl dX6_same_40 ?_
            refine v_if_eq_n X (by omega) dX6_same_41 (tgt := 75) (by decide) (fun h41 => ?_) (fun h41 => ?_)
            · refine v_iconst X (v := (nI 0)) dX6_same_75 (by decide) ?_
              refine v_istore_n X [1, 2, 3, 0, 4] (lv' := [(0, .ref (eA (vE a) 30 0)), (1, .int (nI t)), (2, .int (nI u)), (3, .int (nI 0)), (4, .int (nI k))]) (by decide) rfl dX6_same_76 ?_
              refine v_iinc X [1, 2, 3, 4, 0] 4 (nI (k + 1)) (lv' := [(0, .ref (eA (vE a) 30 0)), (1, .int (nI t)), (2, .int (nI u)), (3, .int (nI 0)), (4, .int (nI (k + 1)))]) rfl (nI_1 _) (by decide) rfl dX6_same_77 ?_
              refine v_goto X (tgt := 33) dX6_same_80 (by decide) ?_
              exact ih33 (k + 1) 0 (by omega) (by omega) (Or.inr ⟨rfl, (hs.resolve_left (by omega)).2⟩)
            · refine v_aload_n X 0 rfl dX6_same_44 ?_
              refine gf_X6_7 X dX6_same_45 ?_
              refine v_bipush X (v := (nI 25)) dX6_same_48 (by decide) ?_
              refine v_iload_n X 1 rfl dX6_same_50 ?_
              refine v_imul X dX6_same_51 ?_
              refine v_eqi (y := (nI (25 * t))) (pk_mul _ _) ?_
              refine v_iload X 4 rfl dX6_same_52 ?_
              refine v_iadd X dX6_same_54 ?_
              refine v_eqi (y := (nI ((25 * t) + k))) (nI_add _ _) ?_
              refine v_iald_n X dl_31 (fun _ _ => rfl) (n := 300) (by omega) (by decide) dX6_same_55 ?_
              refine v_aload_n X 0 rfl dX6_same_56 ?_
              refine gf_X6_7 X dX6_same_57 ?_
              refine v_bipush X (v := (nI 25)) dX6_same_60 (by decide) ?_
              refine v_iload_n X 2 rfl dX6_same_62 ?_
              refine v_imul X dX6_same_63 ?_
              refine v_eqi (y := (nI (25 * u))) (pk_mul _ _) ?_
              refine v_iload X 4 rfl dX6_same_64 ?_
              refine v_iadd X dX6_same_66 ?_
              refine v_eqi (y := (nI ((25 * u) + k))) (nI_add _ _) ?_
              refine v_iald_n X dl_31 (fun _ _ => rfl) (n := 300) (by omega) (by decide) dX6_same_67 ?_
              refine v_icmp_ne X dX6_same_68 (tgt := 75) (by decide) (fun h68 => ?_) (fun h68 => ?_)
              · refine v_iconst X (v := (nI 0)) dX6_same_75 (by decide) ?_
                refine v_istore_n X [1, 2, 3, 0, 4] (lv' := [(0, .ref (eA (vE a) 30 0)), (1, .int (nI t)), (2, .int (nI u)), (3, .int (nI 0)), (4, .int (nI k))]) (by decide) rfl dX6_same_76 ?_
                refine v_iinc X [1, 2, 3, 4, 0] 4 (nI (k + 1)) (lv' := [(0, .ref (eA (vE a) 30 0)), (1, .int (nI t)), (2, .int (nI u)), (3, .int (nI 0)), (4, .int (nI (k + 1)))]) rfl (nI_1 _) (by decide) rfl dX6_same_77 ?_
                refine v_goto X (tgt := 33) dX6_same_80 (by decide) ?_
                exact ih33 (k + 1) 0 (by omega) (by omega) (Or.inr ⟨rfl, fun q => h68 (q.2 k (by omega))⟩)
              · refine v_iconst X (v := (nI 1)) dX6_same_71 (by decide) ?_
                refine v_goto X (tgt := 76) dX6_same_72 (by decide) ?_
                refine v_istore_n X [1, 2, 3, 0, 4] (lv' := [(0, .ref (eA (vE a) 30 0)), (1, .int (nI t)), (2, .int (nI u)), (3, .int (nI 1)), (4, .int (nI k))]) (by decide) rfl dX6_same_76 ?_
                refine v_iinc X [1, 2, 3, 4, 0] 4 (nI (k + 1)) (lv' := [(0, .ref (eA (vE a) 30 0)), (1, .int (nI t)), (2, .int (nI u)), (3, .int (nI 1)), (4, .int (nI (k + 1)))]) rfl (nI_1 _) (by decide) rfl dX6_same_77 ?_
                refine v_goto X (tgt := 33) dX6_same_80 (by decide) ?_
                exact ih33 (k + 1) 1 (by omega) (by omega) (Or.inl ⟨rfl, (hs.resolve_right (by omega)).2.1, fun x hx => by
                      rcases Nat.lt_or_ge x k with z | z
                      · exact (hs.resolve_right (by omega)).2.2 x z
                      · rw [show x = k by omega]; exact h68⟩)
      exact loop33 _ 0 s0 (Nat.lt_succ_self _) (Nat.zero_le _) (hs0.elim (fun q => Or.inl ⟨q.1, q.2, fun x h => absurd h (Nat.not_lt_zero _)⟩) (fun q => Or.inr ⟨q.1, fun z => q.2 z.1⟩))
    · refine v_aload_n X 0 rfl dX6_same_16 ?_
      refine v_bipush X (v := (-3)) dX6_same_17 (by decide) ?_
      refine v_callV X (c_X6_no _ _ hE _ _ 3 (by decide) (by decide)) k_X6_80 dl_30 (cef_30 _ _ _ _) rfl ⟨rfl, rfl, Nat.le_of_ble_eq_true rfl, Nat.le_of_ble_eq_true rfl⟩ (As := [.int (-3)]) (rest := []) rfl rfl (Nat.le_of_ble_eq_true rfl) dX6_same_19 (fun r19 I19 L19 hp19 => ?_)
      obtain ⟨rfl, e1, e2⟩ := hp19
      have e1 := e1.symm
      have e2 := e2.symm
      subst e1; subst e2
      refine v_st (st' := [.int (-3)]) rfl ?_
      exact v_iret X Y dX6_same_22 (Or.inl ⟨fun q => h13 ((inR_T (by have := hT.2.1; omega)).mpr q.2), ⟨rfl, rfl⟩, rfl⟩)
