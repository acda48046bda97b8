/-! the class and the model side by side -/
def Un (ks : List Nat) (ps : List (Nat × Nat)) (I I' : TI) : Prop := ∀ k j x, k ∉ ks → (k, x) ∉ ps → I' k j x = I k j x
def UL (ks : List Nat) (L L' : TL) : Prop := ∀ k j, k ∉ ks → L' k j = L k j
section RU
variable {ks ks2 : List Nat} {ps ps2 : List (Nat × Nat)} {I I1 I2 : TI} {L L1 L2 : TL}
theorem Un.rf : Un [] [] I I := fun _ _ _ _ _ => rfl
theorem UL.rf : UL [] L L := fun _ _ _ => rfl
theorem Un.tr (h : Un ks ps I I1) (g : Un ks2 ps2 I1 I2) : Un (ks ++ ks2) (ps ++ ps2) I I2 := fun k j x h1 h2 => (g k j x (fun q => h1 (List.mem_append_right _ q)) (fun q => h2 (List.mem_append_right _ q))).trans (h k j x (fun q => h1 (List.mem_append_left _ q)) (fun q => h2 (List.mem_append_left _ q)))
theorem UL.tr (h : UL ks L L1) (g : UL ks2 L1 L2) : UL (ks ++ ks2) L L2 := fun k j h1 => (g k j (fun q => h1 (List.mem_append_right _ q))).trans (h k j (fun q => h1 (List.mem_append_left _ q)))
theorem Un.fr {S : List (Nat × Nat)} (h : Fr S I I1) : Un (S.map (fun q => q.1)) [] I I1 := fun k j x h1 _ => h.at (fun q => h1 (List.mem_map.mpr ⟨_, q, rfl⟩)) x
theorem UL.fl {S : List (Nat × Nat)} (h : FL S L L1) : UL (S.map (fun q => q.1)) L L1 := fun k j h1 => h k j (fun q => h1 (List.mem_map.mpr ⟨_, q, rfl⟩))
theorem Un.up {k j x : Nat} {v : Int32} : Un [] [(k, x)] I (upI I k j x v) := fun k' j' x' _ h2 => by
  unfold upI
  rw [if_neg]
  rintro ⟨rfl, -, rfl⟩
  exact h2 (by simp)
theorem Un.upk {k j x : Nat} {v : Int32} : Un [k] [] I (upI I k j x v) := fun k' j' x' h1 _ => upI_k (fun e => h1 (by simp [e]))
theorem Un.kind (u : Un ks ps I I1) {k : Nat} (hk : k ∉ ks) (hp : ∀ p ∈ ps, p.1 ≠ k) (j : Nat) : I1 k j = I k j := funext fun x => u k j x hk (fun q => hp _ q rfl)
theorem Un.fr1 {S : List (Nat × Nat)} {xs : List Nat} {k0 : Nat} (h : Fr ((k0, 0) :: S) I I1) (hx : ∀ x, x ∉ xs → I1 k0 0 x = I k0 0 x) : Un (S.map (fun q => q.1)) (xs.map (fun x => (k0, x))) I I1 := fun k j x h1 h2 => by
  by_cases e : (k, j) = (k0, 0)
  · injection e with e1 e2
    subst e1; subst e2
    exact hx x (fun q => h2 (List.mem_map.mpr ⟨x, q, rfl⟩))
  · exact h.at (fun q => (List.mem_cons.mp q).elim e (fun q => h1 (List.mem_map.mpr ⟨_, q, rfl⟩))) x
def okK (ks : List Nat) (ps : List (Nat × Nat)) (l : List Nat) : Bool := l.all (fun k => decide (k ∉ ks) && ps.all (fun p => decide (p.1 ≠ k)))
def okP (ks : List Nat) (ps : List (Nat × Nat)) (l : List (Nat × Nat)) : Bool := l.all (fun p => decide (p.1 ∉ ks) && decide (p ∉ ps))
theorem Un.eks (u : Un ks ps I I1) {l : List Nat} (h : okK ks ps l = true) {k : Nat} (hk : k ∈ l) (j : Nat) : I1 k j = I k j := by
  have q := List.all_eq_true.mp h k hk
  rw [Bool.and_eq_true, decide_eq_true_eq, List.all_eq_true] at q
  exact u.kind q.1 (fun p hp => of_decide_eq_true (q.2 p hp)) j
theorem Un.eps (u : Un ks ps I I1) {l : List (Nat × Nat)} (h : okP ks ps l = true) {k x : Nat} (hk : (k, x) ∈ l) (j : Nat) : I1 k j x = I k j x := by
  have q := List.all_eq_true.mp h _ hk
  rw [Bool.and_eq_true, decide_eq_true_eq, decide_eq_true_eq] at q
  exact u k j x q.1 q.2
/-- nothing of the model is touched -/
def KM (I I1 : TI) (L L1 : TL) : Prop := (∀ k j, 30 ≤ k → I1 k j = I k j) ∧ ∀ k j, 30 ≤ k → L1 k j = L k j
def lowK (ks : List Nat) (ps : List (Nat × Nat)) (ls : List Nat) : Bool := ks.all (fun k => decide (k < 30)) && ps.all (fun p => decide (p.1 < 30)) && ls.all (fun k => decide (k < 30))
theorem KM.of {ls : List Nat} (u : Un ks ps I I1) (v : UL ls L L1) (h : lowK ks ps ls = true) : KM I I1 L L1 := by
  unfold lowK at h
  rw [Bool.and_eq_true, Bool.and_eq_true, List.all_eq_true, List.all_eq_true, List.all_eq_true] at h
  refine ⟨fun k j hk => u.kind (fun q => ?_) (fun p hp e => ?_) j, fun k j hk => v k j (fun q => ?_)⟩
  · have := of_decide_eq_true (h.1.1 k q); omega
  · have := of_decide_eq_true (h.1.2 p hp); omega
  · have := of_decide_eq_true (h.2 k q); omega
def TX (I : TI) (c : Nat) (ro co : Nat → Nat) : Prop := ∀ t, t < c → (∀ x, x < 25 → I 3 t x = I 31 0 (25 * t + x) ∧ nm (I 3 t x).toInt64) ∧ (∀ a b, a < 5 → b < 5 → ¬ (a < ro t ∧ b < co t) → I 3 t (5 * a + b) = nI 0) ∧ I 2 t 3 = I 34 0 t ∧ (I 2 t 3 = nI 1 → I 2 t 4 = I 35 0 t)
def RT (I : TI) (c : Nat) (ro co : Nat → Nat) : Prop := CT I c ro co ∧ MT I c ro co ∧ TX I c ro co
def RN (I : TI) (n : Nat) (ln sc : Nat → Nat) (kd pl wt : Nat → Nat → Nat) : Prop := CN I n ln sc kd pl wt ∧ MN I n ln sc kd pl wt
def RW (I : TI) (h : Nat) : Prop := h < 2 ∧ I 0 0 5 = nI h ∧ I 30 0 24 = nI h ∧ (0 < h → ∀ x, x < 16 → I 9 0 x = I 46 0 x ∧ nm (I 9 0 x).toInt64)
def RF (I : TI) : Prop := ∀ w, 2 ≤ w → w < 9 → I 11 0 w = I 41 0 w
def RS (I : TI) (L : TL) (S : SL) : Prop := repS I L S ∧ repSm I L S ∧ S.length ≤ 9
def RR (I : TI) (L : TL) : Prop := (∃ c ro co, RT I c ro co) ∧ (∃ n ln sc kd pl wt, RN I n ln sc kd pl wt) ∧ (∃ h, RW I h) ∧ RF I ∧ ∃ S, RS I L S
variable {c n h : Nat} {ro co ln sc : Nat → Nat} {kd pl wt : Nat → Nat → Nat} {S : SL}
theorem MT.km (h : MT I c ro co) (k : KM I I1 L L1) : MT I1 c ro co := by
  unfold MT
  rw [k.1 30 0 (by decide), k.1 32 0 (by decide), k.1 33 0 (by decide)]
  exact h
theorem MN.km (h : MN I n ln sc kd pl wt) (k : KM I I1 L L1) : MN I1 n ln sc kd pl wt := by
  unfold MN webM
  rw [k.1 30 0 (by decide), k.1 36 0 (by decide), k.1 37 0 (by decide), k.1 38 0 (by decide), k.1 39 0 (by decide), k.1 40 0 (by decide)]
  exact h
theorem repSm.km (h : repSm I L S) (k : KM I I1 L L1) : repSm I1 L1 S := repSm_fr h (by rw [k.1 30 0 (by decide)]) (k.1 52 0 (by decide)) (k.1 53 0 (by decide)) (k.2 50 0 (by decide)) (k.2 51 0 (by decide))
def okT (ks : List Nat) (ps : List (Nat × Nat)) : Bool := okK ks ps [2, 3, 31, 32, 33, 34, 35] && okP ks ps [(0, 1), (30, 5)]
def okN (ks : List Nat) (ps : List (Nat × Nat)) : Bool := okK ks ps [5, 6, 7, 8, 36, 37, 38, 39, 40] && okP ks ps [(0, 3), (30, 11)]
def okW (ks : List Nat) (ps : List (Nat × Nat)) : Bool := okK ks ps [9, 46] && okP ks ps [(0, 5), (30, 24)]
def okF (ks : List Nat) (ps : List (Nat × Nat)) : Bool := okK ks ps [11, 41]
def okS (ks : List Nat) (ps : List (Nat × Nat)) (ls : List Nat) : Bool := okK ks ps [18, 19, 52, 53] && okP ks ps [(17, 4), (30, 33)] && [20, 21, 50, 51].all (fun k => decide (k ∉ ls))
theorem CT.eq (h : CT I c ro co) (h0 : I1 0 0 1 = I 0 0 1) (h2 : ∀ t, t < c → I1 2 t = I 2 t) : CT I1 c ro co := by
  refine ⟨h0.trans h.1, h.2.1, fun t ht => ?_⟩
  rw [h2 t ht]
  exact h.2.2 t ht
theorem RT.un (h : RT I c ro co) (u : Un ks ps I I1) (ok : okT ks ps = true) : RT I1 c ro co := by
  unfold okT at ok
  rw [Bool.and_eq_true] at ok
  obtain ⟨h1, h2, h3⟩ := h
  refine ⟨h1.eq (u.eps ok.2 (by simp) 0) (fun t _ => u.eks ok.1 (by simp) t), ?_, ?_⟩
  · unfold MT
    rw [u.eps ok.2 (by simp) 0, u.eks ok.1 (k := 32) (by simp) 0, u.eks ok.1 (k := 33) (by simp) 0]
    exact h2
  · unfold TX
    intro t ht
    rw [u.eks ok.1 (k := 2) (by simp) t, u.eks ok.1 (k := 3) (by simp) t, u.eks ok.1 (k := 31) (by simp) 0, u.eks ok.1 (k := 34) (by simp) 0, u.eks ok.1 (k := 35) (by simp) 0]
    exact h3 t ht
theorem CN.eq (h : CN I n ln sc kd pl wt) (h0 : I1 0 0 3 = I 0 0 3) (hk : ∀ k w, k = 5 ∨ k = 6 ∨ k = 7 ∨ k = 8 → I1 k w = I k w) : CN I1 n ln sc kd pl wt := by
  refine ⟨h0.trans h.1, h.2.1, fun w hw => ?_⟩
  unfold webR
  rw [hk 5 w (by simp), hk 6 w (by simp), hk 7 w (by simp), hk 8 w (by simp)]
  exact h.2.2 w hw
theorem MN.eq (h : MN I n ln sc kd pl wt) (h0 : I1 30 0 11 = I 30 0 11) (hk : ∀ k, k = 36 ∨ k = 37 ∨ k = 38 ∨ k = 39 ∨ k = 40 → I1 k 0 = I k 0) : MN I1 n ln sc kd pl wt := by
  unfold MN webM
  rw [h0, hk 36 (by simp), hk 37 (by simp), hk 38 (by simp), hk 39 (by simp), hk 40 (by simp)]
  exact h
theorem RN.un (h : RN I n ln sc kd pl wt) (u : Un ks ps I I1) (ok : okN ks ps = true) : RN I1 n ln sc kd pl wt := by
  unfold okN at ok
  rw [Bool.and_eq_true] at ok
  exact ⟨h.1.eq (u.eps ok.2 (by simp) 0) (fun k w hk => by rcases hk with rfl | rfl | rfl | rfl <;> exact u.eks ok.1 (by simp) w), h.2.eq (u.eps ok.2 (by simp) 0) (fun k hk => by rcases hk with rfl | rfl | rfl | rfl | rfl <;> exact u.eks ok.1 (by simp) 0)⟩
theorem RW.un {h : Nat} (g : RW I h) (u : Un ks ps I I1) (ok : okW ks ps = true) : RW I1 h := by
  unfold okW at ok
  rw [Bool.and_eq_true] at ok
  unfold RW
  rw [u.eps ok.2 (k := 0) (x := 5) (by simp) 0, u.eps ok.2 (k := 30) (x := 24) (by simp) 0, u.eks ok.1 (k := 9) (by simp) 0, u.eks ok.1 (k := 46) (by simp) 0]
  exact g
theorem RF.un (h : RF I) (u : Un ks ps I I1) (ok : okF ks ps = true) : RF I1 := by
  unfold okF at ok
  unfold RF
  rw [u.eks ok (k := 11) (by simp) 0, u.eks ok (k := 41) (by simp) 0]
  exact h
theorem RS.un {ls : List Nat} (h : RS I L S) (u : Un ks ps I I1) (v : UL ls L L1) (ok : okS ks ps ls = true) : RS I1 L1 S := by
  unfold okS at ok
  rw [Bool.and_eq_true, Bool.and_eq_true, List.all_eq_true] at ok
  have hl : ∀ k, k ∈ [20, 21, 50, 51] → L1 k 0 = L k 0 := fun k hk => v k 0 (of_decide_eq_true (ok.2 k hk))
  exact ⟨repS_fr h.1 (u.eps ok.1.2 (by simp) 0) (u.eks ok.1.1 (by simp) 0) (u.eks ok.1.1 (by simp) 0) (hl 20 (by simp)) (hl 21 (by simp)), repSm_fr h.2.1 (u.eps ok.1.2 (by simp) 0) (u.eks ok.1.1 (by simp) 0) (u.eks ok.1.1 (by simp) 0) (hl 50 (by simp)) (hl 51 (by simp)), h.2.2⟩
/-- the four other parts, where tables change -/
def RX (I : TI) (L : TL) : Prop := (∃ n ln sc kd pl wt, RN I n ln sc kd pl wt) ∧ (∃ h, RW I h) ∧ RF I ∧ ∃ S, RS I L S
theorem RR.un {ls : List Nat} (h : RR I L) (u : Un ks ps I I1) (v : UL ls L L1) (o1 : okT ks ps = true) (o2 : okN ks ps = true) (o3 : okW ks ps = true) (o4 : okF ks ps = true) (o5 : okS ks ps ls = true) : RR I1 L1 := by
  obtain ⟨⟨c, ro, co, h1⟩, ⟨n, ln, sc, kd, pl, wt, h2⟩, ⟨h, h3⟩, h4, S, h5⟩ := h
  exact ⟨⟨c, ro, co, h1.un u o1⟩, ⟨n, ln, sc, kd, pl, wt, h2.un u o2⟩, ⟨h, h3.un u o3⟩, h4.un u o4, S, h5.un u v o5⟩
theorem RX.un {ls : List Nat} (h : RX I L) (u : Un ks ps I I1) (v : UL ls L L1) (o2 : okN ks ps = true) (o3 : okW ks ps = true) (o4 : okF ks ps = true) (o5 : okS ks ps ls = true) : RX I1 L1 := by
  obtain ⟨⟨n, ln, sc, kd, pl, wt, h2⟩, ⟨h, h3⟩, h4, S, h5⟩ := h
  exact ⟨⟨n, ln, sc, kd, pl, wt, h2.un u o2⟩, ⟨h, h3.un u o3⟩, h4.un u o4, S, h5.un u v o5⟩
/-- a refusal, counted on both sides -/
theorem RF.ref (h : RF I) {w : Nat} : RF (rfM (rfI I w) w) := fun v h1 h2 => by
  have e := h v h1 h2
  unfold rfM rfI
  by_cases q : v = w
  · subst q
    rw [upI_k (by decide), upI_eq, upI_eq, upI_k (by decide), e]
  · rw [upI_k (by decide), upI_x q, upI_x q, upI_k (by decide), e]
theorem un_ref {w : Nat} : Un ([11] ++ [41]) ([] ++ []) I (rfM (rfI I w) w) := Un.tr Un.upk Un.upk
theorem RR.ref (h : RR I L) {w : Nat} : RR (rfM (rfI I w) w) L := by
  obtain ⟨⟨c, ro, co, h1⟩, ⟨n, ln, sc, kd, pl, wt, h2⟩, ⟨h, h3⟩, h4, S, h5⟩ := h
  exact ⟨⟨c, ro, co, h1.un un_ref (by decide)⟩, ⟨n, ln, sc, kd, pl, wt, h2.un un_ref (by decide)⟩, ⟨h, h3.un un_ref (by decide)⟩, h4.ref, S, h5.un un_ref UL.rf (by decide)⟩
theorem KM.ref {w : Nat} : KM I (rfI I w) L L := KM.of (ks := [11]) (ps := []) (ls := []) Un.upk UL.rf (by decide)
theorem KM.rf : KM I I L L := ⟨fun _ _ _ => rfl, fun _ _ _ => rfl⟩
end RU
/-- what a call of both owes: the model is left for its own call, and then the answers are alike -/
def JointI (I : TI) (L : TL) (I1 : TI) (L1 : TL) (r : Option Value) (B : TI → TL → Option Value → Prop) : Prop := KM I I1 L L1 ∧ (∃ x, r = some (.int x)) ∧ ∀ I2 L2 r2, B I2 L2 r2 → r = r2 ∧ RR I2 L2
def JointL (I : TI) (L : TL) (I1 : TI) (L1 : TL) (r : Option Value) (B : TI → TL → Option Value → Prop) : Prop := KM I I1 L L1 ∧ (∃ x, r = some (.long x)) ∧ ∀ I2 L2 r2, B I2 L2 r2 → r = r2 ∧ RR I2 L2

/-! a table that comes, on both sides -/
theorem eqt {a b : Nat} (ha : a < 32) (hb : b < 32) (e : nI a = nI b) : b = a := ((nI_eq (by omega) (by omega)).mp e).symm
theorem nm_back {v : Int64} (h : nm v) : v.toInt32.toInt64 = v := by
  have h1 := Int64.le_iff_toInt_le.mp h.1
  have h2 := Int64.le_iff_toInt_le.mp h.2
  have e1 : (-1000 : Int64).toInt = -1000 := by decide
  have e2 : (1000 : Int64).toInt = 1000 := by decide
  apply Int64.toInt_inj.mp
  rw [Int32.toInt_toInt64, Int64.toInt_toInt32, Int.bmod_eq_of_le (by omega) (by omega)]
theorem nm_0 : nm (nI 0).toInt64 := ⟨by decide, by decide⟩
section JT
variable {I I1 I2 I3 : TI} {L L1 L2 : TL} {c n m : Nat} {ro co : Nat → Nat} {kd net : Int32} {V V' : Nat → Nat → Int64} {r r2 : Option Value}
def updN (f : Nat → Nat) (c v : Nat) : Nat → Nat := fun t => if t = c then v else f t
theorem updN_e {f : Nat → Nat} {c v : Nat} : updN f c v c = v := if_pos rfl
theorem updN_n {f : Nat → Nat} {c v t : Nat} (h : t ≠ c) : updN f c v t = f t := if_neg h
theorem RT.low (h : RT I c ro co) (h0 : I1 0 0 1 = I 0 0 1) (h2 : ∀ t, t < c → I1 2 t = I 2 t) (h3 : ∀ t, t < c → I1 3 t = I 3 t) (h30 : I1 30 0 5 = I 30 0 5) (hk : ∀ k, 31 ≤ k → k ≤ 35 → I1 k 0 = I k 0) : RT I1 c ro co := by
  obtain ⟨g1, g2, g3⟩ := h
  refine ⟨g1.eq h0 h2, ?_, ?_⟩
  · unfold MT
    rw [h30, hk 32 (by decide) (by decide), hk 33 (by decide) (by decide)]
    exact g2
  · unfold TX
    intro t ht
    rw [h2 t ht, h3 t ht, hk 31 (by decide) (by decide), hk 34 (by decide) (by decide), hk 35 (by decide) (by decide)]
    exact g3 t ht
theorem new_T (h : RT I c ro co) (hc : c < 12) (hn1 : 1 ≤ n) (hn5 : n ≤ 5) (hm1 : 1 ≤ m) (hm5 : m ≤ 5) (A : AddT I I1 c n m kd net V) (B : AddM I1 I2 c n m kd V') (hv : ∀ a b, a < n → b < m → V a b = V' a b) (hnm : ∀ a b, a < n → b < m → nm (V a b)) (h3 : Fr [(35, 0)] I2 I3) (h35 : ∀ x, x ≠ c → I3 35 0 x = I2 35 0 x) (hnet : kd = nI 1 → I3 35 0 c = net) : RT I3 (c + 1) (updN ro c n) (updN co c m) := by
  obtain ⟨g1, g2, g3⟩ := h
  obtain ⟨a1, a2, a3, a4, a5, a6, a7, a8, a9⟩ := A
  obtain ⟨b1, b2, b3, b4, b5, b6, b7, b8⟩ := B
  have o2 : ∀ t, t ≠ c → I3 2 t = I 2 t := fun t ht => ((h3 2 t (by simp)).trans (b1 2 t (by simp))).trans (a1 2 t (by simp [ht]))
  have o3 : ∀ t, t ≠ c → I3 3 t = I 3 t := fun t ht => ((h3 3 t (by simp)).trans (b1 3 t (by simp))).trans (a1 3 t (by simp [ht]))
  have n2 : I3 2 c = I1 2 c := (h3 2 c (by simp)).trans (b1 2 c (by simp))
  have n3 : I3 3 c = I1 3 c := (h3 3 c (by simp)).trans (b1 3 c (by simp))
  have n0 : I3 0 0 = I1 0 0 := (h3 0 0 (by simp)).trans (b1 0 0 (by simp))
  refine ⟨⟨?_, by omega, fun t ht => ?_⟩, ⟨?_, by omega, fun t ht => ?_⟩, fun t ht => ?_⟩
  · rw [n0]
    exact a3
  · by_cases e : t = c
    · subst e
      rw [n2, updN_e, updN_e]
      exact ⟨a4, a5, hn1, hn5, hm1, hm5⟩
    · rw [o2 t e, updN_n e, updN_n e]
      exact g1.2.2 t (by omega)
  · rw [h3.at (by simp)]
    exact b3
  · rw [h3.at (by simp), h3.at (by simp), b4, b5]
    by_cases e : t = c
    · subst e
      rw [if_pos rfl, if_pos rfl, updN_e, updN_e]
      exact ⟨rfl, rfl, hn1, hn5, hm1, hm5⟩
    · rw [if_neg e, if_neg e, updN_n e, updN_n e, a1.at (by simp), a1.at (by simp)]
      exact g2.2.2 t (by omega)
  · by_cases e : t = c
    · subst e
      rw [n2, n3, updN_e, updN_e]
      refine ⟨fun x hx => ?_, fun a b ha hb hab => a9 a b ha hb hab, ?_, fun hk => ?_⟩
      · have hb8 := b8 (x / 5) (x % 5) (by omega) (by omega)
        rw [show 25 * t + 5 * (x / 5) + x % 5 = 25 * t + x by omega] at hb8
        rw [h3.at (by simp), hb8]
        by_cases q : x / 5 < n ∧ x % 5 < m
        · have h8 := a8 (x / 5) (x % 5) (by omega) (by omega) q
          rw [show 5 * (x / 5) + x % 5 = x by omega] at h8
          rw [if_pos q, h8, hv _ _ q.1 q.2]
          refine ⟨rfl, ?_⟩
          rw [← hv _ _ q.1 q.2, nm_back (hnm _ _ q.1 q.2)]
          exact hnm _ _ q.1 q.2
        · have h9 := a9 (x / 5) (x % 5) (by omega) (by omega) q
          rw [show 5 * (x / 5) + x % 5 = x by omega] at h9
          rw [if_neg q, h9]
          exact ⟨rfl, nm_0⟩
      · rw [h3.at (by simp), a6, b6, if_pos rfl]
      · rw [a6] at hk
        rw [a7]
        exact (hnet hk).symm
    · rw [o2 t e, o3 t e, updN_n e, updN_n e]
      obtain ⟨k1, k2, k3, k4⟩ := g3 t (by omega)
      have ht12 : t < c := by omega
      refine ⟨fun x hx => ⟨?_, (k1 x hx).2⟩, k2, ?_, fun hk => ?_⟩
      · rw [h3.at (by simp), b7 _ (by omega), a1.at (by simp)]
        exact (k1 x hx).1
      · rw [h3.at (by simp), b6, if_neg e, a1.at (by simp)]
        exact k3
      · rw [h35 t e, b1.at (by simp), a1.at (by simp)]
        exact k4 hk
theorem un_addT (A : AddT I I1 c n m kd net V) : Un [2, 3] [(0, 1)] I I1 := Un.fr1 (xs := [1]) A.1 (fun x hx => A.2.1 x (fun e => hx (by simp [e])))
theorem un_addM (B : AddM I1 I2 c n m kd V) : Un [31, 32, 33, 34] [(30, 5)] I1 I2 := Un.fr1 (xs := [5]) B.1 (fun x hx => B.2.1 x (fun e => hx (by simp [e])))
theorem un_bad (B : BadT I I1 c) : Un [11, 2, 3] [] I I1 := Un.fr B.1
theorem J_res (hT : RT I c ro co) (hX : RX I L) (hn1 : 1 ≤ n) (hn5 : n ≤ 5) (hm1 : 1 ≤ m) (hm5 : m ≤ 5) (A : (c = 12 ∧ REF I I1 r 8) ∨ (c < 12 ∧ ResT I I1 r c n m kd net V)) (hL : UL [16] L L1) :
    KM I I1 L L1 ∧ (∃ x, r = some (.int x)) ∧ ∀ I2 L2 r2 V', (∀ a b, a < n → b < m → V a b = V' a b) → UL [43] L1 L2 → ((kd ≠ nI 1 ∧ ResM I1 I2 r2 c n m kd V') ∨ (∃ w, n = m ∧ kd = nI 1 ∧ net = nI w ∧ ResN I1 I2 r2 c n w V')) → r = r2 ∧ RR I2 L2 := by
  rcases A with ⟨h1, rfl, rfl⟩ | ⟨h1, ⟨a1, a2, rfl⟩ | ⟨⟨i, j, a1, a2, a3⟩, a4, rfl⟩⟩
  · refine ⟨KM.of (ks := [11]) (ps := []) (ls := [16]) Un.upk hL (by decide), ⟨_, rfl⟩, fun I2 L2 r2 V' hv h43 B => ?_⟩
    have key : MEF (rfI I 8) I2 r2 8 → some (Value.int (-nI 8)) = r2 ∧ RR I2 L2 := by
      rintro ⟨rfl, rfl⟩
      exact ⟨rfl, ⟨c, ro, co, hT.un un_ref (by decide)⟩, ⟨hX.1.elim fun n q => q.elim fun a q => q.elim fun b q => q.elim fun c q => q.elim fun d q => q.elim fun e q => ⟨n, a, b, c, d, e, q.un un_ref (by decide)⟩, hX.2.1.elim fun h q => ⟨h, q.un un_ref (by decide)⟩, hX.2.2.1.ref, hX.2.2.2.elim fun S q => ⟨S, q.un un_ref (hL.tr h43) (by decide)⟩⟩⟩
    rcases B with ⟨-, ⟨b1, -⟩ | ⟨-, b⟩⟩ | ⟨w, rfl, -, -, ⟨b1, -⟩ | ⟨-, b⟩⟩
    · omega
    · exact key b
    · omega
    · exact key b
  · refine ⟨KM.of (un_addT a2) hL (by decide), ⟨_, rfl⟩, fun I2 L2 r2 V' hv h43 B => ?_⟩
    rcases B with ⟨hk, ⟨b1, b2, b3, rfl⟩ | ⟨b1, -⟩⟩ | ⟨w, rfl, hk, hw, ⟨b1, b2, ⟨I3, b3, rfl⟩, rfl⟩ | ⟨b1, -⟩⟩
    · refine ⟨rfl, ⟨c + 1, _, _, new_T hT h1 hn1 hn5 hm1 hm5 a2 b3 hv a1 Fr.rf (fun _ _ => rfl) (fun z => absurd z hk)⟩, hX.un ((un_addT a2).tr (un_addM b3)) (hL.tr h43) (by decide) (by decide) (by decide) (by decide)⟩
    · rcases b1 with b1 | ⟨i, j, c1, c2, c3⟩
      · omega
      · exact absurd (hv i j c1 c2 ▸ a1 i j c1 c2) c3
    · subst hk
      refine ⟨rfl, ⟨c + 1, _, _, new_T hT h1 hn1 hn5 hm1 hm5 a2 b3 hv a1 (Fr.rf.up (by simp)) (fun x hx => upI_x hx) (fun _ => upI_eq.trans hw.symm)⟩, hX.un (((un_addT a2).tr (un_addM b3)).tr (Un.upk (k := 35))) (hL.tr h43) (by decide) (by decide) (by decide) (by decide)⟩
    · rcases b1 with b1 | ⟨i, j, c1, c2, c3⟩
      · omega
      · exact absurd (hv i j c1 c2 ▸ a1 i j c1 c2) c3
  · refine ⟨KM.of (un_bad a4) hL (by decide), ⟨_, rfl⟩, fun I2 L2 r2 V' hv h43 B => ?_⟩
    have key : MEF I1 I2 r2 8 → some (Value.int (-nI 8)) = r2 ∧ RR I2 L2 := by
      rintro ⟨rfl, rfl⟩
      have u : Un ([11, 2, 3] ++ [41]) ([] ++ []) I (rfM I1 8) := (un_bad a4).tr Un.upk
      have f11 : I1 11 0 = rfI I 8 11 0 := funext a4.2
      have hRF : RF (rfM I1 8) := by
        have q := hX.2.2.1.ref (w := 8)
        intro v h1 h2
        have z := q v h1 h2
        unfold rfM at z ⊢
        rw [upI_k (by decide)] at z ⊢
        rw [f11, z]
        unfold upI
        rw [show I1 41 0 = I 41 0 from a4.1 41 0 (by simp), show rfI I 8 41 0 = I 41 0 from funext fun x => upI_k (by decide)]
      refine ⟨rfl, ⟨c, ro, co, hT.low (u 0 0 1 (by simp) (by simp)) (fun t ht => ?_) (fun t ht => ?_) (u 30 0 5 (by simp) (by simp)) (fun k h1 h2 => u.kind (by simp; omega) (by simp) 0)⟩, ?_, ?_, hRF, ?_⟩
      · exact (funext fun x => upI_k (by decide)).trans (a4.1 2 t (by simp; omega))
      · exact (funext fun x => upI_k (by decide)).trans (a4.1 3 t (by simp; omega))
      · exact hX.1.elim fun n q => q.elim fun a q => q.elim fun b q => q.elim fun c q => q.elim fun d q => q.elim fun e q => ⟨n, a, b, c, d, e, q.un u (by decide)⟩
      · exact hX.2.1.elim fun h q => ⟨h, q.un u (by decide)⟩
      · exact hX.2.2.2.elim fun S q => ⟨S, q.un u (hL.tr h43) (by decide)⟩
    rcases B with ⟨-, ⟨b1, b2, -⟩ | ⟨-, b⟩⟩ | ⟨w, rfl, -, -, ⟨b1, b2, -⟩ | ⟨-, b⟩⟩
    · exact absurd (hv i j a1 a2 ▸ b2 i j a1 a2) a3
    · exact key b
    · exact absurd (hv i j a1 a2 ▸ b2 i j a1 a2) a3
    · exact key b
end JT

