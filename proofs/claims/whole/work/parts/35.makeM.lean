/-! the model's making -/
theorem q_pos1 {H A : Rat} (hs : 0 < H.num * A.num) : 0 < (H / A).num := by
  have hA : A.num ≠ 0 := fun e => by rw [e, Int.mul_zero] at hs; exact absurd hs (by decide)
  have hH : H.num ≠ 0 := fun e => by rw [e, Int.zero_mul] at hs; exact absurd hs (by decide)
  have q := (div_ok H A hA hs).1
  have z : (H / A).num ≠ 0 := fun e => by
    have e2 : H / A = 0 := Rat.num_eq_zero.mp e
    have e3 : H / A * A = H := by rw [Rat.div_def, Rat.mul_assoc, Rat.inv_mul_cancel _ (fun w => hA (by rw [w]; rfl)), Rat.mul_one]
    rw [e2, Rat.zero_mul] at e3
    exact hH (by rw [← e3]; rfl)
  have w : 0 ≤ (H / A).num := by
    rw [q]
    exact Int.natCast_nonneg _
  omega
theorem q_pos {H A : Rat} (hH : H ≠ 0) (hA : A ≠ 0) : 0 < (H / A).num ↔ 0 < H.num * A.num := by
  constructor
  · intro h
    rcases Int.lt_trichotomy (H.num * A.num) 0 with z | z | z
    · have p : 0 < (-H).num * A.num := by
        rw [Rat.neg_num, Int.neg_mul]
        omega
      have q := q_pos1 p
      rw [Rat.div_def, Rat.neg_mul, Rat.neg_num, ← Rat.div_def] at q
      omega
    · rcases Int.mul_eq_zero.mp z with e | e
      · exact absurd (Rat.num_eq_zero.mp e) hH
      · exact absurd (Rat.num_eq_zero.mp e) hA
    · exact z
  · exact q_pos1
def MKF (I I1 : TI) : Prop := Fr [(30, 0), (52, 0), (53, 0)] I I1 ∧ ∀ x, x ≠ 33 → x ≠ 34 → I1 30 0 x = I 30 0 x
abbrev FLK : List (Nat × Nat) := [(30, 0), (48, 0), (49, 0), (50, 0), (51, 0)]
theorem MKF.rf {I : TI} : MKF I I := ⟨Fr.rf, fun _ _ _ => rfl⟩
theorem MKF.tr {I I1 I2 : TI} (h : MKF I I1) (g : MKF I1 I2) : MKF I I2 := ⟨h.1.tr g.1, fun x h1 h2 => (g.2 x h1 h2).trans (h.2 x h1 h2)⟩
theorem MKF.u3 {I I1 : TI} {v : Int32} (h : MKF I I1) : MKF I (upI I1 30 0 33 v) := ⟨h.1.up (by simp), fun x h1 h2 => (upI_x h1).trans (h.2 x h1 h2)⟩
theorem MKF.u4 {I I1 : TI} {v : Int32} (h : MKF I I1) : MKF I (upI I1 30 0 34 v) := ⟨h.1.up (by simp), fun x h1 h2 => (upI_x h2).trans (h.2 x h1 h2)⟩
theorem MKF.k52 {I I1 : TI} {v : Int32} {s : Nat} (h : MKF I I1) : MKF I (upI I1 52 0 s v) := ⟨h.1.up (by simp), fun x h1 h2 => (upI_k (by decide)).trans (h.2 x h1 h2)⟩
theorem MKF.k53 {I I1 : TI} {v : Int32} {s : Nat} (h : MKF I I1) : MKF I (upI I1 53 0 s v) := ⟨h.1.up (by simp), fun x h1 h2 => (upI_k (by decide)).trans (h.2 x h1 h2)⟩
theorem FL_setR {L L1 : TL} {q : Rat} (h : FL FLK L L1) : FL FLK L (setR L1 q) := (h.up (by simp)).up (by simp)
theorem repMm_R {n : Nat} {L : TL} {M : QM} {q : Rat} (h : repMm n L M) : repMm n (setR L q) M := repMm_fr h (funext fun x => setR_k (by decide)) (funext fun x => setR_k (by decide))
theorem repSm_R {I : TI} {L : TL} {S : SL} {q : Rat} (h : repSm I L S) : repSm I (setR L q) S := repSm_fr h rfl rfl rfl (funext fun x => setR_k (by decide)) (funext fun x => setR_k (by decide))
theorem good_sh {k n c r : Nat} {M : QM} (hk : k < 2) (hn : n ≤ 3) (hcr : c < r) (hrn : r < n) (hg : good k (stg c r) n M) : (vw k M r c).num.natAbs * (vw k M (r - 1) c).den < 2 ^ 63 ∧ (vw k M (r - 1) c).num.natAbs * (vw k M r c).den < 2 ^ 63 := by
  have h1 := hg r c hrn (by omega)
  have h2 := hg (r - 1) c (by omega) (by omega)
  have h3 := tb_s k hk r (by omega) c hcr
  exact ⟨Nat.lt_of_le_of_lt (Nat.mul_le_mul h1.1 h2.2) h3.1, Nat.lt_of_le_of_lt (Nat.mul_le_mul h2.1 h1.2) h3.2⟩
theorem sh_b {H A : Rat} (hA : A.num ≠ 0) (h1 : H.num.natAbs * A.den < 2 ^ 63) (h2 : A.num.natAbs * H.den < 2 ^ 63) : ((Rat.divInt H.num A.num).num * (Rat.divInt (A.den : Int) (H.den : Int)).num).natAbs < 2 ^ 63 ∧ (Rat.divInt H.num A.num).den * (Rat.divInt (A.den : Int) (H.den : Int)).den < 2 ^ 63 := by
  have b1 := dI_bd (a := H.num) hA
  have b2 := dI_bd (a := (A.den : Int)) (b := (H.den : Int)) (by have := H.den_pos; omega)
  rw [Int.natAbs_natCast, Int.natAbs_natCast] at b2
  constructor
  · rw [Int.natAbs_mul]
    exact Nat.lt_of_le_of_lt (Nat.mul_le_mul b1.1 b2.1) h1
  · exact Nat.lt_of_le_of_lt (Nat.mul_le_mul b1.2 b2.2) h2
theorem sh_q (H A : Rat) : Rat.divInt H.num (H.den : Int) * Rat.divInt (A.den : Int) A.num = H / A := by
  rw [Rat.num_divInt_den, Rat.div_def, Rat.inv_def]
theorem mul_q (S A : Rat) : Rat.divInt S.num (S.den : Int) * Rat.divInt A.num (A.den : Int) = S * A := by
  rw [Rat.num_divInt_den, Rat.num_divInt_den]
def clP (k n r c : Nat) (M : QM) (S : SL) (I I' : TI) (L L' : TL) : Prop :=
  (vw k M r c = 0 ∧ I' = I ∧ L' = L) ∨ (¬ vw k M r c = 0 ∧ vw k M (r - 1) c = 0 ∧ I' = upI I 30 0 34 (nI 0) ∧ L' = L) ∨
  (¬ vw k M r c = 0 ∧ ¬ vw k M (r - 1) c = 0 ∧ MKF I I' ∧ FL FLK L L' ∧ repMm n L' (rwJ k M r (vw k M r c / vw k M (r - 1) c) n) ∧ repSm I' L' (S ++ [(k, r - 1, vw k M r c / vw k M (r - 1) c)]) ∧ I' 30 0 34 = nI (if 0 < (vw k M r c / vw k M (r - 1) c).num then 1 else 0))
def fin2 (n : Nat) (M : QM) (S : SL) : SL := (runO n 0 M S).getD []
def W0 (n : Nat) (l : List (Nat × Nat)) (M : QM) (S : SL) : SL := match runC 0 n l M S with
  | none => []
  | some (M2, S2) => fin2 n M2 S2
def W1 (n : Nat) (l : List (Nat × Nat)) (M : QM) (S : SL) : SL := match runC 1 n l M S with
  | none => []
  | some (M1, S1) => W0 n (cl1 n n 0) M1 S1
def Wk (n k : Nat) (l : List (Nat × Nat)) (M : QM) (S : SL) : SL := if k = 0 then W0 n l M S else W1 n l M S
theorem Wk_0 {n : Nat} {l : List (Nat × Nat)} {M : QM} {S : SL} : Wk n 0 l M S = W0 n l M S := rfl
theorem Wk_1 {n : Nat} {l : List (Nat × Nat)} {M : QM} {S : SL} : Wk n 1 l M S = W1 n l M S := rfl
theorem Wk_mk (n : Nat) (M : QM) : Wk n 1 (cl1 n n 0) M [] = mkS n M := rfl
theorem Wk_c {k n c r : Nat} {l : List (Nat × Nat)} {M M' : QM} {S S' : SL} (hk : k < 2) (h : runC k n ((c, r) :: l) M S = runC k n l M' S') : Wk n k ((c, r) :: l) M S = Wk n k l M' S' := by
  rcases (show k = 0 ∨ k = 1 by omega) with rfl | rfl
  · rw [Wk_0, Wk_0]
    unfold W0
    rw [h]
  · rw [Wk_1, Wk_1]
    unfold W1
    rw [h]
theorem Wk_n {k n c r : Nat} {l : List (Nat × Nat)} {M : QM} {S : SL} (hk : k < 2) (h : runC k n ((c, r) :: l) M S = none) : Wk n k ((c, r) :: l) M S = [] := by
  rcases (show k = 0 ∨ k = 1 by omega) with rfl | rfl
  · rw [Wk_0]
    unfold W0
    rw [h]
  · rw [Wk_1]
    unfold W1
    rw [h]
section MKA
variable {n k c r g b0 : Nat} {Z : SL} {l : List (Nat × Nat)} {I I1 I2 : TI} {L L1 L2 : TL} {M : QM} {S : SL}
def MA (n : Nat) (Z : SL) (k : Nat) (l : List (Nat × Nat)) (g b0 : Nat) (I1 : TI) (L1 : TL) : Prop := (b0 = 1 ∧ ∃ M S, repMm n L1 M ∧ repSm I1 L1 S ∧ good k g n M ∧ S.length + l.length + 3 * k ≤ 6 ∧ Wk n k l M S = Z) ∨ (b0 = 0 ∧ Z = [])
theorem MA.fl (h : MA n Z k l g b0 I1 L1) : b0 < 2 := by
  rcases h with ⟨h, -⟩ | ⟨h, -⟩ <;> omega
/-- one turn of the rows -/
theorem MA_step (hk : k < 2) (hn : n ≤ 3) (hcr : c < r) (hrn : r < n) (hM : repMm n L1 M) (hS : repSm I1 L1 S) (hg : good k (stg c r) n M) (hl : S.length + ((c, r) :: l).length + 3 * k ≤ 6) (hW : Wk n k ((c, r) :: l) M S = Z) (hcb : I1 30 0 34 = nI 1) (hP : clP k n r c M S I1 I2 L1 L2) :
    ∃ b1, I2 30 0 34 = nI b1 ∧ MA n Z k l (stg c (r - 1)) b1 I2 L2 ∧ MKF I1 I2 ∧ FL FLK L1 L2 := by
  rcases hP with ⟨h1, rfl, rfl⟩ | ⟨h1, h2, rfl, rfl⟩ | ⟨h1, h2, h3, h4, h5, h6, h7⟩
  · refine ⟨1, hcb, Or.inl ⟨rfl, M, S, hM, hS, good_skip hk hn hcr hrn hg h1, ?_, ?_⟩, MKF.rf, FL.rf⟩
    · rw [List.length_cons] at hl
      omega
    · rw [← hW]
      exact (Wk_c hk (if_pos h1)).symm
  · refine ⟨0, upI_eq, Or.inr ⟨rfl, ?_⟩, MKF.rf.u4, FL.rf⟩
    rw [← hW]
    refine Wk_n hk ((if_neg h1).trans (if_neg ?_))
    rw [h2]
    show ¬ 0 < _ * (0 : Rat).num
    rw [show (0 : Rat).num = 0 from rfl, Int.mul_zero]
    decide
  · by_cases hp : 0 < (vw k M r c / vw k M (r - 1) c).num
    · refine ⟨1, by rw [h7, if_pos hp], Or.inl ⟨rfl, _, _, h5, h6, (good_step2 hk hn hcr hrn hg h2).2.2.2, ?_, ?_⟩, h3, h4⟩
      · rw [List.length_append, List.length_cons, List.length_nil]
        rw [List.length_cons] at hl
        omega
      · rw [← hW]
        exact (Wk_c hk ((if_neg h1).trans (if_pos ((q_pos h1 h2).mp hp)))).symm
    · refine ⟨0, by rw [h7, if_neg hp], Or.inr ⟨rfl, ?_⟩, h3, h4⟩
      rw [← hW]
      exact Wk_n hk ((if_neg h1).trans (if_neg (fun q => hp ((q_pos h1 h2).mpr q))))
theorem MA.row (hc : c < n) (h : MA n Z k (cl1 n (n - c) c) (stg c (n - 1)) b0 I1 L1) : MA n Z k (rl1 c (n - 1) ++ cl1 n (n - (c + 1)) (c + 1)) (stg c (n - 1)) b0 I1 L1 := by
  rw [cl1_yes hc] at h
  exact h
theorem MA.col (hk : k < 2) (hn : n ≤ 3) (hc : c < n) (hr : r ≤ c) (hcr : c ≤ r) (h : MA n Z k (rl1 c r ++ cl1 n (n - (c + 1)) (c + 1)) (stg c r) b0 I1 L1) : MA n Z k (cl1 n (n - (c + 1)) (c + 1)) (stg (c + 1) (n - 1)) b0 I1 L1 := by
  rw [rl1_no hr, List.nil_append, show r = c by omega] at h
  rcases h with ⟨h0, M, S, h1, h2, h3, h4, h5⟩ | h
  · exact Or.inl ⟨h0, M, S, h1, h2, good_col hk hn hc h3, h4, h5⟩
  · exact Or.inr h
theorem MA.dead (hb : b0 = 0) {k2 g2 : Nat} {l2 : List (Nat × Nat)} (h : MA n Z k l g b0 I1 L1) : MA n Z k2 l2 g2 b0 I1 L1 := Or.inr ⟨hb, (h.resolve_left (fun q => by omega)).2⟩
theorem MA.up (hn : n ≤ 3) (hn1 : 1 ≤ n) (h : MA n Z 1 (cl1 n (n - n) n) (stg n (n - 1)) b0 I1 L1) : MA n Z 0 (cl1 n n 0) (stg 0 (n - 1)) b0 I1 L1 := by
  rcases h with ⟨h0, M, S, h1, h2, h3, h4, h5⟩ | h
  · rw [tb_e n (by omega) hn1] at h3
    have hl := cl1_len n (by omega)
    rw [Nat.sub_self] at h4 h5
    refine Or.inl ⟨h0, M, S, h1, h2, good_up hn hn1 h3, by omega, ?_⟩
    rw [← h5]
    rfl
  · exact Or.inr h
def MO (n : Nat) (Z : SL) (i b0 : Nat) (I1 : TI) (L1 : TL) : Prop := (b0 = 1 ∧ ∃ M S, repMm n L1 M ∧ repSm I1 L1 S ∧ (∀ i, i < n → (M i i).num.natAbs < 2 ^ 63) ∧ S.length + (n - i) ≤ 9 ∧ (runO (n - i) i M S).getD [] = Z) ∨ (b0 = 0 ∧ Z = [])
theorem MO.fl {i : Nat} (h : MO n Z i b0 I1 L1) : b0 < 2 := by
  rcases h with ⟨h, -⟩ | ⟨h, -⟩ <;> omega
theorem MA.out (hn : n ≤ 3) (hn1 : 1 ≤ n) (h : MA n Z 0 (cl1 n (n - n) n) (stg n (n - 1)) b0 I1 L1) : MO n Z 0 b0 I1 L1 := by
  rcases h with ⟨h0, M, S, h1, h2, h3, h4, h5⟩ | h
  · rw [tb_e n (by omega) hn1] at h3
    rw [Nat.sub_self] at h4 h5
    refine Or.inl ⟨h0, M, S, h1, h2, fun i hi => (good_rg (k := 0) (by decide) hn (by decide) h3 hi hi).1, by omega, ?_⟩
    rw [← h5]
    rfl
  · exact Or.inr h
theorem MO.step {i : Nat} {v : Int32} (hi : i < n) (hM : repMm n L1 M) (hS : repSm I1 L1 S) (hr : ∀ i, i < n → (M i i).num.natAbs < 2 ^ 63) (hl : S.length + (n - i) ≤ 9) (hW : (runO (n - i) i M S).getD [] = Z) (hv : v = nI (if 0 < iL (M i i).num then 1 else 0)) :
    ∃ b1, v = nI b1 ∧ MO n Z (i + 1) b1 (upI (upI (upI (upI I1 52 0 S.length (nI 2)) 53 0 S.length (nI i)) 30 0 33 (nI (S.length + 1))) 30 0 34 v) (upL (upL L1 50 0 S.length (iL (M i i).num)) 51 0 S.length (iL ((M i i).den : Int))) := by
  have hrun : runO (n - i) i M S = if 0 < (M i i).num then runO (n - (i + 1)) (i + 1) M (S ++ [(2, i, M i i)]) else none := by
    obtain ⟨f, hf⟩ : ∃ f, n - i = f + 1 := ⟨n - i - 1, by omega⟩
    rw [hf, show n - (i + 1) = f by omega]
    rfl
  have hp : 0 < iL (M i i).num ↔ 0 < (M i i).num := iL_lt (a := 0) (by decide) (hr i hi)
  by_cases q : 0 < (M i i).num
  · refine ⟨1, by rw [hv, if_pos (hp.mpr q)], Or.inl ⟨rfl, M, _, repMm_fr hM ?_ ?_, repSm_add hS, hr, ?_, ?_⟩⟩
    · rw [upL_off _ _ _ _ _ (by simp), upL_off _ _ _ _ _ (by simp)]
    · rw [upL_off _ _ _ _ _ (by simp), upL_off _ _ _ _ _ (by simp)]
    · rw [List.length_append, List.length_cons, List.length_nil]
      omega
    · rw [← hW, hrun, if_pos q]
  · refine ⟨0, by rw [hv, if_neg (fun z => q (hp.mp z))], Or.inr ⟨rfl, ?_⟩⟩
    rw [← hW, hrun, if_neg q]
    rfl
end MKA
def M0ofM (I : TI) (t : Nat) : QM := fun i j => ((I 31 0 (25 * t + 5 * i + j)).toInt : Rat)
theorem repSm_nil {I : TI} {L : TL} (h : I 30 0 33 = nI 0) : repSm I L [] := ⟨h, fun i q hq => by simp at hq⟩
theorem in_L {i : Int32} {s : Nat} (hs : s < 13) : ((0 : Int64) ≤ i.toInt64 ∧ i.toInt64 ≤ (nI s - nI 1).toInt64) ↔ (0 ≤ i ∧ i < nI s) := by
  rw [show (0 : Int64) = (0 : Int32).toInt64 by decide, wide_le, wide_le, Int32.le_iff_toInt_le, Int32.le_iff_toInt_le, Int32.lt_iff_toInt_lt]
  have e : ∀ n, n < 13 → (nI n - nI 1).toInt = (nI n).toInt - 1 := by decide +kernel
  rw [e s hs]
  omega

set_option maxHeartbeats 8000000 in
set_option maxRecDepth 100000 in
theorem c_X6_clears (l : Launch) (E : VE) (hE : EOk E) (I : TI) (L : TL) (n k r c : Nat) (M : QM) (S : SL) (hk : k < 2) (hn : n ≤ 3) (hcr : c < r) (hrn : r < n) (hM : repMm n L M) (hS : repSm I L S) (hs12 : S.length < 12) (hb : I 30 0 34 = nI 1) (hg : good k (stg c r) n M) : Ct l E yX6_clears cX6_clears 18 none rm_X6_clears [.ref (eA E 30 0), .int (nI n), .int (nI r), .int (nI c), .int (nI (1 - k))] I L (fun r9 I' L' => r9 = none ∧ clP k n r c M S I I' L L') := by
  refine ct_of (by decide +kernel) (Nat.le_of_ble_eq_true rfl) hE ?_
  intro a X Y hl hEE
  subst hl; subst hEE
  show V a 0 [(0, .ref (eA (vE a) 30 0)), (1, .int (nI n)), (2, .int (nI r)), (3, .int (nI c)), (4, .int (nI (1 - k)))] [] I L
  have hvH := repMm_v (k := k) hM hrn (show c < n by omega)
  have hvA := repMm_v (k := k) hM (show r - 1 < n by omega) (show c < n by omega)
  obtain ⟨hgH1, hgH2⟩ : (vw k M r c).num.natAbs < 2 ^ 63 ∧ (vw k M r c).den < 2 ^ 63 := good_rg hk hn (stg_lt _ _) hg hrn (show c < n by omega)
  obtain ⟨hgA1, hgA2⟩ : (vw k M (r - 1) c).num.natAbs < 2 ^ 63 ∧ (vw k M (r - 1) c).den < 2 ^ 63 := good_rg hk hn (stg_lt _ _) hg (show r - 1 < n by omega) (show c < n by omega)
  refine v_iload_n X 2 rfl dX6_clears_0 ?_
  refine v_iload_n X 3 rfl dX6_clears_1 ?_
  refine v_iload X 4 rfl dX6_clears_2 ?_
  refine v_callS X (c_X6_cell _ _ hE _ _ r c k hk) k_X6_227 ⟨rfl, rfl, Nat.le_of_ble_eq_true rfl, Nat.le_of_ble_eq_true rfl⟩ (As := [.int (nI r), .int (nI c), .int (nI (1 - k))]) (rest := []) rfl rfl (Nat.le_of_ble_eq_true rfl) dX6_clears_4 (fun r4 I4 L4 hp4 => ?_)
  obtain ⟨rfl, e1, e2⟩ := hp4
  have e1 := e1.symm
  have e2 := e2.symm
  subst e1; subst e2
  refine v_st (st' := [.int (nI (pl3 k r c))]) rfl ?_
  refine v_istore X [1, 2, 3, 4, 5, 0] (lv' := [(0, .ref (eA (vE a) 30 0)), (1, .int (nI n)), (2, .int (nI r)), (3, .int (nI c)), (4, .int (nI (1 - k))), (5, .int (nI (pl3 k r c)))]) (by decide) rfl dX6_clears_7 ?_
  refine v_iload_n X 2 rfl dX6_clears_9 ?_
  refine v_iconst X (v := (nI 1)) dX6_clears_10 (by decide) ?_
  refine v_isub X dX6_clears_11 ?_
  refine v_eqi (y := (nI (r - 1))) (pk_sub (by omega)) ?_
  refine v_iload_n X 3 rfl dX6_clears_12 ?_
  refine v_iload X 4 rfl dX6_clears_13 ?_
  refine v_callS X (c_X6_cell _ _ hE _ _ (r - 1) c k hk) k_X6_227 ⟨rfl, rfl, Nat.le_of_ble_eq_true rfl, Nat.le_of_ble_eq_true rfl⟩ (As := [.int (nI (r - 1)), .int (nI c), .int (nI (1 - k))]) (rest := []) rfl rfl (Nat.le_of_ble_eq_true rfl) dX6_clears_15 (fun r15 I15 L15 hp15 => ?_)
  obtain ⟨rfl, e1, e2⟩ := hp15
  have e1 := e1.symm
  have e2 := e2.symm
  subst e1; subst e2
  refine v_st (st' := [.int (nI (pl3 k (r - 1) c))]) rfl ?_
  refine v_istore X [1, 2, 3, 4, 5, 6, 0] (lv' := [(0, .ref (eA (vE a) 30 0)), (1, .int (nI n)), (2, .int (nI r)), (3, .int (nI c)), (4, .int (nI (1 - k))), (5, .int (nI (pl3 k r c))), (6, .int (nI (pl3 k (r - 1) c)))]) (by decide) rfl dX6_clears_18 ?_
  refine v_aload_n X 0 rfl dX6_clears_20 ?_
  refine gf_X6_62 X dX6_clears_21 ?_
  refine v_iload X 5 rfl dX6_clears_24 ?_
  refine v_lald_n X dl_48 (fun _ _ => rfl) (n := 9) (pl3_lt (by omega) (by omega)) (by decide) dX6_clears_26 ?_
  refine v_eql (y := (iL (vw k M r c).num)) (hvH.1) ?_
  refine v_lconst X (v := 0) dX6_clears_27 rfl ?_
  refine v_lcmp_ne X dX6_clears_28 dX6_clears_29 (tgt := 33) (by decide) (fun h28 => ?_) (fun h28 => ?_)
  · refine v_aload_n X 0 rfl dX6_clears_33 ?_
    refine gf_X6_62 X dX6_clears_34 ?_
    refine v_iload X 6 rfl dX6_clears_37 ?_
    refine v_lald_n X dl_48 (fun _ _ => rfl) (n := 9) (pl3_lt (by omega) (by omega)) (by decide) dX6_clears_39 ?_
    refine v_eql (y := (iL (vw k M (r - 1) c).num)) (hvA.1) ?_
    refine v_lconst X (v := 0) dX6_clears_40 rfl ?_
    refine v_lcmp_ne X dX6_clears_41 dX6_clears_42 (tgt := 51) (by decide) (fun h41 => ?_) (fun h41 => ?_)
    · have hH0 : ¬ (vw k M r c) = 0 := fun e => h28 (by rw [e]; rfl)
      have hA0 : ¬ (vw k M (r - 1) c) = 0 := fun e => h41 (by rw [e]; rfl)
      have hAn : (vw k M (r - 1) c).num ≠ 0 := fun e => hA0 (Rat.num_eq_zero.mp e)
      obtain ⟨gQn, gQd, gcl, ggood⟩ := good_step2 hk hn hcr hrn hg hA0
      have gQn2 : (vw k M r c / vw k M (r - 1) c).num.natAbs < 2 ^ 63 := gQn
      have gQd2 : (vw k M r c / vw k M (r - 1) c).den < 2 ^ 63 := gQd
      have hsh := sh_b hAn (good_sh hk hn hcr hrn hg).1 (good_sh hk hn hcr hrn hg).2
      have hHd := (vw k M r c).den_pos
      refine v_aload_n X 0 rfl dX6_clears_51 ?_
      refine v_aload_n X 0 rfl dX6_clears_52 ?_
      refine gf_X6_62 X dX6_clears_53 ?_
      refine v_iload X 5 rfl dX6_clears_56 ?_
      refine v_lald_n X dl_48 (fun _ _ => rfl) (n := 9) (pl3_lt (by omega) (by omega)) (by decide) dX6_clears_58 ?_
      refine v_eql (y := (iL (vw k M r c).num)) (hvH.1) ?_
      refine v_aload_n X 0 rfl dX6_clears_59 ?_
      refine gf_X6_65 X dX6_clears_60 ?_
      refine v_iload X 5 rfl dX6_clears_63 ?_
      refine v_lald_n X dl_49 (fun _ _ => rfl) (n := 9) (pl3_lt (by omega) (by omega)) (by decide) dX6_clears_65 ?_
      refine v_eql (y := (iL ((vw k M r c).den : Int))) (hvH.2) ?_
      refine v_aload_n X 0 rfl dX6_clears_66 ?_
      refine gf_X6_65 X dX6_clears_67 ?_
      refine v_iload X 6 rfl dX6_clears_70 ?_
      refine v_lald_n X dl_49 (fun _ _ => rfl) (n := 9) (pl3_lt (by omega) (by omega)) (by decide) dX6_clears_72 ?_
      refine v_eql (y := (iL ((vw k M (r - 1) c).den : Int))) (hvA.2) ?_
      refine v_aload_n X 0 rfl dX6_clears_73 ?_
      refine gf_X6_62 X dX6_clears_74 ?_
      refine v_iload X 6 rfl dX6_clears_77 ?_
      refine v_lald_n X dl_48 (fun _ _ => rfl) (n := 9) (pl3_lt (by omega) (by omega)) (by decide) dX6_clears_79 ?_
      refine v_eql (y := (iL (vw k M (r - 1) c).num)) (hvA.1) ?_
      refine v_callV X (c_X6_times _ _ hE _ _ ((vw k M r c).num) ((vw k M r c).den : Int) ((vw k M (r - 1) c).den : Int) ((vw k M (r - 1) c).num) hgH1 (by omega) (by omega) hgA1 (by omega) hAn hsh.1 hsh.2) k_X6_231 dl_30 (cef_30 _ _ _ _) rfl ⟨rfl, rfl, Nat.le_of_ble_eq_true rfl, Nat.le_of_ble_eq_true rfl⟩ (As := [.long (iL (vw k M r c).num), .long (iL ((vw k M r c).den : Int)), .long (iL ((vw k M (r - 1) c).den : Int)), .long (iL (vw k M (r - 1) c).num)]) (rest := []) rfl rfl (Nat.le_of_ble_eq_true rfl) dX6_clears_80 (fun r80 I80 L80 hp80 => ?_)
      obtain ⟨rfl, e1, e2⟩ := hp80
      have e1 := e1.symm
      subst e1
      rw [sh_q] at e2
      have e2 := e2.symm
      subst e2
      refine v_st (st' := []) rfl ?_
      refine v_aload_n X 0 rfl dX6_clears_83 ?_
      refine gf_X6_210 X dX6_clears_84 ?_
      refine v_eql (y := (iL (vw k M r c / vw k M (r - 1) c).num)) (setR_u _ _) ?_
      refine v_lstore X [1, 2, 3, 4, 5, 6, 7, 0] (lv' := [(0, .ref (eA (vE a) 30 0)), (1, .int (nI n)), (2, .int (nI r)), (3, .int (nI c)), (4, .int (nI (1 - k))), (5, .int (nI (pl3 k r c))), (6, .int (nI (pl3 k (r - 1) c))), (7, .long (iL (vw k M r c / vw k M (r - 1) c).num))]) (by decide) rfl dX6_clears_87 ?_
      refine v_aload_n X 0 rfl dX6_clears_89 ?_
      refine gf_X6_214 X dX6_clears_90 ?_
      refine v_eql (y := (iL ((vw k M r c / vw k M (r - 1) c).den : Int))) (setR_d _ _) ?_
      refine v_lstore X [1, 2, 3, 4, 5, 6, 7, 8, 0] (lv' := [(0, .ref (eA (vE a) 30 0)), (1, .int (nI n)), (2, .int (nI r)), (3, .int (nI c)), (4, .int (nI (1 - k))), (5, .int (nI (pl3 k r c))), (6, .int (nI (pl3 k (r - 1) c))), (7, .long (iL (vw k M r c / vw k M (r - 1) c).num)), (9, .long (iL ((vw k M r c / vw k M (r - 1) c).den : Int)))]) (by decide) rfl dX6_clears_93 ?_
      refine v_aload_n X 0 rfl dX6_clears_95 ?_
      refine v_iload X 4 rfl dX6_clears_96 ?_
      refine v_if_eq_n X (by omega) dX6_clears_98 (tgt := 105) (by decide) (fun h98 => ?_) (fun h98 => ?_)
      · refine v_iconst X (v := (nI 1)) dX6_clears_105 (by decide) ?_
        refine v_eqi (y := (nI k)) (congrArg nI (show 1 = k by omega)) ?_
        refine v_iload_n X 2 rfl dX6_clears_106 ?_
        refine v_iconst X (v := (nI 1)) dX6_clears_107 (by decide) ?_
        refine v_isub X dX6_clears_108 ?_
        refine v_eqi (y := (nI (r - 1))) (pk_sub (by omega)) ?_
        refine v_lload X 7 rfl dX6_clears_109 ?_
        refine v_lload X 8 rfl dX6_clears_111 ?_
        refine v_callV X (c_X6_shares _ _ hE _ _ S.length hS.1 hs12 hb (nI k) (nI (r - 1)) (iL (vw k M r c / vw k M (r - 1) c).num) (iL ((vw k M r c / vw k M (r - 1) c).den : Int))) k_X6_235 dl_30 (cef_30 _ _ _ _) rfl ⟨rfl, rfl, Nat.le_of_ble_eq_true rfl, Nat.le_of_ble_eq_true rfl⟩ (As := [.int (nI k), .int (nI (r - 1)), .long (iL (vw k M r c / vw k M (r - 1) c).num), .long (iL ((vw k M r c / vw k M (r - 1) c).den : Int))]) (rest := []) rfl rfl (Nat.le_of_ble_eq_true rfl) dX6_clears_113 (fun r113 I113 L113 hp113 => ?_)
        obtain ⟨rfl, e1, e2⟩ := hp113
        have e1 := e1.symm
        have e2 := e2.symm
        subst e1; subst e2
        refine v_st (st' := []) rfl ?_
        obtain ⟨I1, eI1⟩ : ∃ z, z = (upI (upI (upI (upI I 52 0 S.length (nI k)) 53 0 S.length (nI (r - 1))) 30 0 33 (nI (S.length + 1))) 30 0 34 (nI (if 0 < (iL (vw k M r c / vw k M (r - 1) c).num) then 1 else 0))) := ⟨_, rfl⟩
        refine v_eqI eI1.symm ?_
        obtain ⟨L1, eL1⟩ : ∃ z, z = (upL (upL (setR L (vw k M r c / vw k M (r - 1) c)) 50 0 S.length (iL (vw k M r c / vw k M (r - 1) c).num)) 51 0 S.length (iL ((vw k M r c / vw k M (r - 1) c).den : Int))) := ⟨_, rfl⟩
        refine v_eqL eL1.symm ?_
        have hS1 : repSm I1 L1 (S ++ [(k, r - 1, (vw k M r c / vw k M (r - 1) c))]) := by rw [eI1, eL1]; exact repSm_add (repSm_R hS)
        have hKF : MKF I I1 := by rw [eI1]; exact MKF.rf.k52.k53.u3.u4
        have hcb1 : I1 30 0 34 = nI (if 0 < (vw k M r c / vw k M (r - 1) c).num then 1 else 0) := by
          rw [eI1, upI_eq]
          have hp : 0 < iL (vw k M r c / vw k M (r - 1) c).num ↔ 0 < (vw k M r c / vw k M (r - 1) c).num := iL_lt (a := 0) (by decide) gQn2
          by_cases q : 0 < (vw k M r c / vw k M (r - 1) c).num
          · rw [if_pos q, if_pos (hp.mpr q)]
          · rw [if_neg q, if_neg (fun z => q (hp.mp z))]
        have hFL1 : FL FLK L L1 := by rw [eL1]; exact ((FL_setR FL.rf).up (by simp)).up (by simp)
        have hM1 : repMm n L1 (rwJ k M r (vw k M r c / vw k M (r - 1) c) 0) := by
          refine repMm_of (k := k) (fun i j hi hj => ?_)
          rw [vw_rwJ, if_neg (by omega)]
          have g := repMm_v (k := k) hM hi hj
          rw [eL1, upL_k (by decide), upL_k (by decide), setR_k (by decide), upL_k (by decide), upL_k (by decide), setR_k (by decide)]
          exact g
        refine v_iconst X (v := (nI 0)) dX6_clears_116 (by decide) ?_
        refine v_istore X [1, 2, 3, 4, 5, 6, 7, 8, 9, 0] (lv' := [(0, .ref (eA (vE a) 30 0)), (1, .int (nI n)), (2, .int (nI r)), (3, .int (nI c)), (4, .int (nI (1 - k))), (5, .int (nI (pl3 k r c))), (6, .int (nI (pl3 k (r - 1) c))), (7, .long (iL (vw k M r c / vw k M (r - 1) c).num)), (9, .long (iL ((vw k M r c / vw k M (r - 1) c).den : Int))), (11, .int (nI 0))]) (by decide) rfl dX6_clears_117 ?_
        have loop119 : ∀ (fu : Nat) (j : Nat) (L2 : TL), 4 - j < fu → (j ≤ n) → (repMm n L2 (rwJ k M r (vw k M r c / vw k M (r - 1) c) j)) → (FL FLK L L2) → (repSm I1 L2 (S ++ [(k, r - 1, (vw k M r c / vw k M (r - 1) c))])) → V a 119 [(0, .ref (eA (vE a) 30 0)), (1, .int (nI n)), (2, .int (nI r)), (3, .int (nI c)), (4, .int (nI (1 - k))), (5, .int (nI (pl3 k r c))), (6, .int (nI (pl3 k (r - 1) c))), (7, .long (iL (vw k M r c / vw k M (r - 1) c).num)), (9, .long (iL ((vw k M r c / vw k M (r - 1) c).den : Int))), (11, .int (nI j))] [] I1 L2 := by
          intro fu
          induction fu with
          | zero => intro j L2 hm _ _ _ _; exact absurd hm (Nat.not_lt_zero _)
          | succ fu ih119 =>
            intro j L2 hm119 hj hML hFL2 hS2
            refine v_iload X 9 rfl dX6_clears_119 ?_
            refine v_iload_n X 1 rfl dX6_clears_121 ?_
            refine v_icmp_ge_n X (by omega) (by omega) dX6_clears_122 (tgt := 267) (by decide) (fun h122 => ?_) (fun h122 => ?_)
            · exact v_vret X Y dX6_clears_267 (⟨rfl, Or.inr (Or.inr ⟨hH0, hA0, hKF, hFL2, by rw [show n = j by omega] at hML ⊢; exact hML, hS2, hcb1⟩)⟩)
            · have hjn : j < n := by omega
              have hv1 := repMm_v (k := k) hML hrn hjn
              have hv2 := repMm_v (k := k) hML (show r - 1 < n by omega) hjn
              rw [vw_rwJ, if_neg (by omega)] at hv1 hv2
              obtain ⟨cl1', cl2', cl3', cl4'⟩ := gcl j hjn
              have k1 : ((vw k M r c / vw k M (r - 1) c) * (vw k M (r - 1) j)).num.natAbs < 2 ^ 63 := cl1'
              have k2 : ((vw k M r c / vw k M (r - 1) c) * (vw k M (r - 1) j)).den < 2 ^ 63 := cl2'
              have k3 : (clX (vw k M r j) ((vw k M r c / vw k M (r - 1) c) * (vw k M (r - 1) j))).natAbs < 2 ^ 63 := cl3'
              have k4 : (clY (vw k M r j) ((vw k M r c / vw k M (r - 1) c) * (vw k M (r - 1) j))).natAbs < 2 ^ 63 := cl4'
              obtain ⟨gH1, gH2⟩ : (vw k M r j).num.natAbs < 2 ^ 63 ∧ (vw k M r j).den < 2 ^ 63 := good_rg hk hn (stg_lt _ _) hg hrn hjn
              obtain ⟨gA1, gA2⟩ : (vw k M (r - 1) j).num.natAbs < 2 ^ 63 ∧ (vw k M (r - 1) j).den < 2 ^ 63 := good_rg hk hn (stg_lt _ _) hg (show r - 1 < n by omega) hjn
              have hmr := mul_red (vw k M r c / vw k M (r - 1) c) (vw k M (r - 1) j)
              have pH := (vw k M r j).den_pos
              have pA := (vw k M (r - 1) j).den_pos
              have pQ := (vw k M r c / vw k M (r - 1) c).den_pos
              have pG : 0 < Nat.gcd (vw k M r j).den ((vw k M r c / vw k M (r - 1) c) * (vw k M (r - 1) j)).den := Nat.gcd_pos_of_pos_left _ pH
              have lG : Nat.gcd (vw k M r j).den ((vw k M r c / vw k M (r - 1) c) * (vw k M (r - 1) j)).den < 2 ^ 63 := Nat.lt_of_le_of_lt (Nat.gcd_le_left _ pH) gH2
              refine v_iload_n X 2 rfl dX6_clears_125 ?_
              refine v_iload X 9 rfl dX6_clears_126 ?_
              refine v_iload X 4 rfl dX6_clears_128 ?_
              refine v_callS X (c_X6_cell _ _ hE _ _ r j k hk) k_X6_227 ⟨rfl, rfl, Nat.le_of_ble_eq_true rfl, Nat.le_of_ble_eq_true rfl⟩ (As := [.int (nI r), .int (nI j), .int (nI (1 - k))]) (rest := []) rfl rfl (Nat.le_of_ble_eq_true rfl) dX6_clears_130 (fun r130 I130 L130 hp130 => ?_)
              obtain ⟨rfl, e1, e2⟩ := hp130
              have e1 := e1.symm
              have e2 := e2.symm
              subst e1; subst e2
              refine v_st (st' := [.int (nI (pl3 k r j))]) rfl ?_
              refine v_istore X [1, 2, 3, 4, 5, 6, 7, 8, 9, 10, 0] (lv' := [(0, .ref (eA (vE a) 30 0)), (1, .int (nI n)), (2, .int (nI r)), (3, .int (nI c)), (4, .int (nI (1 - k))), (5, .int (nI (pl3 k r c))), (6, .int (nI (pl3 k (r - 1) c))), (7, .long (iL (vw k M r c / vw k M (r - 1) c).num)), (9, .long (iL ((vw k M r c / vw k M (r - 1) c).den : Int))), (11, .int (nI j)), (12, .int (nI (pl3 k r j)))]) (by decide) rfl dX6_clears_133 ?_
              refine v_iload_n X 2 rfl dX6_clears_135 ?_
              refine v_iconst X (v := (nI 1)) dX6_clears_136 (by decide) ?_
              refine v_isub X dX6_clears_137 ?_
              refine v_eqi (y := (nI (r - 1))) (pk_sub (by omega)) ?_
              refine v_iload X 9 rfl dX6_clears_138 ?_
              refine v_iload X 4 rfl dX6_clears_140 ?_
              refine v_callS X (c_X6_cell _ _ hE _ _ (r - 1) j k hk) k_X6_227 ⟨rfl, rfl, Nat.le_of_ble_eq_true rfl, Nat.le_of_ble_eq_true rfl⟩ (As := [.int (nI (r - 1)), .int (nI j), .int (nI (1 - k))]) (rest := []) rfl rfl (Nat.le_of_ble_eq_true rfl) dX6_clears_142 (fun r142 I142 L142 hp142 => ?_)
              obtain ⟨rfl, e1, e2⟩ := hp142
              have e1 := e1.symm
              have e2 := e2.symm
              subst e1; subst e2
              refine v_st (st' := [.int (nI (pl3 k (r - 1) j))]) rfl ?_
              refine v_istore X [1, 2, 3, 4, 5, 6, 7, 8, 9, 10, 11, 0] (lv' := [(0, .ref (eA (vE a) 30 0)), (1, .int (nI n)), (2, .int (nI r)), (3, .int (nI c)), (4, .int (nI (1 - k))), (5, .int (nI (pl3 k r c))), (6, .int (nI (pl3 k (r - 1) c))), (7, .long (iL (vw k M r c / vw k M (r - 1) c).num)), (9, .long (iL ((vw k M r c / vw k M (r - 1) c).den : Int))), (11, .int (nI j)), (12, .int (nI (pl3 k r j))), (13, .int (nI (pl3 k (r - 1) j)))]) (by decide) rfl dX6_clears_145 ?_
              refine v_aload_n X 0 rfl dX6_clears_147 ?_
              refine v_lload X 7 rfl dX6_clears_148 ?_
              refine v_lload X 8 rfl dX6_clears_150 ?_
              refine v_aload_n X 0 rfl dX6_clears_152 ?_
              refine gf_X6_62 X dX6_clears_153 ?_
              refine v_iload X 11 rfl dX6_clears_156 ?_
              refine v_lald_n X dl_48 (fun _ _ => rfl) (n := 9) (pl3_lt (by omega) (by omega)) (by decide) dX6_clears_158 ?_
              refine v_eql (y := (iL (vw k M (r - 1) j).num)) (hv2.1) ?_
              refine v_aload_n X 0 rfl dX6_clears_159 ?_
              refine gf_X6_65 X dX6_clears_160 ?_
              refine v_iload X 11 rfl dX6_clears_163 ?_
              refine v_lald_n X dl_49 (fun _ _ => rfl) (n := 9) (pl3_lt (by omega) (by omega)) (by decide) dX6_clears_165 ?_
              refine v_eql (y := (iL ((vw k M (r - 1) j).den : Int))) (hv2.2) ?_
              refine v_callV X (c_X6_times _ _ hE _ _ ((vw k M r c / vw k M (r - 1) c).num) ((vw k M r c / vw k M (r - 1) c).den : Int) ((vw k M (r - 1) j).num) ((vw k M (r - 1) j).den : Int) gQn2 (by omega) gA1 (by omega) (by omega) (by omega) (by rw [hmr.1]; exact k1) (by rw [hmr.2]; exact k2)) k_X6_231 dl_30 (cef_30 _ _ _ _) rfl ⟨rfl, rfl, Nat.le_of_ble_eq_true rfl, Nat.le_of_ble_eq_true rfl⟩ (As := [.long (iL (vw k M r c / vw k M (r - 1) c).num), .long (iL ((vw k M r c / vw k M (r - 1) c).den : Int)), .long (iL (vw k M (r - 1) j).num), .long (iL ((vw k M (r - 1) j).den : Int))]) (rest := []) rfl rfl (Nat.le_of_ble_eq_true rfl) dX6_clears_166 (fun r166 I166 L166 hp166 => ?_)
              obtain ⟨rfl, e1, e2⟩ := hp166
              have e1 := e1.symm
              subst e1
              rw [mul_q] at e2
              have e2 := e2.symm
              subst e2
              refine v_st (st' := []) rfl ?_
              refine v_aload_n X 0 rfl dX6_clears_169 ?_
              refine gf_X6_65 X dX6_clears_170 ?_
              refine v_iload X 10 rfl dX6_clears_173 ?_
              refine v_lald_n X dl_49 (fun _ _ => rfl) (n := 9) (pl3_lt (by omega) (by omega)) (by decide) dX6_clears_175 ?_
              refine v_eql (y := (iL ((vw k M r j).den : Int))) ((setR_k (by decide)).trans hv1.2) ?_
              refine v_aload_n X 0 rfl dX6_clears_176 ?_
              refine gf_X6_214 X dX6_clears_177 ?_
              refine v_eql (y := (iL (((vw k M r c / vw k M (r - 1) c) * (vw k M (r - 1) j)).den : Int))) (setR_d _ _) ?_
              refine v_callS X (c_X6_divisor _ _ hE _ _ ((vw k M r j).den : Int) (((vw k M r c / vw k M (r - 1) c) * (vw k M (r - 1) j)).den : Int) (by omega) (by omega)) k_X6_206 ⟨rfl, rfl, Nat.le_of_ble_eq_true rfl, Nat.le_of_ble_eq_true rfl⟩ (As := [.long (iL ((vw k M r j).den : Int)), .long (iL (((vw k M r c / vw k M (r - 1) c) * (vw k M (r - 1) j)).den : Int))]) (rest := []) rfl rfl (Nat.le_of_ble_eq_true rfl) dX6_clears_180 (fun r180 I180 L180 hp180 => ?_)
              obtain ⟨rfl, e1, e2⟩ := hp180
              have e1 := e1.symm
              have e2 := e2.symm
              subst e1; subst e2
              refine v_st (st' := [.long (lN (Nat.gcd ((vw k M r j).den : Int).natAbs (((vw k M r c / vw k M (r - 1) c) * (vw k M (r - 1) j)).den : Int).natAbs))]) rfl ?_
              refine v_eql (y := (lN (Nat.gcd (vw k M r j).den ((vw k M r c / vw k M (r - 1) c) * (vw k M (r - 1) j)).den))) (congrArg lN (by simp only [Int.natAbs_natCast])) ?_
              refine v_lstore X [1, 2, 3, 4, 5, 6, 7, 8, 9, 10, 11, 12, 0] (lv' := [(0, .ref (eA (vE a) 30 0)), (1, .int (nI n)), (2, .int (nI r)), (3, .int (nI c)), (4, .int (nI (1 - k))), (5, .int (nI (pl3 k r c))), (6, .int (nI (pl3 k (r - 1) c))), (7, .long (iL (vw k M r c / vw k M (r - 1) c).num)), (9, .long (iL ((vw k M r c / vw k M (r - 1) c).den : Int))), (11, .int (nI j)), (12, .int (nI (pl3 k r j))), (13, .int (nI (pl3 k (r - 1) j))), (14, .long (lN (Nat.gcd (vw k M r j).den ((vw k M r c / vw k M (r - 1) c) * (vw k M (r - 1) j)).den)))]) (by decide) rfl dX6_clears_183 ?_
              refine v_aload_n X 0 rfl dX6_clears_185 ?_
              refine gf_X6_62 X dX6_clears_186 ?_
              refine v_iload X 10 rfl dX6_clears_189 ?_
              refine v_lald_n X dl_48 (fun _ _ => rfl) (n := 9) (pl3_lt (by omega) (by omega)) (by decide) dX6_clears_191 ?_
              refine v_eql (y := (iL (vw k M r j).num)) ((setR_k (by decide)).trans hv1.1) ?_
              refine v_aload_n X 0 rfl dX6_clears_192 ?_
              refine gf_X6_214 X dX6_clears_193 ?_
              refine v_eql (y := (iL (((vw k M r c / vw k M (r - 1) c) * (vw k M (r - 1) j)).den : Int))) (setR_d _ _) ?_
              refine v_lload X 12 rfl dX6_clears_196 ?_
              refine v_ldiv X dX6_clears_198 (fun e => absurd ((lN_0 lG).mp e) (by omega)) ?_
              refine v_eql (y := (iL ((((vw k M r c / vw k M (r - 1) c) * (vw k M (r - 1) j)).den : Int) / ((Nat.gcd (vw k M r j).den ((vw k M r c / vw k M (r - 1) c) * (vw k M (r - 1) j)).den) : Int)))) (iL_div_nat (by omega) lG (Int.ofNat_dvd.mpr (Nat.gcd_dvd_right _ _))) ?_
              refine v_lmul X dX6_clears_199 ?_
              refine v_aload_n X 0 rfl dX6_clears_200 ?_
              refine gf_X6_210 X dX6_clears_201 ?_
              refine v_eql (y := (iL ((vw k M r c / vw k M (r - 1) c) * (vw k M (r - 1) j)).num)) (setR_u _ _) ?_
              refine v_aload_n X 0 rfl dX6_clears_204 ?_
              refine gf_X6_65 X dX6_clears_205 ?_
              refine v_iload X 10 rfl dX6_clears_208 ?_
              refine v_lald_n X dl_49 (fun _ _ => rfl) (n := 9) (pl3_lt (by omega) (by omega)) (by decide) dX6_clears_210 ?_
              refine v_eql (y := (iL ((vw k M r j).den : Int))) ((setR_k (by decide)).trans hv1.2) ?_
              refine v_lload X 12 rfl dX6_clears_211 ?_
              refine v_ldiv X dX6_clears_213 (fun e => absurd ((lN_0 lG).mp e) (by omega)) ?_
              refine v_eql (y := (iL (((vw k M r j).den : Int) / ((Nat.gcd (vw k M r j).den ((vw k M r c / vw k M (r - 1) c) * (vw k M (r - 1) j)).den) : Int)))) (iL_div_nat (by omega) lG (Int.ofNat_dvd.mpr (Nat.gcd_dvd_left _ _))) ?_
              refine v_lmul X dX6_clears_214 ?_
              refine v_lsub X dX6_clears_215 ?_
              refine v_eql (y := (iL (clX (vw k M r j) ((vw k M r c / vw k M (r - 1) c) * (vw k M (r - 1) j))))) (by rw [iL_mul, iL_mul, iL_sub]; rfl) ?_
              refine v_lstore X [1, 2, 3, 4, 5, 6, 7, 8, 9, 10, 11, 12, 13, 0] (lv' := [(0, .ref (eA (vE a) 30 0)), (1, .int (nI n)), (2, .int (nI r)), (3, .int (nI c)), (4, .int (nI (1 - k))), (5, .int (nI (pl3 k r c))), (6, .int (nI (pl3 k (r - 1) c))), (7, .long (iL (vw k M r c / vw k M (r - 1) c).num)), (9, .long (iL ((vw k M r c / vw k M (r - 1) c).den : Int))), (11, .int (nI j)), (12, .int (nI (pl3 k r j))), (13, .int (nI (pl3 k (r - 1) j))), (14, .long (lN (Nat.gcd (vw k M r j).den ((vw k M r c / vw k M (r - 1) c) * (vw k M (r - 1) j)).den))), (16, .long (iL (clX (vw k M r j) ((vw k M r c / vw k M (r - 1) c) * (vw k M (r - 1) j)))))]) (by decide) rfl dX6_clears_216 ?_
              refine v_aload_n X 0 rfl dX6_clears_218 ?_
              refine v_lload X 13 rfl dX6_clears_219 ?_
              refine v_aload_n X 0 rfl dX6_clears_221 ?_
              refine gf_X6_65 X dX6_clears_222 ?_
              refine v_iload X 10 rfl dX6_clears_225 ?_
              refine v_lald_n X dl_49 (fun _ _ => rfl) (n := 9) (pl3_lt (by omega) (by omega)) (by decide) dX6_clears_227 ?_
              refine v_eql (y := (iL ((vw k M r j).den : Int))) ((setR_k (by decide)).trans hv1.2) ?_
              refine v_lload X 12 rfl dX6_clears_228 ?_
              refine v_ldiv X dX6_clears_230 (fun e => absurd ((lN_0 lG).mp e) (by omega)) ?_
              refine v_eql (y := (iL (((vw k M r j).den : Int) / ((Nat.gcd (vw k M r j).den ((vw k M r c / vw k M (r - 1) c) * (vw k M (r - 1) j)).den) : Int)))) (iL_div_nat (by omega) lG (Int.ofNat_dvd.mpr (Nat.gcd_dvd_left _ _))) ?_
              refine v_aload_n X 0 rfl dX6_clears_231 ?_
              refine gf_X6_214 X dX6_clears_232 ?_
              refine v_eql (y := (iL (((vw k M r c / vw k M (r - 1) c) * (vw k M (r - 1) j)).den : Int))) (setR_d _ _) ?_
              refine v_lmul X dX6_clears_235 ?_
              refine v_eql (y := (iL (clY (vw k M r j) ((vw k M r c / vw k M (r - 1) c) * (vw k M (r - 1) j))))) (by rw [iL_mul]; rfl) ?_
              refine v_callV X (c_X6_fraction _ _ hE _ _ (clX (vw k M r j) ((vw k M r c / vw k M (r - 1) c) * (vw k M (r - 1) j))) (clY (vw k M r j) ((vw k M r c / vw k M (r - 1) c) * (vw k M (r - 1) j))) k3 k4 (Int.ne_of_gt (clY_pos _ _))) k_X6_217 dl_30 (cef_30 _ _ _ _) rfl ⟨rfl, rfl, Nat.le_of_ble_eq_true rfl, Nat.le_of_ble_eq_true rfl⟩ (As := [.long (iL (clX (vw k M r j) ((vw k M r c / vw k M (r - 1) c) * (vw k M (r - 1) j)))), .long (iL (clY (vw k M r j) ((vw k M r c / vw k M (r - 1) c) * (vw k M (r - 1) j))))]) (rest := []) rfl rfl (Nat.le_of_ble_eq_true rfl) dX6_clears_236 (fun r236 I236 L236 hp236 => ?_)
              obtain ⟨rfl, e1, e2⟩ := hp236
              have e1 := e1.symm
              subst e1
              rw [setR_setR, sb_ok] at e2
              have e2 := e2.symm
              subst e2
              refine v_st (st' := []) rfl ?_
              refine v_aload_n X 0 rfl dX6_clears_239 ?_
              refine gf_X6_62 X dX6_clears_240 ?_
              refine v_iload X 10 rfl dX6_clears_243 ?_
              refine v_aload_n X 0 rfl dX6_clears_245 ?_
              refine gf_X6_210 X dX6_clears_246 ?_
              refine v_eql (y := (iL ((vw k M r j) - ((vw k M r c / vw k M (r - 1) c) * (vw k M (r - 1) j))).num)) (setR_u _ _) ?_
              refine v_last_n X dl_48 (fun _ _ => rfl) (n := 9) (pl3_lt (by omega) (by omega)) (by decide) dX6_clears_249 ?_
              refine v_aload_n X 0 rfl dX6_clears_250 ?_
              refine gf_X6_65 X dX6_clears_251 ?_
              refine v_iload X 10 rfl dX6_clears_254 ?_
              refine v_aload_n X 0 rfl dX6_clears_256 ?_
              refine gf_X6_214 X dX6_clears_257 ?_
              refine v_eql (y := (iL (((vw k M r j) - ((vw k M r c / vw k M (r - 1) c) * (vw k M (r - 1) j))).den : Int))) ((upL_k (by decide)).trans (setR_d _ _)) ?_
              refine v_last_n X dl_49 (fun _ _ => rfl) (n := 9) (pl3_lt (by omega) (by omega)) (by decide) dX6_clears_260 ?_
              refine v_iinc X [1, 2, 3, 4, 5, 6, 7, 8, 9, 0, 10, 11, 12, 13] 9 (nI (j + 1)) (lv' := [(0, .ref (eA (vE a) 30 0)), (1, .int (nI n)), (2, .int (nI r)), (3, .int (nI c)), (4, .int (nI (1 - k))), (5, .int (nI (pl3 k r c))), (6, .int (nI (pl3 k (r - 1) c))), (7, .long (iL (vw k M r c / vw k M (r - 1) c).num)), (9, .long (iL ((vw k M r c / vw k M (r - 1) c).den : Int))), (11, .int (nI (j + 1))), (12, .int (nI (pl3 k r j))), (13, .int (nI (pl3 k (r - 1) j))), (14, .long (lN (Nat.gcd (vw k M r j).den ((vw k M r c / vw k M (r - 1) c) * (vw k M (r - 1) j)).den))), (16, .long (iL (clX (vw k M r j) ((vw k M r c / vw k M (r - 1) c) * (vw k M (r - 1) j)))))]) rfl (nI_1 _) (by decide) rfl dX6_clears_261 ?_
              refine v_goto X (tgt := 119) dX6_clears_264 (by decide) ?_
              refine v_sub [0, 1, 2, 3, 4, 5, 6, 7, 8, 9] (lv' := [(0, .ref (eA (vE a) 30 0)), (1, .int (nI n)), (2, .int (nI r)), (3, .int (nI c)), (4, .int (nI (1 - k))), (5, .int (nI (pl3 k r c))), (6, .int (nI (pl3 k (r - 1) c))), (7, .long (iL (vw k M r c / vw k M (r - 1) c).num)), (9, .long (iL ((vw k M r c / vw k M (r - 1) c).den : Int))), (11, .int (nI (j + 1)))]) rfl ?_
              exact ih119 (j + 1) (upL (upL (setR L2 ((vw k M r j) - ((vw k M r c / vw k M (r - 1) c) * (vw k M (r - 1) j)))) 48 0 (pl3 k r j) (iL ((vw k M r j) - ((vw k M r c / vw k M (r - 1) c) * (vw k M (r - 1) j))).num)) 49 0 (pl3 k r j) (iL (((vw k M r j) - ((vw k M r c / vw k M (r - 1) c) * (vw k M (r - 1) j))).den : Int))) (by omega) (by omega) (repMm_set hn hrn hjn (repMm_R hML) rfl) (((FL_setR hFL2).up (by simp)).up (by simp)) (repSm_fr (repSm_R (q := ((vw k M r j) - ((vw k M r c / vw k M (r - 1) c) * (vw k M (r - 1) j)))) hS2) rfl rfl rfl (by rw [upL_off _ _ _ _ _ (by simp), upL_off _ _ _ _ _ (by simp)]) (by rw [upL_off _ _ _ _ _ (by simp), upL_off _ _ _ _ _ (by simp)]))
        exact loop119 _ 0 L1 (Nat.lt_succ_self _) (Nat.zero_le _) hM1 hFL1 hS1
      · refine v_iconst X (v := (nI 0)) dX6_clears_101 (by decide) ?_
        refine v_goto X (tgt := 106) dX6_clears_102 (by decide) ?_
        refine v_eqi (y := (nI k)) (congrArg nI (show 0 = k by omega)) ?_
        refine v_iload_n X 2 rfl dX6_clears_106 ?_
        refine v_iconst X (v := (nI 1)) dX6_clears_107 (by decide) ?_
        refine v_isub X dX6_clears_108 ?_
        refine v_eqi (y := (nI (r - 1))) (pk_sub (by omega)) ?_
        refine v_lload X 7 rfl dX6_clears_109 ?_
        refine v_lload X 8 rfl dX6_clears_111 ?_
        refine v_callV X (c_X6_shares _ _ hE _ _ S.length hS.1 hs12 hb (nI k) (nI (r - 1)) (iL (vw k M r c / vw k M (r - 1) c).num) (iL ((vw k M r c / vw k M (r - 1) c).den : Int))) k_X6_235 dl_30 (cef_30 _ _ _ _) rfl ⟨rfl, rfl, Nat.le_of_ble_eq_true rfl, Nat.le_of_ble_eq_true rfl⟩ (As := [.int (nI k), .int (nI (r - 1)), .long (iL (vw k M r c / vw k M (r - 1) c).num), .long (iL ((vw k M r c / vw k M (r - 1) c).den : Int))]) (rest := []) rfl rfl (Nat.le_of_ble_eq_true rfl) dX6_clears_113 (fun r113 I113 L113 hp113 => ?_)
        obtain ⟨rfl, e1, e2⟩ := hp113
        have e1 := e1.symm
        have e2 := e2.symm
        subst e1; subst e2
        refine v_st (st' := []) rfl ?_
        obtain ⟨I1, eI1⟩ : ∃ z, z = (upI (upI (upI (upI I 52 0 S.length (nI k)) 53 0 S.length (nI (r - 1))) 30 0 33 (nI (S.length + 1))) 30 0 34 (nI (if 0 < (iL (vw k M r c / vw k M (r - 1) c).num) then 1 else 0))) := ⟨_, rfl⟩
        refine v_eqI eI1.symm ?_
        obtain ⟨L1, eL1⟩ : ∃ z, z = (upL (upL (setR L (vw k M r c / vw k M (r - 1) c)) 50 0 S.length (iL (vw k M r c / vw k M (r - 1) c).num)) 51 0 S.length (iL ((vw k M r c / vw k M (r - 1) c).den : Int))) := ⟨_, rfl⟩
        refine v_eqL eL1.symm ?_
        have hS1 : repSm I1 L1 (S ++ [(k, r - 1, (vw k M r c / vw k M (r - 1) c))]) := by rw [eI1, eL1]; exact repSm_add (repSm_R hS)
        have hKF : MKF I I1 := by rw [eI1]; exact MKF.rf.k52.k53.u3.u4
        have hcb1 : I1 30 0 34 = nI (if 0 < (vw k M r c / vw k M (r - 1) c).num then 1 else 0) := by
          rw [eI1, upI_eq]
          have hp : 0 < iL (vw k M r c / vw k M (r - 1) c).num ↔ 0 < (vw k M r c / vw k M (r - 1) c).num := iL_lt (a := 0) (by decide) gQn2
          by_cases q : 0 < (vw k M r c / vw k M (r - 1) c).num
          · rw [if_pos q, if_pos (hp.mpr q)]
          · rw [if_neg q, if_neg (fun z => q (hp.mp z))]
        have hFL1 : FL FLK L L1 := by rw [eL1]; exact ((FL_setR FL.rf).up (by simp)).up (by simp)
        have hM1 : repMm n L1 (rwJ k M r (vw k M r c / vw k M (r - 1) c) 0) := by
          refine repMm_of (k := k) (fun i j hi hj => ?_)
          rw [vw_rwJ, if_neg (by omega)]
          have g := repMm_v (k := k) hM hi hj
          rw [eL1, upL_k (by decide), upL_k (by decide), setR_k (by decide), upL_k (by decide), upL_k (by decide), setR_k (by decide)]
          exact g
        refine v_iconst X (v := (nI 0)) dX6_clears_116 (by decide) ?_
        refine v_istore X [1, 2, 3, 4, 5, 6, 7, 8, 9, 0] (lv' := [(0, .ref (eA (vE a) 30 0)), (1, .int (nI n)), (2, .int (nI r)), (3, .int (nI c)), (4, .int (nI (1 - k))), (5, .int (nI (pl3 k r c))), (6, .int (nI (pl3 k (r - 1) c))), (7, .long (iL (vw k M r c / vw k M (r - 1) c).num)), (9, .long (iL ((vw k M r c / vw k M (r - 1) c).den : Int))), (11, .int (nI 0))]) (by decide) rfl dX6_clears_117 ?_
        have loop119 : ∀ (fu : Nat) (j : Nat) (L2 : TL), 4 - j < fu → (j ≤ n) → (repMm n L2 (rwJ k M r (vw k M r c / vw k M (r - 1) c) j)) → (FL FLK L L2) → (repSm I1 L2 (S ++ [(k, r - 1, (vw k M r c / vw k M (r - 1) c))])) → V a 119 [(0, .ref (eA (vE a) 30 0)), (1, .int (nI n)), (2, .int (nI r)), (3, .int (nI c)), (4, .int (nI (1 - k))), (5, .int (nI (pl3 k r c))), (6, .int (nI (pl3 k (r - 1) c))), (7, .long (iL (vw k M r c / vw k M (r - 1) c).num)), (9, .long (iL ((vw k M r c / vw k M (r - 1) c).den : Int))), (11, .int (nI j))] [] I1 L2 := by
          intro fu
          induction fu with
          | zero => intro j L2 hm _ _ _ _; exact absurd hm (Nat.not_lt_zero _)
          | succ fu ih119 =>
            intro j L2 hm119 hj hML hFL2 hS2
            refine v_iload X 9 rfl dX6_clears_119 ?_
            refine v_iload_n X 1 rfl dX6_clears_121 ?_
            refine v_icmp_ge_n X (by omega) (by omega) dX6_clears_122 (tgt := 267) (by decide) (fun h122 => ?_) (fun h122 => ?_)
            · exact v_vret X Y dX6_clears_267 (⟨rfl, Or.inr (Or.inr ⟨hH0, hA0, hKF, hFL2, by rw [show n = j by omega] at hML ⊢; exact hML, hS2, hcb1⟩)⟩)
            · have hjn : j < n := by omega
              have hv1 := repMm_v (k := k) hML hrn hjn
              have hv2 := repMm_v (k := k) hML (show r - 1 < n by omega) hjn
              rw [vw_rwJ, if_neg (by omega)] at hv1 hv2
              obtain ⟨cl1', cl2', cl3', cl4'⟩ := gcl j hjn
              have k1 : ((vw k M r c / vw k M (r - 1) c) * (vw k M (r - 1) j)).num.natAbs < 2 ^ 63 := cl1'
              have k2 : ((vw k M r c / vw k M (r - 1) c) * (vw k M (r - 1) j)).den < 2 ^ 63 := cl2'
              have k3 : (clX (vw k M r j) ((vw k M r c / vw k M (r - 1) c) * (vw k M (r - 1) j))).natAbs < 2 ^ 63 := cl3'
              have k4 : (clY (vw k M r j) ((vw k M r c / vw k M (r - 1) c) * (vw k M (r - 1) j))).natAbs < 2 ^ 63 := cl4'
              obtain ⟨gH1, gH2⟩ : (vw k M r j).num.natAbs < 2 ^ 63 ∧ (vw k M r j).den < 2 ^ 63 := good_rg hk hn (stg_lt _ _) hg hrn hjn
              obtain ⟨gA1, gA2⟩ : (vw k M (r - 1) j).num.natAbs < 2 ^ 63 ∧ (vw k M (r - 1) j).den < 2 ^ 63 := good_rg hk hn (stg_lt _ _) hg (show r - 1 < n by omega) hjn
              have hmr := mul_red (vw k M r c / vw k M (r - 1) c) (vw k M (r - 1) j)
              have pH := (vw k M r j).den_pos
              have pA := (vw k M (r - 1) j).den_pos
              have pQ := (vw k M r c / vw k M (r - 1) c).den_pos
              have pG : 0 < Nat.gcd (vw k M r j).den ((vw k M r c / vw k M (r - 1) c) * (vw k M (r - 1) j)).den := Nat.gcd_pos_of_pos_left _ pH
              have lG : Nat.gcd (vw k M r j).den ((vw k M r c / vw k M (r - 1) c) * (vw k M (r - 1) j)).den < 2 ^ 63 := Nat.lt_of_le_of_lt (Nat.gcd_le_left _ pH) gH2
              refine v_iload_n X 2 rfl dX6_clears_125 ?_
              refine v_iload X 9 rfl dX6_clears_126 ?_
              refine v_iload X 4 rfl dX6_clears_128 ?_
              refine v_callS X (c_X6_cell _ _ hE _ _ r j k hk) k_X6_227 ⟨rfl, rfl, Nat.le_of_ble_eq_true rfl, Nat.le_of_ble_eq_true rfl⟩ (As := [.int (nI r), .int (nI j), .int (nI (1 - k))]) (rest := []) rfl rfl (Nat.le_of_ble_eq_true rfl) dX6_clears_130 (fun r130 I130 L130 hp130 => ?_)
              obtain ⟨rfl, e1, e2⟩ := hp130
              have e1 := e1.symm
              have e2 := e2.symm
              subst e1; subst e2
              refine v_st (st' := [.int (nI (pl3 k r j))]) rfl ?_
              refine v_istore X [1, 2, 3, 4, 5, 6, 7, 8, 9, 10, 0] (lv' := [(0, .ref (eA (vE a) 30 0)), (1, .int (nI n)), (2, .int (nI r)), (3, .int (nI c)), (4, .int (nI (1 - k))), (5, .int (nI (pl3 k r c))), (6, .int (nI (pl3 k (r - 1) c))), (7, .long (iL (vw k M r c / vw k M (r - 1) c).num)), (9, .long (iL ((vw k M r c / vw k M (r - 1) c).den : Int))), (11, .int (nI j)), (12, .int (nI (pl3 k r j)))]) (by decide) rfl dX6_clears_133 ?_
              refine v_iload_n X 2 rfl dX6_clears_135 ?_
              refine v_iconst X (v := (nI 1)) dX6_clears_136 (by decide) ?_
              refine v_isub X dX6_clears_137 ?_
              refine v_eqi (y := (nI (r - 1))) (pk_sub (by omega)) ?_
              refine v_iload X 9 rfl dX6_clears_138 ?_
              refine v_iload X 4 rfl dX6_clears_140 ?_
              refine v_callS X (c_X6_cell _ _ hE _ _ (r - 1) j k hk) k_X6_227 ⟨rfl, rfl, Nat.le_of_ble_eq_true rfl, Nat.le_of_ble_eq_true rfl⟩ (As := [.int (nI (r - 1)), .int (nI j), .int (nI (1 - k))]) (rest := []) rfl rfl (Nat.le_of_ble_eq_true rfl) dX6_clears_142 (fun r142 I142 L142 hp142 => ?_)
              obtain ⟨rfl, e1, e2⟩ := hp142
              have e1 := e1.symm
              have e2 := e2.symm
              subst e1; subst e2
              refine v_st (st' := [.int (nI (pl3 k (r - 1) j))]) rfl ?_
              refine v_istore X [1, 2, 3, 4, 5, 6, 7, 8, 9, 10, 11, 0] (lv' := [(0, .ref (eA (vE a) 30 0)), (1, .int (nI n)), (2, .int (nI r)), (3, .int (nI c)), (4, .int (nI (1 - k))), (5, .int (nI (pl3 k r c))), (6, .int (nI (pl3 k (r - 1) c))), (7, .long (iL (vw k M r c / vw k M (r - 1) c).num)), (9, .long (iL ((vw k M r c / vw k M (r - 1) c).den : Int))), (11, .int (nI j)), (12, .int (nI (pl3 k r j))), (13, .int (nI (pl3 k (r - 1) j)))]) (by decide) rfl dX6_clears_145 ?_
              refine v_aload_n X 0 rfl dX6_clears_147 ?_
              refine v_lload X 7 rfl dX6_clears_148 ?_
              refine v_lload X 8 rfl dX6_clears_150 ?_
              refine v_aload_n X 0 rfl dX6_clears_152 ?_
              refine gf_X6_62 X dX6_clears_153 ?_
              refine v_iload X 11 rfl dX6_clears_156 ?_
              refine v_lald_n X dl_48 (fun _ _ => rfl) (n := 9) (pl3_lt (by omega) (by omega)) (by decide) dX6_clears_158 ?_
              refine v_eql (y := (iL (vw k M (r - 1) j).num)) (hv2.1) ?_
              refine v_aload_n X 0 rfl dX6_clears_159 ?_
              refine gf_X6_65 X dX6_clears_160 ?_
              refine v_iload X 11 rfl dX6_clears_163 ?_
              refine v_lald_n X dl_49 (fun _ _ => rfl) (n := 9) (pl3_lt (by omega) (by omega)) (by decide) dX6_clears_165 ?_
              refine v_eql (y := (iL ((vw k M (r - 1) j).den : Int))) (hv2.2) ?_
              refine v_callV X (c_X6_times _ _ hE _ _ ((vw k M r c / vw k M (r - 1) c).num) ((vw k M r c / vw k M (r - 1) c).den : Int) ((vw k M (r - 1) j).num) ((vw k M (r - 1) j).den : Int) gQn2 (by omega) gA1 (by omega) (by omega) (by omega) (by rw [hmr.1]; exact k1) (by rw [hmr.2]; exact k2)) k_X6_231 dl_30 (cef_30 _ _ _ _) rfl ⟨rfl, rfl, Nat.le_of_ble_eq_true rfl, Nat.le_of_ble_eq_true rfl⟩ (As := [.long (iL (vw k M r c / vw k M (r - 1) c).num), .long (iL ((vw k M r c / vw k M (r - 1) c).den : Int)), .long (iL (vw k M (r - 1) j).num), .long (iL ((vw k M (r - 1) j).den : Int))]) (rest := []) rfl rfl (Nat.le_of_ble_eq_true rfl) dX6_clears_166 (fun r166 I166 L166 hp166 => ?_)
              obtain ⟨rfl, e1, e2⟩ := hp166
              have e1 := e1.symm
              subst e1
              rw [mul_q] at e2
              have e2 := e2.symm
              subst e2
              refine v_st (st' := []) rfl ?_
              refine v_aload_n X 0 rfl dX6_clears_169 ?_
              refine gf_X6_65 X dX6_clears_170 ?_
              refine v_iload X 10 rfl dX6_clears_173 ?_
              refine v_lald_n X dl_49 (fun _ _ => rfl) (n := 9) (pl3_lt (by omega) (by omega)) (by decide) dX6_clears_175 ?_
              refine v_eql (y := (iL ((vw k M r j).den : Int))) ((setR_k (by decide)).trans hv1.2) ?_
              refine v_aload_n X 0 rfl dX6_clears_176 ?_
              refine gf_X6_214 X dX6_clears_177 ?_
              refine v_eql (y := (iL (((vw k M r c / vw k M (r - 1) c) * (vw k M (r - 1) j)).den : Int))) (setR_d _ _) ?_
              refine v_callS X (c_X6_divisor _ _ hE _ _ ((vw k M r j).den : Int) (((vw k M r c / vw k M (r - 1) c) * (vw k M (r - 1) j)).den : Int) (by omega) (by omega)) k_X6_206 ⟨rfl, rfl, Nat.le_of_ble_eq_true rfl, Nat.le_of_ble_eq_true rfl⟩ (As := [.long (iL ((vw k M r j).den : Int)), .long (iL (((vw k M r c / vw k M (r - 1) c) * (vw k M (r - 1) j)).den : Int))]) (rest := []) rfl rfl (Nat.le_of_ble_eq_true rfl) dX6_clears_180 (fun r180 I180 L180 hp180 => ?_)
              obtain ⟨rfl, e1, e2⟩ := hp180
              have e1 := e1.symm
              have e2 := e2.symm
              subst e1; subst e2
              refine v_st (st' := [.long (lN (Nat.gcd ((vw k M r j).den : Int).natAbs (((vw k M r c / vw k M (r - 1) c) * (vw k M (r - 1) j)).den : Int).natAbs))]) rfl ?_
              refine v_eql (y := (lN (Nat.gcd (vw k M r j).den ((vw k M r c / vw k M (r - 1) c) * (vw k M (r - 1) j)).den))) (congrArg lN (by simp only [Int.natAbs_natCast])) ?_
              refine v_lstore X [1, 2, 3, 4, 5, 6, 7, 8, 9, 10, 11, 12, 0] (lv' := [(0, .ref (eA (vE a) 30 0)), (1, .int (nI n)), (2, .int (nI r)), (3, .int (nI c)), (4, .int (nI (1 - k))), (5, .int (nI (pl3 k r c))), (6, .int (nI (pl3 k (r - 1) c))), (7, .long (iL (vw k M r c / vw k M (r - 1) c).num)), (9, .long (iL ((vw k M r c / vw k M (r - 1) c).den : Int))), (11, .int (nI j)), (12, .int (nI (pl3 k r j))), (13, .int (nI (pl3 k (r - 1) j))), (14, .long (lN (Nat.gcd (vw k M r j).den ((vw k M r c / vw k M (r - 1) c) * (vw k M (r - 1) j)).den)))]) (by decide) rfl dX6_clears_183 ?_
              refine v_aload_n X 0 rfl dX6_clears_185 ?_
              refine gf_X6_62 X dX6_clears_186 ?_
              refine v_iload X 10 rfl dX6_clears_189 ?_
              refine v_lald_n X dl_48 (fun _ _ => rfl) (n := 9) (pl3_lt (by omega) (by omega)) (by decide) dX6_clears_191 ?_
              refine v_eql (y := (iL (vw k M r j).num)) ((setR_k (by decide)).trans hv1.1) ?_
              refine v_aload_n X 0 rfl dX6_clears_192 ?_
              refine gf_X6_214 X dX6_clears_193 ?_
              refine v_eql (y := (iL (((vw k M r c / vw k M (r - 1) c) * (vw k M (r - 1) j)).den : Int))) (setR_d _ _) ?_
              refine v_lload X 12 rfl dX6_clears_196 ?_
              refine v_ldiv X dX6_clears_198 (fun e => absurd ((lN_0 lG).mp e) (by omega)) ?_
              refine v_eql (y := (iL ((((vw k M r c / vw k M (r - 1) c) * (vw k M (r - 1) j)).den : Int) / ((Nat.gcd (vw k M r j).den ((vw k M r c / vw k M (r - 1) c) * (vw k M (r - 1) j)).den) : Int)))) (iL_div_nat (by omega) lG (Int.ofNat_dvd.mpr (Nat.gcd_dvd_right _ _))) ?_
              refine v_lmul X dX6_clears_199 ?_
              refine v_aload_n X 0 rfl dX6_clears_200 ?_
              refine gf_X6_210 X dX6_clears_201 ?_
              refine v_eql (y := (iL ((vw k M r c / vw k M (r - 1) c) * (vw k M (r - 1) j)).num)) (setR_u _ _) ?_
              refine v_aload_n X 0 rfl dX6_clears_204 ?_
              refine gf_X6_65 X dX6_clears_205 ?_
              refine v_iload X 10 rfl dX6_clears_208 ?_
              refine v_lald_n X dl_49 (fun _ _ => rfl) (n := 9) (pl3_lt (by omega) (by omega)) (by decide) dX6_clears_210 ?_
              refine v_eql (y := (iL ((vw k M r j).den : Int))) ((setR_k (by decide)).trans hv1.2) ?_
              refine v_lload X 12 rfl dX6_clears_211 ?_
              refine v_ldiv X dX6_clears_213 (fun e => absurd ((lN_0 lG).mp e) (by omega)) ?_
              refine v_eql (y := (iL (((vw k M r j).den : Int) / ((Nat.gcd (vw k M r j).den ((vw k M r c / vw k M (r - 1) c) * (vw k M (r - 1) j)).den) : Int)))) (iL_div_nat (by omega) lG (Int.ofNat_dvd.mpr (Nat.gcd_dvd_left _ _))) ?_
              refine v_lmul X dX6_clears_214 ?_
              refine v_lsub X dX6_clears_215 ?_
              refine v_eql (y := (iL (clX (vw k M r j) ((vw k M r c / vw k M (r - 1) c) * (vw k M (r - 1) j))))) (by rw [iL_mul, iL_mul, iL_sub]; rfl) ?_
              refine v_lstore X [1, 2, 3, 4, 5, 6, 7, 8, 9, 10, 11, 12, 13, 0] (lv' := [(0, .ref (eA (vE a) 30 0)), (1, .int (nI n)), (2, .int (nI r)), (3, .int (nI c)), (4, .int (nI (1 - k))), (5, .int (nI (pl3 k r c))), (6, .int (nI (pl3 k (r - 1) c))), (7, .long (iL (vw k M r c / vw k M (r - 1) c).num)), (9, .long (iL ((vw k M r c / vw k M (r - 1) c).den : Int))), (11, .int (nI j)), (12, .int (nI (pl3 k r j))), (13, .int (nI (pl3 k (r - 1) j))), (14, .long (lN (Nat.gcd (vw k M r j).den ((vw k M r c / vw k M (r - 1) c) * (vw k M (r - 1) j)).den))), (16, .long (iL (clX (vw k M r j) ((vw k M r c / vw k M (r - 1) c) * (vw k M (r - 1) j)))))]) (by decide) rfl dX6_clears_216 ?_
              refine v_aload_n X 0 rfl dX6_clears_218 ?_
              refine v_lload X 13 rfl dX6_clears_219 ?_
              refine v_aload_n X 0 rfl dX6_clears_221 ?_
              refine gf_X6_65 X dX6_clears_222 ?_
              refine v_iload X 10 rfl dX6_clears_225 ?_
              refine v_lald_n X dl_49 (fun _ _ => rfl) (n := 9) (pl3_lt (by omega) (by omega)) (by decide) dX6_clears_227 ?_
              refine v_eql (y := (iL ((vw k M r j).den : Int))) ((setR_k (by decide)).trans hv1.2) ?_
              refine v_lload X 12 rfl dX6_clears_228 ?_
              refine v_ldiv X dX6_clears_230 (fun e => absurd ((lN_0 lG).mp e) (by omega)) ?_
              refine v_eql (y := (iL (((vw k M r j).den : Int) / ((Nat.gcd (vw k M r j).den ((vw k M r c / vw k M (r - 1) c) * (vw k M (r - 1) j)).den) : Int)))) (iL_div_nat (by omega) lG (Int.ofNat_dvd.mpr (Nat.gcd_dvd_left _ _))) ?_
              refine v_aload_n X 0 rfl dX6_clears_231 ?_
              refine gf_X6_214 X dX6_clears_232 ?_
              refine v_eql (y := (iL (((vw k M r c / vw k M (r - 1) c) * (vw k M (r - 1) j)).den : Int))) (setR_d _ _) ?_
              refine v_lmul X dX6_clears_235 ?_
              refine v_eql (y := (iL (clY (vw k M r j) ((vw k M r c / vw k M (r - 1) c) * (vw k M (r - 1) j))))) (by rw [iL_mul]; rfl) ?_
              refine v_callV X (c_X6_fraction _ _ hE _ _ (clX (vw k M r j) ((vw k M r c / vw k M (r - 1) c) * (vw k M (r - 1) j))) (clY (vw k M r j) ((vw k M r c / vw k M (r - 1) c) * (vw k M (r - 1) j))) k3 k4 (Int.ne_of_gt (clY_pos _ _))) k_X6_217 dl_30 (cef_30 _ _ _ _) rfl ⟨rfl, rfl, Nat.le_of_ble_eq_true rfl, Nat.le_of_ble_eq_true rfl⟩ (As := [.long (iL (clX (vw k M r j) ((vw k M r c / vw k M (r - 1) c) * (vw k M (r - 1) j)))), .long (iL (clY (vw k M r j) ((vw k M r c / vw k M (r - 1) c) * (vw k M (r - 1) j))))]) (rest := []) rfl rfl (Nat.le_of_ble_eq_true rfl) dX6_clears_236 (fun r236 I236 L236 hp236 => ?_)
              obtain ⟨rfl, e1, e2⟩ := hp236
              have e1 := e1.symm
              subst e1
              rw [setR_setR, sb_ok] at e2
              have e2 := e2.symm
              subst e2
              refine v_st (st' := []) rfl ?_
              refine v_aload_n X 0 rfl dX6_clears_239 ?_
              refine gf_X6_62 X dX6_clears_240 ?_
              refine v_iload X 10 rfl dX6_clears_243 ?_
              refine v_aload_n X 0 rfl dX6_clears_245 ?_
              refine gf_X6_210 X dX6_clears_246 ?_
              refine v_eql (y := (iL ((vw k M r j) - ((vw k M r c / vw k M (r - 1) c) * (vw k M (r - 1) j))).num)) (setR_u _ _) ?_
              refine v_last_n X dl_48 (fun _ _ => rfl) (n := 9) (pl3_lt (by omega) (by omega)) (by decide) dX6_clears_249 ?_
              refine v_aload_n X 0 rfl dX6_clears_250 ?_
              refine gf_X6_65 X dX6_clears_251 ?_
              refine v_iload X 10 rfl dX6_clears_254 ?_
              refine v_aload_n X 0 rfl dX6_clears_256 ?_
              refine gf_X6_214 X dX6_clears_257 ?_
              refine v_eql (y := (iL (((vw k M r j) - ((vw k M r c / vw k M (r - 1) c) * (vw k M (r - 1) j))).den : Int))) ((upL_k (by decide)).trans (setR_d _ _)) ?_
              refine v_last_n X dl_49 (fun _ _ => rfl) (n := 9) (pl3_lt (by omega) (by omega)) (by decide) dX6_clears_260 ?_
              refine v_iinc X [1, 2, 3, 4, 5, 6, 7, 8, 9, 0, 10, 11, 12, 13] 9 (nI (j + 1)) (lv' := [(0, .ref (eA (vE a) 30 0)), (1, .int (nI n)), (2, .int (nI r)), (3, .int (nI c)), (4, .int (nI (1 - k))), (5, .int (nI (pl3 k r c))), (6, .int (nI (pl3 k (r - 1) c))), (7, .long (iL (vw k M r c / vw k M (r - 1) c).num)), (9, .long (iL ((vw k M r c / vw k M (r - 1) c).den : Int))), (11, .int (nI (j + 1))), (12, .int (nI (pl3 k r j))), (13, .int (nI (pl3 k (r - 1) j))), (14, .long (lN (Nat.gcd (vw k M r j).den ((vw k M r c / vw k M (r - 1) c) * (vw k M (r - 1) j)).den))), (16, .long (iL (clX (vw k M r j) ((vw k M r c / vw k M (r - 1) c) * (vw k M (r - 1) j)))))]) rfl (nI_1 _) (by decide) rfl dX6_clears_261 ?_
              refine v_goto X (tgt := 119) dX6_clears_264 (by decide) ?_
              refine v_sub [0, 1, 2, 3, 4, 5, 6, 7, 8, 9] (lv' := [(0, .ref (eA (vE a) 30 0)), (1, .int (nI n)), (2, .int (nI r)), (3, .int (nI c)), (4, .int (nI (1 - k))), (5, .int (nI (pl3 k r c))), (6, .int (nI (pl3 k (r - 1) c))), (7, .long (iL (vw k M r c / vw k M (r - 1) c).num)), (9, .long (iL ((vw k M r c / vw k M (r - 1) c).den : Int))), (11, .int (nI (j + 1)))]) rfl ?_
              exact ih119 (j + 1) (upL (upL (setR L2 ((vw k M r j) - ((vw k M r c / vw k M (r - 1) c) * (vw k M (r - 1) j)))) 48 0 (pl3 k r j) (iL ((vw k M r j) - ((vw k M r c / vw k M (r - 1) c) * (vw k M (r - 1) j))).num)) 49 0 (pl3 k r j) (iL (((vw k M r j) - ((vw k M r c / vw k M (r - 1) c) * (vw k M (r - 1) j))).den : Int))) (by omega) (by omega) (repMm_set hn hrn hjn (repMm_R hML) rfl) (((FL_setR hFL2).up (by simp)).up (by simp)) (repSm_fr (repSm_R (q := ((vw k M r j) - ((vw k M r c / vw k M (r - 1) c) * (vw k M (r - 1) j)))) hS2) rfl rfl rfl (by rw [upL_off _ _ _ _ _ (by simp), upL_off _ _ _ _ _ (by simp)]) (by rw [upL_off _ _ _ _ _ (by simp), upL_off _ _ _ _ _ (by simp)]))
        exact loop119 _ 0 L1 (Nat.lt_succ_self _) (Nat.zero_le _) hM1 hFL1 hS1
    · refine v_aload_n X 0 rfl dX6_clears_45 ?_
      refine v_iconst X (v := (nI 0)) dX6_clears_46 (by decide) ?_
      refine pf_X6_224 X rfl dX6_clears_47 ?_
      exact v_vret X Y dX6_clears_50 (⟨rfl, Or.inr (Or.inl ⟨fun e => h28 (by rw [e]; rfl), Rat.num_eq_zero.mp ((iL_eq hgA1 (by decide)).mp h41), rfl, rfl⟩)⟩)
  · exact v_vret X Y dX6_clears_32 (⟨rfl, Or.inl ⟨Rat.num_eq_zero.mp ((iL_eq hgH1 (by decide)).mp h28), rfl, rfl⟩⟩)
set_option maxHeartbeats 4000000 in
set_option maxRecDepth 100000 in
theorem c_X6_make (l : Launch) (E : VE) (hE : EOk E) (I : TI) (L : TL) (c : Nat) (ro co : Nat → Nat) (hT : MT I c ro co) (x : Int32) (hbd : ∀ t, t < c → ∀ i j, i < ro t → j < ro t → (I 31 0 (25 * t + 5 * i + j)).toInt.natAbs ≤ 1000) : Ct l E yX6_make cX6_make 6 (some .int) rm_X6_make [.ref (eA E 30 0), .int x] I L (fun r I' L' => (¬ isT c x ∧ MEF I I' r 3 ∧ L' = L) ∨ (∃ t, t < c ∧ x = nI t ∧ ((¬ (ro t = co t ∧ ro t ≤ 3) ∧ MEF I I' r 7 ∧ L' = L) ∨ (ro t = co t ∧ ro t ≤ 3 ∧ MKF I I' ∧ FL FLK L L' ∧ r = some (.int (nI (mkS (ro t) (M0ofM I t)).length)) ∧ repSm I' L' (mkS (ro t) (M0ofM I t)))))) := by
  refine ct_of (by decide +kernel) (Nat.le_of_ble_eq_true rfl) hE ?_
  intro a X Y hl hEE
  subst hl; subst hEE
  show V a 0 [(0, .ref (eA (vE a) 30 0)), (1, .int x)] [] I L
  refine v_aload_n X 0 rfl dX6_make_0 ?_
  refine v_iload_n X 1 rfl dX6_make_1 ?_
  refine v_callV X (c_X6_isTable _ _ hE _ _ c (hT.1) x) k_X6_98 dl_30 (cef_30 _ _ _ _) rfl ⟨rfl, rfl, Nat.le_of_ble_eq_true rfl, Nat.le_of_ble_eq_true rfl⟩ (As := [.int x]) (rest := []) rfl rfl (Nat.le_of_ble_eq_true rfl) dX6_make_2 (fun r2 I2 L2 hp2 => ?_)
  obtain ⟨rfl, e1, e2⟩ := hp2
  have e1 := e1.symm
  have e2 := e2.symm
  subst e1; subst e2
  refine v_st (st' := [.int (bI (inR c x))]) rfl ?_
  refine v_ifb_ne X dX6_make_5 (tgt := 15) (by decide) (fun h5 => ?_) (fun h5 => ?_)
  · obtain ⟨t, htt, rfl⟩ := inR_of (by have := hT.2.1; omega) h5
    have hc12 := hT.2.1
    obtain ⟨hrt, hct, hr1t, hr5t, hc1t, hc5t⟩ := hT.2.2 t htt
    have ht12t : t < 12 := by omega
    refine v_aload_n X 0 rfl dX6_make_15 ?_
    refine gf_X6_13 X dX6_make_16 ?_
    refine v_iload_n X 1 rfl dX6_make_19 ?_
    refine v_iald_n X dl_32 (fun _ _ => rfl) (n := 12) (by omega) (by decide) dX6_make_20 ?_
    refine v_eqi (y := (nI (ro t))) (hrt) ?_
    refine v_istore_n X [1, 2, 0] (lv' := [(0, .ref (eA (vE a) 30 0)), (1, .int (nI t)), (2, .int (nI (ro t)))]) (by decide) rfl dX6_make_21 ?_
    refine v_iload_n X 2 rfl dX6_make_22 ?_
    refine v_aload_n X 0 rfl dX6_make_23 ?_
    refine gf_X6_16 X dX6_make_24 ?_
    refine v_iload_n X 1 rfl dX6_make_27 ?_
    refine v_iald_n X dl_33 (fun _ _ => rfl) (n := 12) (by omega) (by decide) dX6_make_28 ?_
    refine v_eqi (y := (nI (co t))) (hct) ?_
    refine v_icmp_ne_n X (by omega) (by omega) dX6_make_29 (tgt := 37) (by decide) (fun h29 => ?_) (fun h29 => ?_)
    · refine v_aload_n X 0 rfl dX6_make_37 ?_
      refine v_bipush X (v := (-7)) dX6_make_38 (by decide) ?_
      refine v_callV X (c_X6_no _ _ hE _ _ 7 (by decide) (by decide)) k_X6_80 dl_30 (cef_30 _ _ _ _) rfl ⟨rfl, rfl, Nat.le_of_ble_eq_true rfl, Nat.le_of_ble_eq_true rfl⟩ (As := [.int (-7)]) (rest := []) rfl rfl (Nat.le_of_ble_eq_true rfl) dX6_make_40 (fun r40 I40 L40 hp40 => ?_)
      obtain ⟨rfl, e1, e2⟩ := hp40
      have e1 := e1.symm
      have e2 := e2.symm
      subst e1; subst e2
      refine v_st (st' := [.int (-7)]) rfl ?_
      exact v_iret X Y dX6_make_43 (Or.inr ⟨t, htt, rfl, Or.inl ⟨fun q => h29 q.1, ⟨rfl, rfl⟩, rfl⟩⟩)
    · refine v_iload_n X 2 rfl dX6_make_32 ?_
      refine v_iconst X (v := (nI 3)) dX6_make_33 (by decide) ?_
      refine v_icmp_le_n X (by omega) (by omega) dX6_make_34 (tgt := 44) (by decide) (fun h34 => ?_) (fun h34 => ?_)
      · obtain ⟨n, hnr⟩ : ∃ n, n = ro t := ⟨_, rfl⟩
        have hn3 : n ≤ 3 := by omega
        have hn1 : 1 ≤ n := by omega
        refine v_lv (lv' := [(0, .ref (eA (vE a) 30 0)), (1, .int (nI t)), (2, .int (nI n))]) (by rw [hnr]) ?_
        refine v_aload_n X 0 rfl dX6_make_44 ?_
        refine v_iconst X (v := (nI 0)) dX6_make_45 (by decide) ?_
        refine pf_X6_221 X dX6_make_46 ?_
        refine v_aload_n X 0 rfl dX6_make_49 ?_
        refine v_iconst X (v := (nI 1)) dX6_make_50 (by decide) ?_
        refine pf_X6_224 X rfl dX6_make_51 ?_
        obtain ⟨I1, eI1⟩ : ∃ z, z = (upI (upI I 30 0 33 (nI 0)) 30 0 34 (nI 1)) := ⟨_, rfl⟩
        refine v_eqI eI1.symm ?_
        have hKF0 : MKF I I1 := by rw [eI1]; exact MKF.rf.u3.u4
        have hc33 : I1 30 0 33 = nI 0 := by rw [eI1]; exact (upI_x (by decide)).trans upI_eq
        have hc34 : I1 30 0 34 = nI 1 := by rw [eI1]; exact upI_eq
        refine v_iconst X (v := (nI 0)) dX6_make_54 (by decide) ?_
        refine v_istore_n X [1, 2, 3, 0] (lv' := [(0, .ref (eA (vE a) 30 0)), (1, .int (nI t)), (2, .int (nI n)), (3, .int (nI 0))]) (by decide) rfl dX6_make_55 ?_
        have loop56 : ∀ (fu : Nat) (i : Nat) (L1 : TL), 4 - i < fu → (i ≤ n) → (FL FLK L L1) → (∀ a b, b < n → (a < i ∨ (a = i ∧ b < 0)) → L1 48 0 (3 * a + b) = iL (I 31 0 (25 * t + 5 * a + b)).toInt ∧ L1 49 0 (3 * a + b) = iL 1) → V a 56 [(0, .ref (eA (vE a) 30 0)), (1, .int (nI t)), (2, .int (nI n)), (3, .int (nI i))] [] I1 L1 := by
          intro fu
          induction fu with
          | zero => intro i L1 hm _ _ _; exact absurd hm (Nat.not_lt_zero _)
          | succ fu ih56 =>
            intro i L1 hm56 hi hFL hv
            refine v_iload_n X 3 rfl dX6_make_56 ?_
            refine v_iload_n X 2 rfl dX6_make_57 ?_
            refine v_icmp_ge_n X (by omega) (by omega) dX6_make_58 (tgt := 118) (by decide) (fun h58 => ?_) (fun h58 => ?_)
            · have hM0 : repMm n L1 (M0ofM I t) := fun a b ha hb => by
                have g := hv a b hb (by omega)
                unfold M0ofM
                rw [Rat.num_intCast, Rat.den_intCast]
                exact g
              have hg0 := good_0 (M := M0ofM I t) hn3 (fun i j hi hj => ⟨by rw [show (M0ofM I t i j).num = (I 31 0 (25 * t + 5 * i + j)).toInt from Rat.num_intCast _]; exact hbd t htt i j (by omega) (by omega), Rat.den_intCast _⟩)
              have hcl := cl1_len n (by omega)
              have hMA0 : MA n (mkS n (M0ofM I t)) 1 (cl1 n n 0) (stg 0 (n - 1)) 1 I1 L1 := Or.inl ⟨rfl, _, [], hM0, repSm_nil hc33, hg0, by simp only [List.length_nil]; omega, Wk_mk n _⟩
              refine v_iconst X (v := (nI 0)) dX6_make_118 (by decide) ?_
              refine v_istore_n X [1, 2, 3, 0] (lv' := [(0, .ref (eA (vE a) 30 0)), (1, .int (nI t)), (2, .int (nI n)), (3, .int (nI 0))]) (by decide) rfl dX6_make_119 ?_
              have loop120 : ∀ (fu : Nat) (tn : Nat) (I2 : TI) (L2 : TL) (b0 : Nat), 3 - tn < fu → (tn ≤ 2) → (MKF I I2) → (FL FLK L L2) → (I2 30 0 34 = nI b0) → (tn < 2 → MA n (mkS n (M0ofM I t)) (1 - tn) (cl1 n n 0) (stg 0 (n - 1)) b0 I2 L2) → (tn = 2 → MO n (mkS n (M0ofM I t)) 0 b0 I2 L2) → V a 120 [(0, .ref (eA (vE a) 30 0)), (1, .int (nI t)), (2, .int (nI n)), (3, .int (nI tn))] [] I2 L2 := by
                intro fu
                induction fu with
                | zero => intro tn I2 L2 b0 hm _ _ _ _ _ _; exact absurd hm (Nat.not_lt_zero _)
                | succ fu ih120 =>
                  intro tn I2 L2 b0 hm120 htn hKF hFL hcb hA hB
                  refine v_iload_n X 3 rfl dX6_make_120 ?_
                  refine v_iconst X (v := (nI 2)) dX6_make_121 (by decide) ?_
                  refine v_icmp_ge_n X (by omega) (by omega) dX6_make_122 (tgt := 190) (by decide) (fun h122 => ?_) (fun h122 => ?_)
                  · have htn2 : tn = 2 := by omega
                    have hMO0 := hB htn2
                    refine v_iconst X (v := (nI 0)) dX6_make_190 (by decide) ?_
                    refine v_istore_n X [1, 2, 3, 0] (lv' := [(0, .ref (eA (vE a) 30 0)), (1, .int (nI t)), (2, .int (nI n)), (3, .int (nI 0))]) (by decide) rfl dX6_make_191 ?_
                    have loop192 : ∀ (fu : Nat) (i : Nat) (I2 : TI) (L2 : TL) (b0 : Nat), 4 - i < fu → (i ≤ n) → (MKF I I2) → (FL FLK L L2) → (I2 30 0 34 = nI b0) → (MO n (mkS n (M0ofM I t)) i b0 I2 L2) → V a 192 [(0, .ref (eA (vE a) 30 0)), (1, .int (nI t)), (2, .int (nI n)), (3, .int (nI i))] [] I2 L2 := by
                      intro fu
                      induction fu with
                      | zero => intro i I2 L2 b0 hm _ _ _ _ _; exact absurd hm (Nat.not_lt_zero _)
                      | succ fu ih192 =>
                        intro i I2 L2 b0 hm192 hi hKF hFL hcb hMO
                        refine v_iload_n X 3 rfl dX6_make_192 ?_
                        refine v_iload_n X 2 rfl dX6_make_193 ?_
                        refine v_icmp_ge_n X (by omega) (by omega) dX6_make_194 (tgt := 232) (by decide) (fun h194 => ?_) (fun h194 => ?_)
                        · have hb2 := hMO.fl
                          refine v_aload_n X 0 rfl dX6_make_232 ?_
                          refine gf_X6_224 X dX6_make_233 ?_
                          refine v_eqi (y := (nI b0)) (hcb) ?_
                          refine v_if_ne_n X (by omega) dX6_make_236 (tgt := 244) (by decide) (fun h236 => ?_) (fun h236 => ?_)
                          · obtain ⟨hb1, M, S, hM, hS, hrg, hlen, hW⟩ := hMO.resolve_right (fun q => by omega)
                            rw [show n - i = 0 by omega] at hW
                            have eS : S = (mkS n (M0ofM I t)) := hW
                            rw [eS] at hS
                            refine v_aload_n X 0 rfl dX6_make_244 ?_
                            refine gf_X6_221 X dX6_make_245 ?_
                            refine v_eqi (y := (nI ((mkS n (M0ofM I t)).length))) (hS.1) ?_
                            exact v_iret X Y dX6_make_248 (Or.inr ⟨t, htt, rfl, Or.inr ⟨h29, h34, hKF, hFL, by rw [← hnr], by rw [← hnr]; exact hS⟩⟩)
                          · refine v_aload_n X 0 rfl dX6_make_239 ?_
                            refine v_iconst X (v := (nI 0)) dX6_make_240 (by decide) ?_
                            refine pf_X6_221 X dX6_make_241 ?_
                            have eZ : (mkS n (M0ofM I t)) = [] := (hMO.resolve_left (fun q => by omega)).2
                            refine v_aload_n X 0 rfl dX6_make_244 ?_
                            refine gf_X6_221 X dX6_make_245 ?_
                            refine v_eqi (y := (nI 0)) (upI_eq) ?_
                            exact v_iret X Y dX6_make_248 (Or.inr ⟨t, htt, rfl, Or.inr ⟨h29, h34, hKF.u3, hFL, by rw [← hnr, eZ]; rfl, by rw [← hnr, eZ]; exact repSm_nil upI_eq⟩⟩)
                        · have hb2 := hMO.fl
                          refine v_aload_n X 0 rfl dX6_make_197 ?_
                          refine gf_X6_224 X dX6_make_198 ?_
                          refine v_eqi (y := (nI b0)) (hcb) ?_
                          refine v_if_eq_n X (by omega) dX6_make_201 (tgt := 232) (by decide) (fun h201 => ?_) (fun h201 => ?_)
                          · have hb2 := hMO.fl
                            refine v_aload_n X 0 rfl dX6_make_232 ?_
                            refine gf_X6_224 X dX6_make_233 ?_
                            refine v_eqi (y := (nI b0)) (hcb) ?_
                            refine v_if_ne_n X (by omega) dX6_make_236 (tgt := 244) (by decide) (fun h236 => ?_) (fun h236 => ?_)
                            · exact absurd h236 (by omega)
                            · refine v_aload_n X 0 rfl dX6_make_239 ?_
                              refine v_iconst X (v := (nI 0)) dX6_make_240 (by decide) ?_
                              refine pf_X6_221 X dX6_make_241 ?_
                              have eZ : (mkS n (M0ofM I t)) = [] := (hMO.resolve_left (fun q => by omega)).2
                              refine v_aload_n X 0 rfl dX6_make_244 ?_
                              refine gf_X6_221 X dX6_make_245 ?_
                              refine v_eqi (y := (nI 0)) (upI_eq) ?_
                              exact v_iret X Y dX6_make_248 (Or.inr ⟨t, htt, rfl, Or.inr ⟨h29, h34, hKF.u3, hFL, by rw [← hnr, eZ]; rfl, by rw [← hnr, eZ]; exact repSm_nil upI_eq⟩⟩)
                          · obtain ⟨hb1, M, S, hM, hS, hrg, hlen, hW⟩ := hMO.resolve_right (fun q => by omega)
                            subst hb1
                            have hin : i < n := by omega
                            have hvM := hM i i hin hin
                            rw [show 3 * i + i = 4 * i by omega] at hvM
                            refine v_aload_n X 0 rfl dX6_make_204 ?_
                            refine v_iconst X (v := (nI 2)) dX6_make_205 (by decide) ?_
                            refine v_iload_n X 3 rfl dX6_make_206 ?_
                            refine v_aload_n X 0 rfl dX6_make_207 ?_
                            refine gf_X6_62 X dX6_make_208 ?_
                            refine v_iconst X (v := (nI 4)) dX6_make_211 (by decide) ?_
                            refine v_iload_n X 3 rfl dX6_make_212 ?_
                            refine v_imul X dX6_make_213 ?_
                            refine v_eqi (y := (nI (4 * i))) (pk_mul _ _) ?_
                            refine v_lald_n X dl_48 (fun _ _ => rfl) (n := 9) (by omega) (by decide) dX6_make_214 ?_
                            refine v_eql (y := (iL (M i i).num)) (hvM.1) ?_
                            refine v_aload_n X 0 rfl dX6_make_215 ?_
                            refine gf_X6_65 X dX6_make_216 ?_
                            refine v_iconst X (v := (nI 4)) dX6_make_219 (by decide) ?_
                            refine v_iload_n X 3 rfl dX6_make_220 ?_
                            refine v_imul X dX6_make_221 ?_
                            refine v_eqi (y := (nI (4 * i))) (pk_mul _ _) ?_
                            refine v_lald_n X dl_49 (fun _ _ => rfl) (n := 9) (by omega) (by decide) dX6_make_222 ?_
                            refine v_eql (y := (iL ((M i i).den : Int))) (hvM.2) ?_
                            refine v_callV X (c_X6_shares _ _ hE _ _ S.length hS.1 (by omega) hcb (nI 2) (nI i) (iL (M i i).num) (iL ((M i i).den : Int))) k_X6_235 dl_30 (cef_30 _ _ _ _) rfl ⟨rfl, rfl, Nat.le_of_ble_eq_true rfl, Nat.le_of_ble_eq_true rfl⟩ (As := [.int (nI 2), .int (nI i), .long (iL (M i i).num), .long (iL ((M i i).den : Int))]) (rest := []) rfl rfl (Nat.le_of_ble_eq_true rfl) dX6_make_223 (fun r223 I223 L223 hp223 => ?_)
                            obtain ⟨rfl, e1, e2⟩ := hp223
                            have e1 := e1.symm
                            have e2 := e2.symm
                            subst e1; subst e2
                            refine v_st (st' := []) rfl ?_
                            refine v_iinc X [1, 2, 3, 0] 3 (nI (i + 1)) (lv' := [(0, .ref (eA (vE a) 30 0)), (1, .int (nI t)), (2, .int (nI n)), (3, .int (nI (i + 1)))]) rfl (nI_1 _) (by decide) rfl dX6_make_226 ?_
                            refine v_goto X (tgt := 192) dX6_make_229 (by decide) ?_
                            obtain ⟨b1, hcb1, hMO1⟩ := MO.step hin hM hS hrg hlen hW rfl
                            exact ih192 (i + 1) (upI (upI (upI (upI I2 52 0 S.length (nI 2)) 53 0 S.length (nI i)) 30 0 33 (nI (S.length + 1))) 30 0 34 (nI (if 0 < (iL (M i i).num) then 1 else 0))) (upL (upL L2 50 0 S.length (iL (M i i).num)) 51 0 S.length (iL ((M i i).den : Int))) b1 (by omega) (by omega) hKF.k52.k53.u3.u4 ((hFL.up (by simp)).up (by simp)) (upI_eq.trans hcb1) hMO1
                    exact loop192 _ 0 I2 L2 b0 (Nat.lt_succ_self _) (Nat.zero_le _) hKF hFL hcb hMO0
                  · refine v_iconst X (v := (nI 0)) dX6_make_125 (by decide) ?_
                    refine v_istore X [1, 2, 3, 4, 0] (lv' := [(0, .ref (eA (vE a) 30 0)), (1, .int (nI t)), (2, .int (nI n)), (3, .int (nI tn)), (4, .int (nI 0))]) (by decide) rfl dX6_make_126 ?_
                    have loop128 : ∀ (fu : Nat) (c : Nat) (I2 : TI) (L2 : TL) (b0 : Nat), 4 - c < fu → (c ≤ n) → (MKF I I2) → (FL FLK L L2) → (I2 30 0 34 = nI b0) → (MA n (mkS n (M0ofM I t)) (1 - tn) (cl1 n (n - c) c) (stg c (n - 1)) b0 I2 L2) → V a 128 [(0, .ref (eA (vE a) 30 0)), (1, .int (nI t)), (2, .int (nI n)), (3, .int (nI tn)), (4, .int (nI c))] [] I2 L2 := by
                      intro fu
                      induction fu with
                      | zero => intro c I2 L2 b0 hm _ _ _ _ _; exact absurd hm (Nat.not_lt_zero _)
                      | succ fu ih128 =>
                        intro c I2 L2 b0 hm128 hc hKF hFL hcb hMA
                        refine v_iload X 4 rfl dX6_make_128 ?_
                        refine v_iload_n X 2 rfl dX6_make_130 ?_
                        refine v_icmp_ge_n X (by omega) (by omega) dX6_make_131 (tgt := 184) (by decide) (fun h131 => ?_) (fun h131 => ?_)
                        · refine v_iinc X [1, 2, 3, 0, 4] 3 (nI (tn + 1)) (lv' := [(0, .ref (eA (vE a) 30 0)), (1, .int (nI t)), (2, .int (nI n)), (3, .int (nI (tn + 1))), (4, .int (nI c))]) rfl (nI_1 _) (by decide) rfl dX6_make_184 ?_
                          refine v_goto X (tgt := 120) dX6_make_187 (by decide) ?_
                          refine v_sub [0, 1, 2, 3] (lv' := [(0, .ref (eA (vE a) 30 0)), (1, .int (nI t)), (2, .int (nI n)), (3, .int (nI (tn + 1)))]) rfl ?_
                          have hcn : c = n := by omega
                          rw [hcn] at hMA
                          have hA1 : tn + 1 < 2 → MA n (mkS n (M0ofM I t)) (1 - (tn + 1)) (cl1 n n 0) (stg 0 (n - 1)) b0 I2 L2 := fun h => by
                            have e : tn = 0 := by omega
                            subst e
                            exact hMA.up hn3 hn1
                          have hA2 : tn + 1 = 2 → MO n (mkS n (M0ofM I t)) 0 b0 I2 L2 := fun h => by
                            have e : tn = 1 := by omega
                            subst e
                            exact hMA.out hn3 hn1
                          exact ih120 (tn + 1) I2 L2 b0 (by omega) (by omega) hKF hFL hcb hA1 hA2
                        · refine v_iload_n X 2 rfl dX6_make_134 ?_
                          refine v_iconst X (v := (nI 1)) dX6_make_135 (by decide) ?_
                          refine v_isub X dX6_make_136 ?_
                          refine v_eqi (y := (nI (n - 1))) (pk_sub (by omega)) ?_
                          refine v_istore X [1, 2, 3, 4, 5, 0] (lv' := [(0, .ref (eA (vE a) 30 0)), (1, .int (nI t)), (2, .int (nI n)), (3, .int (nI tn)), (4, .int (nI c)), (5, .int (nI (n - 1)))]) (by decide) rfl dX6_make_137 ?_
                          have loop139 : ∀ (fu : Nat) (r : Nat) (I2 : TI) (L2 : TL) (b0 : Nat), r < fu → (c ≤ r) → (r ≤ n - 1) → (MKF I I2) → (FL FLK L L2) → (I2 30 0 34 = nI b0) → (MA n (mkS n (M0ofM I t)) (1 - tn) (rl1 c r ++ cl1 n (n - (c + 1)) (c + 1)) (stg c r) b0 I2 L2) → V a 139 [(0, .ref (eA (vE a) 30 0)), (1, .int (nI t)), (2, .int (nI n)), (3, .int (nI tn)), (4, .int (nI c)), (5, .int (nI r))] [] I2 L2 := by
                            intro fu
                            induction fu with
                            | zero => intro r I2 L2 b0 hm _ _ _ _ _ _; exact absurd hm (Nat.not_lt_zero _)
                            | succ fu ih139 =>
                              intro r I2 L2 b0 hm139 hcr9 hrn1 hKF hFL hcb hMA
                              refine v_iload X 5 rfl dX6_make_139 ?_
                              refine v_iload X 4 rfl dX6_make_141 ?_
                              refine v_icmp_le_n X (by omega) (by omega) dX6_make_143 (tgt := 178) (by decide) (fun h143 => ?_) (fun h143 => ?_)
                              · refine v_iinc X [1, 2, 3, 4, 0, 5] 4 (nI (c + 1)) (lv' := [(0, .ref (eA (vE a) 30 0)), (1, .int (nI t)), (2, .int (nI n)), (3, .int (nI tn)), (4, .int (nI (c + 1))), (5, .int (nI r))]) rfl (nI_1 _) (by decide) rfl dX6_make_178 ?_
                                refine v_goto X (tgt := 128) dX6_make_181 (by decide) ?_
                                refine v_sub [0, 1, 2, 3, 4] (lv' := [(0, .ref (eA (vE a) 30 0)), (1, .int (nI t)), (2, .int (nI n)), (3, .int (nI tn)), (4, .int (nI (c + 1)))]) rfl ?_
                                exact ih128 (c + 1) I2 L2 b0 (by omega) (by omega) hKF hFL hcb (hMA.col (by omega) hn3 (by omega) h143 hcr9)
                              · have hb2 := hMA.fl
                                refine v_aload_n X 0 rfl dX6_make_146 ?_
                                refine gf_X6_224 X dX6_make_147 ?_
                                refine v_eqi (y := (nI b0)) (hcb) ?_
                                refine v_if_eq_n X (by omega) dX6_make_150 (tgt := 178) (by decide) (fun h150 => ?_) (fun h150 => ?_)
                                · refine v_iinc X [1, 2, 3, 4, 0, 5] 4 (nI (c + 1)) (lv' := [(0, .ref (eA (vE a) 30 0)), (1, .int (nI t)), (2, .int (nI n)), (3, .int (nI tn)), (4, .int (nI (c + 1))), (5, .int (nI r))]) rfl (nI_1 _) (by decide) rfl dX6_make_178 ?_
                                  refine v_goto X (tgt := 128) dX6_make_181 (by decide) ?_
                                  refine v_sub [0, 1, 2, 3, 4] (lv' := [(0, .ref (eA (vE a) 30 0)), (1, .int (nI t)), (2, .int (nI n)), (3, .int (nI tn)), (4, .int (nI (c + 1)))]) rfl ?_
                                  exact ih128 (c + 1) I2 L2 b0 (by omega) (by omega) hKF hFL hcb (hMA.dead h150)
                                · obtain ⟨hb1, M, S, hM, hS, hg, hlen, hW⟩ := hMA.resolve_right (fun q => by omega)
                                  subst hb1
                                  have hrn : r < n := by omega
                                  have hcr : c < r := by omega
                                  rw [rl1_yes hcr, List.cons_append] at hW hlen
                                  refine v_aload_n X 0 rfl dX6_make_153 ?_
                                  refine v_iload_n X 2 rfl dX6_make_154 ?_
                                  refine v_iload X 5 rfl dX6_make_155 ?_
                                  refine v_iload X 4 rfl dX6_make_157 ?_
                                  refine v_iload_n X 3 rfl dX6_make_159 ?_
                                  refine v_iconst X (v := (nI 1)) dX6_make_160 (by decide) ?_
                                  refine v_icmp_ne_n X (by omega) (by omega) dX6_make_161 (tgt := 168) (by decide) (fun h161 => ?_) (fun h161 => ?_)
                                  · refine v_iconst X (v := (nI 0)) dX6_make_168 (by decide) ?_
                                    refine v_eqi (y := (nI (1 - (1 - tn)))) (congrArg nI (show 0 = 1 - (1 - tn) by omega)) ?_
                                    refine v_callV X (c_X6_clears _ _ hE _ _ n (1 - tn) r c M S (by omega) hn3 hcr hrn hM hS (by omega) hcb hg) k_X6_238 dl_30 (cef_30 _ _ _ _) rfl ⟨rfl, rfl, Nat.le_of_ble_eq_true rfl, Nat.le_of_ble_eq_true rfl⟩ (As := [.int (nI n), .int (nI r), .int (nI c), .int (nI (1 - (1 - tn)))]) (rest := []) rfl rfl (Nat.le_of_ble_eq_true rfl) dX6_make_169 (fun r169 I169 L169 hp169 => ?_)
                                    obtain ⟨rfl, hP⟩ := hp169
                                    obtain ⟨b1, hcb1, hMA1, hKF1, hFL1⟩ := MA_step (by omega) hn3 hcr hrn hM hS hg hlen hW hcb hP
                                    refine v_st (st' := []) rfl ?_
                                    refine v_iinc X [1, 2, 3, 4, 5, 0] 5 (nI (r - 1)) (lv' := [(0, .ref (eA (vE a) 30 0)), (1, .int (nI t)), (2, .int (nI n)), (3, .int (nI tn)), (4, .int (nI c)), (5, .int (nI (r - 1)))]) rfl (nI_dec (by omega)) (by decide) rfl dX6_make_172 ?_
                                    refine v_goto X (tgt := 139) dX6_make_175 (by decide) ?_
                                    exact ih139 (r - 1) I169 L169 b1 (by omega) (by omega) (by omega) (hKF.tr hKF1) (hFL.tr hFL1) hcb1 hMA1
                                  · refine v_iconst X (v := (nI 1)) dX6_make_164 (by decide) ?_
                                    refine v_goto X (tgt := 169) dX6_make_165 (by decide) ?_
                                    refine v_eqi (y := (nI (1 - (1 - tn)))) (congrArg nI (show 1 = 1 - (1 - tn) by omega)) ?_
                                    refine v_callV X (c_X6_clears _ _ hE _ _ n (1 - tn) r c M S (by omega) hn3 hcr hrn hM hS (by omega) hcb hg) k_X6_238 dl_30 (cef_30 _ _ _ _) rfl ⟨rfl, rfl, Nat.le_of_ble_eq_true rfl, Nat.le_of_ble_eq_true rfl⟩ (As := [.int (nI n), .int (nI r), .int (nI c), .int (nI (1 - (1 - tn)))]) (rest := []) rfl rfl (Nat.le_of_ble_eq_true rfl) dX6_make_169 (fun r169 I169 L169 hp169 => ?_)
                                    obtain ⟨rfl, hP⟩ := hp169
                                    obtain ⟨b1, hcb1, hMA1, hKF1, hFL1⟩ := MA_step (by omega) hn3 hcr hrn hM hS hg hlen hW hcb hP
                                    refine v_st (st' := []) rfl ?_
                                    refine v_iinc X [1, 2, 3, 4, 5, 0] 5 (nI (r - 1)) (lv' := [(0, .ref (eA (vE a) 30 0)), (1, .int (nI t)), (2, .int (nI n)), (3, .int (nI tn)), (4, .int (nI c)), (5, .int (nI (r - 1)))]) rfl (nI_dec (by omega)) (by decide) rfl dX6_make_172 ?_
                                    refine v_goto X (tgt := 139) dX6_make_175 (by decide) ?_
                                    exact ih139 (r - 1) I169 L169 b1 (by omega) (by omega) (by omega) (hKF.tr hKF1) (hFL.tr hFL1) hcb1 hMA1
                          exact loop139 _ (n - 1) I2 L2 b0 (Nat.lt_succ_self _) (by omega) (Nat.le_refl _) hKF hFL hcb (hMA.row (by omega))
                    exact loop128 _ 0 I2 L2 b0 (Nat.lt_succ_self _) (Nat.zero_le _) hKF hFL hcb (hA (by omega))
              exact loop120 _ 0 I1 L1 1 (Nat.lt_succ_self _) (by decide) hKF0 hFL hc34 (fun _ => hMA0) (fun h => absurd h (by decide))
            · refine v_iconst X (v := (nI 0)) dX6_make_61 (by decide) ?_
              refine v_istore X [1, 2, 3, 4, 0] (lv' := [(0, .ref (eA (vE a) 30 0)), (1, .int (nI t)), (2, .int (nI n)), (3, .int (nI i)), (4, .int (nI 0))]) (by decide) rfl dX6_make_62 ?_
              have loop64 : ∀ (fu : Nat) (j : Nat) (L1 : TL), 4 - j < fu → (j ≤ n) → (FL FLK L L1) → (∀ a b, b < n → (a < i ∨ (a = i ∧ b < j)) → L1 48 0 (3 * a + b) = iL (I 31 0 (25 * t + 5 * a + b)).toInt ∧ L1 49 0 (3 * a + b) = iL 1) → V a 64 [(0, .ref (eA (vE a) 30 0)), (1, .int (nI t)), (2, .int (nI n)), (3, .int (nI i)), (4, .int (nI j))] [] I1 L1 := by
                intro fu
                induction fu with
                | zero => intro j L1 hm _ _ _; exact absurd hm (Nat.not_lt_zero _)
                | succ fu ih64 =>
                  intro j L1 hm64 hj hFL hv
                  refine v_iload X 4 rfl dX6_make_64 ?_
                  refine v_iload_n X 2 rfl dX6_make_66 ?_
                  refine v_icmp_ge_n X (by omega) (by omega) dX6_make_67 (tgt := 112) (by decide) (fun h67 => ?_) (fun h67 => ?_)
                  · refine v_iinc X [1, 2, 3, 0, 4] 3 (nI (i + 1)) (lv' := [(0, .ref (eA (vE a) 30 0)), (1, .int (nI t)), (2, .int (nI n)), (3, .int (nI (i + 1))), (4, .int (nI j))]) rfl (nI_1 _) (by decide) rfl dX6_make_112 ?_
                    refine v_goto X (tgt := 56) dX6_make_115 (by decide) ?_
                    refine v_sub [0, 1, 2, 3] (lv' := [(0, .ref (eA (vE a) 30 0)), (1, .int (nI t)), (2, .int (nI n)), (3, .int (nI (i + 1)))]) rfl ?_
                    exact ih56 (i + 1) L1 (by omega) (by omega) hFL (fun a b hb h => hv a b hb (by omega))
                  · refine v_aload_n X 0 rfl dX6_make_70 ?_
                    refine gf_X6_62 X dX6_make_71 ?_
                    refine v_iconst X (v := (nI 3)) dX6_make_74 (by decide) ?_
                    refine v_iload_n X 3 rfl dX6_make_75 ?_
                    refine v_imul X dX6_make_76 ?_
                    refine v_eqi (y := (nI (3 * i))) (pk_mul _ _) ?_
                    refine v_iload X 4 rfl dX6_make_77 ?_
                    refine v_iadd X dX6_make_79 ?_
                    refine v_eqi (y := (nI ((3 * i) + j))) (nI_add _ _) ?_
                    refine v_aload_n X 0 rfl dX6_make_80 ?_
                    refine gf_X6_7 X dX6_make_81 ?_
                    refine v_iload_n X 1 rfl dX6_make_84 ?_
                    refine v_iload_n X 3 rfl dX6_make_85 ?_
                    refine v_iload X 4 rfl dX6_make_86 ?_
                    refine v_callS X (c_X6_place _ _ hE _ _ t i j) k_X6_113 ⟨rfl, rfl, Nat.le_of_ble_eq_true rfl, Nat.le_of_ble_eq_true rfl⟩ (As := [.int (nI t), .int (nI i), .int (nI j)]) (rest := [.ref (eA (vE a) 31 0), .int (nI ((3 * i) + j)), .ref (eA (vE a) 48 0)]) rfl rfl (Nat.le_of_ble_eq_true rfl) dX6_make_88 (fun r88 I88 L88 hp88 => ?_)
                    obtain ⟨rfl, e1, e2⟩ := hp88
                    have e1 := e1.symm
                    have e2 := e2.symm
                    subst e1; subst e2
                    refine v_st (st' := [.int (nI (25 * t + 5 * i + j)), .ref (eA (vE a) 31 0), .int (nI ((3 * i) + j)), .ref (eA (vE a) 48 0)]) rfl ?_
                    refine v_iald_n X dl_31 (fun _ _ => rfl) (n := 300) (by omega) (by decide) dX6_make_91 ?_
                    refine v_i2l X dX6_make_92 rfl ?_
                    refine v_last_n X dl_48 (fun _ _ => rfl) (n := 9) (by omega) (by decide) dX6_make_93 ?_
                    refine v_aload_n X 0 rfl dX6_make_94 ?_
                    refine gf_X6_65 X dX6_make_95 ?_
                    refine v_iconst X (v := (nI 3)) dX6_make_98 (by decide) ?_
                    refine v_iload_n X 3 rfl dX6_make_99 ?_
                    refine v_imul X dX6_make_100 ?_
                    refine v_eqi (y := (nI (3 * i))) (pk_mul _ _) ?_
                    refine v_iload X 4 rfl dX6_make_101 ?_
                    refine v_iadd X dX6_make_103 ?_
                    refine v_eqi (y := (nI ((3 * i) + j))) (nI_add _ _) ?_
                    refine v_lconst X (v := 1) dX6_make_104 rfl ?_
                    refine v_last_n X dl_49 (fun _ _ => rfl) (n := 9) (by omega) (by decide) dX6_make_105 ?_
                    refine v_iinc X [1, 2, 3, 4, 0] 4 (nI (j + 1)) (lv' := [(0, .ref (eA (vE a) 30 0)), (1, .int (nI t)), (2, .int (nI n)), (3, .int (nI i)), (4, .int (nI (j + 1)))]) rfl (nI_1 _) (by decide) rfl dX6_make_106 ?_
                    refine v_goto X (tgt := 64) dX6_make_109 (by decide) ?_
                    have hnew : ∀ a b, b < n → (a < i ∨ (a = i ∧ b < j + 1)) → (upL (upL L1 48 0 ((3 * i) + j) ((I1 31 0 (25 * t + 5 * i + j)).toInt64)) 49 0 ((3 * i) + j) 1) 48 0 (3 * a + b) = iL (I 31 0 (25 * t + 5 * a + b)).toInt ∧ (upL (upL L1 48 0 ((3 * i) + j) ((I1 31 0 (25 * t + 5 * i + j)).toInt64)) 49 0 ((3 * i) + j) 1) 49 0 (3 * a + b) = iL 1 := fun a b hb hab => by
                      by_cases e : a = i ∧ b = j
                      · obtain ⟨ea, eb⟩ := e
                        rw [ea, eb]
                        refine ⟨((upL_k (by decide)).trans upL_eq).trans ?_, upL_eq⟩
                        rw [hKF0.1 31 0 (by simp)]
                        exact i64_iL _
                      · have hne : 3 * a + b ≠ 3 * i + j := by omega
                        rw [upL_k (by decide), upL_x hne, upL_x hne, upL_k (by decide)]
                        exact hv a b hb (by omega)
                    exact ih64 (j + 1) (upL (upL L1 48 0 ((3 * i) + j) ((I1 31 0 (25 * t + 5 * i + j)).toInt64)) 49 0 ((3 * i) + j) 1) (by omega) (by omega) ((hFL.up (by simp)).up (by simp)) hnew
              exact loop64 _ 0 L1 (Nat.lt_succ_self _) (Nat.zero_le _) hFL hv
        exact loop56 _ 0 L (Nat.lt_succ_self _) (Nat.zero_le _) FL.rf (fun a b _ h => by omega)
      · refine v_aload_n X 0 rfl dX6_make_37 ?_
        refine v_bipush X (v := (-7)) dX6_make_38 (by decide) ?_
        refine v_callV X (c_X6_no _ _ hE _ _ 7 (by decide) (by decide)) k_X6_80 dl_30 (cef_30 _ _ _ _) rfl ⟨rfl, rfl, Nat.le_of_ble_eq_true rfl, Nat.le_of_ble_eq_true rfl⟩ (As := [.int (-7)]) (rest := []) rfl rfl (Nat.le_of_ble_eq_true rfl) dX6_make_40 (fun r40 I40 L40 hp40 => ?_)
        obtain ⟨rfl, e1, e2⟩ := hp40
        have e1 := e1.symm
        have e2 := e2.symm
        subst e1; subst e2
        refine v_st (st' := [.int (-7)]) rfl ?_
        exact v_iret X Y dX6_make_43 (Or.inr ⟨t, htt, rfl, Or.inl ⟨fun q => by omega, ⟨rfl, rfl⟩, rfl⟩⟩)
  · refine v_aload_n X 0 rfl dX6_make_8 ?_
    refine v_bipush X (v := (-3)) dX6_make_9 (by decide) ?_
    refine v_callV X (c_X6_no _ _ hE _ _ 3 (by decide) (by decide)) k_X6_80 dl_30 (cef_30 _ _ _ _) rfl ⟨rfl, rfl, Nat.le_of_ble_eq_true rfl, Nat.le_of_ble_eq_true rfl⟩ (As := [.int (-3)]) (rest := []) rfl rfl (Nat.le_of_ble_eq_true rfl) dX6_make_11 (fun r11 I11 L11 hp11 => ?_)
    obtain ⟨rfl, e1, e2⟩ := hp11
    have e1 := e1.symm
    have e2 := e2.symm
    subst e1; subst e2
    refine v_st (st' := [.int (-3)]) rfl ?_
    exact v_iret X Y dX6_make_14 (Or.inl ⟨(fun q => h5 ((inR_T (by have := hT.2.1; omega)).mpr q)), ⟨rfl, rfl⟩, rfl⟩)
set_option maxHeartbeats 4000000 in
set_option maxRecDepth 100000 in
theorem c_X6_making (l : Launch) (E : VE) (hE : EOk E) (I : TI) (L : TL) (S : SL) (hS : repSm I L S) (hS9 : S.length ≤ 9) (i what : Int32) : Ct l E yX6_making cX6_making 3 (some .long) rm_X6_making [.ref (eA E 30 0), .int i, .int what] I L (fun r I' L' => (¬ (0 ≤ i ∧ i < nI S.length) ∧ r = some (.long 0) ∧ I' = rfM I 3 ∧ L' = L) ∨ (∃ i' q, i = nI i' ∧ S[i']? = some q ∧ (∀ k, k < 4 → what = nI k → r = some (.long (mkgA q k)) ∧ I' = I ∧ L' = L) ∧ ((∀ k, k < 4 → what ≠ nI k) → r = some (.long 0) ∧ I' = rfM I 7 ∧ L' = L))) := by
  refine ct_of (by decide +kernel) (Nat.le_of_ble_eq_true rfl) hE ?_
  intro a X Y hl hEE
  subst hl; subst hEE
  show V a 0 [(0, .ref (eA (vE a) 30 0)), (1, .int i), (2, .int what)] [] I L
  refine v_iload_n X 1 rfl dX6_making_0 ?_
  refine v_i2l X dX6_making_1 rfl ?_
  refine v_lconst X (v := 0) dX6_making_2 rfl ?_
  refine v_aload_n X 0 rfl dX6_making_3 ?_
  refine gf_X6_221 X dX6_making_4 ?_
  refine v_eqi (y := (nI S.length)) (hS.1) ?_
  refine v_iconst X (v := (nI 1)) dX6_making_7 (by decide) ?_
  refine v_isub X dX6_making_8 ?_
  refine v_i2l X dX6_making_9 rfl ?_
  refine v_callS X (c_X6_isIn _ _ hE _ _ i.toInt64 0 (((nI S.length) - (nI 1)).toInt64)) k_X6_90 ⟨rfl, rfl, Nat.le_of_ble_eq_true rfl, Nat.le_of_ble_eq_true rfl⟩ (As := [.long i.toInt64, .long 0, .long (((nI S.length) - (nI 1)).toInt64)]) (rest := []) rfl rfl (Nat.le_of_ble_eq_true rfl) dX6_making_10 (fun r10 I10 L10 hp10 => ?_)
  obtain ⟨rfl, e1, e2⟩ := hp10
  have e1 := e1.symm
  have e2 := e2.symm
  subst e1; subst e2
  refine v_st (st' := [.int (bI (0 ≤ i.toInt64 ∧ i.toInt64 ≤ ((nI S.length) - (nI 1)).toInt64))]) rfl ?_
  refine v_ifb_ne X dX6_making_13 (tgt := 24) (by decide) (fun h13 => ?_) (fun h13 => ?_)
  · have hin := (in_L (by omega)).mp h13
    obtain ⟨i', hi', rfl⟩ := ix_of hin.1 hin.2 (by omega)
    obtain ⟨q, hq⟩ : ∃ q, S[i']? = some q := ⟨S[i'], List.getElem?_eq_getElem hi'⟩
    obtain ⟨hq1, hq2, hq3, hq4⟩ := hS.2 i' q hq
    refine v_iload_n X 2 rfl dX6_making_24 ?_
    rcases tsw what (n := 3) (m := 3) rfl (by decide) with ⟨k, hk, rfl⟩ | ⟨hout, hno⟩
    · rcases (show k = 0 ∨ k = 1 ∨ k = 2 ∨ k = 3 by omega) with rfl | rfl | rfl | rfl
      · refine v_tableIn X dX6_making_25 (by decide) (by decide) (off := 31) rfl (tgt := 56) (by decide) ?_
        refine v_aload_n X 0 rfl dX6_making_56 ?_
        refine gf_X6_74 X dX6_making_57 ?_
        refine v_iload_n X 1 rfl dX6_making_60 ?_
        refine v_iald_n X dl_52 (fun _ _ => rfl) (n := 12) (by omega) (by decide) dX6_making_61 ?_
        refine v_eqi (y := (nI q.1)) (hq1) ?_
        refine v_i2l X dX6_making_62 rfl ?_
        exact v_lret X Y dX6_making_63 (Or.inr ⟨i', q, rfl, hq, fun k hk e => by
              have e := (nI_eq (by decide) (by omega)).mp e
              subst e
              exact ⟨rfl, rfl, rfl⟩, fun h => absurd rfl (h 0 (by decide))⟩)
      · refine v_tableIn X dX6_making_25 (by decide) (by decide) (off := 39) rfl (tgt := 64) (by decide) ?_
        refine v_aload_n X 0 rfl dX6_making_64 ?_
        refine gf_X6_77 X dX6_making_65 ?_
        refine v_iload_n X 1 rfl dX6_making_68 ?_
        refine v_iald_n X dl_53 (fun _ _ => rfl) (n := 12) (by omega) (by decide) dX6_making_69 ?_
        refine v_eqi (y := (nI q.2.1)) (hq2) ?_
        refine v_i2l X dX6_making_70 rfl ?_
        exact v_lret X Y dX6_making_71 (Or.inr ⟨i', q, rfl, hq, fun k hk e => by
              have e := (nI_eq (by decide) (by omega)).mp e
              subst e
              exact ⟨rfl, rfl, rfl⟩, fun h => absurd rfl (h 1 (by decide))⟩)
      · refine v_tableIn X dX6_making_25 (by decide) (by decide) (off := 47) rfl (tgt := 72) (by decide) ?_
        refine v_aload_n X 0 rfl dX6_making_72 ?_
        refine gf_X6_68 X dX6_making_73 ?_
        refine v_iload_n X 1 rfl dX6_making_76 ?_
        refine v_lald_n X dl_50 (fun _ _ => rfl) (n := 12) (by omega) (by decide) dX6_making_77 ?_
        refine v_eql (y := (iL q.2.2.num)) (hq3) ?_
        exact v_lret X Y dX6_making_78 (Or.inr ⟨i', q, rfl, hq, fun k hk e => by
              have e := (nI_eq (by decide) (by omega)).mp e
              subst e
              exact ⟨rfl, rfl, rfl⟩, fun h => absurd rfl (h 2 (by decide))⟩)
      · refine v_tableIn X dX6_making_25 (by decide) (by decide) (off := 54) rfl (tgt := 79) (by decide) ?_
        refine v_aload_n X 0 rfl dX6_making_79 ?_
        refine gf_X6_71 X dX6_making_80 ?_
        refine v_iload_n X 1 rfl dX6_making_83 ?_
        refine v_lald_n X dl_51 (fun _ _ => rfl) (n := 12) (by omega) (by decide) dX6_making_84 ?_
        refine v_eql (y := (iL (q.2.2.den : Int))) (hq4) ?_
        exact v_lret X Y dX6_making_85 (Or.inr ⟨i', q, rfl, hq, fun k hk e => by
              have e := (nI_eq (by decide) (by omega)).mp e
              subst e
              exact ⟨rfl, rfl, rfl⟩, fun h => absurd rfl (h 3 (by decide))⟩)
    · refine v_tableOut X dX6_making_25 hout (tgt := 86) (by decide) ?_
      refine v_aload_n X 0 rfl dX6_making_86 ?_
      refine v_bipush X (v := (-7)) dX6_making_87 (by decide) ?_
      refine v_callV X (c_X6_none _ _ hE _ _ 7 (by decide) (by decide)) k_X6_106 dl_30 (cef_30 _ _ _ _) rfl ⟨rfl, rfl, Nat.le_of_ble_eq_true rfl, Nat.le_of_ble_eq_true rfl⟩ (As := [.int (-7)]) (rest := []) rfl rfl (Nat.le_of_ble_eq_true rfl) dX6_making_89 (fun r89 I89 L89 hp89 => ?_)
      obtain ⟨rfl, e1, e2⟩ := hp89
      have e1 := e1.symm
      have e2 := e2.symm
      subst e1; subst e2
      refine v_st (st' := [.int (nI 0)]) rfl ?_
      refine v_i2l X dX6_making_92 rfl ?_
      refine v_eql (y := 0) (by decide) ?_
      exact v_lret X Y dX6_making_93 (Or.inr ⟨i', q, rfl, hq, fun k hk e => absurd e (hno k (by omega)), fun _ => ⟨rfl, rfl, rfl⟩⟩)
  · refine v_aload_n X 0 rfl dX6_making_16 ?_
    refine v_bipush X (v := (-3)) dX6_making_17 (by decide) ?_
    refine v_callV X (c_X6_none _ _ hE _ _ 3 (by decide) (by decide)) k_X6_106 dl_30 (cef_30 _ _ _ _) rfl ⟨rfl, rfl, Nat.le_of_ble_eq_true rfl, Nat.le_of_ble_eq_true rfl⟩ (As := [.int (-3)]) (rest := []) rfl rfl (Nat.le_of_ble_eq_true rfl) dX6_making_19 (fun r19 I19 L19 hp19 => ?_)
    obtain ⟨rfl, e1, e2⟩ := hp19
    have e1 := e1.symm
    have e2 := e2.symm
    subst e1; subst e2
    refine v_st (st' := [.int (nI 0)]) rfl ?_
    refine v_i2l X dX6_making_22 rfl ?_
    refine v_eql (y := 0) (by decide) ?_
    exact v_lret X Y dX6_making_23 (Or.inl ⟨fun q => h13 ((in_L (by omega)).mpr q), rfl, rfl, rfl⟩)
