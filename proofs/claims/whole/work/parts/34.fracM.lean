/-! the model's fractions -/
theorem iL_abs_p {z : Int} (h : z.natAbs < 2 ^ 63) (g : 0 ≤ iL z) : iL z = lN z.natAbs := by
  have := (iL_le (a := 0) (by decide) h).mp g
  rw [← iL_nat]
  congr 1
  omega
theorem iL_abs_n {z : Int} (h : z.natAbs < 2 ^ 63) (g : ¬ 0 ≤ iL z) : -iL z = lN z.natAbs := by
  have h2 : ¬ 0 ≤ z := fun q => g ((iL_le (a := 0) (by decide) h).mpr q)
  rw [iL_neg, ← iL_nat]
  congr 1
  omega
theorem iL_pos {z : Int} (h : z.natAbs < 2 ^ 63) : 0 ≤ iL z ↔ 0 ≤ z := iL_le (a := 0) (by decide) h
theorem dI_bd {a b : Int} (hb : b ≠ 0) : (Rat.divInt a b).num.natAbs ≤ a.natAbs ∧ (Rat.divInt a b).den ≤ b.natAbs := by
  constructor
  · rw [Rat.num_divInt]
    refine Nat.le_trans (abs_div_le _ _) ?_
    rw [Int.natAbs_mul, Int.natAbs_sign_of_ne_zero hb, Nat.one_mul]
    exact Nat.le_refl _
  · rw [Rat.den_divInt, if_neg hb]
    exact Nat.div_le_self _ _
theorem fr_pos {a b : Int} (h : 0 < b) : a.tdiv ((Nat.gcd a.natAbs b.natAbs : Nat) : Int) = (Rat.divInt a b).num ∧ b.tdiv ((Nat.gcd a.natAbs b.natAbs : Nat) : Int) = ((Rat.divInt a b).den : Int) := by
  have d1 : ((Nat.gcd a.natAbs b.natAbs : Nat) : Int) ∣ a := Int.ofNat_dvd_left.mpr (Nat.gcd_dvd_left _ _)
  have d2 : ((Nat.gcd a.natAbs b.natAbs : Nat) : Int) ∣ b := Int.ofNat_dvd_left.mpr (Nat.gcd_dvd_right _ _)
  have e : Int.gcd b a = Nat.gcd a.natAbs b.natAbs := Nat.gcd_comm _ _
  rw [Int.tdiv_eq_ediv_of_dvd d1, Int.tdiv_eq_ediv_of_dvd d2, Rat.num_divInt, Rat.den_divInt, if_neg (by omega), Int.sign_eq_one_of_pos h, Int.one_mul, e]
  refine ⟨rfl, ?_⟩
  rw [Int.natCast_ediv]
  congr 1
  omega
theorem fr_neg {a b : Int} (h : b < 0) : a.tdiv (-((Nat.gcd a.natAbs b.natAbs : Nat) : Int)) = (Rat.divInt a b).num ∧ b.tdiv (-((Nat.gcd a.natAbs b.natAbs : Nat) : Int)) = ((Rat.divInt a b).den : Int) := by
  have d1 : ((Nat.gcd a.natAbs b.natAbs : Nat) : Int) ∣ a := Int.ofNat_dvd_left.mpr (Nat.gcd_dvd_left _ _)
  have d2 : ((Nat.gcd a.natAbs b.natAbs : Nat) : Int) ∣ b := Int.ofNat_dvd_left.mpr (Nat.gcd_dvd_right _ _)
  have e : Int.gcd b a = Nat.gcd a.natAbs b.natAbs := Nat.gcd_comm _ _
  rw [Int.tdiv_neg, Int.tdiv_neg, Int.tdiv_eq_ediv_of_dvd d1, Int.tdiv_eq_ediv_of_dvd d2, Rat.num_divInt, Rat.den_divInt, if_neg (by omega), Int.sign_eq_neg_one_of_neg h, e]
  refine ⟨?_, ?_⟩
  · rw [Int.neg_mul, Int.one_mul, Int.neg_ediv_of_dvd d1]
  · rw [Int.natCast_ediv, ← Int.neg_ediv_of_dvd d2]
    congr 1
    omega
theorem tm_ok {a b c d : Int} : Rat.divInt ((Rat.divInt a d).num * (Rat.divInt c b).num) (((Rat.divInt a d).den : Int) * ((Rat.divInt c b).den : Int)) = Rat.divInt a b * Rat.divInt c d := by
  have h : Rat.divInt a d * Rat.divInt c b = Rat.divInt a b * Rat.divInt c d := by rw [Rat.divInt_mul_divInt, Rat.divInt_mul_divInt, Int.mul_comm d b]
  rw [← h, Rat.mul_def', ← Rat.divInt_ofNat, Int.natCast_mul]
/-- crosswise made lowest, a product is lowest at once -/
theorem mul_red (S A : Rat) : (Rat.divInt S.num A.den).num * (Rat.divInt A.num S.den).num = (S * A).num ∧ (Rat.divInt S.num A.den).den * (Rat.divInt A.num S.den).den = (S * A).den := by
  obtain ⟨e3, hlo, -⟩ := sub_ok S S A
  have hA := A.den_pos
  have hS := S.den_pos
  have n1 : (Rat.divInt S.num A.den).num = S.num / ((Nat.gcd S.num.natAbs A.den : Nat) : Int) := (fr_pos (a := S.num) (b := (A.den : Int)) (by omega)).1.symm.trans (Int.tdiv_eq_ediv_of_dvd (Int.ofNat_dvd_left.mpr (Nat.gcd_dvd_left _ _)))
  have n2 : (Rat.divInt A.num S.den).num = A.num / ((Nat.gcd A.num.natAbs S.den : Nat) : Int) := (fr_pos (a := A.num) (b := (S.den : Int)) (by omega)).1.symm.trans (Int.tdiv_eq_ediv_of_dvd (Int.ofNat_dvd_left.mpr (Nat.gcd_dvd_left _ _)))
  have m1 : (Rat.divInt S.num A.den).den = A.den / Nat.gcd S.num.natAbs A.den := by
    rw [Rat.den_divInt, if_neg (by omega), Int.natAbs_natCast]
    exact congrArg _ (Nat.gcd_comm _ _)
  have m2 : (Rat.divInt A.num S.den).den = S.den / Nat.gcd A.num.natAbs S.den := by
    rw [Rat.den_divInt, if_neg (by omega), Int.natAbs_natCast]
    exact congrArg _ (Nat.gcd_comm _ _)
  have q := rat_num _ _ _ hlo e3
  have hf : 0 < Nat.gcd S.num.natAbs A.den := Nat.gcd_pos_of_pos_right _ hA
  have hg : 0 < Nat.gcd A.num.natAbs S.den := Nat.gcd_pos_of_pos_right _ hS
  have a1 : (S.num / ((Nat.gcd S.num.natAbs A.den : Nat) : Int)).natAbs = S.num.natAbs / Nat.gcd S.num.natAbs A.den := Int.natAbs_ediv_of_dvd (Int.ofNat_dvd_left.mpr (Nat.gcd_dvd_left _ _))
  have a2 : (A.num / ((Nat.gcd A.num.natAbs S.den : Nat) : Int)).natAbs = A.num.natAbs / Nat.gcd A.num.natAbs S.den := Int.natAbs_ediv_of_dvd (Int.ofNat_dvd_left.mpr (Nat.gcd_dvd_left _ _))
  have c1 : Nat.Coprime (S.num.natAbs / Nat.gcd S.num.natAbs A.den) (A.den / Nat.gcd S.num.natAbs A.den) := Nat.coprime_div_gcd_div_gcd hf
  have c2 : Nat.Coprime (A.num.natAbs / Nat.gcd A.num.natAbs S.den) (S.den / Nat.gcd A.num.natAbs S.den) := Nat.coprime_div_gcd_div_gcd hg
  have c3 : Nat.Coprime (S.num.natAbs / Nat.gcd S.num.natAbs A.den) (S.den / Nat.gcd A.num.natAbs S.den) := (S.reduced.coprime_div_left (Nat.gcd_dvd_left _ _)).coprime_div_right (Nat.gcd_dvd_right _ _)
  have c4 : Nat.Coprime (A.num.natAbs / Nat.gcd A.num.natAbs S.den) (A.den / Nat.gcd S.num.natAbs A.den) := (A.reduced.coprime_div_left (Nat.gcd_dvd_left _ _)).coprime_div_right (Nat.gcd_dvd_right _ _)
  have cc : Nat.gcd (S.num / ((Nat.gcd S.num.natAbs A.den : Nat) : Int) * (A.num / ((Nat.gcd A.num.natAbs S.den : Nat) : Int))).natAbs (S.den / Nat.gcd A.num.natAbs S.den * (A.den / Nat.gcd S.num.natAbs A.den)) = 1 := by
    rw [Int.natAbs_mul, a1, a2]
    exact Nat.Coprime.mul_right (Nat.Coprime.mul_left c3 c2) (Nat.Coprime.mul_left c1 c4)
  rw [cc, Nat.div_one, Int.natCast_one, Int.ediv_one] at q
  rw [n1, n2, m1, m2, q.1, q.2]
  exact ⟨rfl, Nat.mul_comm _ _⟩
def clX (H P : Rat) : Int := H.num * ((P.den : Int) / ((Nat.gcd H.den P.den : Nat) : Int)) - P.num * ((H.den : Int) / ((Nat.gcd H.den P.den : Nat) : Int))
def clY (H P : Rat) : Int := (H.den : Int) / ((Nat.gcd H.den P.den : Nat) : Int) * (P.den : Int)
theorem clY_pos (H P : Rat) : 0 < clY H P := by
  unfold clY
  have h1 := H.den_pos
  have h2 := P.den_pos
  have h3 : 0 < Nat.gcd H.den P.den := Nat.gcd_pos_of_pos_left _ h1
  have h4 : 0 < H.den / Nat.gcd H.den P.den := Nat.div_pos (Nat.le_of_dvd h1 (Nat.gcd_dvd_left _ _)) h3
  rw [← Int.natCast_ediv, ← Int.natCast_mul]
  have := Nat.mul_pos h4 h2
  omega
theorem sb_ok (H P : Rat) : Rat.divInt (clX H P) (clY H P) = H - P := by
  have h1 : H = Rat.divInt H.num (H.den : Int) := (Rat.num_divInt_den H).symm
  have h2 : P = Rat.divInt P.num (P.den : Int) := (Rat.num_divInt_den P).symm
  have z1 : (H.den : Int) ≠ 0 := by have := H.den_pos; omega
  have z2 : (P.den : Int) ≠ 0 := by have := P.den_pos; omega
  have zg : ((Nat.gcd H.den P.den : Nat) : Int) ≠ 0 := by have := Nat.gcd_pos_of_pos_left P.den H.den_pos; omega
  have d1 : ((Nat.gcd H.den P.den : Nat) : Int) ∣ (H.den : Int) := Int.ofNat_dvd.mpr (Nat.gcd_dvd_left _ _)
  have d2 : ((Nat.gcd H.den P.den : Nat) : Int) ∣ (P.den : Int) := Int.ofNat_dvd.mpr (Nat.gcd_dvd_right _ _)
  have e : H - P = Rat.divInt (H.num * (P.den : Int) - P.num * (H.den : Int)) ((H.den : Int) * (P.den : Int)) := by
    conv => lhs; rw [h1, h2]
    exact Rat.divInt_sub_divInt _ _ z1 z2
  rw [e, ← Rat.divInt_mul_right zg]
  congr 1
  · unfold clX
    rw [Int.sub_mul, Int.mul_assoc, Int.mul_assoc, Int.ediv_mul_cancel d1, Int.ediv_mul_cancel d2]
  · unfold clY
    rw [Int.mul_assoc, Int.mul_comm (P.den : Int), ← Int.mul_assoc, Int.ediv_mul_cancel d1]
def clOk (H P : Rat) : Prop := P.num.natAbs < lim ∧ P.den < lim ∧ (clX H P).natAbs < lim ∧ (clY H P).natAbs < lim
theorem cl_zero {H : Rat} (h1 : H.num.natAbs < lim) (h2 : H.den < lim) : clOk H 0 := by
  have e : Nat.gcd H.den (0 : Rat).den = 1 := Nat.gcd_one_right _
  have ex : clX H 0 = H.num := by
    unfold clX
    rw [e]
    show H.num * ((1 : Int) / 1) - 0 * _ = _
    rw [Int.zero_mul, Int.sub_zero]
    exact Int.mul_one _
  have ey : clY H 0 = (H.den : Int) := by
    unfold clY
    rw [e]
    show (H.den : Int) / 1 * 1 = _
    rw [Int.ediv_one, Int.mul_one]
  exact ⟨by decide, by decide, by rw [ex]; exact h1, by rw [ey, Int.natAbs_natCast]; exact h2⟩
theorem cl_same {H : Rat} (h1 : H.num.natAbs < lim) (h2 : H.den < lim) : clOk H H := by
  have ex : clX H H = 0 := by
    unfold clX
    exact Int.sub_self _
  have ey : clY H H = (H.den : Int) := by
    unfold clY
    rw [Nat.gcd_self, Int.ediv_self (by have := H.den_pos; omega), Int.one_mul]
  exact ⟨h1, h2, by rw [ex]; decide, by rw [ey, Int.natAbs_natCast]; exact h2⟩
theorem cl_bd {H P : Rat} {B : Nat × Nat} {p1 p2 : Nat} (h : bq H B) (h1 : P.num.natAbs ≤ p1) (h2 : P.den ≤ p2) : (clX H P).natAbs ≤ B.1 * p2 + p1 * B.2 ∧ (clY H P).natAbs ≤ B.2 * p2 := by
  unfold clX clY
  constructor
  · refine Nat.le_trans (Int.natAbs_sub_le _ _) (Nat.add_le_add ?_ ?_)
    · rw [Int.natAbs_mul]
      exact Nat.mul_le_mul h.1 (Nat.le_trans (abs_div_le _ _) h2)
    · rw [Int.natAbs_mul]
      exact Nat.mul_le_mul h1 (Nat.le_trans (abs_div_le _ _) h.2)
  · rw [Int.natAbs_mul]
    exact Nat.mul_le_mul (Nat.le_trans (abs_div_le _ _) h.2) h2
theorem mul_bd {S A : Rat} {C D : Nat × Nat} (h : bq S C) (g : bq A D) : (S * A).num.natAbs ≤ C.1 * D.1 ∧ (S * A).den ≤ C.2 * D.2 := by
  constructor
  · rw [Rat.num_mul]
    refine Nat.le_trans (abs_div_le _ _) ?_
    rw [Int.natAbs_mul]
    exact Nat.mul_le_mul h.1 g.1
  · rw [Rat.den_mul]
    exact Nat.le_trans (Nat.div_le_self _ _) (Nat.mul_le_mul h.2 g.2)
theorem bq_div2 {H A : Rat} {B C : Nat × Nat} (h : bq H B) (g : bq A C) (hA : A ≠ 0) : bq (H / A) (B.1 * C.2, C.1 * B.2) := by
  have hz : A.num ≠ 0 := fun e => hA (Rat.num_eq_zero.mp e)
  have b1 := dI_bd (a := (A.den : Int)) hz
  have e : H / A = H * Rat.divInt (A.den : Int) A.num := by rw [Rat.div_def, Rat.inv_def]
  have m := mul_bd (S := H) (A := Rat.divInt (A.den : Int) A.num) (C := B) (D := (C.2, C.1)) h ⟨Nat.le_trans b1.1 (by rw [Int.natAbs_natCast]; exact g.2), Nat.le_trans b1.2 g.1⟩
  rw [e]
  exact ⟨m.1, by rw [Nat.mul_comm C.1]; exact m.2⟩
/-- at the head of a row, whatever the sign: what the model's clears asks -/
theorem good_step2 {k n c r : Nat} {M : QM} (hk : k < 2) (hn : n ≤ 3) (hcr : c < r) (hrn : r < n) (hg : good k (stg c r) n M) (hA : vw k M (r - 1) c ≠ 0) :
    (vw k M r c / vw k M (r - 1) c).num.natAbs < lim ∧ (vw k M r c / vw k M (r - 1) c).den < lim ∧
    (∀ j, j < n → clOk (vw k M r j) (vw k M r c / vw k M (r - 1) c * vw k M (r - 1) j)) ∧
    good k (stg c (r - 1)) n (rwJ k M r (vw k M r c / vw k M (r - 1) c) n) := by
  have hcn : c < n := by omega
  have hr1 : r - 1 < n := by omega
  have hS := bq_div2 (hg r c hrn hcn) (hg (r - 1) c hr1 hcn) hA
  have hs2 := tb_s k hk r (by omega) c hcr
  have hcc : vw k M r c / vw k M (r - 1) c * vw k M (r - 1) c = vw k M r c := by
    rw [Rat.div_def, Rat.mul_assoc, Rat.inv_mul_cancel _ hA, Rat.mul_one]
  have hzz : ∀ j, j < c → vw k M r j = 0 ∧ vw k M (r - 1) j = 0 := fun j hj =>
    ⟨bq_z (hg r j hrn (by omega)) (tb_z k hk r (by omega) c hcr j hj).1, bq_z (hg (r - 1) j hr1 (by omega)) (tb_z k hk r (by omega) c hcr j hj).2⟩
  have hbd : ∀ j, c < j → j < n → (vw k M (r - 1) j).num ≠ 0 → _ := fun j h1 h2 h3 => tb_n hk (show r < 3 by omega) hcr (show j < 3 by omega) h1 (fun e => h3 (by rw [bq_z (hg (r - 1) j hr1 h2) e]; rfl))
  refine ⟨Nat.lt_of_le_of_lt hS.1 hs2.1, Nat.lt_of_le_of_lt hS.2 hs2.2, fun j hj => ?_, fun i j hi hj => ?_⟩
  · have hH := good_rg hk hn (stg_lt _ _) hg hrn hj
    rcases Nat.lt_trichotomy j c with z | z | z
    · rw [(hzz j z).2, Rat.mul_zero]
      exact cl_zero hH.1 hH.2
    · subst z
      rw [hcc]
      exact cl_same hH.1 hH.2
    · by_cases h3 : (vw k M (r - 1) j).num = 0
      · rw [Rat.num_eq_zero.mp h3, Rat.mul_zero]
        exact cl_zero hH.1 hH.2
      · have b := hbd j z hj h3
        have m := mul_bd hS (hg (r - 1) j hr1 hj)
        have q := cl_bd (hg r j hrn hj) m.1 m.2
        have h1 := (tb_in k hk _ (stg_lt c r) r (by omega) j (by omega)).2.2
        refine ⟨Nat.lt_of_le_of_lt m.1 (Nat.lt_of_le_of_lt ?_ b.1), Nat.lt_of_le_of_lt m.2 (Nat.lt_of_le_of_lt ?_ b.2.1), Nat.lt_of_le_of_lt q.1 b.1, Nat.lt_of_le_of_lt q.2 b.2.1⟩
        · exact Nat.le_trans (Nat.le_mul_of_pos_right _ h1) (Nat.le_add_left _ _)
        · exact Nat.le_mul_of_pos_left _ h1
  · rw [vw_rwJ]
    by_cases e : i = r ∧ j < n
    · rw [if_pos e]
      obtain ⟨rfl, -⟩ := e
      rcases Nat.lt_trichotomy j c with z | z | z
      · rw [(hzz j z).1, (hzz j z).2, Rat.mul_zero, Rat.sub_self]
        exact bq_0 (tb_in k hk _ (stg_lt _ _) i (by omega) j (by omega)).2.2
      · subst z
        rw [hcc, Rat.sub_self]
        exact bq_0 (tb_in k hk _ (stg_lt _ _) i (by omega) j (by omega)).2.2
      · by_cases h3 : (vw k M (i - 1) j).num = 0
        · rw [Rat.num_eq_zero.mp h3, Rat.mul_zero, Rat.sub_eq_add_neg, Rat.neg_zero, Rat.add_zero]
          have m := (tb_m hk (show i < 3 by omega) hcr (show i < 3 by omega) (show j < 3 by omega)).resolve_left (fun q => by omega)
          exact bq_m (hg i j hi hj) m.1 m.2
        · have b := hbd j z hj h3
          have m := mul_bd hS (hg (i - 1) j hr1 hj)
          have q := cl_bd (hg i j hi hj) m.1 m.2
          have d := dI_bd (a := clX (vw k M i j) (vw k M i c / vw k M (i - 1) c * vw k M (i - 1) j)) (Int.ne_of_gt (clY_pos (vw k M i j) (vw k M i c / vw k M (i - 1) c * vw k M (i - 1) j)))
          rw [sb_ok] at d
          exact bq_m (B := bN k c i j) ⟨Nat.le_trans d.1 q.1, Nat.le_trans d.2 q.2⟩ b.2.2.1 b.2.2.2
    · rw [if_neg e]
      have m := (tb_m hk (show r < 3 by omega) hcr (show i < 3 by omega) (show j < 3 by omega)).resolve_left (fun q => e ⟨q.1, hj⟩)
      exact bq_m (hg i j hi hj) m.1 m.2
/-! what the model keeps of it -/
def setR (L : TL) (q : Rat) : TL := upL (upL L 30 0 35 (iL q.num)) 30 0 36 (iL (q.den : Int))
theorem setR_setR (L : TL) (p q : Rat) : setR (setR L p) q = setR L q := by
  funext k j x
  unfold setR upL
  by_cases h1 : k = 30 ∧ j = 0 ∧ x = 36
  · rw [if_pos h1, if_pos h1]
  · rw [if_neg h1, if_neg h1]
    by_cases h2 : k = 30 ∧ j = 0 ∧ x = 35
    · rw [if_pos h2, if_neg h1, if_pos h2]
    · rw [if_neg h2, if_neg h1, if_neg h2, if_neg h2]
theorem setR_u (L : TL) (q : Rat) : setR L q 30 0 35 = iL q.num := (upL_x (by decide)).trans upL_eq
theorem setR_d (L : TL) (q : Rat) : setR L q 30 0 36 = iL (q.den : Int) := upL_eq
theorem setR_k {L : TL} {q : Rat} {k j x : Nat} (h : k ≠ 30) : setR L q k j x = L k j x := (upL_k h).trans (upL_k h)
def repMm (n : Nat) (L : TL) (M : QM) : Prop := ∀ i j, i < n → j < n → L 48 0 (3 * i + j) = iL (M i j).num ∧ L 49 0 (3 * i + j) = iL ((M i j).den : Int)
theorem repMm_v {n k : Nat} {L : TL} {M : QM} (h : repMm n L M) {i j : Nat} (hi : i < n) (hj : j < n) : L 48 0 (pl3 k i j) = iL (vw k M i j).num ∧ L 49 0 (pl3 k i j) = iL ((vw k M i j).den : Int) := by
  unfold pl3 vw
  by_cases e : k = 0
  · simp only [e, if_true]; exact h j i hj hi
  · simp only [e, if_false]; exact h i j hi hj
theorem repMm_of {n k : Nat} {L : TL} {M : QM} (h : ∀ i j, i < n → j < n → L 48 0 (pl3 k i j) = iL (vw k M i j).num ∧ L 49 0 (pl3 k i j) = iL ((vw k M i j).den : Int)) : repMm n L M := fun i j hi hj => by
  by_cases e : k = 0
  · have := h j i hj hi
    unfold pl3 vw at this
    simp only [e, if_true] at this
    exact this
  · have := h i j hi hj
    unfold pl3 vw at this
    simp only [e, if_false] at this
    exact this
theorem repMm_fr {n : Nat} {L L' : TL} {M : QM} (h : repMm n L M) (h1 : L' 48 0 = L 48 0) (h2 : L' 49 0 = L 49 0) : repMm n L' M := by
  unfold repMm
  rw [h1, h2]
  exact h
theorem repMm_set {n k : Nat} {L : TL} {M : QM} {r : Nat} {s : Rat} {J : Nat} (hn : n ≤ 3) (hr : r < n) (hJ : J < n) (h : repMm n L (rwJ k M r s J)) {q : Rat} (hq : q = vw k M r J - s * vw k M (r - 1) J) : repMm n (upL (upL L 48 0 (pl3 k r J) (iL q.num)) 49 0 (pl3 k r J) (iL (q.den : Int))) (rwJ k M r s (J + 1)) := by
  refine repMm_of (k := k) (fun i j hi hj => ?_)
  rw [vw_rwJ]
  by_cases e : i = r ∧ j = J
  · obtain ⟨rfl, rfl⟩ := e
    rw [if_pos ⟨rfl, by omega⟩, ← hq]
    exact ⟨(upL_k (by decide)).trans upL_eq, upL_eq⟩
  · have hne : pl3 k i j ≠ pl3 k r J := fun q => e (pl3_inj (by omega) (by omega) (by omega) (by omega) q)
    have g := repMm_v (k := k) h hi hj
    rw [vw_rwJ] at g
    rw [upL_k (by decide), upL_x hne, upL_x hne, upL_k (by decide)]
    by_cases e2 : i = r ∧ j < J
    · rw [if_pos e2] at g
      rw [if_pos ⟨e2.1, by omega⟩]
      exact g
    · rw [if_neg e2] at g
      rw [if_neg (fun q => by
        have : j = J := by have := q.2; omega
        exact e ⟨q.1, this⟩)]
      exact g
def repSm (I : TI) (L : TL) (S : SL) : Prop := I 30 0 33 = nI S.length ∧ ∀ i q, S[i]? = some q → I 52 0 i = nI q.1 ∧ I 53 0 i = nI q.2.1 ∧ L 50 0 i = iL q.2.2.num ∧ L 51 0 i = iL (q.2.2.den : Int)
theorem repSm_add {I : TI} {L : TL} {S : SL} {k ln : Nat} {q : Rat} {v : Int32} (h : repSm I L S) : repSm (upI (upI (upI (upI I 52 0 S.length (nI k)) 53 0 S.length (nI ln)) 30 0 33 (nI (S.length + 1))) 30 0 34 v) (upL (upL L 50 0 S.length (iL q.num)) 51 0 S.length (iL (q.den : Int))) (S ++ [(k, ln, q)]) := by
  refine ⟨by rw [upI_x (by decide), upI_eq, List.length_append]; rfl, fun i p hp => ?_⟩
  by_cases hi : i < S.length
  · rw [List.getElem?_append_left hi] at hp
    have g := h.2 i p hp
    have hne : i ≠ S.length := by omega
    exact ⟨((upI_k (by decide)).trans ((upI_k (by decide)).trans ((upI_k (by decide)).trans (upI_x hne)))).trans g.1, ((upI_k (by decide)).trans ((upI_k (by decide)).trans ((upI_x hne).trans (upI_k (by decide))))).trans g.2.1, ((upL_k (by decide)).trans (upL_x hne)).trans g.2.2.1, (upL_x hne).trans ((upL_k (by decide)).trans g.2.2.2)⟩
  · rw [List.getElem?_append_right (by omega)] at hp
    have hi2 : i - S.length < 1 := (List.getElem?_eq_some_iff.mp hp).1
    have e : i = S.length := by omega
    rw [e, Nat.sub_self] at hp
    have hp := (Option.some.inj hp).symm
    subst hp
    rw [e]
    exact ⟨(upI_k (by decide)).trans ((upI_k (by decide)).trans ((upI_k (by decide)).trans upI_eq)), (upI_k (by decide)).trans ((upI_k (by decide)).trans upI_eq), (upL_k (by decide)).trans upL_eq, upL_eq⟩
theorem repSm_fr {I I' : TI} {L L' : TL} {S : SL} (h : repSm I L S) (h0 : I' 30 0 33 = I 30 0 33) (h1 : I' 52 0 = I 52 0) (h2 : I' 53 0 = I 53 0) (h3 : L' 50 0 = L 50 0) (h4 : L' 51 0 = L 51 0) : repSm I' L' S := by
  unfold repSm
  rw [h0, h1, h2, h3, h4]
  exact h

set_option maxHeartbeats 4000000 in
set_option maxRecDepth 100000 in
theorem c_X6_divisor (l : Launch) (E : VE) (hE : EOk E) (I : TI) (L : TL) (x y : Int) (hx : x.natAbs < 2 ^ 63) (hy : y.natAbs < 2 ^ 63) : Ct l E yX6_divisor cX6_divisor 10 (some .long) rm_X6_divisor [.long (iL x), .long (iL y)] I L (fun r I' L' => r = some (.long (lN (Nat.gcd x.natAbs y.natAbs))) ∧ I' = I ∧ L' = L) := by
  refine ct_of (by decide +kernel) (Nat.le_of_ble_eq_true rfl) hE ?_
  intro a X Y hl hEE
  subst hl; subst hEE
  show V a 0 [(0, .long (iL x)), (2, .long (iL y))] [] I L
  refine v_lload_n X 0 rfl dX6_divisor_0 ?_
  refine v_lconst X (v := 0) dX6_divisor_1 rfl ?_
  refine v_lcmp_ge X dX6_divisor_2 dX6_divisor_3 (tgt := 11) (by decide) (fun h2 => ?_) (fun h2 => ?_)
  · refine v_lload_n X 0 rfl dX6_divisor_11 ?_
    refine v_eql (y := (lN x.natAbs)) (iL_abs_p hx h2) ?_
    refine v_lstore X [1, 2, 0] (lv' := [(0, .long (iL x)), (2, .long (iL y)), (4, .long (lN x.natAbs))]) (by decide) rfl dX6_divisor_12 ?_
    refine v_lload_n X 1 rfl dX6_divisor_14 ?_
    refine v_lconst X (v := 0) dX6_divisor_15 rfl ?_
    refine v_lcmp_ge X dX6_divisor_16 dX6_divisor_17 (tgt := 25) (by decide) (fun h16 => ?_) (fun h16 => ?_)
    · refine v_lload_n X 1 rfl dX6_divisor_25 ?_
      refine v_eql (y := (lN y.natAbs)) (iL_abs_p hy h16) ?_
      refine v_lstore X [1, 2, 3, 0] (lv' := [(0, .long (iL x)), (2, .long (iL y)), (4, .long (lN x.natAbs)), (6, .long (lN y.natAbs))]) (by decide) rfl dX6_divisor_26 ?_
      have loop28 : ∀ (fu : Nat) (m : Nat) (l : Nat), l < fu → (m < 2 ^ 63) → (l < 2 ^ 63) → (Nat.gcd m l = Nat.gcd x.natAbs y.natAbs) → V a 28 [(0, .long (iL x)), (2, .long (iL y)), (4, .long (lN m)), (6, .long (lN l))] [] I L := by
        intro fu
        induction fu with
        | zero => intro m l hm _ _ _; exact absurd hm (Nat.not_lt_zero _)
        | succ fu ih28 =>
          intro m l hm28 hm hl hg
          refine v_lload X 3 rfl dX6_divisor_28 ?_
          refine v_lconst X (v := 0) dX6_divisor_30 rfl ?_
          refine v_lcmp_eq X dX6_divisor_31 dX6_divisor_32 (tgt := 53) (by decide) (fun h31 => ?_) (fun h31 => ?_)
          · refine v_lload X 2 rfl dX6_divisor_53 ?_
            exact v_lret X Y dX6_divisor_55 (⟨by rw [← hg, (lN_0 hl).mp h31, Nat.gcd_zero_right], rfl, rfl⟩)
          · have hl0 : l ≠ 0 := fun e => h31 ((lN_0 hl).mpr e)
            have hml := Nat.mod_lt m (Nat.pos_of_ne_zero hl0)
            refine v_lload X 2 rfl dX6_divisor_35 ?_
            refine v_lload X 3 rfl dX6_divisor_37 ?_
            refine v_lrem X dX6_divisor_39 h31 ?_
            refine v_eql (y := (lN (m % l))) (pk_lRem hm (Nat.pos_of_ne_zero hl0) hl) ?_
            refine v_lstore X [1, 2, 3, 4, 0] (lv' := [(0, .long (iL x)), (2, .long (iL y)), (4, .long (lN m)), (6, .long (lN l)), (8, .long (lN (m % l)))]) (by decide) rfl dX6_divisor_40 ?_
            refine v_lload X 3 rfl dX6_divisor_42 ?_
            refine v_lstore X [1, 2, 0, 3, 4] (lv' := [(0, .long (iL x)), (2, .long (iL y)), (4, .long (lN l)), (6, .long (lN l)), (8, .long (lN (m % l)))]) (by decide) rfl dX6_divisor_44 ?_
            refine v_lload X 4 rfl dX6_divisor_46 ?_
            refine v_lstore X [1, 2, 3, 0, 4] (lv' := [(0, .long (iL x)), (2, .long (iL y)), (4, .long (lN l)), (6, .long (lN (m % l))), (8, .long (lN (m % l)))]) (by decide) rfl dX6_divisor_48 ?_
            refine v_goto X (tgt := 28) dX6_divisor_50 (by decide) ?_
            refine v_sub [0, 1, 2, 3] (lv' := [(0, .long (iL x)), (2, .long (iL y)), (4, .long (lN l)), (6, .long (lN (m % l)))]) rfl ?_
            exact ih28 l (m % l) (by omega) hl (by omega) (by rw [← hg, Nat.gcd_comm m l, Nat.gcd_rec l m, Nat.gcd_comm])
      exact loop28 _ x.natAbs y.natAbs (Nat.lt_succ_self _) hx hy rfl
    · refine v_lload_n X 1 rfl dX6_divisor_20 ?_
      refine v_lneg X dX6_divisor_21 ?_
      refine v_goto X (tgt := 26) dX6_divisor_22 (by decide) ?_
      refine v_eql (y := (lN y.natAbs)) (iL_abs_n hy h16) ?_
      refine v_lstore X [1, 2, 3, 0] (lv' := [(0, .long (iL x)), (2, .long (iL y)), (4, .long (lN x.natAbs)), (6, .long (lN y.natAbs))]) (by decide) rfl dX6_divisor_26 ?_
      have loop28 : ∀ (fu : Nat) (m : Nat) (l : Nat), l < fu → (m < 2 ^ 63) → (l < 2 ^ 63) → (Nat.gcd m l = Nat.gcd x.natAbs y.natAbs) → V a 28 [(0, .long (iL x)), (2, .long (iL y)), (4, .long (lN m)), (6, .long (lN l))] [] I L := by
        intro fu
        induction fu with
        | zero => intro m l hm _ _ _; exact absurd hm (Nat.not_lt_zero _)
        | succ fu ih28 =>
          intro m l hm28 hm hl hg
          refine v_lload X 3 rfl dX6_divisor_28 ?_
          refine v_lconst X (v := 0) dX6_divisor_30 rfl ?_
          refine v_lcmp_eq X dX6_divisor_31 dX6_divisor_32 (tgt := 53) (by decide) (fun h31 => ?_) (fun h31 => ?_)
          · refine v_lload X 2 rfl dX6_divisor_53 ?_
            exact v_lret X Y dX6_divisor_55 (⟨by rw [← hg, (lN_0 hl).mp h31, Nat.gcd_zero_right], rfl, rfl⟩)
          · have hl0 : l ≠ 0 := fun e => h31 ((lN_0 hl).mpr e)
            have hml := Nat.mod_lt m (Nat.pos_of_ne_zero hl0)
            refine v_lload X 2 rfl dX6_divisor_35 ?_
            refine v_lload X 3 rfl dX6_divisor_37 ?_
            refine v_lrem X dX6_divisor_39 h31 ?_
            refine v_eql (y := (lN (m % l))) (pk_lRem hm (Nat.pos_of_ne_zero hl0) hl) ?_
            refine v_lstore X [1, 2, 3, 4, 0] (lv' := [(0, .long (iL x)), (2, .long (iL y)), (4, .long (lN m)), (6, .long (lN l)), (8, .long (lN (m % l)))]) (by decide) rfl dX6_divisor_40 ?_
            refine v_lload X 3 rfl dX6_divisor_42 ?_
            refine v_lstore X [1, 2, 0, 3, 4] (lv' := [(0, .long (iL x)), (2, .long (iL y)), (4, .long (lN l)), (6, .long (lN l)), (8, .long (lN (m % l)))]) (by decide) rfl dX6_divisor_44 ?_
            refine v_lload X 4 rfl dX6_divisor_46 ?_
            refine v_lstore X [1, 2, 3, 0, 4] (lv' := [(0, .long (iL x)), (2, .long (iL y)), (4, .long (lN l)), (6, .long (lN (m % l))), (8, .long (lN (m % l)))]) (by decide) rfl dX6_divisor_48 ?_
            refine v_goto X (tgt := 28) dX6_divisor_50 (by decide) ?_
            refine v_sub [0, 1, 2, 3] (lv' := [(0, .long (iL x)), (2, .long (iL y)), (4, .long (lN l)), (6, .long (lN (m % l)))]) rfl ?_
            exact ih28 l (m % l) (by omega) hl (by omega) (by rw [← hg, Nat.gcd_comm m l, Nat.gcd_rec l m, Nat.gcd_comm])
      exact loop28 _ x.natAbs y.natAbs (Nat.lt_succ_self _) hx hy rfl
  · refine v_lload_n X 0 rfl dX6_divisor_6 ?_
    refine v_lneg X dX6_divisor_7 ?_
    refine v_goto X (tgt := 12) dX6_divisor_8 (by decide) ?_
    refine v_eql (y := (lN x.natAbs)) (iL_abs_n hx h2) ?_
    refine v_lstore X [1, 2, 0] (lv' := [(0, .long (iL x)), (2, .long (iL y)), (4, .long (lN x.natAbs))]) (by decide) rfl dX6_divisor_12 ?_
    refine v_lload_n X 1 rfl dX6_divisor_14 ?_
    refine v_lconst X (v := 0) dX6_divisor_15 rfl ?_
    refine v_lcmp_ge X dX6_divisor_16 dX6_divisor_17 (tgt := 25) (by decide) (fun h16 => ?_) (fun h16 => ?_)
    · refine v_lload_n X 1 rfl dX6_divisor_25 ?_
      refine v_eql (y := (lN y.natAbs)) (iL_abs_p hy h16) ?_
      refine v_lstore X [1, 2, 3, 0] (lv' := [(0, .long (iL x)), (2, .long (iL y)), (4, .long (lN x.natAbs)), (6, .long (lN y.natAbs))]) (by decide) rfl dX6_divisor_26 ?_
      have loop28 : ∀ (fu : Nat) (m : Nat) (l : Nat), l < fu → (m < 2 ^ 63) → (l < 2 ^ 63) → (Nat.gcd m l = Nat.gcd x.natAbs y.natAbs) → V a 28 [(0, .long (iL x)), (2, .long (iL y)), (4, .long (lN m)), (6, .long (lN l))] [] I L := by
        intro fu
        induction fu with
        | zero => intro m l hm _ _ _; exact absurd hm (Nat.not_lt_zero _)
        | succ fu ih28 =>
          intro m l hm28 hm hl hg
          refine v_lload X 3 rfl dX6_divisor_28 ?_
          refine v_lconst X (v := 0) dX6_divisor_30 rfl ?_
          refine v_lcmp_eq X dX6_divisor_31 dX6_divisor_32 (tgt := 53) (by decide) (fun h31 => ?_) (fun h31 => ?_)
          · refine v_lload X 2 rfl dX6_divisor_53 ?_
            exact v_lret X Y dX6_divisor_55 (⟨by rw [← hg, (lN_0 hl).mp h31, Nat.gcd_zero_right], rfl, rfl⟩)
          · have hl0 : l ≠ 0 := fun e => h31 ((lN_0 hl).mpr e)
            have hml := Nat.mod_lt m (Nat.pos_of_ne_zero hl0)
            refine v_lload X 2 rfl dX6_divisor_35 ?_
            refine v_lload X 3 rfl dX6_divisor_37 ?_
            refine v_lrem X dX6_divisor_39 h31 ?_
            refine v_eql (y := (lN (m % l))) (pk_lRem hm (Nat.pos_of_ne_zero hl0) hl) ?_
            refine v_lstore X [1, 2, 3, 4, 0] (lv' := [(0, .long (iL x)), (2, .long (iL y)), (4, .long (lN m)), (6, .long (lN l)), (8, .long (lN (m % l)))]) (by decide) rfl dX6_divisor_40 ?_
            refine v_lload X 3 rfl dX6_divisor_42 ?_
            refine v_lstore X [1, 2, 0, 3, 4] (lv' := [(0, .long (iL x)), (2, .long (iL y)), (4, .long (lN l)), (6, .long (lN l)), (8, .long (lN (m % l)))]) (by decide) rfl dX6_divisor_44 ?_
            refine v_lload X 4 rfl dX6_divisor_46 ?_
            refine v_lstore X [1, 2, 3, 0, 4] (lv' := [(0, .long (iL x)), (2, .long (iL y)), (4, .long (lN l)), (6, .long (lN (m % l))), (8, .long (lN (m % l)))]) (by decide) rfl dX6_divisor_48 ?_
            refine v_goto X (tgt := 28) dX6_divisor_50 (by decide) ?_
            refine v_sub [0, 1, 2, 3] (lv' := [(0, .long (iL x)), (2, .long (iL y)), (4, .long (lN l)), (6, .long (lN (m % l)))]) rfl ?_
            exact ih28 l (m % l) (by omega) hl (by omega) (by rw [← hg, Nat.gcd_comm m l, Nat.gcd_rec l m, Nat.gcd_comm])
      exact loop28 _ x.natAbs y.natAbs (Nat.lt_succ_self _) hx hy rfl
    · refine v_lload_n X 1 rfl dX6_divisor_20 ?_
      refine v_lneg X dX6_divisor_21 ?_
      refine v_goto X (tgt := 26) dX6_divisor_22 (by decide) ?_
      refine v_eql (y := (lN y.natAbs)) (iL_abs_n hy h16) ?_
      refine v_lstore X [1, 2, 3, 0] (lv' := [(0, .long (iL x)), (2, .long (iL y)), (4, .long (lN x.natAbs)), (6, .long (lN y.natAbs))]) (by decide) rfl dX6_divisor_26 ?_
      have loop28 : ∀ (fu : Nat) (m : Nat) (l : Nat), l < fu → (m < 2 ^ 63) → (l < 2 ^ 63) → (Nat.gcd m l = Nat.gcd x.natAbs y.natAbs) → V a 28 [(0, .long (iL x)), (2, .long (iL y)), (4, .long (lN m)), (6, .long (lN l))] [] I L := by
        intro fu
        induction fu with
        | zero => intro m l hm _ _ _; exact absurd hm (Nat.not_lt_zero _)
        | succ fu ih28 =>
          intro m l hm28 hm hl hg
          refine v_lload X 3 rfl dX6_divisor_28 ?_
          refine v_lconst X (v := 0) dX6_divisor_30 rfl ?_
          refine v_lcmp_eq X dX6_divisor_31 dX6_divisor_32 (tgt := 53) (by decide) (fun h31 => ?_) (fun h31 => ?_)
          · refine v_lload X 2 rfl dX6_divisor_53 ?_
            exact v_lret X Y dX6_divisor_55 (⟨by rw [← hg, (lN_0 hl).mp h31, Nat.gcd_zero_right], rfl, rfl⟩)
          · have hl0 : l ≠ 0 := fun e => h31 ((lN_0 hl).mpr e)
            have hml := Nat.mod_lt m (Nat.pos_of_ne_zero hl0)
            refine v_lload X 2 rfl dX6_divisor_35 ?_
            refine v_lload X 3 rfl dX6_divisor_37 ?_
            refine v_lrem X dX6_divisor_39 h31 ?_
            refine v_eql (y := (lN (m % l))) (pk_lRem hm (Nat.pos_of_ne_zero hl0) hl) ?_
            refine v_lstore X [1, 2, 3, 4, 0] (lv' := [(0, .long (iL x)), (2, .long (iL y)), (4, .long (lN m)), (6, .long (lN l)), (8, .long (lN (m % l)))]) (by decide) rfl dX6_divisor_40 ?_
            refine v_lload X 3 rfl dX6_divisor_42 ?_
            refine v_lstore X [1, 2, 0, 3, 4] (lv' := [(0, .long (iL x)), (2, .long (iL y)), (4, .long (lN l)), (6, .long (lN l)), (8, .long (lN (m % l)))]) (by decide) rfl dX6_divisor_44 ?_
            refine v_lload X 4 rfl dX6_divisor_46 ?_
            refine v_lstore X [1, 2, 3, 0, 4] (lv' := [(0, .long (iL x)), (2, .long (iL y)), (4, .long (lN l)), (6, .long (lN (m % l))), (8, .long (lN (m % l)))]) (by decide) rfl dX6_divisor_48 ?_
            refine v_goto X (tgt := 28) dX6_divisor_50 (by decide) ?_
            refine v_sub [0, 1, 2, 3] (lv' := [(0, .long (iL x)), (2, .long (iL y)), (4, .long (lN l)), (6, .long (lN (m % l)))]) rfl ?_
            exact ih28 l (m % l) (by omega) hl (by omega) (by rw [← hg, Nat.gcd_comm m l, Nat.gcd_rec l m, Nat.gcd_comm])
      exact loop28 _ x.natAbs y.natAbs (Nat.lt_succ_self _) hx hy rfl
set_option maxHeartbeats 4000000 in
set_option maxRecDepth 100000 in
theorem c_X6_fraction (l : Launch) (E : VE) (hE : EOk E) (I : TI) (L : TL) (za zb : Int) (haa : za.natAbs < 2 ^ 63) (hbb : zb.natAbs < 2 ^ 63) (hb0 : zb ≠ 0) : Ct l E yX6_fraction cX6_fraction 7 none rm_X6_fraction [.ref (eA E 30 0), .long (iL za), .long (iL zb)] I L (fun r I' L' => r = none ∧ I' = I ∧ L' = setR L (Rat.divInt za zb)) := by
  refine ct_of (by decide +kernel) (Nat.le_of_ble_eq_true rfl) hE ?_
  intro a X Y hl hEE
  subst hl; subst hEE
  have hg0 : 0 < (Nat.gcd za.natAbs zb.natAbs) := Nat.gcd_pos_of_pos_right _ (by omega)
  have hg1 : (Nat.gcd za.natAbs zb.natAbs) < 2 ^ 63 := Nat.lt_of_le_of_lt (Nat.gcd_le_right _ (by omega)) hbb
  show V a 0 [(0, .ref (eA (vE a) 30 0)), (1, .long (iL za)), (3, .long (iL zb))] [] I L
  refine v_lload_n X 1 rfl dX6_fraction_0 ?_
  refine v_lload_n X 2 rfl dX6_fraction_1 ?_
  refine v_callS X (c_X6_divisor _ _ hE _ _ za zb (by omega) (by omega)) k_X6_206 ⟨rfl, rfl, Nat.le_of_ble_eq_true rfl, Nat.le_of_ble_eq_true rfl⟩ (As := [.long (iL za), .long (iL zb)]) (rest := []) rfl rfl (Nat.le_of_ble_eq_true rfl) dX6_fraction_2 (fun r2 I2 L2 hp2 => ?_)
  obtain ⟨rfl, e1, e2⟩ := hp2
  have e1 := e1.symm
  have e2 := e2.symm
  subst e1; subst e2
  refine v_st (st' := [.long (lN (Nat.gcd za.natAbs zb.natAbs))]) rfl ?_
  refine v_lstore X [1, 2, 3, 0] (lv' := [(0, .ref (eA (vE a) 30 0)), (1, .long (iL za)), (3, .long (iL zb)), (5, .long (lN (Nat.gcd za.natAbs zb.natAbs)))]) (by decide) rfl dX6_fraction_5 ?_
  refine v_lload_n X 2 rfl dX6_fraction_7 ?_
  refine v_lconst X (v := 0) dX6_fraction_8 rfl ?_
  refine v_lcmp_ge X dX6_fraction_9 dX6_fraction_10 (tgt := 18) (by decide) (fun h9 => ?_) (fun h9 => ?_)
  · have hds : (lN (Nat.gcd za.natAbs zb.natAbs)) = (iL ((Nat.gcd za.natAbs zb.natAbs) : Int)) := (iL_nat _).symm
    refine v_lv (lv' := [(0, .ref (eA (vE a) 30 0)), (1, .long (iL za)), (3, .long (iL zb)), (5, .long (iL ((Nat.gcd za.natAbs zb.natAbs) : Int)))]) (by rw [hds]) ?_
    have hf := fr_pos (a := za) (show 0 < zb by have := (iL_pos hbb).mp h9; omega)
    have hnz : ¬ (iL ((Nat.gcd za.natAbs zb.natAbs) : Int)) = 0 := fun e => by
      have e := (iL_eq (b := 0) (by omega) (by decide)).mp e
      omega
    refine v_aload_n X 0 rfl dX6_fraction_18 ?_
    refine v_lload_n X 1 rfl dX6_fraction_19 ?_
    refine v_lload X 3 rfl dX6_fraction_20 ?_
    refine v_ldiv X dX6_fraction_22 hnz ?_
    refine v_eql (y := (iL (Rat.divInt za zb).num)) ((iL_div haa (by omega)).trans (congrArg iL hf.1)) ?_
    refine pf_X6_210 X dX6_fraction_23 ?_
    refine v_aload_n X 0 rfl dX6_fraction_26 ?_
    refine v_lload_n X 2 rfl dX6_fraction_27 ?_
    refine v_lload X 3 rfl dX6_fraction_28 ?_
    refine v_ldiv X dX6_fraction_30 hnz ?_
    refine v_eql (y := (iL ((Rat.divInt za zb).den : Int))) ((iL_div hbb (by omega)).trans (congrArg iL hf.2)) ?_
    refine pf_X6_214 X dX6_fraction_31 ?_
    exact v_vret X Y dX6_fraction_34 (⟨rfl, rfl, rfl⟩)
  · refine v_lload X 3 rfl dX6_fraction_13 ?_
    refine v_lneg X dX6_fraction_15 ?_
    refine v_lstore X [1, 2, 3, 0] (lv' := [(0, .ref (eA (vE a) 30 0)), (1, .long (iL za)), (3, .long (iL zb)), (5, .long (-(lN (Nat.gcd za.natAbs zb.natAbs))))]) (by decide) rfl dX6_fraction_16 ?_
    have hds : (-(lN (Nat.gcd za.natAbs zb.natAbs))) = (iL (-((Nat.gcd za.natAbs zb.natAbs) : Int))) := by rw [← iL_nat, iL_neg]
    refine v_lv (lv' := [(0, .ref (eA (vE a) 30 0)), (1, .long (iL za)), (3, .long (iL zb)), (5, .long (iL (-((Nat.gcd za.natAbs zb.natAbs) : Int))))]) (by rw [hds]) ?_
    have hf := fr_neg (a := za) (Int.not_le.mp (fun q => h9 ((iL_pos hbb).mpr q)))
    have hnz : ¬ (iL (-((Nat.gcd za.natAbs zb.natAbs) : Int))) = 0 := fun e => by
      have e := (iL_eq (b := 0) (by omega) (by decide)).mp e
      omega
    refine v_aload_n X 0 rfl dX6_fraction_18 ?_
    refine v_lload_n X 1 rfl dX6_fraction_19 ?_
    refine v_lload X 3 rfl dX6_fraction_20 ?_
    refine v_ldiv X dX6_fraction_22 hnz ?_
    refine v_eql (y := (iL (Rat.divInt za zb).num)) ((iL_div haa (by omega)).trans (congrArg iL hf.1)) ?_
    refine pf_X6_210 X dX6_fraction_23 ?_
    refine v_aload_n X 0 rfl dX6_fraction_26 ?_
    refine v_lload_n X 2 rfl dX6_fraction_27 ?_
    refine v_lload X 3 rfl dX6_fraction_28 ?_
    refine v_ldiv X dX6_fraction_30 hnz ?_
    refine v_eql (y := (iL ((Rat.divInt za zb).den : Int))) ((iL_div hbb (by omega)).trans (congrArg iL hf.2)) ?_
    refine pf_X6_214 X dX6_fraction_31 ?_
    exact v_vret X Y dX6_fraction_34 (⟨rfl, rfl, rfl⟩)
set_option maxHeartbeats 4000000 in
set_option maxRecDepth 100000 in
theorem c_X6_times (l : Launch) (E : VE) (hE : EOk E) (I : TI) (L : TL) (za zb zc zd : Int) (haa : za.natAbs < 2 ^ 63) (hbb : zb.natAbs < 2 ^ 63) (hcc : zc.natAbs < 2 ^ 63) (hdd : zd.natAbs < 2 ^ 63) (hb0 : zb ≠ 0) (hd0 : zd ≠ 0) (hp1 : ((Rat.divInt za zd).num * (Rat.divInt zc zb).num).natAbs < 2 ^ 63) (hp2 : (Rat.divInt za zd).den * (Rat.divInt zc zb).den < 2 ^ 63) : Ct l E yX6_times cX6_times 13 none rm_X6_times [.ref (eA E 30 0), .long (iL za), .long (iL zb), .long (iL zc), .long (iL zd)] I L (fun r I' L' => r = none ∧ I' = I ∧ L' = setR L (Rat.divInt za zb * Rat.divInt zc zd)) := by
  refine ct_of (by decide +kernel) (Nat.le_of_ble_eq_true rfl) hE ?_
  intro a X Y hl hEE
  subst hl; subst hEE
  show V a 0 [(0, .ref (eA (vE a) 30 0)), (1, .long (iL za)), (3, .long (iL zb)), (5, .long (iL zc)), (7, .long (iL zd))] [] I L
  refine v_aload_n X 0 rfl dX6_times_0 ?_
  refine v_lload_n X 1 rfl dX6_times_1 ?_
  refine v_lload X 4 rfl dX6_times_2 ?_
  refine v_callV X (c_X6_fraction _ _ hE _ _ za zd haa hdd hd0) k_X6_217 dl_30 (cef_30 _ _ _ _) rfl ⟨rfl, rfl, Nat.le_of_ble_eq_true rfl, Nat.le_of_ble_eq_true rfl⟩ (As := [.long (iL za), .long (iL zd)]) (rest := []) rfl rfl (Nat.le_of_ble_eq_true rfl) dX6_times_4 (fun r4 I4 L4 hp4 => ?_)
  obtain ⟨rfl, e1, e2⟩ := hp4
  have e1 := e1.symm
  have e2 := e2.symm
  subst e1; subst e2
  refine v_st (st' := []) rfl ?_
  refine v_aload_n X 0 rfl dX6_times_7 ?_
  refine gf_X6_210 X dX6_times_8 ?_
  refine v_eql (y := (iL (Rat.divInt za zd).num)) (setR_u _ _) ?_
  refine v_lstore X [1, 2, 3, 4, 5, 0] (lv' := [(0, .ref (eA (vE a) 30 0)), (1, .long (iL za)), (3, .long (iL zb)), (5, .long (iL zc)), (7, .long (iL zd)), (9, .long (iL (Rat.divInt za zd).num))]) (by decide) rfl dX6_times_11 ?_
  refine v_aload_n X 0 rfl dX6_times_13 ?_
  refine gf_X6_214 X dX6_times_14 ?_
  refine v_eql (y := (iL ((Rat.divInt za zd).den : Int))) (setR_d _ _) ?_
  refine v_lstore X [1, 2, 3, 4, 5, 6, 0] (lv' := [(0, .ref (eA (vE a) 30 0)), (1, .long (iL za)), (3, .long (iL zb)), (5, .long (iL zc)), (7, .long (iL zd)), (9, .long (iL (Rat.divInt za zd).num)), (11, .long (iL ((Rat.divInt za zd).den : Int)))]) (by decide) rfl dX6_times_17 ?_
  refine v_aload_n X 0 rfl dX6_times_19 ?_
  refine v_lload X 3 rfl dX6_times_20 ?_
  refine v_lload_n X 2 rfl dX6_times_22 ?_
  refine v_callV X (c_X6_fraction _ _ hE _ _ zc zb hcc hbb hb0) k_X6_217 dl_30 (cef_30 _ _ _ _) rfl ⟨rfl, rfl, Nat.le_of_ble_eq_true rfl, Nat.le_of_ble_eq_true rfl⟩ (As := [.long (iL zc), .long (iL zb)]) (rest := []) rfl rfl (Nat.le_of_ble_eq_true rfl) dX6_times_23 (fun r23 I23 L23 hp23 => ?_)
  obtain ⟨rfl, e1, e2⟩ := hp23
  have e1 := e1.symm
  have e2 := e2.symm
  subst e1; subst e2
  refine v_st (st' := []) rfl ?_
  refine v_aload_n X 0 rfl dX6_times_26 ?_
  refine v_lload X 5 rfl dX6_times_27 ?_
  refine v_aload_n X 0 rfl dX6_times_29 ?_
  refine gf_X6_210 X dX6_times_30 ?_
  refine v_eql (y := (iL (Rat.divInt zc zb).num)) (setR_u _ _) ?_
  refine v_lmul X dX6_times_33 ?_
  refine v_eql (y := (iL ((Rat.divInt za zd).num * (Rat.divInt zc zb).num))) (iL_mul _ _) ?_
  refine v_lload X 6 rfl dX6_times_34 ?_
  refine v_aload_n X 0 rfl dX6_times_36 ?_
  refine gf_X6_214 X dX6_times_37 ?_
  refine v_eql (y := (iL ((Rat.divInt zc zb).den : Int))) (setR_d _ _) ?_
  refine v_lmul X dX6_times_40 ?_
  refine v_eql (y := (iL (((Rat.divInt za zd).den : Int) * ((Rat.divInt zc zb).den : Int)))) (iL_mul _ _) ?_
  refine v_callV X (c_X6_fraction _ _ hE _ _ ((Rat.divInt za zd).num * (Rat.divInt zc zb).num) (((Rat.divInt za zd).den : Int) * ((Rat.divInt zc zb).den : Int)) hp1 (by rw [← Int.natCast_mul, Int.natAbs_natCast]; exact hp2) (by have h1 := (Rat.divInt za zd).den_pos; have h2 := (Rat.divInt zc zb).den_pos; have := Nat.mul_pos h1 h2; rw [← Int.natCast_mul]; omega)) k_X6_217 dl_30 (cef_30 _ _ _ _) rfl ⟨rfl, rfl, Nat.le_of_ble_eq_true rfl, Nat.le_of_ble_eq_true rfl⟩ (As := [.long (iL ((Rat.divInt za zd).num * (Rat.divInt zc zb).num)), .long (iL (((Rat.divInt za zd).den : Int) * ((Rat.divInt zc zb).den : Int)))]) (rest := []) rfl rfl (Nat.le_of_ble_eq_true rfl) dX6_times_41 (fun r41 I41 L41 hp41 => ?_)
  obtain ⟨rfl, e1, e2⟩ := hp41
  have e1 := e1.symm
  have e2 := e2.symm
  subst e1; subst e2
  refine v_st (st' := []) rfl ?_
  exact v_vret X Y dX6_times_44 (⟨rfl, rfl, by rw [setR_setR, setR_setR, tm_ok]⟩)
set_option maxHeartbeats 4000000 in
set_option maxRecDepth 100000 in
theorem c_X6_shares (l : Launch) (E : VE) (hE : EOk E) (I : TI) (L : TL) (s : Nat) (hs : I 30 0 33 = nI s) (hs12 : s < 12) (hb : I 30 0 34 = nI 1) (k ln : Int32) (u v : Int64) : Ct l E yX6_shares cX6_shares 7 none rm_X6_shares [.ref (eA E 30 0), .int k, .int ln, .long u, .long v] I L (fun r I' L' => r = none ∧ I' = upI (upI (upI (upI I 52 0 s k) 53 0 s ln) 30 0 33 (nI (s + 1))) 30 0 34 (nI (if 0 < u then 1 else 0)) ∧ L' = upL (upL L 50 0 s u) 51 0 s v) := by
  refine ct_of (by decide +kernel) (Nat.le_of_ble_eq_true rfl) hE ?_
  intro a X Y hl hEE
  subst hl; subst hEE
  show V a 0 [(0, .ref (eA (vE a) 30 0)), (1, .int k), (2, .int ln), (3, .long u), (5, .long v)] [] I L
  refine v_aload_n X 0 rfl dX6_shares_0 ?_
  refine gf_X6_74 X dX6_shares_1 ?_
  refine v_aload_n X 0 rfl dX6_shares_4 ?_
  refine gf_X6_221 X dX6_shares_5 ?_
  refine v_eqi (y := (nI s)) (hs) ?_
  refine v_iload_n X 1 rfl dX6_shares_8 ?_
  refine v_iast_n X dl_52 (fun _ _ => rfl) (n := 12) (by omega) (by decide) dX6_shares_9 ?_
  refine v_aload_n X 0 rfl dX6_shares_10 ?_
  refine gf_X6_77 X dX6_shares_11 ?_
  refine v_aload_n X 0 rfl dX6_shares_14 ?_
  refine gf_X6_221 X dX6_shares_15 ?_
  refine v_eqi (y := (nI s)) ((upI_k (by decide)).trans (hs)) ?_
  refine v_iload_n X 2 rfl dX6_shares_18 ?_
  refine v_iast_n X dl_53 (fun _ _ => rfl) (n := 12) (by omega) (by decide) dX6_shares_19 ?_
  refine v_aload_n X 0 rfl dX6_shares_20 ?_
  refine gf_X6_68 X dX6_shares_21 ?_
  refine v_aload_n X 0 rfl dX6_shares_24 ?_
  refine gf_X6_221 X dX6_shares_25 ?_
  refine v_eqi (y := (nI s)) ((upI_k (by decide)).trans ((upI_k (by decide)).trans (hs))) ?_
  refine v_lload_n X 3 rfl dX6_shares_28 ?_
  refine v_last_n X dl_50 (fun _ _ => rfl) (n := 12) (by omega) (by decide) dX6_shares_29 ?_
  refine v_aload_n X 0 rfl dX6_shares_30 ?_
  refine gf_X6_71 X dX6_shares_31 ?_
  refine v_aload_n X 0 rfl dX6_shares_34 ?_
  refine gf_X6_221 X dX6_shares_35 ?_
  refine v_eqi (y := (nI s)) ((upI_k (by decide)).trans ((upI_k (by decide)).trans (hs))) ?_
  refine v_lload X 4 rfl dX6_shares_38 ?_
  refine v_last_n X dl_51 (fun _ _ => rfl) (n := 12) (by omega) (by decide) dX6_shares_40 ?_
  refine v_aload_n X 0 rfl dX6_shares_41 ?_
  refine v_dup X dX6_shares_42 rfl ?_
  refine gf_X6_221 X dX6_shares_43 ?_
  refine v_eqi (y := (nI s)) ((upI_k (by decide)).trans ((upI_k (by decide)).trans (hs))) ?_
  refine v_iconst X (v := (nI 1)) dX6_shares_46 (by decide) ?_
  refine v_iadd X dX6_shares_47 ?_
  refine v_eqi (y := (nI (s + 1))) (nI_add _ _) ?_
  refine pf_X6_221 X dX6_shares_48 ?_
  refine v_aload_n X 0 rfl dX6_shares_51 ?_
  refine v_aload_n X 0 rfl dX6_shares_52 ?_
  refine gf_X6_224 X dX6_shares_53 ?_
  refine v_eqi (y := (nI 1)) ((upI_x (by decide)).trans ((upI_k (by decide)).trans ((upI_k (by decide)).trans (hb)))) ?_
  refine v_if_eq_n X (by omega) dX6_shares_56 (tgt := 69) (by decide) (fun h56 => ?_) (fun h56 => ?_)
  · exact absurd h56 (by decide)
  · refine v_lload_n X 3 rfl dX6_shares_59 ?_
    refine v_lconst X (v := 0) dX6_shares_60 rfl ?_
    refine v_lcmp_le X dX6_shares_61 dX6_shares_62 (tgt := 69) (by decide) (fun h61 => ?_) (fun h61 => ?_)
    · refine v_iconst X (v := (nI 0)) dX6_shares_69 (by decide) ?_
      refine pf_X6_224 X rfl dX6_shares_70 ?_
      exact v_vret X Y dX6_shares_73 (⟨rfl, by rw [if_neg (Int64.not_lt.mpr h61)], rfl⟩)
    · refine v_iconst X (v := (nI 1)) dX6_shares_65 (by decide) ?_
      refine v_goto X (tgt := 70) dX6_shares_66 (by decide) ?_
      refine pf_X6_224 X rfl dX6_shares_70 ?_
      exact v_vret X Y dX6_shares_73 (⟨rfl, by rw [if_pos (Int64.not_le.mp h61)], rfl⟩)
set_option maxHeartbeats 4000000 in
set_option maxRecDepth 100000 in
theorem c_X6_cell (l : Launch) (E : VE) (hE : EOk E) (I : TI) (L : TL) (i j k : Nat) (hk : k < 2) : Ct l E yX6_cell cX6_cell 3 (some .int) rm_X6_cell [.int (nI i), .int (nI j), .int (nI (1 - k))] I L (fun r I' L' => r = some (.int (nI (pl3 k i j))) ∧ I' = I ∧ L' = L) := by
  refine ct_of (by decide +kernel) (Nat.le_of_ble_eq_true rfl) hE ?_
  intro a X Y hl hEE
  subst hl; subst hEE
  show V a 0 [(0, .int (nI i)), (1, .int (nI j)), (2, .int (nI (1 - k)))] [] I L
  refine v_iload_n X 2 rfl dX6_cell_0 ?_
  refine v_if_eq_n X (by omega) dX6_cell_1 (tgt := 12) (by decide) (fun h1 => ?_) (fun h1 => ?_)
  · refine v_iconst X (v := (nI 3)) dX6_cell_12 (by decide) ?_
    refine v_iload_n X 0 rfl dX6_cell_13 ?_
    refine v_imul X dX6_cell_14 ?_
    refine v_eqi (y := (nI (3 * i))) (pk_mul _ _) ?_
    refine v_iload_n X 1 rfl dX6_cell_15 ?_
    refine v_iadd X dX6_cell_16 ?_
    refine v_eqi (y := (nI ((3 * i) + j))) (nI_add _ _) ?_
    exact v_iret X Y dX6_cell_17 (⟨by unfold pl3; rw [if_neg (by omega)], rfl, rfl⟩)
  · refine v_iconst X (v := (nI 3)) dX6_cell_4 (by decide) ?_
    refine v_iload_n X 1 rfl dX6_cell_5 ?_
    refine v_imul X dX6_cell_6 ?_
    refine v_eqi (y := (nI (3 * j))) (pk_mul _ _) ?_
    refine v_iload_n X 0 rfl dX6_cell_7 ?_
    refine v_iadd X dX6_cell_8 ?_
    refine v_eqi (y := (nI ((3 * j) + i))) (nI_add _ _) ?_
    refine v_goto X (tgt := 17) dX6_cell_9 (by decide) ?_
    exact v_iret X Y dX6_cell_17 (⟨by unfold pl3; rw [if_pos (by omega)], rfl, rfl⟩)
