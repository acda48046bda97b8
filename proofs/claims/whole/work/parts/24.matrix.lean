/-! matrices of fractions, the making's rows, bounds by stage -/
abbrev QM : Type := Nat → Nat → Rat
def vw (k : Nat) (M : QM) (i j : Nat) : Rat := if k = 0 then M j i else M i j
def rwJ (k : Nat) (M : QM) (r : Nat) (s : Rat) (J : Nat) : QM := fun i j => if k = 0 then (if j = r ∧ i < J then M i j - s * M i (r - 1) else M i j) else (if i = r ∧ j < J then M i j - s * M (r - 1) j else M i j)
theorem vw_rwJ {k : Nat} {M : QM} {r : Nat} {s : Rat} {J i j : Nat} : vw k (rwJ k M r s J) i j = if i = r ∧ j < J then vw k M i j - s * vw k M (r - 1) j else vw k M i j := by
  unfold vw rwJ
  by_cases h : k = 0
  · simp only [h, if_true]
  · simp only [h, if_false]
def repM (n : Nat) (L : TL) (M : QM) : Prop := ∀ i j, i < n → j < n → L 22 0 (3 * i + j) = iL (M i j).num ∧ L 23 0 (3 * i + j) = iL ((M i j).den : Int)
theorem repM_v {n k : Nat} {L : TL} {M : QM} (h : repM n L M) {i j : Nat} (hi : i < n) (hj : j < n) : L 22 0 (pl3 k i j) = iL (vw k M i j).num ∧ L 23 0 (pl3 k i j) = iL ((vw k M i j).den : Int) := by
  unfold pl3 vw
  by_cases e : k = 0
  · simp only [e, if_true]; exact h j i hj hi
  · simp only [e, if_false]; exact h i j hi hj
theorem repM_of {n k : Nat} {L : TL} {M : QM} (h : ∀ i j, i < n → j < n → L 22 0 (pl3 k i j) = iL (vw k M i j).num ∧ L 23 0 (pl3 k i j) = iL ((vw k M i j).den : Int)) : repM n L M := fun i j hi hj => by
  by_cases e : k = 0
  · have := h j i hj hi
    unfold pl3 vw at this
    simp only [e, if_true] at this
    exact this
  · have := h i j hi hj
    unfold pl3 vw at this
    simp only [e, if_false] at this
    exact this
theorem pl3_inj {k i j i' j' : Nat} (hi : i < 3) (hj : j < 3) (hi' : i' < 3) (hj' : j' < 3) (h : pl3 k i j = pl3 k i' j') : i = i' ∧ j = j' := by
  unfold pl3 at h
  split at h <;> omega
/-- one entry of the row is set -/
theorem repM_set {n k : Nat} {L L' : TL} {M : QM} {r : Nat} {s : Rat} {J : Nat} (hn : n ≤ 3) (hr : r < n) (hJ : J < n) (h : repM n L (rwJ k M r s J)) (hc : chg2 L L' (pl3 k r J) (iL (vw k M r J - s * vw k M (r - 1) J).num) (iL ((vw k M r J - s * vw k M (r - 1) J).den : Int))) : repM n L' (rwJ k M r s (J + 1)) := by
  refine repM_of (k := k) (fun i j hi hj => ?_)
  rw [vw_rwJ]
  by_cases e : i = r ∧ j = J
  · obtain ⟨rfl, rfl⟩ := e
    rw [if_pos ⟨rfl, by omega⟩]
    exact ⟨hc.1, hc.2.1⟩
  · have hne : ¬ pl3 k i j = pl3 k r J := fun q => e (pl3_inj (by omega) (by omega) (by omega) (by omega) q)
    rw [hc.2.2 22 0 _ (fun q => hne q.2.1), hc.2.2 23 0 _ (fun q => hne q.2.1)]
    have g := repM_v (k := k) h hi hj
    rw [vw_rwJ] at g
    by_cases e2 : i = r ∧ j < J
    · rw [if_pos e2] at g
      rw [if_pos ⟨e2.1, by omega⟩]
      exact g
    · rw [if_neg e2] at g
      rw [if_neg (fun q => by
        have : j = J := by have := q.2; omega
        exact e ⟨q.1, this⟩)]
      exact g
def bq (q : Rat) (B : Nat × Nat) : Prop := q.num.natAbs ≤ B.1 ∧ q.den ≤ B.2
theorem bq_m {q : Rat} {B C : Nat × Nat} (h : bq q B) (h1 : B.1 ≤ C.1) (h2 : B.2 ≤ C.2) : bq q C := ⟨Nat.le_trans h.1 h1, Nat.le_trans h.2 h2⟩
theorem bq_z {q : Rat} {B : Nat × Nat} (h : bq q B) (h1 : B.1 = 0) : q = 0 := by
  apply Rat.num_eq_zero.mp
  have := h.1
  omega
theorem bq_0 {B : Nat × Nat} (h : 1 ≤ B.2) : bq 0 B := ⟨Nat.zero_le _, h⟩
theorem bq_div {H A : Rat} {B C : Nat × Nat} (h : bq H B) (g : bq A C) (hs : 0 < H.num * A.num) : bq (H / A) (B.1 * C.2, C.1 * B.2) := by
  have hA : A.num ≠ 0 := fun e => by rw [e, Int.mul_zero] at hs; exact absurd hs (by decide)
  have q := div_ok H A hA hs
  constructor
  · rw [q.1, Int.natAbs_natCast]
    exact Nat.mul_le_mul (Nat.le_trans (Nat.div_le_self _ _) h.1) (Nat.le_trans (Nat.div_le_self _ _) g.2)
  · rw [q.2]
    exact Nat.mul_le_mul (Nat.le_trans (Nat.div_le_self _ _) g.1) (Nat.le_trans (Nat.div_le_self _ _) h.2)
theorem abs_div_le (a : Int) (b : Nat) : (a / (b : Int)).natAbs ≤ a.natAbs := by
  rcases Nat.eq_zero_or_pos b with h | h
  · rw [h]
    simp
  · have h1 : -(a.natAbs : Int) ≤ a / (b : Int) := by
      apply (Int.le_ediv_iff_mul_le (by omega)).mpr
      have h2 : (a.natAbs : Int) * 1 ≤ (a.natAbs : Int) * (b : Int) := Int.mul_le_mul_of_nonneg_left (by omega) (by omega)
      rw [Int.neg_mul]
      omega
    have h3 : a / (b : Int) ≤ (a.natAbs : Int) := by
      apply Int.ediv_le_of_le_mul (by omega)
      have h2 : (a.natAbs : Int) * 1 ≤ (a.natAbs : Int) * (b : Int) := Int.mul_le_mul_of_nonneg_left (by omega) (by omega)
      omega
    omega
/-- the bounds of what takeShare counts -/
theorem ts_bd {H S A : Rat} {B C D : Nat × Nat} (h : bq H B) (g : bq S C) (d : bq A D) :
    (H.num * ((S.den / Nat.gcd A.num.natAbs S.den * (A.den / Nat.gcd S.num.natAbs A.den) : Nat) : Int) - (S.num / (Nat.gcd S.num.natAbs A.den : Int) * (A.num / (Nat.gcd A.num.natAbs S.den : Int))) * (H.den : Int)).natAbs ≤ B.1 * (C.2 * D.2) + C.1 * D.1 * B.2 ∧
    H.den * (S.den / Nat.gcd A.num.natAbs S.den * (A.den / Nat.gcd S.num.natAbs A.den)) ≤ B.2 * (C.2 * D.2) ∧ bq (H - S * A) (B.1 * (C.2 * D.2) + C.1 * D.1 * B.2, B.2 * (C.2 * D.2)) := by
  obtain ⟨-, hlo, hN⟩ := sub_ok H S A
  have hlob : S.den / Nat.gcd A.num.natAbs S.den * (A.den / Nat.gcd S.num.natAbs A.den) ≤ C.2 * D.2 := Nat.mul_le_mul (Nat.le_trans (Nat.div_le_self _ _) g.2) (Nat.le_trans (Nat.div_le_self _ _) d.2)
  have hupb : (S.num / (Nat.gcd S.num.natAbs A.den : Int) * (A.num / (Nat.gcd A.num.natAbs S.den : Int))).natAbs ≤ C.1 * D.1 := by
    rw [Int.natAbs_mul]
    exact Nat.mul_le_mul (Nat.le_trans (abs_div_le _ _) g.1) (Nat.le_trans (abs_div_le _ _) d.1)
  have h1 : (H.num * ((S.den / Nat.gcd A.num.natAbs S.den * (A.den / Nat.gcd S.num.natAbs A.den) : Nat) : Int) - (S.num / (Nat.gcd S.num.natAbs A.den : Int) * (A.num / (Nat.gcd A.num.natAbs S.den : Int))) * (H.den : Int)).natAbs ≤ B.1 * (C.2 * D.2) + C.1 * D.1 * B.2 := by
    refine Nat.le_trans (Int.natAbs_sub_le _ _) (Nat.add_le_add ?_ ?_)
    · rw [Int.natAbs_mul, Int.natAbs_natCast]
      exact Nat.mul_le_mul h.1 hlob
    · rw [Int.natAbs_mul, Int.natAbs_natCast]
      exact Nat.mul_le_mul hupb h.2
  have h2 : H.den * (S.den / Nat.gcd A.num.natAbs S.den * (A.den / Nat.gcd S.num.natAbs A.den)) ≤ B.2 * (C.2 * D.2) := Nat.mul_le_mul h.2 hlob
  have q := rat_num _ _ _ (Nat.mul_ne_zero H.den_nz hlo) hN
  refine ⟨h1, h2, ?_, ?_⟩
  · rw [q.1]
    exact Nat.le_trans (abs_div_le _ _) h1
  · rw [q.2]
    exact Nat.le_trans (Nat.div_le_self _ _) h2
def BT (k g i j : Nat) : Nat × Nat :=
  if k = 1 then
    (if g = 0 then (1000, 1) else if g = 1 then (if i = 2 then (if j = 0 then (0, 1) else (2000000, 1000)) else (1000, 1))
     else if g = 2 then (if i = 0 then (1000, 1) else if j = 0 then (0, 1) else (2000000, 1000))
     else (if i = 0 then (1000, 1) else if j < i then (0, 1) else if i = 2 then (8000000000000000000, 2000000000000000) else (2000000, 1000)))
  else (if j < i then (0, 1) else if i = 0 then (if j = 2 ∧ 1 ≤ g then (0, 1) else if j = 1 ∧ 2 ≤ g then (0, 1) else (1000, 1))
     else if i = 1 then (if j = 2 then (if g = 0 then (2000000, 1000) else if g = 3 then (0, 1) else (4000000000000, 1000000000)) else (2000000, 1000))
     else (8000000000000000000, 2000000000000000))
def stg (c r : Nat) : Nat := if c = 0 then (if r = 2 then 0 else if r = 1 then 1 else 2) else if c = 1 then (if r = 2 then 2 else 3) else 3
def BV (k g i j : Nat) : Nat × Nat := if k = 0 then BT k g j i else BT k g i j
def good (k g n : Nat) (M : QM) : Prop := ∀ i j, i < n → j < n → bq (vw k M i j) (BV k g i j)
def lim : Nat := 9223372036854775808
def bS (k c r : Nat) : Nat × Nat := ((BV k (stg c r) r c).1 * (BV k (stg c r) (r - 1) c).2, (BV k (stg c r) (r - 1) c).1 * (BV k (stg c r) r c).2)
def bN (k c r j : Nat) : Nat × Nat := ((BV k (stg c r) r j).1 * ((bS k c r).2 * (BV k (stg c r) (r - 1) j).2) + (bS k c r).1 * (BV k (stg c r) (r - 1) j).1 * (BV k (stg c r) r j).2, (BV k (stg c r) r j).2 * ((bS k c r).2 * (BV k (stg c r) (r - 1) j).2))
theorem tb_in : ∀ k, k < 2 → ∀ g, g < 4 → ∀ i, i < 3 → ∀ j, j < 3 → (BV k g i j).1 < lim ∧ (BV k g i j).2 < lim ∧ 1 ≤ (BV k g i j).2 := by decide +kernel
theorem tb_s : ∀ k, k < 2 → ∀ r, r < 3 → ∀ c, c < r → (bS k c r).1 < lim ∧ (bS k c r).2 < lim := by decide +kernel
def tbN (k c r j : Nat) : Bool := decide (¬ (c < j ∧ (BV k (stg c r) (r - 1) j).1 ≠ 0)) || (decide ((bN k c r j).1 < lim) && decide ((bN k c r j).2 < lim) && decide ((bN k c r j).1 ≤ (BV k (stg c (r - 1)) r j).1) && decide ((bN k c r j).2 ≤ (BV k (stg c (r - 1)) r j).2))
theorem tb_n' : ∀ k, k < 2 → ∀ r, r < 3 → ∀ c, c < r → ∀ j, j < 3 → tbN k c r j = true := by decide +kernel
theorem tb_n {k r c j : Nat} (hk : k < 2) (hr : r < 3) (hc : c < r) (hj : j < 3) (hcj : c < j) (hz : (BV k (stg c r) (r - 1) j).1 ≠ 0) : (bN k c r j).1 < lim ∧ (bN k c r j).2 < lim ∧ (bN k c r j).1 ≤ (BV k (stg c (r - 1)) r j).1 ∧ (bN k c r j).2 ≤ (BV k (stg c (r - 1)) r j).2 := by
  have h := tb_n' k hk r hr c hc j hj
  unfold tbN at h
  simp only [Bool.or_eq_true, Bool.and_eq_true, decide_eq_true_eq] at h
  rcases h with h | h
  · exact absurd ⟨hcj, hz⟩ h
  · exact ⟨h.1.1.1, h.1.1.2, h.1.2, h.2⟩
theorem tb_z : ∀ k, k < 2 → ∀ r, r < 3 → ∀ c, c < r → ∀ j, j < c → (BV k (stg c r) r j).1 = 0 ∧ (BV k (stg c r) (r - 1) j).1 = 0 := by decide +kernel
def tbM (k c r i j : Nat) : Bool := decide (i = r ∧ j = c) || (decide ((BV k (stg c r) i j).1 ≤ (BV k (stg c (r - 1)) i j).1) && decide ((BV k (stg c r) i j).2 ≤ (BV k (stg c (r - 1)) i j).2))
theorem tb_m' : ∀ k, k < 2 → ∀ r, r < 3 → ∀ c, c < r → ∀ i, i < 3 → ∀ j, j < 3 → tbM k c r i j = true := by decide +kernel
theorem tb_m {k r c i j : Nat} (hk : k < 2) (hr : r < 3) (hc : c < r) (hi : i < 3) (hj : j < 3) : (i = r ∧ j = c) ∨ ((BV k (stg c r) i j).1 ≤ (BV k (stg c (r - 1)) i j).1 ∧ (BV k (stg c r) i j).2 ≤ (BV k (stg c (r - 1)) i j).2) := by
  have h := tb_m' k hk r hr c hc i hi j hj
  unfold tbM at h
  simp only [Bool.or_eq_true, Bool.and_eq_true, decide_eq_true_eq] at h
  exact h
theorem tb_c : ∀ k, k < 2 → ∀ n, n < 4 → ∀ c, c < n → ∀ i, i < n → ∀ j, j < n → (BV k (stg c c) i j).1 ≤ (BV k (stg (c + 1) (n - 1)) i j).1 ∧ (BV k (stg c c) i j).2 ≤ (BV k (stg (c + 1) (n - 1)) i j).2 := by decide +kernel
theorem tb_0 : ∀ n, n < 4 → ∀ i, i < n → ∀ j, j < n → 1000 ≤ (BV 1 (stg 0 (n - 1)) i j).1 := by decide +kernel
theorem tb_u : ∀ n, n < 4 → 1 ≤ n → ∀ i, i < n → ∀ j, j < n → (BT 1 3 i j).1 ≤ (BT 0 (stg 0 (n - 1)) i j).1 ∧ (BT 1 3 i j).2 ≤ (BT 0 (stg 0 (n - 1)) i j).2 := by decide +kernel
theorem tb_e : ∀ n, n < 4 → 1 ≤ n → stg n (n - 1) = 3 := by decide +kernel
theorem stg_lt (c r : Nat) : stg c r < 4 := by unfold stg; (repeat' split) <;> decide
/-- at the head of a row: what taking the row above asks -/
theorem good_step {k n c r : Nat} {M : QM} (hk : k < 2) (hn : n ≤ 3) (hcr : c < r) (hrn : r < n) (hg : good k (stg c r) n M) (hs : 0 < (vw k M r c).num * (vw k M (r - 1) c).num) :
    (vw k M r c / vw k M (r - 1) c).num.natAbs < lim ∧ (vw k M r c / vw k M (r - 1) c).den < lim ∧
    (∀ j, c < j → j < n → (vw k M (r - 1) j).num ≠ 0 → ((vw k M r j).num * (((vw k M r c / vw k M (r - 1) c).den / Nat.gcd (vw k M (r - 1) j).num.natAbs (vw k M r c / vw k M (r - 1) c).den * ((vw k M (r - 1) j).den / Nat.gcd (vw k M r c / vw k M (r - 1) c).num.natAbs (vw k M (r - 1) j).den) : Nat) : Int) - ((vw k M r c / vw k M (r - 1) c).num / (Nat.gcd (vw k M r c / vw k M (r - 1) c).num.natAbs (vw k M (r - 1) j).den : Int) * ((vw k M (r - 1) j).num / (Nat.gcd (vw k M (r - 1) j).num.natAbs (vw k M r c / vw k M (r - 1) c).den : Int))) * ((vw k M r j).den : Int)).natAbs < lim ∧
      (vw k M r j).den * ((vw k M r c / vw k M (r - 1) c).den / Nat.gcd (vw k M (r - 1) j).num.natAbs (vw k M r c / vw k M (r - 1) c).den * ((vw k M (r - 1) j).den / Nat.gcd (vw k M r c / vw k M (r - 1) c).num.natAbs (vw k M (r - 1) j).den)) < lim) ∧
    (∀ j, j < c → vw k M r j = 0 ∧ vw k M (r - 1) j = 0) ∧
    vw k M r c - vw k M r c / vw k M (r - 1) c * vw k M (r - 1) c = 0 ∧
    good k (stg c (r - 1)) n (rwJ k M r (vw k M r c / vw k M (r - 1) c) n) := by
  have hA : vw k M (r - 1) c ≠ 0 := fun e => by rw [e] at hs; exact absurd hs (by simp)
  have hcn : c < n := by omega
  have hr1 : r - 1 < n := by omega
  have hS := bq_div (hg r c hrn hcn) (hg (r - 1) c hr1 hcn) hs
  have hs2 := tb_s k hk r (by omega) c hcr
  have hcc : vw k M r c - vw k M r c / vw k M (r - 1) c * vw k M (r - 1) c = 0 := by
    rw [Rat.div_def, Rat.mul_assoc, Rat.inv_mul_cancel _ hA, Rat.mul_one, Rat.sub_self]
  have hzz : ∀ j, j < c → vw k M r j = 0 ∧ vw k M (r - 1) j = 0 := fun j hj =>
    ⟨bq_z (hg r j hrn (by omega)) (tb_z k hk r (by omega) c hcr j hj).1, bq_z (hg (r - 1) j hr1 (by omega)) (tb_z k hk r (by omega) c hcr j hj).2⟩
  have hbd : ∀ j, c < j → j < n → (vw k M (r - 1) j).num ≠ 0 → _ := fun j h1 h2 h3 => tb_n hk (show r < 3 by omega) hcr (show j < 3 by omega) h1 (fun e => h3 (by rw [bq_z (hg (r - 1) j hr1 h2) e]; rfl))
  refine ⟨Nat.lt_of_le_of_lt hS.1 hs2.1, Nat.lt_of_le_of_lt hS.2 hs2.2, fun j h1 h2 h3 => ?_, hzz, hcc, fun i j hi hj => ?_⟩
  · have b := hbd j h1 h2 h3
    have q := ts_bd (hg r j hrn h2) hS (hg (r - 1) j hr1 h2)
    exact ⟨Nat.lt_of_le_of_lt q.1 b.1, Nat.lt_of_le_of_lt q.2.1 b.2.1⟩
  · rw [vw_rwJ]
    by_cases e : i = r ∧ j < n
    · rw [if_pos e]
      obtain ⟨rfl, -⟩ := e
      rcases Nat.lt_trichotomy j c with z | z | z
      · rw [(hzz j z).1, (hzz j z).2, Rat.mul_zero, Rat.sub_self]
        exact bq_0 (tb_in k hk _ (stg_lt _ _) i (by omega) j (by omega)).2.2
      · subst z
        rw [hcc]
        exact bq_0 (tb_in k hk _ (stg_lt _ _) i (by omega) j (by omega)).2.2
      · by_cases h3 : (vw k M (i - 1) j).num = 0
        · rw [Rat.num_eq_zero.mp h3, Rat.mul_zero, Rat.sub_eq_add_neg, Rat.neg_zero, Rat.add_zero]
          have m := (tb_m hk (show i < 3 by omega) hcr (show i < 3 by omega) (show j < 3 by omega)).resolve_left (fun q => by omega)
          exact bq_m (hg i j hi hj) m.1 m.2
        · have b := hbd j z hj h3
          exact bq_m (ts_bd (hg i j hrn hj) hS (hg (i - 1) j hr1 hj)).2.2 b.2.2.1 b.2.2.2
    · rw [if_neg e]
      have m := (tb_m hk (show r < 3 by omega) hcr (show i < 3 by omega) (show j < 3 by omega)).resolve_left (fun q => e ⟨q.1, hj⟩)
      exact bq_m (hg i j hi hj) m.1 m.2
theorem good_skip {k n c r : Nat} {M : QM} (hk : k < 2) (hn : n ≤ 3) (hcr : c < r) (hrn : r < n) (hg : good k (stg c r) n M) (hz : vw k M r c = 0) : good k (stg c (r - 1)) n M := fun i j hi hj => by
  rcases tb_m hk (show r < 3 by omega) hcr (show i < 3 by omega) (show j < 3 by omega) with ⟨rfl, rfl⟩ | m
  · rw [hz]
    exact bq_0 (tb_in k hk _ (stg_lt _ _) i (by omega) j (by omega)).2.2
  · exact bq_m (hg i j hi hj) m.1 m.2
theorem good_col {k n c : Nat} {M : QM} (hk : k < 2) (hn : n ≤ 3) (hcn : c < n) (hg : good k (stg c c) n M) : good k (stg (c + 1) (n - 1)) n M := fun i j hi hj =>
  have m := tb_c k hk n (by omega) c hcn i hi j hj
  bq_m (hg i j hi hj) m.1 m.2
theorem good_rg {k g n : Nat} {M : QM} (hk : k < 2) (hn : n ≤ 3) (hgk : g < 4) (hg : good k g n M) {i j : Nat} (hi : i < n) (hj : j < n) : (vw k M i j).num.natAbs < lim ∧ (vw k M i j).den < lim :=
  have m := tb_in k hk g hgk i (by omega) j (by omega)
  ⟨Nat.lt_of_le_of_lt (hg i j hi hj).1 m.1, Nat.lt_of_le_of_lt (hg i j hi hj).2 m.2.1⟩
theorem good_up {n : Nat} {M : QM} (hn : n ≤ 3) (hn1 : 1 ≤ n) (hg : good 1 3 n M) : good 0 (stg 0 (n - 1)) n M := fun i j hi hj =>
  have m := tb_u n (by omega) hn1 j hj i hi
  bq_m (show bq (M j i) (BT 1 3 j i) from hg j i hj hi) m.1 m.2
theorem good_0 {n : Nat} {M : QM} (hn : n ≤ 3) (h : ∀ i j, i < n → j < n → (M i j).num.natAbs ≤ 1000 ∧ (M i j).den = 1) : good 1 (stg 0 (n - 1)) n M := fun i j hi hj =>
  ⟨Nat.le_trans (h i j hi hj).1 (tb_0 n (by omega) i hi j hj), by
    show (M i j).den ≤ _
    rw [(h i j hi hj).2]
    exact (tb_in 1 (by decide) _ (stg_lt _ _) i (by omega) j (by omega)).2.2⟩
