/-! longs as whole numbers; Euclid; fractions -/
def iL (z : Int) : Int64 := Int64.ofInt z
theorem iL_mul (a b : Int) : iL a * iL b = iL (a * b) := (Int64.ofInt_mul a b).symm
theorem iL_add (a b : Int) : iL a + iL b = iL (a + b) := (Int64.ofInt_add a b).symm
theorem iL_sub (a b : Int) : iL a - iL b = iL (a - b) := (Int64.ofInt_sub a b).symm
theorem iL_neg (a : Int) : -iL a = iL (-a) := (Int64.ofInt_neg a).symm
theorem iL_ti {z : Int} (h : z.natAbs < 2 ^ 63) : (iL z).toInt = z := Int64.toInt_ofInt_of_le (by omega) (by omega)
theorem iL_lt {a b : Int} (ha : a.natAbs < 2 ^ 63) (hb : b.natAbs < 2 ^ 63) : iL a < iL b ↔ a < b := by
  rw [Int64.lt_iff_toInt_lt, iL_ti ha, iL_ti hb]
theorem iL_le {a b : Int} (ha : a.natAbs < 2 ^ 63) (hb : b.natAbs < 2 ^ 63) : iL a ≤ iL b ↔ a ≤ b := by
  rw [Int64.le_iff_toInt_le, iL_ti ha, iL_ti hb]
theorem iL_eq {a b : Int} (ha : a.natAbs < 2 ^ 63) (hb : b.natAbs < 2 ^ 63) : iL a = iL b ↔ a = b := by
  rw [← Int64.toInt_inj, iL_ti ha, iL_ti hb]
theorem iL_nat (n : Nat) : iL (n : Int) = lN n := Int64.ofInt_eq_ofNat
theorem iL_0 : (0 : Int64) = iL 0 := rfl
theorem iL_1 : (1 : Int64) = iL 1 := rfl
theorem iL_div {a b : Int} (ha : a.natAbs < 2 ^ 63) (hb : b.natAbs < 2 ^ 63) : iL a / iL b = iL (a.tdiv b) :=
  (Int64.ofInt_tdiv (by show (-2 ^ 63 : Int) ≤ a; omega) (by show a ≤ (2 ^ 63 - 1 : Int); omega) (by show (-2 ^ 63 : Int) ≤ b; omega) (by show b ≤ (2 ^ 63 - 1 : Int); omega)).symm
theorem iL_abs {z : Int} (h : z.natAbs < 2 ^ 63) : (if 0 < iL z then iL z else -iL z) = lN z.natAbs := by
  rw [iL_0]
  by_cases hz : 0 < z
  · rw [if_pos ((iL_lt (by decide) h).mpr hz), ← iL_nat]
    congr 1
    omega
  · rw [if_neg (fun q => hz ((iL_lt (by decide) h).mp q)), iL_neg, ← iL_nat]
    congr 1
    omega
/-! Euclid in a bounded number of turns -/
def eu : Nat → Nat → Nat → Nat
  | 0, a, _ => a
  | n + 1, a, b => if b = 0 then a else eu n b (a % b)
def euF : Nat → Nat → Nat → Prop
  | 0, _, b => b = 0
  | n + 1, a, b => b = 0 ∨ euF n b (a % b)
def fg : Nat → Nat → Nat → Nat
  | 0, a, _ => a
  | n + 1, a, b => fg n b (a + b)
theorem fg_s : ∀ n a b, fg (n + 2) a b = fg (n + 1) a b + fg n a b
  | 0, a, b => Nat.add_comm a b
  | n + 1, a, b => fg_s n b (a + b)
theorem eu_slow : ∀ n a b, b < a → ¬ euF n a b → fg (n + 1) 0 1 ≤ b ∧ fg (n + 2) 0 1 ≤ a
  | 0, a, b, h, hn => by
    have h0 : b ≠ 0 := hn
    show 1 ≤ b ∧ 1 ≤ a
    omega
  | n + 1, a, b, h, hn => by
    have h0 : b ≠ 0 := fun e => hn (Or.inl e)
    have h1 : ¬ euF n b (a % b) := fun e => hn (Or.inr e)
    have ih := eu_slow n b (a % b) (Nat.mod_lt _ (by omega)) h1
    refine ⟨ih.2, ?_⟩
    rw [fg_s]
    have hd : b * 1 ≤ b * (a / b) := Nat.mul_le_mul_left b ((Nat.one_le_div_iff (by omega)).mpr (by omega))
    have := Nat.div_add_mod a b
    have i1 : fg (n + 1) 0 1 ≤ a % b := ih.1
    have i2 : fg (n + 1 + 1) 0 1 ≤ b := ih.2
    omega
theorem eu_fin {a b : Nat} (ha : a < 2 ^ 63) (hb : b < 2 ^ 63) : euF 100 a b := by
  rcases Nat.lt_or_ge b a with h | h
  · rcases Classical.em (euF 100 a b) with q | q
    · exact q
    · have := (eu_slow 100 a b h q).1
      have e : 2 ^ 63 ≤ fg (100 + 1) 0 1 := by decide +kernel
      omega
  · rcases Nat.eq_zero_or_pos b with h0 | h0
    · exact Or.inl h0
    · refine Or.inr ?_
      rcases Classical.em (euF 99 b (a % b)) with q | q
      · exact q
      · have := (eu_slow 99 b (a % b) (Nat.mod_lt _ h0) q).1
        have e : 2 ^ 63 ≤ fg (99 + 1) 0 1 := by decide +kernel
        have := Nat.mod_lt a h0
        omega
theorem eu_gcd : ∀ n a b, euF n a b → eu n a b = Nat.gcd a b
  | 0, a, b, h => by
    have h : b = 0 := h
    rw [h, Nat.gcd_zero_right]
    rfl
  | n + 1, a, b, h => by
    unfold eu
    by_cases e : b = 0
    · rw [if_pos e, e, Nat.gcd_zero_right]
    · rw [if_neg e, eu_gcd n b (a % b) (h.resolve_left e), Nat.gcd_comm a b, Nat.gcd_rec b a, Nat.gcd_comm]
/-! fractions in lowest terms -/
theorem rat_num (q : Rat) (n : Int) (d : Nat) (hd : d ≠ 0) (h : q = mkRat n d) : q.num = n / (Nat.gcd n.natAbs d : Nat) ∧ q.den = d / Nat.gcd n.natAbs d := by
  rw [h, Rat.num_mkRat, Rat.den_mkRat, if_neg hd, if_neg hd, Nat.gcd_comm]
  exact ⟨rfl, rfl⟩
/-- what is left of a fraction h after s times a is taken, as Maker and the model count it -/
theorem sub_ok (H S A : Rat) : let f := Nat.gcd S.num.natAbs A.den; let g := Nat.gcd A.num.natAbs S.den
    let up : Int := (S.num / (f : Int)) * (A.num / (g : Int)); let lo : Nat := (S.den / g) * (A.den / f)
    S * A = mkRat up lo ∧ lo ≠ 0 ∧ H - S * A = mkRat (H.num * lo - up * H.den) (H.den * lo) := by
  intro f g up lo
  have hf : f ≠ 0 := Nat.ne_of_gt (Nat.gcd_pos_of_pos_right _ A.den_pos)
  have hg : g ≠ 0 := Nat.ne_of_gt (Nat.gcd_pos_of_pos_right _ S.den_pos)
  have d1 : (f : Int) ∣ S.num := Int.ofNat_dvd_left.mpr (Nat.gcd_dvd_left _ _)
  have d2 : (g : Int) ∣ A.num := Int.ofNat_dvd_left.mpr (Nat.gcd_dvd_left _ _)
  have d3 : f ∣ A.den := Nat.gcd_dvd_right _ _
  have d4 : g ∣ S.den := Nat.gcd_dvd_right _ _
  have e1 : S.num * A.num = up * ((f * g : Nat) : Int) := by
    show _ = (S.num / (f : Int)) * (A.num / (g : Int)) * ((f * g : Nat) : Int)
    rw [Int.natCast_mul]
    rw [show (S.num / (f : Int)) * (A.num / (g : Int)) * ((f : Int) * (g : Int)) = (S.num / (f : Int) * (f : Int)) * (A.num / (g : Int) * (g : Int)) by grind, Int.ediv_mul_cancel d1, Int.ediv_mul_cancel d2]
  have e2 : S.den * A.den = lo * (f * g) := by
    show _ = (S.den / g) * (A.den / f) * (f * g)
    rw [show (S.den / g) * (A.den / f) * (f * g) = (S.den / g * g) * (A.den / f * f) by grind, Nat.div_mul_cancel d4, Nat.div_mul_cancel d3]
  have hfg : f * g ≠ 0 := Nat.mul_ne_zero hf hg
  have hlo : lo ≠ 0 := by
    intro e
    rw [e, Nat.zero_mul] at e2
    exact Nat.mul_ne_zero S.den_nz A.den_nz e2
  have e3 : S * A = mkRat up lo := by rw [Rat.mul_def', e1, e2, Rat.mkRat_mul_right hfg]
  refine ⟨e3, hlo, ?_⟩
  have h1 : H = Rat.divInt H.num (H.den : Int) := (Rat.num_divInt_den H).symm
  have hz : (H.den : Int) ≠ 0 := by have := H.den_nz; omega
  have hz2 : (lo : Int) ≠ 0 := by omega
  rw [e3, ← Rat.divInt_ofNat up lo]
  conv => lhs; rw [h1]
  rw [Rat.divInt_sub_divInt _ _ hz hz2, ← Rat.divInt_ofNat]
  exact congrArg _ (Int.natCast_mul H.den lo).symm
/-- the share of h in a, for h and a not 0 of one sign, as Maker counts it -/
theorem div_ok (H A : Rat) (hA : A.num ≠ 0) (hs : 0 < H.num * A.num) : let f := Nat.gcd H.num.natAbs A.num.natAbs; let g := Nat.gcd H.den A.den
    (H / A).num = ((H.num.natAbs / f * (A.den / g) : Nat) : Int) ∧ (H / A).den = A.num.natAbs / f * (H.den / g) := by
  intro f g
  have hH : H.num ≠ 0 := by intro e; rw [e, Int.zero_mul] at hs; exact absurd hs (by decide)
  have hf : 0 < f := Nat.gcd_pos_of_pos_left _ (by omega)
  have hg : 0 < g := Nat.gcd_pos_of_pos_left _ H.den_pos
  have d1 : f ∣ H.num.natAbs := Nat.gcd_dvd_left _ _
  have d2 : f ∣ A.num.natAbs := Nat.gcd_dvd_right _ _
  have d3 : g ∣ H.den := Nat.gcd_dvd_left _ _
  have d4 : g ∣ A.den := Nat.gcd_dvd_right _ _
  have c1 : Nat.Coprime (H.num.natAbs / f) (A.num.natAbs / f) := Nat.coprime_div_gcd_div_gcd hf
  have c2 : Nat.Coprime (A.den / g) (H.den / g) := (Nat.coprime_div_gcd_div_gcd (m := H.den) (n := A.den) hg).symm
  have c3 : Nat.Coprime (H.num.natAbs / f) (H.den / g) := (H.reduced.coprime_div_left d1).coprime_div_right d3
  have c4 : Nat.Coprime (A.den / g) (A.num.natAbs / f) := (A.reduced.symm.coprime_div_left d4).coprime_div_right d2
  have cc : Nat.Coprime (H.num.natAbs / f * (A.den / g)) (A.num.natAbs / f * (H.den / g)) :=
    Nat.Coprime.mul_right (Nat.Coprime.mul_left c1 c4) (Nat.Coprime.mul_left c3 c2)
  have hd : A.num.natAbs / f * (H.den / g) ≠ 0 := Nat.mul_ne_zero (Nat.ne_of_gt (Nat.div_pos (Nat.le_of_dvd (by omega) d2) hf)) (Nat.ne_of_gt (Nat.div_pos (Nat.le_of_dvd H.den_pos d3) hg))
  have key : H / A = mkRat ((H.num.natAbs / f * (A.den / g) : Nat) : Int) (A.num.natAbs / f * (H.den / g)) := by
    have e1 : H / A = mkRat ((H.num.natAbs * A.den : Nat) : Int) (A.num.natAbs * H.den) := by
      have hq : H = Rat.divInt H.num (H.den : Int) := (Rat.num_divInt_den H).symm
      have hq2 : A = Rat.divInt A.num (A.den : Int) := (Rat.num_divInt_den A).symm
      rw [Rat.div_def]
      conv => lhs; rw [hq, hq2]
      rw [Rat.inv_divInt, Rat.divInt_mul_divInt]
      rw [← Rat.divInt_ofNat]
      rcases Int.lt_or_gt_of_ne hA with q | q
      · have q2 : H.num < 0 := by
          rcases Int.lt_or_gt_of_ne hH with z | z
          · exact z
          · exact absurd (Int.mul_neg_of_pos_of_neg z q) (by omega)
        rw [← Rat.neg_divInt_neg]
        congr 1
        · rw [Int.natCast_mul, ← Int.neg_mul]; congr 1; omega
        · rw [Int.natCast_mul, Int.mul_comm, ← Int.neg_mul]; congr 1; omega
      · have q2 : 0 < H.num := by
          rcases Int.lt_or_gt_of_ne hH with z | z
          · exact absurd (Int.mul_neg_of_neg_of_pos z q) (by omega)
          · exact z
        congr 1
        · rw [Int.natCast_mul]; congr 1; omega
        · rw [Int.natCast_mul, Int.mul_comm]; congr 1; omega
    rw [e1]
    have e2 : ((H.num.natAbs * A.den : Nat) : Int) = ((H.num.natAbs / f * (A.den / g) : Nat) : Int) * ((f * g : Nat) : Int) := by
      rw [← Int.natCast_mul]
      congr 1
      rw [show H.num.natAbs / f * (A.den / g) * (f * g) = (H.num.natAbs / f * f) * (A.den / g * g) by grind, Nat.div_mul_cancel d1, Nat.div_mul_cancel d4]
    have e3 : A.num.natAbs * H.den = A.num.natAbs / f * (H.den / g) * (f * g) := by
      rw [show A.num.natAbs / f * (H.den / g) * (f * g) = (A.num.natAbs / f * f) * (H.den / g * g) by grind, Nat.div_mul_cancel d2, Nat.div_mul_cancel d3]
    rw [e2, e3, Rat.mkRat_mul_right (Nat.mul_ne_zero (by omega) (by omega))]
  have r := rat_num _ _ _ hd key
  rw [Int.natAbs_natCast, cc, Nat.div_one, Int.natCast_one, Int.ediv_one] at r
  exact r
