/-! sets of rows and columns as numbers; the worth of a part as a sum along its last row -/
abbrev bitN (C j : Nat) : Prop := C / 2 ^ j % 2 = 1
def sgm (C m : Nat) : Int64 := if pc5 (C / 2 ^ m) % 2 = 1 then -1 else 1
def rl (R i : Nat) : List Nat := (List.range i).filter (fun k => decide (bitN R k))
def rsel (R s : Nat) : Nat := (rl R 5).getD s 0
def alrT (f g : Nat → Int64) (C j : Nat) : Int64 := if bitN C j then sgm C (j + 1) * f j * g (C ^^^ 2 ^ j) else 0
def tsum (F : Nat → Int64) (m : Nat) : Int64 := (if m ≤ 4 then F 4 else 0) + (if m ≤ 3 then F 3 else 0) + (if m ≤ 2 then F 2 else 0) + (if m ≤ 1 then F 1 else 0) + (if m ≤ 0 then F 0 else 0)
def alr (f g : Nat → Int64) (C : Nat) : Int64 := tsum (alrT f g C) 0
def dN (a : Nat → Nat → Int64) (rw : Nat → Nat) : Nat → Nat → Int64
  | 0, _ => 1
  | s + 1, C => alr (a (rw s)) (fun C' => dN a rw s C') C
def ent (I : TI) (t : Nat) : Nat → Nat → Int64 := fun i j => (I 3 t (5 * i + j)).toInt64
theorem tsum_s (F : Nat → Int64) : ∀ q, q < 5 → tsum F q = tsum F (q + 1) + F q := by
  intro q hq
  rcases (show q = 0 ∨ q = 1 ∨ q = 2 ∨ q = 3 ∨ q = 4 by omega) with rfl | rfl | rfl | rfl | rfl <;> simp [tsum]
theorem tsum_5 (F : Nat → Int64) : tsum F 5 = 0 := by simp [tsum]
theorem tsum_z (F : Nat → Int64) : ∀ n c, c + n = 5 → (∀ j, c ≤ j → F j = 0) → tsum F c = 0 := by
  intro n
  induction n with
  | zero => intro c h _; rw [show c = 5 by omega]; exact tsum_5 F
  | succ n ih =>
    intro c h hF
    rw [tsum_s F c (by omega), ih (c + 1) (by omega) (fun j hj => hF j (by omega)), hF c (Nat.le_refl _)]
    rfl
theorem bit_hi {C c j : Nat} (h : C < 2 ^ c) (hj : c ≤ j) : ¬ bitN C j := by
  have h1 : C < 2 ^ j := Nat.lt_of_lt_of_le h (Nat.pow_le_pow_right (by decide) hj)
  show ¬ (C / 2 ^ j % 2 = 1)
  rw [Nat.div_eq_of_lt h1]
  decide
theorem sgm_top {C c : Nat} (h : C < 2 ^ c) : sgm C c = 1 := by
  unfold sgm
  rw [Nat.div_eq_of_lt h]
  rfl
theorem sgm_skip : ∀ C, C < 32 → ∀ q, q < 5 → ¬ bitN C q → sgm C q = sgm C (q + 1) := by decide +kernel
theorem sgm_flip : ∀ C, C < 32 → ∀ q, q < 5 → bitN C q → sgm C q = -sgm C (q + 1) := by decide +kernel
theorem xor_lt : ∀ C, C < 32 → ∀ q, q < 5 → C ^^^ 2 ^ q < 32 := by decide +kernel
theorem xor_dn : ∀ C, C < 32 → ∀ q, q < 5 → bitN C q → C ^^^ 2 ^ q < C ∧ pc5 (C ^^^ 2 ^ q) + 1 = pc5 C := by decide +kernel
theorem rl_len : ∀ R, R < 32 → (rl R 5).length = pc5 R := by decide +kernel
theorem rl_le (R i : Nat) : (rl R i).length ≤ i := by
  have := List.length_filter_le (fun k => decide (bitN R k)) (List.range i)
  rw [List.length_range] at this
  exact this
theorem rl_y {R i : Nat} (h : bitN R i) : rl R (i + 1) = rl R i ++ [i] := by
  unfold rl
  rw [List.range_succ, List.filter_append]
  simp
  exact h
theorem rl_n {R i : Nat} (h : ¬ bitN R i) : rl R (i + 1) = rl R i := by
  unfold rl
  rw [List.range_succ, List.filter_append]
  simp [h]
theorem rl_at (R i s : Nat) : (rl R i ++ [i]).getD s 0 = if s = (rl R i).length then i else (rl R i).getD s 0 := by
  simp only [List.getD_eq_getElem?_getD]
  by_cases h : s < (rl R i).length
  · rw [List.getElem?_append_left h, if_neg (by omega)]
  · rw [List.getElem?_append_right (by omega)]
    by_cases e : s = (rl R i).length
    · rw [if_pos e, e]
      simp
    · rw [if_neg e, List.getElem?_eq_none (by simp; omega), List.getElem?_eq_none (by omega)]
theorem rsel_lt : ∀ R, R < 32 → ∀ r, r < 6 → R < 2 ^ r → ∀ s, s < 5 → s < pc5 R → rsel R s < r := by decide +kernel
theorem pc5_le (R : Nat) : pc5 R ≤ 5 := by unfold pc5; omega
theorem pc5_pos : ∀ C, C < 32 → 0 < C → 0 < pc5 C := by decide +kernel
theorem pc5_0 : ∀ C, C < 32 → pc5 C = 0 → C = 0 := by decide +kernel
theorem alr_c {f g f' g' : Nat → Int64} {C : Nat} (hf : ∀ j, j < 5 → bitN C j → f j = f' j) (hg : ∀ j, j < 5 → bitN C j → g (C ^^^ 2 ^ j) = g' (C ^^^ 2 ^ j)) : alr f g C = alr f' g' C := by
  have e : ∀ j, j < 5 → alrT f g C j = alrT f' g' C j := by
    intro j hj
    unfold alrT
    by_cases h : bitN C j
    · rw [if_pos h, if_pos h, hf j hj h, hg j hj h]
    · rw [if_neg h, if_neg h]
  unfold alr tsum
  rw [e 0 (by decide), e 1 (by decide), e 2 (by decide), e 3 (by decide), e 4 (by decide)]
/-- the worth of the part (R, C) -/
def wrt (a : Nat → Nat → Int64) (R C : Nat) : Int64 := dN a (rsel R) (pc5 R) C
def lowV (b : Nat) (v : Int64) : Prop := if b = 0 then v < 0 else v ≤ 0
def qc (a : Nat → Nat → Int64) (b R D : Nat) : Prop := pc5 D = pc5 R ∧ lowV b (wrt a R D)
theorem ent_fr {S : List (Nat × Nat)} {I I1 : TI} {t : Nat} (h : Fr S I I1) (hs : (3, t) ∉ S) : ent I1 t = ent I t := by
  funext i j
  unfold ent
  rw [h 3 t hs]
theorem pc5_lt : ∀ r, r < 6 → ∀ R, R < 32 → R < 2 ^ r → pc5 R ≤ r := by decide +kernel
def sN : Nat → (Nat → Nat) → Nat
  | 0, _ => 0
  | n + 1, f => sN n f + f n
theorem sN_v {f : Nat → Nat} {n v : Nat} (h : f n = v) : sN (n + 1) f = sN n f + v := by
  unfold sN
  rw [h]
  cases n <;> rfl
theorem sN_c {f g : Nat → Nat} : ∀ {n : Nat}, (∀ k, k < n → f k = g k) → sN n f = sN n g
  | 0, _ => rfl
  | n + 1, h => by
    unfold sN
    rw [sN_c (fun k hk => h k (by omega)), h n (by omega)]
theorem sN_z {f : Nat → Nat} : ∀ {n : Nat}, (∀ k, k < n → f k = 0) → sN n f = 0
  | 0, _ => rfl
  | n + 1, h => by
    unfold sN
    rw [sN_z (fun k hk => h k (by omega)), h n (by omega)]
theorem sN_add (f g : Nat → Nat) : ∀ n, sN n (fun k => f k + g k) = sN n f + sN n g
  | 0 => rfl
  | n + 1 => by
    show sN n (fun k => f k + g k) + (f n + g n) = sN n f + f n + (sN n g + g n)
    rw [sN_add f g n]
    omega
theorem sN_swap (f : Nat → Nat → Nat) (m : Nat) : ∀ n, sN n (fun i => sN m (fun j => f i j)) = sN m (fun j => sN n (fun i => f i j))
  | 0 => (sN_z (fun _ _ => rfl)).symm
  | n + 1 => by
    show sN n _ + sN m (fun j => f n j) = sN m (fun j => sN n (fun i => f i j) + f n j)
    rw [sN_swap f m n, sN_add]
theorem sN_one {f : Nat → Nat} {a : Nat} : ∀ {n : Nat}, a < n → (∀ k, k ≠ a → f k = 0) → sN n f = f a
  | n + 1, h, hz => by
    unfold sN
    by_cases e : a = n
    · subst e
      rw [sN_z (fun k hk => hz k (by omega)), Nat.zero_add]
    · rw [sN_one (by omega) hz, hz n (fun q => e q.symm), Nat.add_zero]
def mS (a : Nat → Nat → Int64) (s : Int32) (R C : Nat) : Nat := if 1 ≤ R ∧ 1 ≤ C ∧ pc5 R = pc5 C ∧ sgn (wrt a R C) = s then 1 else 0
def manyS (a : Nat → Nat → Int64) (s : Int32) (r c : Nat) : Nat := sN (2 ^ r) (fun R => sN (2 ^ c) (fun C => mS a s R C))
def spn (i n : Nat) : Nat := (2 ^ n - 1) * 2 ^ i
def lkS (a : Nat → Nat → Int64) (b n i j : Nat) : Nat := if 1 ≤ n ∧ (i = 0 ∨ j = 0) ∧ (b = 0 ∨ 0 < wrt a (spn i n) (spn j n)) then 1 else 0
def looksS (a : Nat → Nat → Int64) (b r c : Nat) : Nat := sN (min r c + 1) (fun n => sN (r + 1 - n) (fun i => sN (c + 1 - n) (fun j => lkS a b n i j)))
theorem spn_ok' : ∀ r, r < 6 → ∀ n, n < 6 → ∀ i, i < 6 → (¬ (1 ≤ n ∧ i + n ≤ r) ∨ (spn i n < 2 ^ r ∧ pc5 (spn i n) = n ∧ spn i n < 32)) := by decide +kernel
theorem spn_ok {r n i : Nat} (hr : r ≤ 5) (h1 : 1 ≤ n) (h : i + n ≤ r) : spn i n < 2 ^ r ∧ pc5 (spn i n) = n ∧ spn i n < 32 := (spn_ok' r (by omega) n (by omega) i (by omega)).resolve_left (fun q => q ⟨h1, h⟩)
