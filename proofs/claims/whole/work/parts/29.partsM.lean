/-! the model's way through all parts -/
section GG
variable {a : Nat → Nat → Int64} {s : Int32} {b r c n R C : Nat} {x : Int32}
def m3 (a : Nat → Nat → Int64) (s : Int32) (n R C : Nat) : Nat := if pc5 R = n then mS a s R C else 0
def T3 (a : Nat → Nat → Int64) (s : Int32) (r c n R C : Nat) : Nat := sN n (fun n' => sN (2 ^ r) (fun R' => sN (2 ^ c) (fun C' => m3 a s n' R' C'))) + sN R (fun R' => sN (2 ^ c) (fun C' => m3 a s n R' C')) + sN C (fun C' => m3 a s n R C')
theorem m3_skip (h : ¬ (pc5 R = n ∧ pc5 C = n)) : m3 a s n R C = 0 := by
  unfold m3
  by_cases e : pc5 R = n
  · rw [if_pos e]
    exact if_neg (fun q => h ⟨e, by rw [← q.2.2.1]; exact e⟩)
  · exact if_neg e
theorem m3_R0 (m : Nat) : sN m (fun C' => m3 a s n 0 C') = 0 := sN_z (fun C' _ => by
  unfold m3
  split
  · exact if_neg (fun q => absurd q.1 (by decide))
  · rfl)
theorem m3_C0 : m3 a s n R 0 = 0 := by
  unfold m3
  split
  · exact if_neg (fun q => absurd q.2.1 (by decide))
  · rfl
theorem sN_1 {f : Nat → Nat} (h : f 0 = 0) : sN 1 f = 0 := by
  show 0 + f 0 = 0
  rw [h]
theorem T3_step : T3 a s r c n R (C + 1) = T3 a s r c n R C + m3 a s n R C := by
  unfold T3
  rw [sN_v (f := fun C' => m3 a s n R C') rfl]
  exact (Nat.add_assoc _ _ _).symm
theorem T3_C : T3 a s r c n (R + 1) 1 = T3 a s r c n R (2 ^ c) := by
  unfold T3
  rw [sN_1 m3_C0, sN_v (f := fun R' => sN (2 ^ c) (fun C' => m3 a s n R' C')) rfl]
  omega
theorem T3_R : T3 a s r c (n + 1) 1 1 = T3 a s r c n (2 ^ r) 1 := by
  unfold T3
  rw [sN_1 m3_C0, sN_1 m3_C0, sN_1 (f := fun R' => sN (2 ^ c) (fun C' => m3 a s (n + 1) R' C')) (m3_R0 _), sN_v (f := fun n' => sN (2 ^ r) (fun R' => sN (2 ^ c) (fun C' => m3 a s n' R' C'))) rfl]
theorem T3_1 (hr : r ≤ 5) : T3 a s r c 1 1 1 = 0 := by
  have hp := pow32 hr
  unfold T3
  rw [sN_1 m3_C0, sN_1 (f := fun R' => sN (2 ^ c) (fun C' => m3 a s 1 R' C')) (m3_R0 _), sN_1]
  refine sN_z (fun R' h => ?_)
  by_cases e : R' = 0
  · rw [e]
    exact m3_R0 _
  · refine sN_z (fun C' _ => if_neg (fun q => e (pc5_0 R' (by omega) q)))
theorem T3_end : T3 a s r c 6 1 1 = manyS a s r c := by
  unfold T3 manyS
  rw [sN_1 m3_C0, sN_1 (f := fun R' => sN (2 ^ c) (fun C' => m3 a s 6 R' C')) (m3_R0 _), sN_swap]
  refine sN_c (fun R' _ => ?_)
  rw [sN_one (f := fun n' => sN (2 ^ c) (fun C' => m3 a s n' R' C')) (a := pc5 R') (by have := pc5_le R'; omega) (fun k hk => sN_z (fun C' _ => if_neg (fun q => hk q.symm)))]
  exact sN_c (fun C' _ => if_pos rfl)
theorem sN_le {f : Nat → Nat} {M : Nat} : ∀ {n : Nat}, (∀ k, k < n → f k ≤ M) → sN n f ≤ n * M
  | 0, _ => Nat.zero_le _
  | n + 1, h => by
    show sN n f + f n ≤ _
    have h1 := sN_le (f := f) (n := n) (fun k hk => h k (by omega))
    have h2 := h n (by omega)
    rw [Nat.add_mul, Nat.one_mul]
    omega
theorem manyS_le (hr : r ≤ 5) (hc : c ≤ 5) : manyS a s r c ≤ 1024 := by
  have h1 : manyS a s r c ≤ 2 ^ r * (2 ^ c * 1) := sN_le (fun R _ => sN_le (fun C _ => by unfold mS; split <;> omega))
  have h2 : 2 ^ r * (2 ^ c * 1) ≤ 32 * (32 * 1) := Nat.mul_le_mul (pow32 hr) (Nat.mul_le_mul (pow32 hc) (Nat.le_refl 1))
  omega
def sn3 (n R C R' C' : Nat) : Prop := pc5 R' < n ∨ (pc5 R' = n ∧ (R' < R ∨ (R' = R ∧ C' < C)))
def FS (a : Nat → Nat → Int64) (b r c n R C : Nat) (x : Int32) : Prop := (∃ R0 C0, flP a b r c R0 C0 ∧ sn3 n R C R0 C0 ∧ (∀ R' C', flP a b r c R' C' → flB R0 C0 R' C') ∧ x = nI (32 * R0 + C0)) ∨ ((∀ R' C', sn3 n R C R' C' → ¬ flP a b r c R' C') ∧ x = -1)
theorem FS.cg {n2 R2 C2 : Nat} (h : FS a b r c n R C x) (e : ∀ R' C', flP a b r c R' C' → (sn3 n R C R' C' ↔ sn3 n2 R2 C2 R' C')) : FS a b r c n2 R2 C2 x := by
  rcases h with ⟨R0, C0, h1, h2, h3, h4⟩ | ⟨h1, h2⟩
  · exact Or.inl ⟨R0, C0, h1, (e _ _ h1).mp h2, h3, h4⟩
  · exact Or.inr ⟨fun R' C' q z => h1 R' C' ((e _ _ z).mpr q) z, h2⟩
theorem FS.eC (h : FS a b r c n R (2 ^ c) x) : FS a b r c n (R + 1) 1 x := h.cg fun R' C' q => by
  have h1 := q.2.2.2.1
  have h2 := q.2.2.1
  unfold sn3
  omega
theorem FS.eR (h : FS a b r c n (2 ^ r) 1 x) : FS a b r c (n + 1) 1 1 x := h.cg fun R' C' q => by
  have h1 := q.2.1
  have h2 := q.1
  have h3 := q.2.2.1
  unfold sn3
  omega
theorem FS.skip (h : FS a b r c n R C x) (e : ¬ (pc5 R = n ∧ pc5 C = n)) : FS a b r c n R (C + 1) x := h.cg fun R' C' q => by
  have h1 := q.2.2.2.2.1
  unfold sn3
  by_cases z : R' = R ∧ C' = C
  · obtain ⟨rfl, rfl⟩ := z
    omega
  · omega
theorem FS.no (h : FS a b r c n R C x) (e : ¬ flP a b r c R C) : FS a b r c n R (C + 1) x := h.cg fun R' C' q => by
  unfold sn3
  by_cases z : R' = R ∧ C' = C
  · obtain ⟨rfl, rfl⟩ := z
    exact absurd q e
  · omega
theorem FS.keep (h : FS a b r c n R C x) (hx : ¬ x < 0) : FS a b r c n R (C + 1) x := by
  rcases h with ⟨R0, C0, h1, h2, h3, h4⟩ | ⟨h1, h2⟩
  · refine Or.inl ⟨R0, C0, h1, ?_, h3, h4⟩
    unfold sn3 at h2 ⊢
    omega
  · subst h2
    exact absurd (by decide) hx
theorem FS.take (hr : r ≤ 5) (hc : c ≤ 5) (h : FS a b r c n R C x) (hx : x < 0) (hp : flP a b r c R C) (hn : pc5 R = n) : FS a b r c n R (C + 1) (nI (32 * R + C)) := by
  rcases h with ⟨R0, C0, h1, h2, h3, h4⟩ | ⟨h1, h2⟩
  · subst h4
    have := pow32 hr
    have := pow32 hc
    have := h1.2.1
    have := h1.2.2.2.1
    exact absurd hx (nI_pos (by omega))
  · refine Or.inl ⟨R, C, hp, ?_, fun R' C' q => ?_, rfl⟩
    · unfold sn3
      omega
    · have z : ¬ sn3 n R C R' C' := fun w => h1 R' C' w q
      unfold sn3 at z
      unfold flB
      omega
theorem FS.ini (hr : r ≤ 5) : FS a b r c 1 1 1 (-1) := by
  refine Or.inr ⟨fun R' C' h q => ?_, rfl⟩
  have h1 := pc5_pos R' (by have := pow32 hr; have := q.2.1; omega) q.1
  have h2 := q.1
  have h3 := q.2.2.1
  unfold sn3 at h
  omega
theorem FS.fin (h : FS a b r c 6 1 1 x) : flRes a b r c x := by
  rcases h with ⟨R0, C0, h1, h2, h3, h4⟩ | ⟨h1, h2⟩
  · exact Or.inl ⟨R0, C0, h1, h3, h4⟩
  · exact Or.inr ⟨fun R' C' => h1 R' C' (Or.inl (by have := pc5_le R'; omega)), h2⟩
def fstx (x : Int32) (R C : Nat) : Int32 := if x < 0 then nI (32 * R + C) else x
theorem FS.low (hr : r ≤ 5) (hc : c ≤ 5) (h : FS a b r c n R C x) (hp : flP a b r c R C) (hn : pc5 R = n) : FS a b r c n R (C + 1) (fstx x R C) := by
  unfold fstx
  by_cases q : x < 0
  · rw [if_pos q]
    exact h.take hr hc q hp hn
  · rw [if_neg q]
    exact h.keep q
def GT (I I1 : TI) (kb kn ka : Nat) (xb xn : Int32) : Prop := Fr [(30, 0)] I I1 ∧ (∀ x, (x < 14 ∨ 18 < x) → I1 30 0 x = I 30 0 x) ∧ I1 30 0 14 = nI kb ∧ I1 30 0 15 = nI kn ∧ I1 30 0 16 = nI ka ∧ I1 30 0 17 = xb ∧ I1 30 0 18 = xn
variable {I I1 I2 : TI} {kb kn ka : Nat} {xb xn : Int32}
theorem GT.s14 (h : GT I I1 kb kn ka xb xn) {v : Int32} {k : Nat} (hv : v = nI k) : GT I (upI I1 30 0 14 v) k kn ka xb xn :=
  ⟨h.1.up (by simp), fun x hx => (upI_x (by omega)).trans (h.2.1 x hx), upI_eq.trans hv, (upI_x (by decide)).trans h.2.2.2.1, (upI_x (by decide)).trans h.2.2.2.2.1, (upI_x (by decide)).trans h.2.2.2.2.2.1, (upI_x (by decide)).trans h.2.2.2.2.2.2⟩
theorem GT.s15 (h : GT I I1 kb kn ka xb xn) {v : Int32} {k : Nat} (hv : v = nI k) : GT I (upI I1 30 0 15 v) kb k ka xb xn :=
  ⟨h.1.up (by simp), fun x hx => (upI_x (by omega)).trans (h.2.1 x hx), (upI_x (by decide)).trans h.2.2.1, upI_eq.trans hv, (upI_x (by decide)).trans h.2.2.2.2.1, (upI_x (by decide)).trans h.2.2.2.2.2.1, (upI_x (by decide)).trans h.2.2.2.2.2.2⟩
theorem GT.s16 (h : GT I I1 kb kn ka xb xn) {v : Int32} {k : Nat} (hv : v = nI k) : GT I (upI I1 30 0 16 v) kb kn k xb xn :=
  ⟨h.1.up (by simp), fun x hx => (upI_x (by omega)).trans (h.2.1 x hx), (upI_x (by decide)).trans h.2.2.1, (upI_x (by decide)).trans h.2.2.2.1, upI_eq.trans hv, (upI_x (by decide)).trans h.2.2.2.2.2.1, (upI_x (by decide)).trans h.2.2.2.2.2.2⟩
theorem GT.s17 (h : GT I I1 kb kn ka xb xn) {v : Int32} : GT I (upI I1 30 0 17 v) kb kn ka v xn :=
  ⟨h.1.up (by simp), fun x hx => (upI_x (by omega)).trans (h.2.1 x hx), (upI_x (by decide)).trans h.2.2.1, (upI_x (by decide)).trans h.2.2.2.1, (upI_x (by decide)).trans h.2.2.2.2.1, upI_eq, (upI_x (by decide)).trans h.2.2.2.2.2.2⟩
theorem GT.s18 (h : GT I I1 kb kn ka xb xn) {v : Int32} : GT I (upI I1 30 0 18 v) kb kn ka xb v :=
  ⟨h.1.up (by simp), fun x hx => (upI_x (by omega)).trans (h.2.1 x hx), (upI_x (by decide)).trans h.2.2.1, (upI_x (by decide)).trans h.2.2.2.1, (upI_x (by decide)).trans h.2.2.2.2.1, (upI_x (by decide)).trans h.2.2.2.2.2.1, upI_eq⟩
theorem GT.k18 (h : GT I I1 kb kn ka xb xn) (e : xn < 0) : GT I (upI I1 30 0 18 (nI (32 * R + C))) kb kn ka xb (fstx xn R C) := by
  unfold fstx
  rw [if_pos e]
  exact h.s18
theorem GT.n18 (h : GT I I1 kb kn ka xb xn) (e : ¬ xn < 0) : GT I I1 kb kn ka xb (fstx xn R C) := by
  unfold fstx
  rw [if_neg e]
  exact h
theorem GT.k17 (h : GT I I1 kb kn ka xb xn) (e : xb < 0) : GT I (upI I1 30 0 17 (nI (32 * R + C))) kb kn ka (fstx xb R C) xn := by
  unfold fstx
  rw [if_pos e]
  exact h.s17
theorem GT.n17 (h : GT I I1 kb kn ka xb xn) (e : ¬ xb < 0) : GT I I1 kb kn ka (fstx xb R C) xn := by
  unfold fstx
  rw [if_neg e]
  exact h
def cntP (I I1 : TI) (kb kn ka : Nat) (xb xn : Int32) (R C : Nat) (v : Int64) : Prop := (0 < v ∧ GT I I1 kb kn (ka + 1) xb xn) ∨ (v = 0 ∧ GT I I1 kb (kn + 1) ka xb (fstx xn R C)) ∨ (v < 0 ∧ GT I I1 (kb + 1) kn ka (fstx xb R C) (fstx xn R C))
def GP (a : Nat → Nat → Int64) (r c n R C : Nat) (I I1 : TI) : Prop := ∃ xb xn, GT I I1 (T3 a (-1) r c n R C) (T3 a 0 r c n R C) (T3 a 1 r c n R C) xb xn ∧ FS a 0 r c n R C xb ∧ FS a 1 r c n R C xn
theorem GP.fr (h : GP a r c n R C I I1) : Fr [(30, 0)] I I1 := by
  obtain ⟨xb, xn, h1, -⟩ := h
  exact h1.1
theorem GP.ini (hr : r ≤ 5) (h : GT I I1 0 0 0 (-1) (-1)) : GP a r c 1 1 1 I I1 := ⟨-1, -1, by rw [T3_1 hr, T3_1 hr, T3_1 hr]; exact h, FS.ini hr, FS.ini hr⟩
theorem GP.eC (h : GP a r c n R C I I1) (e : C = 2 ^ c) : GP a r c n (R + 1) 1 I I1 := by
  subst e
  obtain ⟨xb, xn, h1, h2, h3⟩ := h
  exact ⟨xb, xn, by rw [T3_C, T3_C, T3_C]; exact h1, h2.eC, h3.eC⟩
theorem GP.eR (h : GP a r c n R 1 I I1) (e : R = 2 ^ r) : GP a r c (n + 1) 1 1 I I1 := by
  subst e
  obtain ⟨xb, xn, h1, h2, h3⟩ := h
  exact ⟨xb, xn, by rw [T3_R, T3_R, T3_R]; exact h1, h2.eR, h3.eR⟩
theorem GP.skip (h : GP a r c n R C I I1) (e : ¬ (pc5 R = n ∧ pc5 C = n)) : GP a r c n R (C + 1) I I1 := by
  obtain ⟨xb, xn, h1, h2, h3⟩ := h
  exact ⟨xb, xn, by rw [T3_step, T3_step, T3_step, m3_skip e, m3_skip e, m3_skip e]; exact h1, h2.skip e, h3.skip e⟩
theorem sgn_p {v : Int64} (h : 0 < v) : sgn v = 1 := if_pos h
theorem sgn_z {v : Int64} (h : v = 0) : sgn v = 0 := by
  subst h
  rfl
theorem sgn_m {v : Int64} (h : v < 0) : sgn v = -1 := by
  unfold sgn
  rw [if_neg (Int64.not_lt.mpr (Int64.le_of_lt h)), if_pos h]
theorem GP.cnt (hr : r ≤ 5) (hc : c ≤ 5) (h1 : GT I I1 (T3 a (-1) r c n R C) (T3 a 0 r c n R C) (T3 a 1 r c n R C) xb xn) (h2 : FS a 0 r c n R C xb) (h3 : FS a 1 r c n R C xn) (hR1 : 1 ≤ R) (hR2 : R < 2 ^ r) (hC1 : 1 ≤ C) (hC2 : C < 2 ^ c) (hR : pc5 R = n) (hC : pc5 C = n) {v : Int64} (hv : v = wrt a R C)
    (h : cntP I I2 (T3 a (-1) r c n R C) (T3 a 0 r c n R C) (T3 a 1 r c n R C) xb xn R C v) : GP a r c n R (C + 1) I I2 := by
  have m : ∀ s, m3 a s n R C = if sgn v = s then 1 else 0 := fun s => by
    unfold m3 mS
    rw [if_pos hR, hv]
    by_cases e : sgn (wrt a R C) = s
    · rw [if_pos ⟨hR1, hC1, hR.trans hC.symm, e⟩, if_pos e]
    · rw [if_neg (fun q => e q.2.2.2), if_neg e]
  have hq : ∀ b, lowV b v → flP a b r c R C := fun b hb => ⟨hR1, hR2, hC1, hC2, hC.trans hR.symm, hv ▸ hb⟩
  have hno : ∀ b, ¬ lowV b v → ¬ flP a b r c R C := fun b hb q => hb (hv ▸ q.2.2.2.2.2)
  rcases h with ⟨e, g⟩ | ⟨e, g⟩ | ⟨e, g⟩
  · refine ⟨xb, xn, ?_, h2.no (hno 0 ?_), h3.no (hno 1 ?_)⟩
    · rw [T3_step, T3_step, T3_step, m, m, m, sgn_p e]
      exact g
    · exact Int64.not_lt.mpr (Int64.le_of_lt e)
    · exact Int64.not_le.mpr e
  · refine ⟨xb, fstx xn R C, ?_, h2.no (hno 0 ?_), h3.low hr hc (hq 1 ?_) hR⟩
    · rw [T3_step, T3_step, T3_step, m, m, m, sgn_z e]
      exact g
    · rw [e]
      show ¬ (0 : Int64) < 0
      decide
    · rw [e]
      show (0 : Int64) ≤ 0
      decide
  · refine ⟨fstx xb R C, fstx xn R C, ?_, h2.low hr hc (hq 0 e) hR, h3.low hr hc (hq 1 (Int64.le_of_lt e)) hR⟩
    rw [T3_step, T3_step, T3_step, m, m, m, sgn_m e]
    exact g
def GTE (a : Nat → Nat → Int64) (r c : Nat) (I I1 : TI) : Prop := Fr [(30, 0)] I I1 ∧ (∀ x, (x < 14 ∨ 18 < x) → I1 30 0 x = I 30 0 x) ∧ I1 30 0 14 = nI (manyS a (-1) r c) ∧ I1 30 0 15 = nI (manyS a 0 r c) ∧ I1 30 0 16 = nI (manyS a 1 r c) ∧ flRes a 0 r c (I1 30 0 17) ∧ flRes a 1 r c (I1 30 0 18)
theorem GP.fin (h : GP a r c n R C I I1) (hn : n = 6) (hR : R = 1) (hC : C = 1) : GTE a r c I I1 := by
  subst hn; subst hR; subst hC
  obtain ⟨xb, xn, h1, h2, h3⟩ := h
  rw [T3_end, T3_end, T3_end] at h1
  exact ⟨h1.1, h1.2.1, h1.2.2.1, h1.2.2.2.1, h1.2.2.2.2.1, by rw [h1.2.2.2.2.2.1]; exact h2.fin, by rw [h1.2.2.2.2.2.2]; exact h3.fin⟩
theorem sN_0 {f : Nat → Nat} : ∀ {n : Nat}, sN n f = 0 → ∀ k, k < n → f k = 0
  | n + 1, h, k, hk => by
    have h' : sN n f + f n = 0 := h
    rcases Nat.lt_or_ge k n with q | q
    · exact sN_0 (by omega) k q
    · rw [show k = n by omega]
      omega
theorem many_0 : manyS a s r c = 0 ↔ ∀ R C, 1 ≤ R → R < 2 ^ r → 1 ≤ C → C < 2 ^ c → pc5 R = pc5 C → ¬ sgn (wrt a R C) = s := by
  constructor
  · intro h R C h1 h2 h3 h4 h5 h6
    have z := sN_0 (sN_0 h R h2) C h4
    unfold mS at z
    rw [if_pos ⟨h1, h3, h5, h6⟩] at z
    exact absurd z (by decide)
  · intro h
    exact sN_z (fun R hR => sN_z (fun C hC => if_neg (fun q => h R C q.1 hR q.2.1 hC q.2.2.1 q.2.2.2)))
theorem sgn_low {v : Int64} : lowV 0 v ↔ sgn v = -1 := by
  show v < 0 ↔ _
  constructor
  · exact sgn_m
  · intro h
    rcases Int64.lt_or_le v 0 with q | q
    · exact q
    · rcases Int64.lt_or_eq_of_le q with z | z
      · rw [sgn_p z] at h; exact absurd h (by decide)
      · rw [sgn_z z.symm] at h; exact absurd h (by decide)
theorem sgn_low1 {v : Int64} : lowV 1 v ↔ (sgn v = -1 ∨ sgn v = 0) := by
  show v ≤ 0 ↔ _
  constructor
  · intro h
    rcases Int64.lt_or_eq_of_le h with q | q
    · exact Or.inl (sgn_m q)
    · exact Or.inr (sgn_z q)
  · intro h
    rcases Int64.lt_or_le 0 v with q | q
    · rw [sgn_p q] at h
      rcases h with h | h <;> exact absurd h (by decide)
    · exact q
theorem fl_neg1 (hr : r ≤ 5) (hc : c ≤ 5) (h : flRes a b r c x) : x = -1 ↔ ∀ R C, ¬ flP a b r c R C := by
  rcases h with ⟨R, C, h1, h2, h3⟩ | ⟨h1, h2⟩
  · have := pow32 hr
    have := pow32 hc
    have := h1.2.1
    have := h1.2.2.2.1
    constructor
    · intro e
      exact absurd (h3.symm.trans e) (nI_ne_m1 _ (by omega))
    · intro e
      exact absurd h1 (e R C)
  · exact ⟨fun _ => h1, fun _ => h2⟩
theorem fl_many0 (hr : r ≤ 5) (hc : c ≤ 5) (h : flRes a 0 r c x) : x = -1 ↔ manyS a (-1) r c = 0 := by
  rw [fl_neg1 hr hc h, many_0]
  constructor
  · intro q R C h1 h2 h3 h4 h5 h6
    exact q R C ⟨h1, h2, h3, h4, h5.symm, sgn_low.mpr h6⟩
  · intro q R C z
    exact q R C z.1 z.2.1 z.2.2.1 z.2.2.2.1 z.2.2.2.2.1.symm (sgn_low.mp z.2.2.2.2.2)
theorem fl_many1 (hr : r ≤ 5) (hc : c ≤ 5) (h : flRes a 1 r c x) : x = -1 ↔ manyS a (-1) r c + manyS a 0 r c = 0 := by
  rw [fl_neg1 hr hc h, show (manyS a (-1) r c + manyS a 0 r c = 0) ↔ (manyS a (-1) r c = 0 ∧ manyS a 0 r c = 0) by omega, many_0, many_0]
  constructor
  · intro q
    exact ⟨fun R C h1 h2 h3 h4 h5 h6 => q R C ⟨h1, h2, h3, h4, h5.symm, sgn_low1.mpr (Or.inl h6)⟩, fun R C h1 h2 h3 h4 h5 h6 => q R C ⟨h1, h2, h3, h4, h5.symm, sgn_low1.mpr (Or.inr h6)⟩⟩
  · intro q R C z
    rcases sgn_low1.mp z.2.2.2.2.2 with e | e
    · exact q.1 R C z.1 z.2.1 z.2.2.1 z.2.2.2.1 z.2.2.2.2.1.symm e
    · exact q.2 R C z.1 z.2.1 z.2.2.1 z.2.2.2.1 z.2.2.2.2.1.symm e
theorem flB_anti {R C R' C' : Nat} (h : flB R C R' C') (g : flB R' C' R C) : R = R' ∧ C = C' := by
  unfold flB at h g
  omega
theorem fl_uniq {y : Int32} (h : flRes a b r c x) (g : flRes a b r c y) : x = y := by
  rcases h with ⟨R, C, h1, h2, h3⟩ | ⟨h1, h2⟩
  · rcases g with ⟨R', C', g1, g2, g3⟩ | ⟨g1, g2⟩
    · obtain ⟨e1, e2⟩ := flB_anti (h2 _ _ g1) (g2 _ _ h1)
      rw [h3, g3, e1, e2]
    · exact absurd h1 (g1 _ _)
  · rcases g with ⟨R', C', g1, g2, g3⟩ | ⟨g1, g2⟩
    · exact absurd g1 (h1 _ _)
    · rw [h2, g2]
end GG
theorem in_S {s : Int32} : ((-1 : Int64) ≤ s.toInt64 ∧ s.toInt64 ≤ 1) ↔ (-1 ≤ s ∧ s ≤ nI 1) := by
  rw [show (-1 : Int64) = (-1 : Int32).toInt64 by decide, show (1 : Int64) = (nI 1).toInt64 by decide, wide_le, wide_le]
theorem s_m1 {s : Int32} (h : -1 ≤ s) (g : ¬ 0 ≤ s) : s = -1 := by
  rw [Int32.le_iff_toInt_le] at h g
  apply Int32.toInt_inj.mp
  have e1 : (-1 : Int32).toInt = -1 := by decide
  have e2 : (0 : Int32).toInt = 0 := by decide
  omega
theorem s_1 {s : Int32} (h : 0 ≤ s) (g : s ≠ 0) (k : s ≤ nI 1) : s = 1 := by
  rw [Int32.le_iff_toInt_le] at h k
  apply Int32.toInt_inj.mp
  have e1 : (1 : Int32).toInt = 1 := by decide
  have e2 : (0 : Int32).toInt = 0 := by decide
  have e3 : (nI 1).toInt = 1 := by decide
  have e4 : ¬ s.toInt = 0 := fun q => g (Int32.toInt_inj.mp (q.trans e2.symm))
  omega
def MGo (I I' : TI) (L L' : TL) : Prop := Fr [(30, 0)] I I' ∧ (∀ x, (x < 14 ∨ 18 < x) → I' 30 0 x = I 30 0 x) ∧ FL [(42, 0)] L L'
def lookM (I I' : TI) (L L' : TL) (r : Option Value) (t rr cc : Nat) : Nat → Prop
  | 0 => r = some (.int (I 34 0 t)) ∧ I' = I ∧ L' = L
  | 1 => r = some (.int (nI rr)) ∧ I' = I ∧ L' = L
  | 2 => r = some (.int (nI cc)) ∧ I' = I ∧ L' = L
  | 3 => MGo I I' L L' ∧ ∃ y, flRes (entM I t) 0 rr cc y ∧ r = some (.int (if y = -1 then nI 1 else nI 0))
  | 4 => MGo I I' L L' ∧ ∃ y, flRes (entM I t) 1 rr cc y ∧ r = some (.int (if y = -1 then nI 1 else nI 0))
  | 5 => MGo I I' L L' ∧ r = some (.int (nI (looksS (entM I t) 0 rr cc)))
  | 6 => MGo I I' L L' ∧ r = some (.int (nI (looksS (entM I t) 1 rr cc)))
  | _ => ((I 34 0 t = nI 1 ∧ r = some (.int (I 35 0 t)) ∧ I' = I) ∨ (¬ I 34 0 t = nI 1 ∧ MEF I I' r 5)) ∧ L' = L
theorem entM_fr {S : List (Nat × Nat)} {I I1 : TI} {t : Nat} (h : Fr S I I1) (hs : (31, 0) ∉ S) : entM I1 t = entM I t := by
  funext i j
  unfold entM
  rw [h 31 0 hs]

set_option maxHeartbeats 4000000 in
set_option maxRecDepth 100000 in
theorem c_X6_counts (l : Launch) (E : VE) (hE : EOk E) (I : TI) (L : TL) (I0 : TI) (kb kn ka : Nat) (xb xn : Int32) (hG : GT I0 I kb kn ka xb xn) (R C : Nat) (v : Int64) : Ct l E yX6_counts cX6_counts 5 none rm_X6_counts [.ref (eA E 30 0), .int (nI R), .int (nI C), .long v] I L (fun r I' L' => r = none ∧ cntP I0 I' kb kn ka xb xn R C v ∧ L' = L) := by
  refine ct_of (by decide +kernel) (Nat.le_of_ble_eq_true rfl) hE ?_
  intro a X Y hl hEE
  subst hl; subst hEE
  show V a 0 [(0, .ref (eA (vE a) 30 0)), (1, .int (nI R)), (2, .int (nI C)), (3, .long v)] [] I L
  refine v_lload_n X 3 rfl dX6_counts_0 ?_
  refine v_lconst X (v := 0) dX6_counts_1 rfl ?_
  refine v_lcmp_le X dX6_counts_2 dX6_counts_3 (tgt := 17) (by decide) (fun h2 => ?_) (fun h2 => ?_)
  · refine v_aload_n X 0 rfl dX6_counts_17 ?_
    refine gf_X6_139 X dX6_counts_18 ?_
    refine v_eqi (y := xn) (hG.2.2.2.2.2.2) ?_
    refine v_if_ge X dX6_counts_21 (tgt := 34) (by decide) (fun h21 => ?_) (fun h21 => ?_)
    · refine v_lload_n X 3 rfl dX6_counts_34 ?_
      refine v_lconst X (v := 0) dX6_counts_35 rfl ?_
      refine v_lcmp_ne X dX6_counts_36 dX6_counts_37 (tgt := 51) (by decide) (fun h36 => ?_) (fun h36 => ?_)
      · refine v_aload_n X 0 rfl dX6_counts_51 ?_
        refine gf_X6_136 X dX6_counts_52 ?_
        refine v_eqi (y := xb) (hG.2.2.2.2.2.1) ?_
        refine v_if_ge X dX6_counts_55 (tgt := 68) (by decide) (fun h55 => ?_) (fun h55 => ?_)
        · refine v_aload_n X 0 rfl dX6_counts_68 ?_
          refine v_dup X dX6_counts_69 rfl ?_
          refine gf_X6_127 X dX6_counts_70 ?_
          refine v_eqi (y := (nI kb)) (hG.2.2.1) ?_
          refine v_iconst X (v := (nI 1)) dX6_counts_73 (by decide) ?_
          refine v_iadd X dX6_counts_74 ?_
          refine v_eqi (y := (nI (kb + 1))) (nI_add _ _) ?_
          refine pf_X6_127 X dX6_counts_75 ?_
          exact v_vret X Y dX6_counts_78 (⟨rfl, Or.inr (Or.inr ⟨(Int64.lt_or_eq_of_le h2).resolve_right h36, ((hG.n18 (Int32.not_lt.mpr h21)).n17 (Int32.not_lt.mpr h55)).s14 rfl⟩), rfl⟩)
        · refine v_aload_n X 0 rfl dX6_counts_58 ?_
          refine v_bipush X (v := (nI 32)) dX6_counts_59 (by decide) ?_
          refine v_iload_n X 1 rfl dX6_counts_61 ?_
          refine v_imul X dX6_counts_62 ?_
          refine v_eqi (y := (nI (32 * R))) (pk_mul _ _) ?_
          refine v_iload_n X 2 rfl dX6_counts_63 ?_
          refine v_iadd X dX6_counts_64 ?_
          refine v_eqi (y := (nI ((32 * R) + C))) (nI_add _ _) ?_
          refine pf_X6_136 X dX6_counts_65 ?_
          refine v_aload_n X 0 rfl dX6_counts_68 ?_
          refine v_dup X dX6_counts_69 rfl ?_
          refine gf_X6_127 X dX6_counts_70 ?_
          refine v_eqi (y := (nI kb)) ((upI_x (by decide)).trans (hG.2.2.1)) ?_
          refine v_iconst X (v := (nI 1)) dX6_counts_73 (by decide) ?_
          refine v_iadd X dX6_counts_74 ?_
          refine v_eqi (y := (nI (kb + 1))) (nI_add _ _) ?_
          refine pf_X6_127 X dX6_counts_75 ?_
          exact v_vret X Y dX6_counts_78 (⟨rfl, Or.inr (Or.inr ⟨(Int64.lt_or_eq_of_le h2).resolve_right h36, ((hG.n18 (Int32.not_lt.mpr h21)).k17 (Int32.not_le.mp h55)).s14 rfl⟩), rfl⟩)
      · refine v_aload_n X 0 rfl dX6_counts_40 ?_
        refine v_dup X dX6_counts_41 rfl ?_
        refine gf_X6_130 X dX6_counts_42 ?_
        refine v_eqi (y := (nI kn)) (hG.2.2.2.1) ?_
        refine v_iconst X (v := (nI 1)) dX6_counts_45 (by decide) ?_
        refine v_iadd X dX6_counts_46 ?_
        refine v_eqi (y := (nI (kn + 1))) (nI_add _ _) ?_
        refine pf_X6_130 X dX6_counts_47 ?_
        exact v_vret X Y dX6_counts_50 (⟨rfl, Or.inr (Or.inl ⟨h36, (hG.n18 (Int32.not_lt.mpr h21)).s15 rfl⟩), rfl⟩)
    · refine v_aload_n X 0 rfl dX6_counts_24 ?_
      refine v_bipush X (v := (nI 32)) dX6_counts_25 (by decide) ?_
      refine v_iload_n X 1 rfl dX6_counts_27 ?_
      refine v_imul X dX6_counts_28 ?_
      refine v_eqi (y := (nI (32 * R))) (pk_mul _ _) ?_
      refine v_iload_n X 2 rfl dX6_counts_29 ?_
      refine v_iadd X dX6_counts_30 ?_
      refine v_eqi (y := (nI ((32 * R) + C))) (nI_add _ _) ?_
      refine pf_X6_139 X dX6_counts_31 ?_
      refine v_lload_n X 3 rfl dX6_counts_34 ?_
      refine v_lconst X (v := 0) dX6_counts_35 rfl ?_
      refine v_lcmp_ne X dX6_counts_36 dX6_counts_37 (tgt := 51) (by decide) (fun h36 => ?_) (fun h36 => ?_)
      · refine v_aload_n X 0 rfl dX6_counts_51 ?_
        refine gf_X6_136 X dX6_counts_52 ?_
        refine v_eqi (y := xb) ((upI_x (by decide)).trans (hG.2.2.2.2.2.1)) ?_
        refine v_if_ge X dX6_counts_55 (tgt := 68) (by decide) (fun h55 => ?_) (fun h55 => ?_)
        · refine v_aload_n X 0 rfl dX6_counts_68 ?_
          refine v_dup X dX6_counts_69 rfl ?_
          refine gf_X6_127 X dX6_counts_70 ?_
          refine v_eqi (y := (nI kb)) ((upI_x (by decide)).trans (hG.2.2.1)) ?_
          refine v_iconst X (v := (nI 1)) dX6_counts_73 (by decide) ?_
          refine v_iadd X dX6_counts_74 ?_
          refine v_eqi (y := (nI (kb + 1))) (nI_add _ _) ?_
          refine pf_X6_127 X dX6_counts_75 ?_
          exact v_vret X Y dX6_counts_78 (⟨rfl, Or.inr (Or.inr ⟨(Int64.lt_or_eq_of_le h2).resolve_right h36, ((hG.k18 (Int32.not_le.mp h21)).n17 (Int32.not_lt.mpr h55)).s14 rfl⟩), rfl⟩)
        · refine v_aload_n X 0 rfl dX6_counts_58 ?_
          refine v_bipush X (v := (nI 32)) dX6_counts_59 (by decide) ?_
          refine v_iload_n X 1 rfl dX6_counts_61 ?_
          refine v_imul X dX6_counts_62 ?_
          refine v_eqi (y := (nI (32 * R))) (pk_mul _ _) ?_
          refine v_iload_n X 2 rfl dX6_counts_63 ?_
          refine v_iadd X dX6_counts_64 ?_
          refine v_eqi (y := (nI ((32 * R) + C))) (nI_add _ _) ?_
          refine pf_X6_136 X dX6_counts_65 ?_
          refine v_aload_n X 0 rfl dX6_counts_68 ?_
          refine v_dup X dX6_counts_69 rfl ?_
          refine gf_X6_127 X dX6_counts_70 ?_
          refine v_eqi (y := (nI kb)) ((upI_x (by decide)).trans ((upI_x (by decide)).trans (hG.2.2.1))) ?_
          refine v_iconst X (v := (nI 1)) dX6_counts_73 (by decide) ?_
          refine v_iadd X dX6_counts_74 ?_
          refine v_eqi (y := (nI (kb + 1))) (nI_add _ _) ?_
          refine pf_X6_127 X dX6_counts_75 ?_
          exact v_vret X Y dX6_counts_78 (⟨rfl, Or.inr (Or.inr ⟨(Int64.lt_or_eq_of_le h2).resolve_right h36, ((hG.k18 (Int32.not_le.mp h21)).k17 (Int32.not_le.mp h55)).s14 rfl⟩), rfl⟩)
      · refine v_aload_n X 0 rfl dX6_counts_40 ?_
        refine v_dup X dX6_counts_41 rfl ?_
        refine gf_X6_130 X dX6_counts_42 ?_
        refine v_eqi (y := (nI kn)) ((upI_x (by decide)).trans (hG.2.2.2.1)) ?_
        refine v_iconst X (v := (nI 1)) dX6_counts_45 (by decide) ?_
        refine v_iadd X dX6_counts_46 ?_
        refine v_eqi (y := (nI (kn + 1))) (nI_add _ _) ?_
        refine pf_X6_130 X dX6_counts_47 ?_
        exact v_vret X Y dX6_counts_50 (⟨rfl, Or.inr (Or.inl ⟨h36, (hG.k18 (Int32.not_le.mp h21)).s15 rfl⟩), rfl⟩)
  · refine v_aload_n X 0 rfl dX6_counts_6 ?_
    refine v_dup X dX6_counts_7 rfl ?_
    refine gf_X6_133 X dX6_counts_8 ?_
    refine v_eqi (y := (nI ka)) (hG.2.2.2.2.1) ?_
    refine v_iconst X (v := (nI 1)) dX6_counts_11 (by decide) ?_
    refine v_iadd X dX6_counts_12 ?_
    refine v_eqi (y := (nI (ka + 1))) (nI_add _ _) ?_
    refine pf_X6_133 X dX6_counts_13 ?_
    exact v_vret X Y dX6_counts_16 (⟨rfl, Or.inl ⟨Int64.not_le.mp h2, hG.s16 rfl⟩, rfl⟩)
set_option maxHeartbeats 4000000 in
set_option maxRecDepth 100000 in
theorem c_X6_goesThrough (l : Launch) (E : VE) (hE : EOk E) (I : TI) (L : TL) (t : Nat) (ht : t < 12) (r c : Nat) (hr : I 32 0 t = nI r) (hc : I 33 0 t = nI c) (hr5 : r ≤ 5) (hc5 : c ≤ 5) : Ct l E yX6_goesThrough cX6_goesThrough 5 none rm_X6_goesThrough [.ref (eA E 30 0), .int (nI t)] I L (fun r' I' L' => r' = none ∧ GTE (entM I t) r c I I' ∧ FL [(42, 0)] L L') := by
  refine ct_of (by decide +kernel) (Nat.le_of_ble_eq_true rfl) hE ?_
  intro a X Y hl hEE
  subst hl; subst hEE
  have hpr := pow32 hr5
  have hpc := pow32 hc5
  show V a 0 [(0, .ref (eA (vE a) 30 0)), (1, .int (nI t))] [] I L
  refine v_aload_n X 0 rfl dX6_goesThrough_0 ?_
  refine v_iconst X (v := (nI 0)) dX6_goesThrough_1 (by decide) ?_
  refine pf_X6_127 X dX6_goesThrough_2 ?_
  refine v_aload_n X 0 rfl dX6_goesThrough_5 ?_
  refine v_iconst X (v := (nI 0)) dX6_goesThrough_6 (by decide) ?_
  refine pf_X6_130 X dX6_goesThrough_7 ?_
  refine v_aload_n X 0 rfl dX6_goesThrough_10 ?_
  refine v_iconst X (v := (nI 0)) dX6_goesThrough_11 (by decide) ?_
  refine pf_X6_133 X dX6_goesThrough_12 ?_
  refine v_aload_n X 0 rfl dX6_goesThrough_15 ?_
  refine v_iconst X (v := (-1)) dX6_goesThrough_16 (by decide) ?_
  refine pf_X6_136 X dX6_goesThrough_17 ?_
  refine v_aload_n X 0 rfl dX6_goesThrough_20 ?_
  refine v_iconst X (v := (-1)) dX6_goesThrough_21 (by decide) ?_
  refine pf_X6_139 X dX6_goesThrough_22 ?_
  refine v_iconst X (v := (nI 1)) dX6_goesThrough_25 (by decide) ?_
  refine v_istore_n X [1, 2, 0] (lv' := [(0, .ref (eA (vE a) 30 0)), (1, .int (nI t)), (2, .int (nI 1))]) (by decide) rfl dX6_goesThrough_26 ?_
  have loop27 : ∀ (fu : Nat) (n : Nat) (I1 : TI) (L1 : TL), 7 - n < fu → (1 ≤ n) → (n ≤ 6) → (GP (entM I t) r c n 1 1 I I1) → (FL [(42, 0)] L L1) → V a 27 [(0, .ref (eA (vE a) 30 0)), (1, .int (nI t)), (2, .int (nI n))] [] I1 L1 := by
    intro fu
    induction fu with
    | zero => intro n I1 L1 hm _ _ _ _; exact absurd hm (Nat.not_lt_zero _)
    | succ fu ih27 =>
      intro n I1 L1 hm27 hn1 hn6 hG hFL
      refine v_iload_n X 2 rfl dX6_goesThrough_27 ?_
      refine v_iconst X (v := (nI 5)) dX6_goesThrough_28 (by decide) ?_
      refine v_icmp_gt_n X (by omega) (by omega) dX6_goesThrough_29 (tgt := 112) (by decide) (fun h29 => ?_) (fun h29 => ?_)
      · exact v_vret X Y dX6_goesThrough_112 (⟨rfl, hG.fin (by omega) rfl rfl, hFL⟩)
      · refine v_iconst X (v := (nI 1)) dX6_goesThrough_32 (by decide) ?_
        refine v_istore_n X [1, 2, 3, 0] (lv' := [(0, .ref (eA (vE a) 30 0)), (1, .int (nI t)), (2, .int (nI n)), (3, .int (nI 1))]) (by decide) rfl dX6_goesThrough_33 ?_
        have loop34 : ∀ (fu : Nat) (R : Nat) (I1 : TI) (L1 : TL), 33 - R < fu → (1 ≤ R) → (R ≤ 2 ^ r) → (GP (entM I t) r c n R 1 I I1) → (FL [(42, 0)] L L1) → V a 34 [(0, .ref (eA (vE a) 30 0)), (1, .int (nI t)), (2, .int (nI n)), (3, .int (nI R))] [] I1 L1 := by
          intro fu
          induction fu with
          | zero => intro R I1 L1 hm _ _ _ _; exact absurd hm (Nat.not_lt_zero _)
          | succ fu ih34 =>
            intro R I1 L1 hm34 hR1 hR2 hG hFL
            refine v_iload_n X 3 rfl dX6_goesThrough_34 ?_
            refine v_iconst X (v := (nI 1)) dX6_goesThrough_35 (by decide) ?_
            refine v_aload_n X 0 rfl dX6_goesThrough_36 ?_
            refine gf_X6_13 X dX6_goesThrough_37 ?_
            refine v_iload_n X 1 rfl dX6_goesThrough_40 ?_
            refine v_iald_n X dl_32 (fun _ _ => rfl) (n := 12) (by omega) (by decide) dX6_goesThrough_41 ?_
            refine v_eqi (y := (nI r)) ((Fr.at hG.fr (by simp) _).trans (hr)) ?_
            refine v_ishl X dX6_goesThrough_42 ?_
            refine v_eqi (y := (nI (2 ^ r))) (sh_one (by omega)) ?_
            refine v_icmp_ge_n X (by omega) (by omega) dX6_goesThrough_43 (tgt := 106) (by decide) (fun h43 => ?_) (fun h43 => ?_)
            · refine v_iinc X [1, 2, 0, 3] 2 (nI (n + 1)) (lv' := [(0, .ref (eA (vE a) 30 0)), (1, .int (nI t)), (2, .int (nI (n + 1))), (3, .int (nI R))]) rfl (nI_1 _) (by decide) rfl dX6_goesThrough_106 ?_
              refine v_goto X (tgt := 27) dX6_goesThrough_109 (by decide) ?_
              refine v_sub [0, 1, 2] (lv' := [(0, .ref (eA (vE a) 30 0)), (1, .int (nI t)), (2, .int (nI (n + 1)))]) rfl ?_
              exact ih27 (n + 1) I1 L1 (by omega) (by omega) (by omega) (hG.eR (by omega)) hFL
            · refine v_iconst X (v := (nI 1)) dX6_goesThrough_46 (by decide) ?_
              refine v_istore X [1, 2, 3, 4, 0] (lv' := [(0, .ref (eA (vE a) 30 0)), (1, .int (nI t)), (2, .int (nI n)), (3, .int (nI R)), (4, .int (nI 1))]) (by decide) rfl dX6_goesThrough_47 ?_
              have loop49 : ∀ (fu : Nat) (C : Nat) (I1 : TI) (L1 : TL), 33 - C < fu → (1 ≤ C) → (C ≤ 2 ^ c) → (GP (entM I t) r c n R C I I1) → (FL [(42, 0)] L L1) → V a 49 [(0, .ref (eA (vE a) 30 0)), (1, .int (nI t)), (2, .int (nI n)), (3, .int (nI R)), (4, .int (nI C))] [] I1 L1 := by
                intro fu
                induction fu with
                | zero => intro C I1 L1 hm _ _ _ _; exact absurd hm (Nat.not_lt_zero _)
                | succ fu ih49 =>
                  intro C I1 L1 hm49 hC1 hC2 hG hFL
                  refine v_iload X 4 rfl dX6_goesThrough_49 ?_
                  refine v_iconst X (v := (nI 1)) dX6_goesThrough_51 (by decide) ?_
                  refine v_aload_n X 0 rfl dX6_goesThrough_52 ?_
                  refine gf_X6_16 X dX6_goesThrough_53 ?_
                  refine v_iload_n X 1 rfl dX6_goesThrough_56 ?_
                  refine v_iald_n X dl_33 (fun _ _ => rfl) (n := 12) (by omega) (by decide) dX6_goesThrough_57 ?_
                  refine v_eqi (y := (nI c)) ((Fr.at hG.fr (by simp) _).trans (hc)) ?_
                  refine v_ishl X dX6_goesThrough_58 ?_
                  refine v_eqi (y := (nI (2 ^ c))) (sh_one (by omega)) ?_
                  refine v_icmp_ge_n X (by omega) (by omega) dX6_goesThrough_59 (tgt := 100) (by decide) (fun h59 => ?_) (fun h59 => ?_)
                  · refine v_iinc X [1, 2, 3, 0, 4] 3 (nI (R + 1)) (lv' := [(0, .ref (eA (vE a) 30 0)), (1, .int (nI t)), (2, .int (nI n)), (3, .int (nI (R + 1))), (4, .int (nI C))]) rfl (nI_1 _) (by decide) rfl dX6_goesThrough_100 ?_
                    refine v_goto X (tgt := 34) dX6_goesThrough_103 (by decide) ?_
                    refine v_sub [0, 1, 2, 3] (lv' := [(0, .ref (eA (vE a) 30 0)), (1, .int (nI t)), (2, .int (nI n)), (3, .int (nI (R + 1)))]) rfl ?_
                    exact ih34 (R + 1) I1 L1 (by omega) (by omega) (by omega) (hG.eC (by omega)) hFL
                  · have hR5 := pc5_le R
                    have hC5 := pc5_le C
                    refine v_iload_n X 3 rfl dX6_goesThrough_62 ?_
                    refine v_callS X (c_X6_bits _ _ hE _ _ R (by omega)) k_X6_116 ⟨rfl, rfl, Nat.le_of_ble_eq_true rfl, Nat.le_of_ble_eq_true rfl⟩ (As := [.int (nI R)]) (rest := []) rfl rfl (Nat.le_of_ble_eq_true rfl) dX6_goesThrough_63 (fun r63 I63 L63 hp63 => ?_)
                    obtain ⟨rfl, e1, e2⟩ := hp63
                    have e1 := e1.symm
                    have e2 := e2.symm
                    subst e1; subst e2
                    refine v_st (st' := [.int (nI (pc5 R))]) rfl ?_
                    refine v_iload_n X 2 rfl dX6_goesThrough_66 ?_
                    refine v_icmp_ne_n X (by omega) (by omega) dX6_goesThrough_67 (tgt := 94) (by decide) (fun h67 => ?_) (fun h67 => ?_)
                    · refine v_iinc X [1, 2, 3, 4, 0] 4 (nI (C + 1)) (lv' := [(0, .ref (eA (vE a) 30 0)), (1, .int (nI t)), (2, .int (nI n)), (3, .int (nI R)), (4, .int (nI (C + 1)))]) rfl (nI_1 _) (by decide) rfl dX6_goesThrough_94 ?_
                      refine v_goto X (tgt := 49) dX6_goesThrough_97 (by decide) ?_
                      exact ih49 (C + 1) I1 L1 (by omega) (by omega) (by omega) (hG.skip (fun q => h67 q.1)) hFL
                    · refine v_iload X 4 rfl dX6_goesThrough_70 ?_
                      refine v_callS X (c_X6_bits _ _ hE _ _ C (by omega)) k_X6_116 ⟨rfl, rfl, Nat.le_of_ble_eq_true rfl, Nat.le_of_ble_eq_true rfl⟩ (As := [.int (nI C)]) (rest := []) rfl rfl (Nat.le_of_ble_eq_true rfl) dX6_goesThrough_72 (fun r72 I72 L72 hp72 => ?_)
                      obtain ⟨rfl, e1, e2⟩ := hp72
                      have e1 := e1.symm
                      have e2 := e2.symm
                      subst e1; subst e2
                      refine v_st (st' := [.int (nI (pc5 C))]) rfl ?_
                      refine v_iload_n X 2 rfl dX6_goesThrough_75 ?_
                      refine v_icmp_ne_n X (by omega) (by omega) dX6_goesThrough_76 (tgt := 94) (by decide) (fun h76 => ?_) (fun h76 => ?_)
                      · refine v_iinc X [1, 2, 3, 4, 0] 4 (nI (C + 1)) (lv' := [(0, .ref (eA (vE a) 30 0)), (1, .int (nI t)), (2, .int (nI n)), (3, .int (nI R)), (4, .int (nI (C + 1)))]) rfl (nI_1 _) (by decide) rfl dX6_goesThrough_94 ?_
                        refine v_goto X (tgt := 49) dX6_goesThrough_97 (by decide) ?_
                        exact ih49 (C + 1) I1 L1 (by omega) (by omega) (by omega) (hG.skip (fun q => h76 q.2)) hFL
                      · obtain ⟨xb, xn, hGT, hFb, hFn⟩ := id hG
                        have hent : wrt (entM I1 t) R C = wrt (entM I t) R C := by rw [entM_fr hG.fr (by simp)]
                        refine v_aload_n X 0 rfl dX6_goesThrough_79 ?_
                        refine v_iload_n X 3 rfl dX6_goesThrough_80 ?_
                        refine v_iload X 4 rfl dX6_goesThrough_81 ?_
                        refine v_aload_n X 0 rfl dX6_goesThrough_83 ?_
                        refine v_iload_n X 1 rfl dX6_goesThrough_84 ?_
                        refine v_iload_n X 3 rfl dX6_goesThrough_85 ?_
                        refine v_iload X 4 rfl dX6_goesThrough_86 ?_
                        refine v_callV X (c_X6_worthOf _ _ hE _ _ t R C (by omega) (by omega) (by omega) (h67.trans h76.symm)) k_X6_123 dl_30 (cef_30 _ _ _ _) rfl ⟨rfl, rfl, Nat.le_of_ble_eq_true rfl, Nat.le_of_ble_eq_true rfl⟩ (As := [.int (nI t), .int (nI R), .int (nI C)]) (rest := [.int (nI C), .int (nI R), .ref (eA (vE a) 30 0)]) rfl rfl (Nat.le_of_ble_eq_true rfl) dX6_goesThrough_88 (fun r88 I88 L88 hp88 => ?_)
                        obtain ⟨rfl, e1, hL88⟩ := hp88
                        have e1 := e1.symm
                        subst e1
                        refine v_st (st' := [.long (wrt (entM I1 t) R C), .int (nI C), .int (nI R), .ref (eA (vE a) 30 0)]) rfl ?_
                        refine v_callV X (c_X6_counts _ _ hE _ _ I _ _ _ _ _ hGT R C (wrt (entM I1 t) R C)) k_X6_142 dl_30 (cef_30 _ _ _ _) rfl ⟨rfl, rfl, Nat.le_of_ble_eq_true rfl, Nat.le_of_ble_eq_true rfl⟩ (As := [.int (nI R), .int (nI C), .long (wrt (entM I1 t) R C)]) (rest := []) rfl rfl (Nat.le_of_ble_eq_true rfl) dX6_goesThrough_91 (fun r91 I91 L91 hp91 => ?_)
                        obtain ⟨rfl, hcp, e2⟩ := hp91
                        have e2 := e2.symm
                        subst e2
                        refine v_st (st' := []) rfl ?_
                        refine v_iinc X [1, 2, 3, 4, 0] 4 (nI (C + 1)) (lv' := [(0, .ref (eA (vE a) 30 0)), (1, .int (nI t)), (2, .int (nI n)), (3, .int (nI R)), (4, .int (nI (C + 1)))]) rfl (nI_1 _) (by decide) rfl dX6_goesThrough_94 ?_
                        refine v_goto X (tgt := 49) dX6_goesThrough_97 (by decide) ?_
                        exact ih49 (C + 1) I91 L88 (by omega) (by omega) (by omega) (GP.cnt hr5 hc5 hGT hFb hFn hR1 (by omega) hC1 (by omega) h67 h76 hent hcp) (hFL.tr hL88)
              exact loop49 _ 1 I1 L1 (Nat.lt_succ_self _) (by decide) Nat.one_le_two_pow hG hFL
        exact loop34 _ 1 I1 L1 (Nat.lt_succ_self _) (by decide) Nat.one_le_two_pow hG hFL
  exact loop27 _ 1 (upI (upI (upI (upI (upI I 30 0 14 (nI 0)) 30 0 15 (nI 0)) 30 0 16 (nI 0)) 30 0 17 (-1)) 30 0 18 (-1)) L (Nat.lt_succ_self _) (by decide) (by decide) (GP.ini hr5 ⟨((((Fr.rf.up (by simp)).up (by simp)).up (by simp)).up (by simp)).up (by simp), fun x hx => (upI_x (by omega)).trans ((upI_x (by omega)).trans ((upI_x (by omega)).trans ((upI_x (by omega)).trans (upI_x (by omega))))), by simp [upI], by simp [upI], by simp [upI], by simp [upI], by simp [upI]⟩) FL.rf
set_option maxHeartbeats 4000000 in
set_option maxRecDepth 100000 in
theorem c_X6_looks (l : Launch) (E : VE) (hE : EOk E) (I : TI) (L : TL) (t : Nat) (ht : t < 12) (r c : Nat) (hr : I 32 0 t = nI r) (hc : I 33 0 t = nI c) (hr5 : r ≤ 5) (hc5 : c ≤ 5) (hr1 : 1 ≤ r) (hc1 : 1 ≤ c) (b : Nat) (hb : b < 2) : Ct l E yX6_looks cX6_looks 7 (some .int) rm_X6_looks [.ref (eA E 30 0), .int (nI t), .int (nI b)] I L (fun r9 I' L' => r9 = some (.int (nI (looksS (entM I t) b r c))) ∧ I' = I ∧ FL [(42, 0)] L L') := by
  refine ct_of (by decide +kernel) (Nat.le_of_ble_eq_true rfl) hE ?_
  intro a X Y hl hEE
  subst hl; subst hEE
  show V a 0 [(0, .ref (eA (vE a) 30 0)), (1, .int (nI t)), (2, .int (nI b))] [] I L
  refine v_iconst X (v := (nI 0)) dX6_looks_0 (by decide) ?_
  refine v_istore_n X [1, 2, 3, 0] (lv' := [(0, .ref (eA (vE a) 30 0)), (1, .int (nI t)), (2, .int (nI b)), (3, .int (nI 0))]) (by decide) rfl dX6_looks_1 ?_
  refine v_iconst X (v := (nI 1)) dX6_looks_2 (by decide) ?_
  refine v_istore X [1, 2, 3, 4, 0] (lv' := [(0, .ref (eA (vE a) 30 0)), (1, .int (nI t)), (2, .int (nI b)), (3, .int (nI 0)), (4, .int (nI 1))]) (by decide) rfl dX6_looks_3 ?_
  have loop5 : ∀ (fu : Nat) (n : Nat) (k : Nat) (L1 : TL), 7 - n < fu → (1 ≤ n) → (n ≤ min r c + 1) → (FL [(42, 0)] L L1) → (k = sN n (fun n => sN (r + 1 - n) (fun i => sN (c + 1 - n) (fun j => lkS (entM I t) b n i j)))) → V a 5 [(0, .ref (eA (vE a) 30 0)), (1, .int (nI t)), (2, .int (nI b)), (3, .int (nI k)), (4, .int (nI n))] [] I L1 := by
    intro fu
    induction fu with
    | zero => intro n k L1 hm _ _ _ _; exact absurd hm (Nat.not_lt_zero _)
    | succ fu ih5 =>
      intro n k L1 hm5 hn hnm hFL hk
      refine v_iload X 4 rfl dX6_looks_5 ?_
      refine v_aload_n X 0 rfl dX6_looks_7 ?_
      refine gf_X6_13 X dX6_looks_8 ?_
      refine v_iload_n X 1 rfl dX6_looks_11 ?_
      refine v_iald_n X dl_32 (fun _ _ => rfl) (n := 12) (by omega) (by decide) dX6_looks_12 ?_
      refine v_eqi (y := (nI r)) (hr) ?_
      refine v_icmp_gt_n X (by omega) (by omega) dX6_looks_13 (tgt := 128) (by decide) (fun h13 => ?_) (fun h13 => ?_)
      · refine v_iload_n X 3 rfl dX6_looks_128 ?_
        exact v_iret X Y dX6_looks_129 (⟨by rw [hk, show n = min r c + 1 by omega]; rfl, rfl, hFL⟩)
      · refine v_iload X 4 rfl dX6_looks_16 ?_
        refine v_aload_n X 0 rfl dX6_looks_18 ?_
        refine gf_X6_16 X dX6_looks_19 ?_
        refine v_iload_n X 1 rfl dX6_looks_22 ?_
        refine v_iald_n X dl_33 (fun _ _ => rfl) (n := 12) (by omega) (by decide) dX6_looks_23 ?_
        refine v_eqi (y := (nI c)) (hc) ?_
        refine v_icmp_gt_n X (by omega) (by omega) dX6_looks_24 (tgt := 128) (by decide) (fun h24 => ?_) (fun h24 => ?_)
        · refine v_iload_n X 3 rfl dX6_looks_128 ?_
          exact v_iret X Y dX6_looks_129 (⟨by rw [hk, show n = min r c + 1 by omega]; rfl, rfl, hFL⟩)
        · refine v_iconst X (v := (nI 0)) dX6_looks_27 (by decide) ?_
          refine v_istore X [1, 2, 3, 4, 5, 0] (lv' := [(0, .ref (eA (vE a) 30 0)), (1, .int (nI t)), (2, .int (nI b)), (3, .int (nI k)), (4, .int (nI n)), (5, .int (nI 0))]) (by decide) rfl dX6_looks_28 ?_
          have loop30 : ∀ (fu : Nat) (i : Nat) (k1 : Nat) (L1 : TL), 6 - i < fu → (i ≤ r + 1 - n) → (FL [(42, 0)] L L1) → (k1 = k + sN i (fun i => sN (c + 1 - n) (fun j => lkS (entM I t) b n i j))) → V a 30 [(0, .ref (eA (vE a) 30 0)), (1, .int (nI t)), (2, .int (nI b)), (3, .int (nI k1)), (4, .int (nI n)), (5, .int (nI i))] [] I L1 := by
            intro fu
            induction fu with
            | zero => intro i k1 L1 hm _ _ _; exact absurd hm (Nat.not_lt_zero _)
            | succ fu ih30 =>
              intro i k1 L1 hm30 hi hFL hki
              refine v_iload X 5 rfl dX6_looks_30 ?_
              refine v_iload X 4 rfl dX6_looks_32 ?_
              refine v_iadd X dX6_looks_34 ?_
              refine v_eqi (y := (nI (i + n))) (nI_add _ _) ?_
              refine v_aload_n X 0 rfl dX6_looks_35 ?_
              refine gf_X6_13 X dX6_looks_36 ?_
              refine v_iload_n X 1 rfl dX6_looks_39 ?_
              refine v_iald_n X dl_32 (fun _ _ => rfl) (n := 12) (by omega) (by decide) dX6_looks_40 ?_
              refine v_eqi (y := (nI r)) (hr) ?_
              refine v_icmp_gt_n X (by omega) (by omega) dX6_looks_41 (tgt := 122) (by decide) (fun h41 => ?_) (fun h41 => ?_)
              · refine v_iinc X [1, 2, 3, 4, 0, 5] 4 (nI (n + 1)) (lv' := [(0, .ref (eA (vE a) 30 0)), (1, .int (nI t)), (2, .int (nI b)), (3, .int (nI k1)), (4, .int (nI (n + 1))), (5, .int (nI i))]) rfl (nI_1 _) (by decide) rfl dX6_looks_122 ?_
                refine v_goto X (tgt := 5) dX6_looks_125 (by decide) ?_
                refine v_sub [0, 1, 2, 3, 4] (lv' := [(0, .ref (eA (vE a) 30 0)), (1, .int (nI t)), (2, .int (nI b)), (3, .int (nI k1)), (4, .int (nI (n + 1)))]) rfl ?_
                exact ih5 (n + 1) k1 L1 (by omega) (by omega) (by omega) hFL (by rw [hki, show i = r + 1 - n by omega, hk]; rfl)
              · refine v_iconst X (v := (nI 0)) dX6_looks_44 (by decide) ?_
                refine v_istore X [1, 2, 3, 4, 5, 6, 0] (lv' := [(0, .ref (eA (vE a) 30 0)), (1, .int (nI t)), (2, .int (nI b)), (3, .int (nI k1)), (4, .int (nI n)), (5, .int (nI i)), (6, .int (nI 0))]) (by decide) rfl dX6_looks_45 ?_
                have loop47 : ∀ (fu : Nat) (j : Nat) (k2 : Nat) (L1 : TL), 6 - j < fu → (j ≤ c + 1 - n) → (FL [(42, 0)] L L1) → (k2 = k1 + sN j (fun j => lkS (entM I t) b n i j)) → V a 47 [(0, .ref (eA (vE a) 30 0)), (1, .int (nI t)), (2, .int (nI b)), (3, .int (nI k2)), (4, .int (nI n)), (5, .int (nI i)), (6, .int (nI j))] [] I L1 := by
                  intro fu
                  induction fu with
                  | zero => intro j k2 L1 hm _ _ _; exact absurd hm (Nat.not_lt_zero _)
                  | succ fu ih47 =>
                    intro j k2 L1 hm47 hj hFL hkj
                    refine v_iload X 6 rfl dX6_looks_47 ?_
                    refine v_iload X 4 rfl dX6_looks_49 ?_
                    refine v_iadd X dX6_looks_51 ?_
                    refine v_eqi (y := (nI (j + n))) (nI_add _ _) ?_
                    refine v_aload_n X 0 rfl dX6_looks_52 ?_
                    refine gf_X6_16 X dX6_looks_53 ?_
                    refine v_iload_n X 1 rfl dX6_looks_56 ?_
                    refine v_iald_n X dl_33 (fun _ _ => rfl) (n := 12) (by omega) (by decide) dX6_looks_57 ?_
                    refine v_eqi (y := (nI c)) (hc) ?_
                    refine v_icmp_gt_n X (by omega) (by omega) dX6_looks_58 (tgt := 116) (by decide) (fun h58 => ?_) (fun h58 => ?_)
                    · refine v_iinc X [1, 2, 3, 4, 5, 0, 6] 5 (nI (i + 1)) (lv' := [(0, .ref (eA (vE a) 30 0)), (1, .int (nI t)), (2, .int (nI b)), (3, .int (nI k2)), (4, .int (nI n)), (5, .int (nI (i + 1))), (6, .int (nI j))]) rfl (nI_1 _) (by decide) rfl dX6_looks_116 ?_
                      refine v_goto X (tgt := 30) dX6_looks_119 (by decide) ?_
                      refine v_sub [0, 1, 2, 3, 4, 5] (lv' := [(0, .ref (eA (vE a) 30 0)), (1, .int (nI t)), (2, .int (nI b)), (3, .int (nI k2)), (4, .int (nI n)), (5, .int (nI (i + 1)))]) rfl ?_
                      exact ih30 (i + 1) k2 L1 (by omega) (by omega) hFL (by rw [sN_v (f := fun i => sN (c + 1 - n) (fun j => lkS (entM I t) b n i j)) rfl, hkj, show j = c + 1 - n by omega, hki]; exact Nat.add_assoc _ _ _)
                    · refine v_iload X 5 rfl dX6_looks_61 ?_
                      refine v_if_le_n X (by omega) dX6_looks_63 (tgt := 74) (by decide) (fun h63 => ?_) (fun h63 => ?_)
                      · refine v_iload_n X 3 rfl dX6_looks_74 ?_
                        refine v_iload_n X 2 rfl dX6_looks_75 ?_
                        refine v_if_eq_n X (by omega) dX6_looks_76 (tgt := 103) (by decide) (fun h76 => ?_) (fun h76 => ?_)
                        · refine v_iconst X (v := (nI 1)) dX6_looks_103 (by decide) ?_
                          refine v_goto X (tgt := 108) dX6_looks_104 (by decide) ?_
                          refine v_iadd X dX6_looks_108 ?_
                          refine v_eqi (y := (nI (k2 + 1))) (nI_add _ _) ?_
                          refine v_istore_n X [1, 2, 3, 0, 4, 5, 6] (lv' := [(0, .ref (eA (vE a) 30 0)), (1, .int (nI t)), (2, .int (nI b)), (3, .int (nI (k2 + 1))), (4, .int (nI n)), (5, .int (nI i)), (6, .int (nI j))]) (by decide) rfl dX6_looks_109 ?_
                          refine v_iinc X [1, 2, 3, 4, 5, 6, 0] 6 (nI (j + 1)) (lv' := [(0, .ref (eA (vE a) 30 0)), (1, .int (nI t)), (2, .int (nI b)), (3, .int (nI (k2 + 1))), (4, .int (nI n)), (5, .int (nI i)), (6, .int (nI (j + 1)))]) rfl (nI_1 _) (by decide) rfl dX6_looks_110 ?_
                          refine v_goto X (tgt := 47) dX6_looks_113 (by decide) ?_
                          have hone : lkS (entM I t) b n i j = 1 := if_pos ⟨hn, (by omega), Or.inl h76⟩
                          exact ih47 (j + 1) (k2 + 1) L1 (by omega) (by omega) hFL (by rw [sN_v (f := fun j => lkS (entM I t) b n i j) hone, hkj]; rfl)
                        · have hsi := spn_ok hr5 hn (show i + n ≤ r by omega)
                          have hsj := spn_ok hc5 hn (show j + n ≤ c by omega)
                          have hsi2 := hsi.2.2
                          have hsj2 := hsj.2.2
                          refine v_aload_n X 0 rfl dX6_looks_79 ?_
                          refine v_iload_n X 1 rfl dX6_looks_80 ?_
                          refine v_iload X 5 rfl dX6_looks_81 ?_
                          refine v_iload X 4 rfl dX6_looks_83 ?_
                          refine v_callS X (c_X6_span _ _ hE _ _ i n (by omega) (by omega)) k_X6_146 ⟨rfl, rfl, Nat.le_of_ble_eq_true rfl, Nat.le_of_ble_eq_true rfl⟩ (As := [.int (nI i), .int (nI n)]) (rest := [.int (nI t), .ref (eA (vE a) 30 0), .int (nI k2)]) rfl rfl (Nat.le_of_ble_eq_true rfl) dX6_looks_85 (fun r85 I85 L85 hp85 => ?_)
                          obtain ⟨rfl, e1, e2⟩ := hp85
                          have e1 := e1.symm
                          have e2 := e2.symm
                          subst e1; subst e2
                          refine v_st (st' := [.int (nI (spn i n)), .int (nI t), .ref (eA (vE a) 30 0), .int (nI k2)]) rfl ?_
                          refine v_iload X 6 rfl dX6_looks_88 ?_
                          refine v_iload X 4 rfl dX6_looks_90 ?_
                          refine v_callS X (c_X6_span _ _ hE _ _ j n (by omega) (by omega)) k_X6_146 ⟨rfl, rfl, Nat.le_of_ble_eq_true rfl, Nat.le_of_ble_eq_true rfl⟩ (As := [.int (nI j), .int (nI n)]) (rest := [.int (nI (spn i n)), .int (nI t), .ref (eA (vE a) 30 0), .int (nI k2)]) rfl rfl (Nat.le_of_ble_eq_true rfl) dX6_looks_92 (fun r92 I92 L92 hp92 => ?_)
                          obtain ⟨rfl, e1, e2⟩ := hp92
                          have e1 := e1.symm
                          have e2 := e2.symm
                          subst e1; subst e2
                          refine v_st (st' := [.int (nI (spn j n)), .int (nI (spn i n)), .int (nI t), .ref (eA (vE a) 30 0), .int (nI k2)]) rfl ?_
                          refine v_callV X (c_X6_worthOf _ _ hE _ _ t (spn i n) (spn j n) (by omega) (by omega) (by omega) (hsi.2.1.trans hsj.2.1.symm)) k_X6_123 dl_30 (cef_30 _ _ _ _) rfl ⟨rfl, rfl, Nat.le_of_ble_eq_true rfl, Nat.le_of_ble_eq_true rfl⟩ (As := [.int (nI t), .int (nI (spn i n)), .int (nI (spn j n))]) (rest := [.int (nI k2)]) rfl rfl (Nat.le_of_ble_eq_true rfl) dX6_looks_95 (fun r95 I95 L95 hp95 => ?_)
                          obtain ⟨rfl, e1, hL95⟩ := hp95
                          have e1 := e1.symm
                          subst e1
                          refine v_st (st' := [.long (wrt (entM I t) (spn i n) (spn j n)), .int (nI k2)]) rfl ?_
                          refine v_lconst X (v := 0) dX6_looks_98 rfl ?_
                          refine v_lcmp_le X dX6_looks_99 dX6_looks_100 (tgt := 107) (by decide) (fun h99 => ?_) (fun h99 => ?_)
                          · refine v_iconst X (v := (nI 0)) dX6_looks_107 (by decide) ?_
                            refine v_iadd X dX6_looks_108 ?_
                            refine v_eqi (y := (nI (k2 + 0))) (nI_add _ _) ?_
                            refine v_istore_n X [1, 2, 3, 0, 4, 5, 6] (lv' := [(0, .ref (eA (vE a) 30 0)), (1, .int (nI t)), (2, .int (nI b)), (3, .int (nI (k2 + 0))), (4, .int (nI n)), (5, .int (nI i)), (6, .int (nI j))]) (by decide) rfl dX6_looks_109 ?_
                            refine v_iinc X [1, 2, 3, 4, 5, 6, 0] 6 (nI (j + 1)) (lv' := [(0, .ref (eA (vE a) 30 0)), (1, .int (nI t)), (2, .int (nI b)), (3, .int (nI (k2 + 0))), (4, .int (nI n)), (5, .int (nI i)), (6, .int (nI (j + 1)))]) rfl (nI_1 _) (by decide) rfl dX6_looks_110 ?_
                            refine v_goto X (tgt := 47) dX6_looks_113 (by decide) ?_
                            have hone : lkS (entM I t) b n i j = 0 := if_neg (fun q => q.2.2.elim (fun z => by omega) (fun z => absurd z (Int64.not_lt.mpr h99)))
                            exact ih47 (j + 1) (k2 + 0) L95 (by omega) (by omega) (hFL.tr hL95) (by rw [sN_v (f := fun j => lkS (entM I t) b n i j) hone, hkj]; rfl)
                          · refine v_iconst X (v := (nI 1)) dX6_looks_103 (by decide) ?_
                            refine v_goto X (tgt := 108) dX6_looks_104 (by decide) ?_
                            refine v_iadd X dX6_looks_108 ?_
                            refine v_eqi (y := (nI (k2 + 1))) (nI_add _ _) ?_
                            refine v_istore_n X [1, 2, 3, 0, 4, 5, 6] (lv' := [(0, .ref (eA (vE a) 30 0)), (1, .int (nI t)), (2, .int (nI b)), (3, .int (nI (k2 + 1))), (4, .int (nI n)), (5, .int (nI i)), (6, .int (nI j))]) (by decide) rfl dX6_looks_109 ?_
                            refine v_iinc X [1, 2, 3, 4, 5, 6, 0] 6 (nI (j + 1)) (lv' := [(0, .ref (eA (vE a) 30 0)), (1, .int (nI t)), (2, .int (nI b)), (3, .int (nI (k2 + 1))), (4, .int (nI n)), (5, .int (nI i)), (6, .int (nI (j + 1)))]) rfl (nI_1 _) (by decide) rfl dX6_looks_110 ?_
                            refine v_goto X (tgt := 47) dX6_looks_113 (by decide) ?_
                            have hone : lkS (entM I t) b n i j = 1 := if_pos ⟨hn, (by omega), Or.inr (Int64.not_le.mp h99)⟩
                            exact ih47 (j + 1) (k2 + 1) L95 (by omega) (by omega) (hFL.tr hL95) (by rw [sN_v (f := fun j => lkS (entM I t) b n i j) hone, hkj]; rfl)
                      · refine v_iload X 6 rfl dX6_looks_66 ?_
                        refine v_if_le_n X (by omega) dX6_looks_68 (tgt := 74) (by decide) (fun h68 => ?_) (fun h68 => ?_)
                        · refine v_iload_n X 3 rfl dX6_looks_74 ?_
                          refine v_iload_n X 2 rfl dX6_looks_75 ?_
                          refine v_if_eq_n X (by omega) dX6_looks_76 (tgt := 103) (by decide) (fun h76 => ?_) (fun h76 => ?_)
                          · refine v_iconst X (v := (nI 1)) dX6_looks_103 (by decide) ?_
                            refine v_goto X (tgt := 108) dX6_looks_104 (by decide) ?_
                            refine v_iadd X dX6_looks_108 ?_
                            refine v_eqi (y := (nI (k2 + 1))) (nI_add _ _) ?_
                            refine v_istore_n X [1, 2, 3, 0, 4, 5, 6] (lv' := [(0, .ref (eA (vE a) 30 0)), (1, .int (nI t)), (2, .int (nI b)), (3, .int (nI (k2 + 1))), (4, .int (nI n)), (5, .int (nI i)), (6, .int (nI j))]) (by decide) rfl dX6_looks_109 ?_
                            refine v_iinc X [1, 2, 3, 4, 5, 6, 0] 6 (nI (j + 1)) (lv' := [(0, .ref (eA (vE a) 30 0)), (1, .int (nI t)), (2, .int (nI b)), (3, .int (nI (k2 + 1))), (4, .int (nI n)), (5, .int (nI i)), (6, .int (nI (j + 1)))]) rfl (nI_1 _) (by decide) rfl dX6_looks_110 ?_
                            refine v_goto X (tgt := 47) dX6_looks_113 (by decide) ?_
                            have hone : lkS (entM I t) b n i j = 1 := if_pos ⟨hn, (by omega), Or.inl h76⟩
                            exact ih47 (j + 1) (k2 + 1) L1 (by omega) (by omega) hFL (by rw [sN_v (f := fun j => lkS (entM I t) b n i j) hone, hkj]; rfl)
                          · have hsi := spn_ok hr5 hn (show i + n ≤ r by omega)
                            have hsj := spn_ok hc5 hn (show j + n ≤ c by omega)
                            have hsi2 := hsi.2.2
                            have hsj2 := hsj.2.2
                            refine v_aload_n X 0 rfl dX6_looks_79 ?_
                            refine v_iload_n X 1 rfl dX6_looks_80 ?_
                            refine v_iload X 5 rfl dX6_looks_81 ?_
                            refine v_iload X 4 rfl dX6_looks_83 ?_
                            refine v_callS X (c_X6_span _ _ hE _ _ i n (by omega) (by omega)) k_X6_146 ⟨rfl, rfl, Nat.le_of_ble_eq_true rfl, Nat.le_of_ble_eq_true rfl⟩ (As := [.int (nI i), .int (nI n)]) (rest := [.int (nI t), .ref (eA (vE a) 30 0), .int (nI k2)]) rfl rfl (Nat.le_of_ble_eq_true rfl) dX6_looks_85 (fun r85 I85 L85 hp85 => ?_)
                            obtain ⟨rfl, e1, e2⟩ := hp85
                            have e1 := e1.symm
                            have e2 := e2.symm
                            subst e1; subst e2
                            refine v_st (st' := [.int (nI (spn i n)), .int (nI t), .ref (eA (vE a) 30 0), .int (nI k2)]) rfl ?_
                            refine v_iload X 6 rfl dX6_looks_88 ?_
                            refine v_iload X 4 rfl dX6_looks_90 ?_
                            refine v_callS X (c_X6_span _ _ hE _ _ j n (by omega) (by omega)) k_X6_146 ⟨rfl, rfl, Nat.le_of_ble_eq_true rfl, Nat.le_of_ble_eq_true rfl⟩ (As := [.int (nI j), .int (nI n)]) (rest := [.int (nI (spn i n)), .int (nI t), .ref (eA (vE a) 30 0), .int (nI k2)]) rfl rfl (Nat.le_of_ble_eq_true rfl) dX6_looks_92 (fun r92 I92 L92 hp92 => ?_)
                            obtain ⟨rfl, e1, e2⟩ := hp92
                            have e1 := e1.symm
                            have e2 := e2.symm
                            subst e1; subst e2
                            refine v_st (st' := [.int (nI (spn j n)), .int (nI (spn i n)), .int (nI t), .ref (eA (vE a) 30 0), .int (nI k2)]) rfl ?_
                            refine v_callV X (c_X6_worthOf _ _ hE _ _ t (spn i n) (spn j n) (by omega) (by omega) (by omega) (hsi.2.1.trans hsj.2.1.symm)) k_X6_123 dl_30 (cef_30 _ _ _ _) rfl ⟨rfl, rfl, Nat.le_of_ble_eq_true rfl, Nat.le_of_ble_eq_true rfl⟩ (As := [.int (nI t), .int (nI (spn i n)), .int (nI (spn j n))]) (rest := [.int (nI k2)]) rfl rfl (Nat.le_of_ble_eq_true rfl) dX6_looks_95 (fun r95 I95 L95 hp95 => ?_)
                            obtain ⟨rfl, e1, hL95⟩ := hp95
                            have e1 := e1.symm
                            subst e1
                            refine v_st (st' := [.long (wrt (entM I t) (spn i n) (spn j n)), .int (nI k2)]) rfl ?_
                            refine v_lconst X (v := 0) dX6_looks_98 rfl ?_
                            refine v_lcmp_le X dX6_looks_99 dX6_looks_100 (tgt := 107) (by decide) (fun h99 => ?_) (fun h99 => ?_)
                            · refine v_iconst X (v := (nI 0)) dX6_looks_107 (by decide) ?_
                              refine v_iadd X dX6_looks_108 ?_
                              refine v_eqi (y := (nI (k2 + 0))) (nI_add _ _) ?_
                              refine v_istore_n X [1, 2, 3, 0, 4, 5, 6] (lv' := [(0, .ref (eA (vE a) 30 0)), (1, .int (nI t)), (2, .int (nI b)), (3, .int (nI (k2 + 0))), (4, .int (nI n)), (5, .int (nI i)), (6, .int (nI j))]) (by decide) rfl dX6_looks_109 ?_
                              refine v_iinc X [1, 2, 3, 4, 5, 6, 0] 6 (nI (j + 1)) (lv' := [(0, .ref (eA (vE a) 30 0)), (1, .int (nI t)), (2, .int (nI b)), (3, .int (nI (k2 + 0))), (4, .int (nI n)), (5, .int (nI i)), (6, .int (nI (j + 1)))]) rfl (nI_1 _) (by decide) rfl dX6_looks_110 ?_
                              refine v_goto X (tgt := 47) dX6_looks_113 (by decide) ?_
                              have hone : lkS (entM I t) b n i j = 0 := if_neg (fun q => q.2.2.elim (fun z => by omega) (fun z => absurd z (Int64.not_lt.mpr h99)))
                              exact ih47 (j + 1) (k2 + 0) L95 (by omega) (by omega) (hFL.tr hL95) (by rw [sN_v (f := fun j => lkS (entM I t) b n i j) hone, hkj]; rfl)
                            · refine v_iconst X (v := (nI 1)) dX6_looks_103 (by decide) ?_
                              refine v_goto X (tgt := 108) dX6_looks_104 (by decide) ?_
                              refine v_iadd X dX6_looks_108 ?_
                              refine v_eqi (y := (nI (k2 + 1))) (nI_add _ _) ?_
                              refine v_istore_n X [1, 2, 3, 0, 4, 5, 6] (lv' := [(0, .ref (eA (vE a) 30 0)), (1, .int (nI t)), (2, .int (nI b)), (3, .int (nI (k2 + 1))), (4, .int (nI n)), (5, .int (nI i)), (6, .int (nI j))]) (by decide) rfl dX6_looks_109 ?_
                              refine v_iinc X [1, 2, 3, 4, 5, 6, 0] 6 (nI (j + 1)) (lv' := [(0, .ref (eA (vE a) 30 0)), (1, .int (nI t)), (2, .int (nI b)), (3, .int (nI (k2 + 1))), (4, .int (nI n)), (5, .int (nI i)), (6, .int (nI (j + 1)))]) rfl (nI_1 _) (by decide) rfl dX6_looks_110 ?_
                              refine v_goto X (tgt := 47) dX6_looks_113 (by decide) ?_
                              have hone : lkS (entM I t) b n i j = 1 := if_pos ⟨hn, (by omega), Or.inr (Int64.not_le.mp h99)⟩
                              exact ih47 (j + 1) (k2 + 1) L95 (by omega) (by omega) (hFL.tr hL95) (by rw [sN_v (f := fun j => lkS (entM I t) b n i j) hone, hkj]; rfl)
                        · refine v_goto X (tgt := 110) dX6_looks_71 (by decide) ?_
                          refine v_iinc X [1, 2, 3, 4, 5, 6, 0] 6 (nI (j + 1)) (lv' := [(0, .ref (eA (vE a) 30 0)), (1, .int (nI t)), (2, .int (nI b)), (3, .int (nI k2)), (4, .int (nI n)), (5, .int (nI i)), (6, .int (nI (j + 1)))]) rfl (nI_1 _) (by decide) rfl dX6_looks_110 ?_
                          refine v_goto X (tgt := 47) dX6_looks_113 (by decide) ?_
                          have hone : lkS (entM I t) b n i j = 0 := if_neg (fun q => by have := q.2.1; omega)
                          exact ih47 (j + 1) k2 L1 (by omega) (by omega) hFL (by rw [sN_v (f := fun j => lkS (entM I t) b n i j) hone, hkj]; rfl)
                exact loop47 _ 0 k1 L1 (Nat.lt_succ_self _) (Nat.zero_le _) hFL rfl
          exact loop30 _ 0 k L1 (Nat.lt_succ_self _) (Nat.zero_le _) hFL rfl
  exact loop5 _ 1 0 L (Nat.lt_succ_self _) (by decide) (by omega) FL.rf (by rw [sN_v (f := fun n => sN (r + 1 - n) (fun i => sN (c + 1 - n) (fun j => lkS (entM I t) b n i j))) (lkS_0 _ _ _ _)]; rfl)
set_option maxHeartbeats 4000000 in
set_option maxRecDepth 100000 in
theorem c_X6_look (l : Launch) (E : VE) (hE : EOk E) (I : TI) (L : TL) (c : Nat) (ro co : Nat → Nat) (hT : MT I c ro co) (x what : Int32) : Ct l E yX6_look cX6_look 3 (some .int) rm_X6_look [.ref (eA E 30 0), .int x, .int what] I L (fun r I' L' => (¬ isT c x ∧ MEF I I' r 3 ∧ L' = L) ∨ (∃ t, t < c ∧ x = nI t ∧ (∀ k, k < 8 → what = nI k → lookM I I' L L' r t (ro t) (co t) k) ∧ ((∀ k, k < 8 → what ≠ nI k) → MEF I I' r 7 ∧ L' = L))) := by
  refine ct_of (by decide +kernel) (Nat.le_of_ble_eq_true rfl) hE ?_
  intro a X Y hl hEE
  subst hl; subst hEE
  show V a 0 [(0, .ref (eA (vE a) 30 0)), (1, .int x), (2, .int what)] [] I L
  refine v_aload_n X 0 rfl dX6_look_0 ?_
  refine v_iload_n X 1 rfl dX6_look_1 ?_
  refine v_callV X (c_X6_isTable _ _ hE _ _ c (hT.1) x) k_X6_98 dl_30 (cef_30 _ _ _ _) rfl ⟨rfl, rfl, Nat.le_of_ble_eq_true rfl, Nat.le_of_ble_eq_true rfl⟩ (As := [.int x]) (rest := []) rfl rfl (Nat.le_of_ble_eq_true rfl) dX6_look_2 (fun r2 I2 L2 hp2 => ?_)
  obtain ⟨rfl, e1, e2⟩ := hp2
  have e1 := e1.symm
  have e2 := e2.symm
  subst e1; subst e2
  refine v_st (st' := [.int (bI (inR c x))]) rfl ?_
  refine v_ifb_ne X dX6_look_5 (tgt := 15) (by decide) (fun h5 => ?_) (fun h5 => ?_)
  · obtain ⟨t, htt, rfl⟩ := inR_of (by have := hT.2.1; omega) h5
    have hc12 := hT.2.1
    obtain ⟨hrt, hct, hr1t, hr5t, hc1t, hc5t⟩ := hT.2.2 t htt
    have ht12t : t < 12 := by omega
    refine v_iload_n X 2 rfl dX6_look_15 ?_
    refine v_bipush X (v := (nI 7)) dX6_look_16 (by decide) ?_
    refine v_icmp_ne X dX6_look_18 (tgt := 38) (by decide) (fun h18 => ?_) (fun h18 => ?_)
    · refine v_iload_n X 2 rfl dX6_look_38 ?_
      rcases tsw what (n := 7) (m := 7) rfl (by decide) with ⟨k, hk, rfl⟩ | ⟨hout, hno⟩
      · rcases (show k = 0 ∨ k = 1 ∨ k = 2 ∨ k = 3 ∨ k = 4 ∨ k = 5 ∨ k = 6 ∨ k = 7 by omega) with rfl | rfl | rfl | rfl | rfl | rfl | rfl | rfl
        · refine v_tableIn X dX6_look_39 (by decide) (by decide) (off := 45) rfl (tgt := 84) (by decide) ?_
          refine v_aload_n X 0 rfl dX6_look_84 ?_
          refine gf_X6_19 X dX6_look_85 ?_
          refine v_iload_n X 1 rfl dX6_look_88 ?_
          refine v_iald_n X dl_34 (fun _ _ => rfl) (n := 12) (by omega) (by decide) dX6_look_89 ?_
          exact v_iret X Y dX6_look_90 (Or.inr ⟨t, htt, rfl, fun k hk e => by
                have e := (nI_eq (by decide) (by omega)).mp e
                subst e
                exact ⟨rfl, rfl, rfl⟩, fun h => absurd rfl (h 0 (by decide))⟩)
        · refine v_tableIn X dX6_look_39 (by decide) (by decide) (off := 52) rfl (tgt := 91) (by decide) ?_
          refine v_aload_n X 0 rfl dX6_look_91 ?_
          refine gf_X6_13 X dX6_look_92 ?_
          refine v_iload_n X 1 rfl dX6_look_95 ?_
          refine v_iald_n X dl_32 (fun _ _ => rfl) (n := 12) (by omega) (by decide) dX6_look_96 ?_
          refine v_eqi (y := (nI (ro t))) (hrt) ?_
          exact v_iret X Y dX6_look_97 (Or.inr ⟨t, htt, rfl, fun k hk e => by
                have e := (nI_eq (by decide) (by omega)).mp e
                subst e
                exact ⟨rfl, rfl, rfl⟩, fun h => absurd rfl (h 1 (by decide))⟩)
        · refine v_tableIn X dX6_look_39 (by decide) (by decide) (off := 59) rfl (tgt := 98) (by decide) ?_
          refine v_aload_n X 0 rfl dX6_look_98 ?_
          refine gf_X6_16 X dX6_look_99 ?_
          refine v_iload_n X 1 rfl dX6_look_102 ?_
          refine v_iald_n X dl_33 (fun _ _ => rfl) (n := 12) (by omega) (by decide) dX6_look_103 ?_
          refine v_eqi (y := (nI (co t))) (hct) ?_
          exact v_iret X Y dX6_look_104 (Or.inr ⟨t, htt, rfl, fun k hk e => by
                have e := (nI_eq (by decide) (by omega)).mp e
                subst e
                exact ⟨rfl, rfl, rfl⟩, fun h => absurd rfl (h 2 (by decide))⟩)
        · refine v_tableIn X dX6_look_39 (by decide) (by decide) (off := 66) rfl (tgt := 105) (by decide) ?_
          refine v_aload_n X 0 rfl dX6_look_105 ?_
          refine v_iload_n X 1 rfl dX6_look_106 ?_
          refine v_callV X (c_X6_goesThrough _ _ hE _ _ t ht12t (ro t) (co t) hrt hct hr5t hc5t) k_X6_150 dl_30 (cef_30 _ _ _ _) rfl ⟨rfl, rfl, Nat.le_of_ble_eq_true rfl, Nat.le_of_ble_eq_true rfl⟩ (As := [.int (nI t)]) (rest := []) rfl rfl (Nat.le_of_ble_eq_true rfl) dX6_look_107 (fun r107 I107 L107 hp107 => ?_)
          obtain ⟨rfl, hGE107, hL107⟩ := hp107
          have hbb := manyS_le (a := entM I t) (s := -1) hr5t hc5t
          have hbn := manyS_le (a := entM I t) (s := 0) hr5t hc5t
          refine v_st (st' := []) rfl ?_
          refine v_aload_n X 0 rfl dX6_look_110 ?_
          refine gf_X6_127 X dX6_look_111 ?_
          refine v_eqi (y := (nI (manyS (entM I t) (-1) (ro t) (co t)))) (hGE107.2.2.1) ?_
          refine v_if_ne_n X (by omega) dX6_look_114 (tgt := 121) (by decide) (fun h114 => ?_) (fun h114 => ?_)
          · refine v_iconst X (v := (nI 0)) dX6_look_121 (by decide) ?_
            exact v_iret X Y dX6_look_122 (Or.inr ⟨t, htt, rfl, fun k hk e => by
                  have e := (nI_eq (by decide) (by omega)).mp e
                  subst e
                  exact ⟨⟨hGE107.1, hGE107.2.1, hL107⟩, _, hGE107.2.2.2.2.2.1, sel_f (fun z => by have := (fl_many0 hr5t hc5t hGE107.2.2.2.2.2.1).mp z; omega)⟩, fun h => absurd rfl (h 3 (by decide))⟩)
          · refine v_iconst X (v := (nI 1)) dX6_look_117 (by decide) ?_
            refine v_goto X (tgt := 122) dX6_look_118 (by decide) ?_
            exact v_iret X Y dX6_look_122 (Or.inr ⟨t, htt, rfl, fun k hk e => by
                  have e := (nI_eq (by decide) (by omega)).mp e
                  subst e
                  exact ⟨⟨hGE107.1, hGE107.2.1, hL107⟩, _, hGE107.2.2.2.2.2.1, sel_t ((fl_many0 hr5t hc5t hGE107.2.2.2.2.2.1).mpr h114)⟩, fun h => absurd rfl (h 3 (by decide))⟩)
        · refine v_tableIn X dX6_look_39 (by decide) (by decide) (off := 84) rfl (tgt := 123) (by decide) ?_
          refine v_aload_n X 0 rfl dX6_look_123 ?_
          refine v_iload_n X 1 rfl dX6_look_124 ?_
          refine v_callV X (c_X6_goesThrough _ _ hE _ _ t ht12t (ro t) (co t) hrt hct hr5t hc5t) k_X6_150 dl_30 (cef_30 _ _ _ _) rfl ⟨rfl, rfl, Nat.le_of_ble_eq_true rfl, Nat.le_of_ble_eq_true rfl⟩ (As := [.int (nI t)]) (rest := []) rfl rfl (Nat.le_of_ble_eq_true rfl) dX6_look_125 (fun r125 I125 L125 hp125 => ?_)
          obtain ⟨rfl, hGE125, hL125⟩ := hp125
          have hbb := manyS_le (a := entM I t) (s := -1) hr5t hc5t
          have hbn := manyS_le (a := entM I t) (s := 0) hr5t hc5t
          refine v_st (st' := []) rfl ?_
          refine v_aload_n X 0 rfl dX6_look_128 ?_
          refine gf_X6_127 X dX6_look_129 ?_
          refine v_eqi (y := (nI (manyS (entM I t) (-1) (ro t) (co t)))) (hGE125.2.2.1) ?_
          refine v_aload_n X 0 rfl dX6_look_132 ?_
          refine gf_X6_130 X dX6_look_133 ?_
          refine v_eqi (y := (nI (manyS (entM I t) (0) (ro t) (co t)))) (hGE125.2.2.2.1) ?_
          refine v_iadd X dX6_look_136 ?_
          refine v_eqi (y := (nI ((manyS (entM I t) (-1) (ro t) (co t)) + (manyS (entM I t) (0) (ro t) (co t))))) (nI_add _ _) ?_
          refine v_if_ne_n X (by omega) dX6_look_137 (tgt := 144) (by decide) (fun h137 => ?_) (fun h137 => ?_)
          · refine v_iconst X (v := (nI 0)) dX6_look_144 (by decide) ?_
            exact v_iret X Y dX6_look_145 (Or.inr ⟨t, htt, rfl, fun k hk e => by
                  have e := (nI_eq (by decide) (by omega)).mp e
                  subst e
                  exact ⟨⟨hGE125.1, hGE125.2.1, hL125⟩, _, hGE125.2.2.2.2.2.2, sel_f (fun z => by have := (fl_many1 hr5t hc5t hGE125.2.2.2.2.2.2).mp z; omega)⟩, fun h => absurd rfl (h 4 (by decide))⟩)
          · refine v_iconst X (v := (nI 1)) dX6_look_140 (by decide) ?_
            refine v_goto X (tgt := 145) dX6_look_141 (by decide) ?_
            exact v_iret X Y dX6_look_145 (Or.inr ⟨t, htt, rfl, fun k hk e => by
                  have e := (nI_eq (by decide) (by omega)).mp e
                  subst e
                  exact ⟨⟨hGE125.1, hGE125.2.1, hL125⟩, _, hGE125.2.2.2.2.2.2, sel_t ((fl_many1 hr5t hc5t hGE125.2.2.2.2.2.2).mpr h137)⟩, fun h => absurd rfl (h 4 (by decide))⟩)
        · refine v_tableIn X dX6_look_39 (by decide) (by decide) (off := 107) rfl (tgt := 146) (by decide) ?_
          refine v_aload_n X 0 rfl dX6_look_146 ?_
          refine v_iload_n X 1 rfl dX6_look_147 ?_
          refine v_iload_n X 2 rfl dX6_look_148 ?_
          refine v_bipush X (v := (nI 6)) dX6_look_149 (by decide) ?_
          refine v_icmp_ne_n X (by omega) (by omega) dX6_look_151 (tgt := 158) (by decide) (fun h151 => ?_) (fun h151 => ?_)
          · refine v_iconst X (v := (nI 0)) dX6_look_158 (by decide) ?_
            refine v_callV X (c_X6_looks _ _ hE _ _ t ht12t (ro t) (co t) hrt hct hr5t hc5t hr1t hc1t 0 (by decide)) k_X6_154 dl_30 (cef_30 _ _ _ _) rfl ⟨rfl, rfl, Nat.le_of_ble_eq_true rfl, Nat.le_of_ble_eq_true rfl⟩ (As := [.int (nI t), .int (nI 0)]) (rest := []) rfl rfl (Nat.le_of_ble_eq_true rfl) dX6_look_159 (fun r159 I159 L159 hp159 => ?_)
            obtain ⟨rfl, e1, hL159⟩ := hp159
            have e1 := e1.symm
            subst e1
            refine v_st (st' := [.int (nI (looksS (entM I t) 0 (ro t) (co t)))]) rfl ?_
            exact v_iret X Y dX6_look_162 (Or.inr ⟨t, htt, rfl, fun k hk e => by
                  have e := (nI_eq (by decide) (by omega)).mp e
                  subst e
                  exact ⟨⟨Fr.rf, fun _ _ => rfl, hL159⟩, rfl⟩, fun h => absurd rfl (h 5 (by decide))⟩)
          · exact absurd h151 (by decide)
        · refine v_tableIn X dX6_look_39 (by decide) (by decide) (off := 107) rfl (tgt := 146) (by decide) ?_
          refine v_aload_n X 0 rfl dX6_look_146 ?_
          refine v_iload_n X 1 rfl dX6_look_147 ?_
          refine v_iload_n X 2 rfl dX6_look_148 ?_
          refine v_bipush X (v := (nI 6)) dX6_look_149 (by decide) ?_
          refine v_icmp_ne_n X (by omega) (by omega) dX6_look_151 (tgt := 158) (by decide) (fun h151 => ?_) (fun h151 => ?_)
          · exact absurd rfl h151
          · refine v_iconst X (v := (nI 1)) dX6_look_154 (by decide) ?_
            refine v_goto X (tgt := 159) dX6_look_155 (by decide) ?_
            refine v_callV X (c_X6_looks _ _ hE _ _ t ht12t (ro t) (co t) hrt hct hr5t hc5t hr1t hc1t 1 (by decide)) k_X6_154 dl_30 (cef_30 _ _ _ _) rfl ⟨rfl, rfl, Nat.le_of_ble_eq_true rfl, Nat.le_of_ble_eq_true rfl⟩ (As := [.int (nI t), .int (nI 1)]) (rest := []) rfl rfl (Nat.le_of_ble_eq_true rfl) dX6_look_159 (fun r159 I159 L159 hp159 => ?_)
            obtain ⟨rfl, e1, hL159⟩ := hp159
            have e1 := e1.symm
            subst e1
            refine v_st (st' := [.int (nI (looksS (entM I t) 1 (ro t) (co t)))]) rfl ?_
            exact v_iret X Y dX6_look_162 (Or.inr ⟨t, htt, rfl, fun k hk e => by
                  have e := (nI_eq (by decide) (by omega)).mp e
                  subst e
                  exact ⟨⟨Fr.rf, fun _ _ => rfl, hL159⟩, rfl⟩, fun h => absurd rfl (h 6 (by decide))⟩)
        · exact absurd rfl h18
      · refine v_tableOut X dX6_look_39 hout (tgt := 170) (by decide) ?_
        refine v_aload_n X 0 rfl dX6_look_170 ?_
        refine v_bipush X (v := (-7)) dX6_look_171 (by decide) ?_
        refine v_callV X (c_X6_no _ _ hE _ _ 7 (by decide) (by decide)) k_X6_80 dl_30 (cef_30 _ _ _ _) rfl ⟨rfl, rfl, Nat.le_of_ble_eq_true rfl, Nat.le_of_ble_eq_true rfl⟩ (As := [.int (-7)]) (rest := []) rfl rfl (Nat.le_of_ble_eq_true rfl) dX6_look_173 (fun r173 I173 L173 hp173 => ?_)
        obtain ⟨rfl, e1, e2⟩ := hp173
        have e1 := e1.symm
        have e2 := e2.symm
        subst e1; subst e2
        refine v_st (st' := [.int (-7)]) rfl ?_
        exact v_iret X Y dX6_look_176 (Or.inr ⟨t, htt, rfl, fun k hk e => absurd e (hno k (by omega)), fun _ => ⟨⟨rfl, rfl⟩, rfl⟩⟩)
    · subst h18
      refine v_aload_n X 0 rfl dX6_look_21 ?_
      refine gf_X6_19 X dX6_look_22 ?_
      refine v_iload_n X 1 rfl dX6_look_25 ?_
      refine v_iald_n X dl_34 (fun _ _ => rfl) (n := 12) (by omega) (by decide) dX6_look_26 ?_
      refine v_iconst X (v := (nI 1)) dX6_look_27 (by decide) ?_
      refine v_icmp_eq X dX6_look_28 (tgt := 38) (by decide) (fun h28 => ?_) (fun h28 => ?_)
      · refine v_iload_n X 2 rfl dX6_look_38 ?_
        refine v_tableIn X dX6_look_39 (by decide) (by decide) (off := 124) rfl (tgt := 163) (by decide) ?_
        refine v_aload_n X 0 rfl dX6_look_163 ?_
        refine gf_X6_22 X dX6_look_164 ?_
        refine v_iload_n X 1 rfl dX6_look_167 ?_
        refine v_iald_n X dl_35 (fun _ _ => rfl) (n := 12) (by omega) (by decide) dX6_look_168 ?_
        exact v_iret X Y dX6_look_169 (Or.inr ⟨t, htt, rfl, fun k hk e => by
              have e := (nI_eq (by decide) (by omega)).mp e
              subst e
              exact ⟨Or.inl ⟨h28, rfl, rfl⟩, rfl⟩, fun h => absurd rfl (h 7 (by decide))⟩)
      · refine v_aload_n X 0 rfl dX6_look_31 ?_
        refine v_bipush X (v := (-5)) dX6_look_32 (by decide) ?_
        refine v_callV X (c_X6_no _ _ hE _ _ 5 (by decide) (by decide)) k_X6_80 dl_30 (cef_30 _ _ _ _) rfl ⟨rfl, rfl, Nat.le_of_ble_eq_true rfl, Nat.le_of_ble_eq_true rfl⟩ (As := [.int (-5)]) (rest := []) rfl rfl (Nat.le_of_ble_eq_true rfl) dX6_look_34 (fun r34 I34 L34 hp34 => ?_)
        obtain ⟨rfl, e1, e2⟩ := hp34
        have e1 := e1.symm
        have e2 := e2.symm
        subst e1; subst e2
        refine v_st (st' := [.int (-5)]) rfl ?_
        exact v_iret X Y dX6_look_37 (Or.inr ⟨t, htt, rfl, fun k hk e => by
              have e := (nI_eq (by decide) (by omega)).mp e
              subst e
              exact ⟨Or.inr ⟨h28, rfl, rfl⟩, rfl⟩, fun h => absurd rfl (h 7 (by decide))⟩)
  · refine v_aload_n X 0 rfl dX6_look_8 ?_
    refine v_bipush X (v := (-3)) dX6_look_9 (by decide) ?_
    refine v_callV X (c_X6_no _ _ hE _ _ 3 (by decide) (by decide)) k_X6_80 dl_30 (cef_30 _ _ _ _) rfl ⟨rfl, rfl, Nat.le_of_ble_eq_true rfl, Nat.le_of_ble_eq_true rfl⟩ (As := [.int (-3)]) (rest := []) rfl rfl (Nat.le_of_ble_eq_true rfl) dX6_look_11 (fun r11 I11 L11 hp11 => ?_)
    obtain ⟨rfl, e1, e2⟩ := hp11
    have e1 := e1.symm
    have e2 := e2.symm
    subst e1; subst e2
    refine v_st (st' := [.int (-3)]) rfl ?_
    exact v_iret X Y dX6_look_14 (Or.inl ⟨(fun q => h5 ((inR_T (by have := hT.2.1; omega)).mpr q)), ⟨rfl, rfl⟩, rfl⟩)
set_option maxHeartbeats 4000000 in
set_option maxRecDepth 100000 in
theorem c_X6_worth (l : Launch) (E : VE) (hE : EOk E) (I : TI) (L : TL) (c : Nat) (ro co : Nat → Nat) (hT : MT I c ro co) (x R C : Int32) : Ct l E yX6_worth cX6_worth 4 (some .long) rm_X6_worth [.ref (eA E 30 0), .int x, .int R, .int C] I L (fun r I' L' => (¬ inS c ro co x R C ∧ r = some (.long 0) ∧ I' = rfM I 3 ∧ L' = L) ∨ (∃ t R' C', t < c ∧ x = nI t ∧ 1 ≤ R' ∧ R' < 2 ^ ro t ∧ 1 ≤ C' ∧ C' < 2 ^ co t ∧ R = nI R' ∧ C = nI C' ∧ ((¬ pc5 R' = pc5 C' ∧ r = some (.long 0) ∧ I' = rfM I 7 ∧ L' = L) ∨ (pc5 R' = pc5 C' ∧ r = some (.long (wrt (entM I t) R' C')) ∧ I' = I ∧ FL [(42, 0)] L L')))) := by
  refine ct_of (by decide +kernel) (Nat.le_of_ble_eq_true rfl) hE ?_
  intro a X Y hl hEE
  subst hl; subst hEE
  show V a 0 [(0, .ref (eA (vE a) 30 0)), (1, .int x), (2, .int R), (3, .int C)] [] I L
  refine v_aload_n X 0 rfl dX6_worth_0 ?_
  refine v_iload_n X 1 rfl dX6_worth_1 ?_
  refine v_callV X (c_X6_isTable _ _ hE _ _ c (hT.1) x) k_X6_98 dl_30 (cef_30 _ _ _ _) rfl ⟨rfl, rfl, Nat.le_of_ble_eq_true rfl, Nat.le_of_ble_eq_true rfl⟩ (As := [.int x]) (rest := []) rfl rfl (Nat.le_of_ble_eq_true rfl) dX6_worth_2 (fun r2 I2 L2 hp2 => ?_)
  obtain ⟨rfl, e1, e2⟩ := hp2
  have e1 := e1.symm
  have e2 := e2.symm
  subst e1; subst e2
  refine v_st (st' := [.int (bI (inR c x))]) rfl ?_
  refine v_ifb_eq X dX6_worth_5 (tgt := 34) (by decide) (fun h5 => ?_) (fun h5 => ?_)
  · refine v_aload_n X 0 rfl dX6_worth_34 ?_
    refine v_bipush X (v := (-3)) dX6_worth_35 (by decide) ?_
    refine v_callV X (c_X6_none _ _ hE _ _ 3 (by decide) (by decide)) k_X6_106 dl_30 (cef_30 _ _ _ _) rfl ⟨rfl, rfl, Nat.le_of_ble_eq_true rfl, Nat.le_of_ble_eq_true rfl⟩ (As := [.int (-3)]) (rest := []) rfl rfl (Nat.le_of_ble_eq_true rfl) dX6_worth_37 (fun r37 I37 L37 hp37 => ?_)
    obtain ⟨rfl, e1, e2⟩ := hp37
    have e1 := e1.symm
    have e2 := e2.symm
    subst e1; subst e2
    refine v_st (st' := [.int (nI 0)]) rfl ?_
    refine v_i2l X dX6_worth_40 rfl ?_
    refine v_eql (y := 0) (by decide) ?_
    exact v_lret X Y dX6_worth_41 (Or.inl ⟨(inS_no' (fun q => h5 ((inR_T (by have := hT.2.1; omega)).mpr q))), rfl, rfl, rfl⟩)
  · obtain ⟨t, htt, rfl⟩ := inR_of (by have := hT.2.1; omega) h5
    have hc12 := hT.2.1
    obtain ⟨hrt, hct, hr1t, hr5t, hc1t, hc5t⟩ := hT.2.2 t htt
    have ht12t : t < 12 := by omega
    refine v_iload_n X 2 rfl dX6_worth_8 ?_
    refine v_aload_n X 0 rfl dX6_worth_9 ?_
    refine gf_X6_13 X dX6_worth_10 ?_
    refine v_iload_n X 1 rfl dX6_worth_13 ?_
    refine v_iald_n X dl_32 (fun _ _ => rfl) (n := 12) (by omega) (by decide) dX6_worth_14 ?_
    refine v_eqi (y := (nI (ro t))) (hrt) ?_
    refine v_callS X (c_X6_isSome _ _ hE _ _ R (ro t) (by omega)) k_X6_119 ⟨rfl, rfl, Nat.le_of_ble_eq_true rfl, Nat.le_of_ble_eq_true rfl⟩ (As := [.int R, .int (nI (ro t))]) (rest := []) rfl rfl (Nat.le_of_ble_eq_true rfl) dX6_worth_15 (fun r15 I15 L15 hp15 => ?_)
    obtain ⟨rfl, e1, e2⟩ := hp15
    have e1 := e1.symm
    have e2 := e2.symm
    subst e1; subst e2
    refine v_st (st' := [.int (bI (0 < R ∧ R < nI (2 ^ (ro t))))]) rfl ?_
    refine v_ifb_eq X dX6_worth_18 (tgt := 34) (by decide) (fun h18 => ?_) (fun h18 => ?_)
    · refine v_aload_n X 0 rfl dX6_worth_34 ?_
      refine v_bipush X (v := (-3)) dX6_worth_35 (by decide) ?_
      refine v_callV X (c_X6_none _ _ hE _ _ 3 (by decide) (by decide)) k_X6_106 dl_30 (cef_30 _ _ _ _) rfl ⟨rfl, rfl, Nat.le_of_ble_eq_true rfl, Nat.le_of_ble_eq_true rfl⟩ (As := [.int (-3)]) (rest := []) rfl rfl (Nat.le_of_ble_eq_true rfl) dX6_worth_37 (fun r37 I37 L37 hp37 => ?_)
      obtain ⟨rfl, e1, e2⟩ := hp37
      have e1 := e1.symm
      have e2 := e2.symm
      subst e1; subst e2
      refine v_st (st' := [.int (nI 0)]) rfl ?_
      refine v_i2l X dX6_worth_40 rfl ?_
      refine v_eql (y := 0) (by decide) ?_
      exact v_lret X Y dX6_worth_41 (Or.inl ⟨(inS_no hr5t hc5t hT.2.1 htt (Or.inl h18)), rfl, rfl, rfl⟩)
    · refine v_iload_n X 3 rfl dX6_worth_21 ?_
      refine v_aload_n X 0 rfl dX6_worth_22 ?_
      refine gf_X6_16 X dX6_worth_23 ?_
      refine v_iload_n X 1 rfl dX6_worth_26 ?_
      refine v_iald_n X dl_33 (fun _ _ => rfl) (n := 12) (by omega) (by decide) dX6_worth_27 ?_
      refine v_eqi (y := (nI (co t))) (hct) ?_
      refine v_callS X (c_X6_isSome _ _ hE _ _ C (co t) (by omega)) k_X6_119 ⟨rfl, rfl, Nat.le_of_ble_eq_true rfl, Nat.le_of_ble_eq_true rfl⟩ (As := [.int C, .int (nI (co t))]) (rest := []) rfl rfl (Nat.le_of_ble_eq_true rfl) dX6_worth_28 (fun r28 I28 L28 hp28 => ?_)
      obtain ⟨rfl, e1, e2⟩ := hp28
      have e1 := e1.symm
      have e2 := e2.symm
      subst e1; subst e2
      refine v_st (st' := [.int (bI (0 < C ∧ C < nI (2 ^ (co t))))]) rfl ?_
      refine v_ifb_ne X dX6_worth_31 (tgt := 42) (by decide) (fun h31 => ?_) (fun h31 => ?_)
      · obtain ⟨R', hR1, hR2, rfl⟩ := (isS_iff hr5t).mpr h18
        obtain ⟨C', hC1, hC2, rfl⟩ := (isS_iff hc5t).mpr h31
        have hpr := pow32 hr5t
        have hpc := pow32 hc5t
        have hR5 := pc5_le R'
        have hC5 := pc5_le C'
        refine v_iload_n X 2 rfl dX6_worth_42 ?_
        refine v_callS X (c_X6_bits _ _ hE _ _ R' (by omega)) k_X6_116 ⟨rfl, rfl, Nat.le_of_ble_eq_true rfl, Nat.le_of_ble_eq_true rfl⟩ (As := [.int (nI R')]) (rest := []) rfl rfl (Nat.le_of_ble_eq_true rfl) dX6_worth_43 (fun r43 I43 L43 hp43 => ?_)
        obtain ⟨rfl, e1, e2⟩ := hp43
        have e1 := e1.symm
        have e2 := e2.symm
        subst e1; subst e2
        refine v_st (st' := [.int (nI (pc5 R'))]) rfl ?_
        refine v_iload_n X 3 rfl dX6_worth_46 ?_
        refine v_callS X (c_X6_bits _ _ hE _ _ C' (by omega)) k_X6_116 ⟨rfl, rfl, Nat.le_of_ble_eq_true rfl, Nat.le_of_ble_eq_true rfl⟩ (As := [.int (nI C')]) (rest := [.int (nI (pc5 R'))]) rfl rfl (Nat.le_of_ble_eq_true rfl) dX6_worth_47 (fun r47 I47 L47 hp47 => ?_)
        obtain ⟨rfl, e1, e2⟩ := hp47
        have e1 := e1.symm
        have e2 := e2.symm
        subst e1; subst e2
        refine v_st (st' := [.int (nI (pc5 C')), .int (nI (pc5 R'))]) rfl ?_
        refine v_icmp_ne_n X (by omega) (by omega) dX6_worth_50 (tgt := 63) (by decide) (fun h50 => ?_) (fun h50 => ?_)
        · refine v_aload_n X 0 rfl dX6_worth_63 ?_
          refine v_bipush X (v := (-7)) dX6_worth_64 (by decide) ?_
          refine v_callV X (c_X6_none _ _ hE _ _ 7 (by decide) (by decide)) k_X6_106 dl_30 (cef_30 _ _ _ _) rfl ⟨rfl, rfl, Nat.le_of_ble_eq_true rfl, Nat.le_of_ble_eq_true rfl⟩ (As := [.int (-7)]) (rest := []) rfl rfl (Nat.le_of_ble_eq_true rfl) dX6_worth_66 (fun r66 I66 L66 hp66 => ?_)
          obtain ⟨rfl, e1, e2⟩ := hp66
          have e1 := e1.symm
          have e2 := e2.symm
          subst e1; subst e2
          refine v_st (st' := [.int (nI 0)]) rfl ?_
          refine v_i2l X dX6_worth_69 rfl ?_
          refine v_eql (y := 0) (by decide) ?_
          exact v_lret X Y dX6_worth_70 (Or.inr ⟨t, R', C', htt, rfl, hR1, hR2, hC1, hC2, rfl, rfl, Or.inl ⟨h50, rfl, rfl, rfl⟩⟩)
        · refine v_aload_n X 0 rfl dX6_worth_53 ?_
          refine v_iload_n X 1 rfl dX6_worth_54 ?_
          refine v_iload_n X 2 rfl dX6_worth_55 ?_
          refine v_iload_n X 3 rfl dX6_worth_56 ?_
          refine v_callV X (c_X6_worthOf _ _ hE _ _ t R' C' (by omega) (by omega) (by omega) h50) k_X6_123 dl_30 (cef_30 _ _ _ _) rfl ⟨rfl, rfl, Nat.le_of_ble_eq_true rfl, Nat.le_of_ble_eq_true rfl⟩ (As := [.int (nI t), .int (nI R'), .int (nI C')]) (rest := []) rfl rfl (Nat.le_of_ble_eq_true rfl) dX6_worth_57 (fun r57 I57 L57 hp57 => ?_)
          obtain ⟨rfl, e1, hL57⟩ := hp57
          have e1 := e1.symm
          subst e1
          refine v_st (st' := [.long (wrt (entM I t) R' C')]) rfl ?_
          refine v_goto X (tgt := 70) dX6_worth_60 (by decide) ?_
          exact v_lret X Y dX6_worth_70 (Or.inr ⟨t, R', C', htt, rfl, hR1, hR2, hC1, hC2, rfl, rfl, Or.inr ⟨h50, rfl, rfl, hL57⟩⟩)
      · refine v_aload_n X 0 rfl dX6_worth_34 ?_
        refine v_bipush X (v := (-3)) dX6_worth_35 (by decide) ?_
        refine v_callV X (c_X6_none _ _ hE _ _ 3 (by decide) (by decide)) k_X6_106 dl_30 (cef_30 _ _ _ _) rfl ⟨rfl, rfl, Nat.le_of_ble_eq_true rfl, Nat.le_of_ble_eq_true rfl⟩ (As := [.int (-3)]) (rest := []) rfl rfl (Nat.le_of_ble_eq_true rfl) dX6_worth_37 (fun r37 I37 L37 hp37 => ?_)
        obtain ⟨rfl, e1, e2⟩ := hp37
        have e1 := e1.symm
        have e2 := e2.symm
        subst e1; subst e2
        refine v_st (st' := [.int (nI 0)]) rfl ?_
        refine v_i2l X dX6_worth_40 rfl ?_
        refine v_eql (y := 0) (by decide) ?_
        exact v_lret X Y dX6_worth_41 (Or.inl ⟨(inS_no hr5t hc5t hT.2.1 htt (Or.inr h31)), rfl, rfl, rfl⟩)
set_option maxHeartbeats 4000000 in
set_option maxRecDepth 100000 in
theorem c_X6_low (l : Launch) (E : VE) (hE : EOk E) (I : TI) (L : TL) (c : Nat) (ro co : Nat → Nat) (hT : MT I c ro co) (x : Int32) (b : Nat) (hb : b < 2) : Ct l E yX6_low cX6_low 3 (some .int) rm_X6_low [.ref (eA E 30 0), .int x, .int (nI b)] I L (fun r I' L' => (¬ isT c x ∧ MEF I I' r 3 ∧ L' = L) ∨ (∃ t, t < c ∧ x = nI t ∧ MGo I I' L L' ∧ ∃ y, flRes (entM I t) b (ro t) (co t) y ∧ r = some (.int y))) := by
  refine ct_of (by decide +kernel) (Nat.le_of_ble_eq_true rfl) hE ?_
  intro a X Y hl hEE
  subst hl; subst hEE
  show V a 0 [(0, .ref (eA (vE a) 30 0)), (1, .int x), (2, .int (nI b))] [] I L
  refine v_aload_n X 0 rfl dX6_low_0 ?_
  refine v_iload_n X 1 rfl dX6_low_1 ?_
  refine v_callV X (c_X6_isTable _ _ hE _ _ c (hT.1) x) k_X6_98 dl_30 (cef_30 _ _ _ _) rfl ⟨rfl, rfl, Nat.le_of_ble_eq_true rfl, Nat.le_of_ble_eq_true rfl⟩ (As := [.int x]) (rest := []) rfl rfl (Nat.le_of_ble_eq_true rfl) dX6_low_2 (fun r2 I2 L2 hp2 => ?_)
  obtain ⟨rfl, e1, e2⟩ := hp2
  have e1 := e1.symm
  have e2 := e2.symm
  subst e1; subst e2
  refine v_st (st' := [.int (bI (inR c x))]) rfl ?_
  refine v_ifb_ne X dX6_low_5 (tgt := 15) (by decide) (fun h5 => ?_) (fun h5 => ?_)
  · obtain ⟨t, htt, rfl⟩ := inR_of (by have := hT.2.1; omega) h5
    have hc12 := hT.2.1
    obtain ⟨hrt, hct, hr1t, hr5t, hc1t, hc5t⟩ := hT.2.2 t htt
    have ht12t : t < 12 := by omega
    refine v_aload_n X 0 rfl dX6_low_15 ?_
    refine v_iload_n X 1 rfl dX6_low_16 ?_
    refine v_callV X (c_X6_goesThrough _ _ hE _ _ t ht12t (ro t) (co t) hrt hct hr5t hc5t) k_X6_150 dl_30 (cef_30 _ _ _ _) rfl ⟨rfl, rfl, Nat.le_of_ble_eq_true rfl, Nat.le_of_ble_eq_true rfl⟩ (As := [.int (nI t)]) (rest := []) rfl rfl (Nat.le_of_ble_eq_true rfl) dX6_low_17 (fun r17 I17 L17 hp17 => ?_)
    obtain ⟨rfl, hGE17, hL17⟩ := hp17
    have hbb := manyS_le (a := entM I t) (s := -1) hr5t hc5t
    have hbn := manyS_le (a := entM I t) (s := 0) hr5t hc5t
    refine v_st (st' := []) rfl ?_
    refine v_iload_n X 2 rfl dX6_low_20 ?_
    refine v_if_eq_n X (by omega) dX6_low_21 (tgt := 31) (by decide) (fun h21 => ?_) (fun h21 => ?_)
    · refine v_aload_n X 0 rfl dX6_low_31 ?_
      refine gf_X6_136 X dX6_low_32 ?_
      exact v_iret X Y dX6_low_35 (Or.inr ⟨t, htt, rfl, ⟨hGE17.1, hGE17.2.1, hL17⟩, _, by rw [h21]; exact hGE17.2.2.2.2.2.1, rfl⟩)
    · refine v_aload_n X 0 rfl dX6_low_24 ?_
      refine gf_X6_139 X dX6_low_25 ?_
      refine v_goto X (tgt := 35) dX6_low_28 (by decide) ?_
      exact v_iret X Y dX6_low_35 (Or.inr ⟨t, htt, rfl, ⟨hGE17.1, hGE17.2.1, hL17⟩, _, by rw [show b = 1 by omega]; exact hGE17.2.2.2.2.2.2, rfl⟩)
  · refine v_aload_n X 0 rfl dX6_low_8 ?_
    refine v_bipush X (v := (-3)) dX6_low_9 (by decide) ?_
    refine v_callV X (c_X6_no _ _ hE _ _ 3 (by decide) (by decide)) k_X6_80 dl_30 (cef_30 _ _ _ _) rfl ⟨rfl, rfl, Nat.le_of_ble_eq_true rfl, Nat.le_of_ble_eq_true rfl⟩ (As := [.int (-3)]) (rest := []) rfl rfl (Nat.le_of_ble_eq_true rfl) dX6_low_11 (fun r11 I11 L11 hp11 => ?_)
    obtain ⟨rfl, e1, e2⟩ := hp11
    have e1 := e1.symm
    have e2 := e2.symm
    subst e1; subst e2
    refine v_st (st' := [.int (-3)]) rfl ?_
    exact v_iret X Y dX6_low_14 (Or.inl ⟨(fun q => h5 ((inR_T (by have := hT.2.1; omega)).mpr q)), ⟨rfl, rfl⟩, rfl⟩)
set_option maxHeartbeats 4000000 in
set_option maxRecDepth 100000 in
theorem c_X6_count (l : Launch) (E : VE) (hE : EOk E) (I : TI) (L : TL) (c : Nat) (ro co : Nat → Nat) (hT : MT I c ro co) (x s : Int32) : Ct l E yX6_count cX6_count 3 (some .int) rm_X6_count [.ref (eA E 30 0), .int x, .int s] I L (fun r I' L' => (¬ isT c x ∧ MEF I I' r 3 ∧ L' = L) ∨ (∃ t, t < c ∧ x = nI t ∧ ((¬ (-1 ≤ s ∧ s ≤ nI 1) ∧ MEF I I' r 7 ∧ L' = L) ∨ (-1 ≤ s ∧ s ≤ nI 1 ∧ MGo I I' L L' ∧ r = some (.int (nI (manyS (entM I t) s (ro t) (co t)))))))) := by
  refine ct_of (by decide +kernel) (Nat.le_of_ble_eq_true rfl) hE ?_
  intro a X Y hl hEE
  subst hl; subst hEE
  show V a 0 [(0, .ref (eA (vE a) 30 0)), (1, .int x), (2, .int s)] [] I L
  refine v_aload_n X 0 rfl dX6_count_0 ?_
  refine v_iload_n X 1 rfl dX6_count_1 ?_
  refine v_callV X (c_X6_isTable _ _ hE _ _ c (hT.1) x) k_X6_98 dl_30 (cef_30 _ _ _ _) rfl ⟨rfl, rfl, Nat.le_of_ble_eq_true rfl, Nat.le_of_ble_eq_true rfl⟩ (As := [.int x]) (rest := []) rfl rfl (Nat.le_of_ble_eq_true rfl) dX6_count_2 (fun r2 I2 L2 hp2 => ?_)
  obtain ⟨rfl, e1, e2⟩ := hp2
  have e1 := e1.symm
  have e2 := e2.symm
  subst e1; subst e2
  refine v_st (st' := [.int (bI (inR c x))]) rfl ?_
  refine v_ifb_ne X dX6_count_5 (tgt := 15) (by decide) (fun h5 => ?_) (fun h5 => ?_)
  · obtain ⟨t, htt, rfl⟩ := inR_of (by have := hT.2.1; omega) h5
    have hc12 := hT.2.1
    obtain ⟨hrt, hct, hr1t, hr5t, hc1t, hc5t⟩ := hT.2.2 t htt
    have ht12t : t < 12 := by omega
    refine v_iload_n X 2 rfl dX6_count_15 ?_
    refine v_i2l X dX6_count_16 rfl ?_
    refine v_ldc2 X kc_X6_158 dX6_count_17 ?_
    refine v_lconst X (v := 1) dX6_count_20 rfl ?_
    refine v_callS X (c_X6_isIn _ _ hE _ _ s.toInt64 (-1) 1) k_X6_90 ⟨rfl, rfl, Nat.le_of_ble_eq_true rfl, Nat.le_of_ble_eq_true rfl⟩ (As := [.long s.toInt64, .long (-1), .long 1]) (rest := []) rfl rfl (Nat.le_of_ble_eq_true rfl) dX6_count_21 (fun r21 I21 L21 hp21 => ?_)
    obtain ⟨rfl, e1, e2⟩ := hp21
    have e1 := e1.symm
    have e2 := e2.symm
    subst e1; subst e2
    refine v_st (st' := [.int (bI ((-1) ≤ s.toInt64 ∧ s.toInt64 ≤ 1))]) rfl ?_
    refine v_ifb_ne X dX6_count_24 (tgt := 34) (by decide) (fun h24 => ?_) (fun h24 => ?_)
    · have hsr := in_S.mp h24
      refine v_aload_n X 0 rfl dX6_count_34 ?_
      refine v_iload_n X 1 rfl dX6_count_35 ?_
      refine v_callV X (c_X6_goesThrough _ _ hE _ _ t ht12t (ro t) (co t) hrt hct hr5t hc5t) k_X6_150 dl_30 (cef_30 _ _ _ _) rfl ⟨rfl, rfl, Nat.le_of_ble_eq_true rfl, Nat.le_of_ble_eq_true rfl⟩ (As := [.int (nI t)]) (rest := []) rfl rfl (Nat.le_of_ble_eq_true rfl) dX6_count_36 (fun r36 I36 L36 hp36 => ?_)
      obtain ⟨rfl, hGE36, hL36⟩ := hp36
      have hbb := manyS_le (a := entM I t) (s := -1) hr5t hc5t
      have hbn := manyS_le (a := entM I t) (s := 0) hr5t hc5t
      refine v_st (st' := []) rfl ?_
      refine v_iload_n X 2 rfl dX6_count_39 ?_
      refine v_if_ge X dX6_count_40 (tgt := 50) (by decide) (fun h40 => ?_) (fun h40 => ?_)
      · refine v_iload_n X 2 rfl dX6_count_50 ?_
        refine v_if_ne X dX6_count_51 (tgt := 61) (by decide) (fun h51 => ?_) (fun h51 => ?_)
        · refine v_aload_n X 0 rfl dX6_count_61 ?_
          refine gf_X6_133 X dX6_count_62 ?_
          refine v_eqi (y := (nI (manyS (entM I t) (1) (ro t) (co t)))) (hGE36.2.2.2.2.1) ?_
          exact v_iret X Y dX6_count_65 (Or.inr ⟨t, htt, rfl, Or.inr ⟨hsr.1, hsr.2, ⟨hGE36.1, hGE36.2.1, hL36⟩, by rw [s_1 h40 h51 hsr.2]⟩⟩)
        · refine v_aload_n X 0 rfl dX6_count_54 ?_
          refine gf_X6_130 X dX6_count_55 ?_
          refine v_eqi (y := (nI (manyS (entM I t) (0) (ro t) (co t)))) (hGE36.2.2.2.1) ?_
          refine v_goto X (tgt := 65) dX6_count_58 (by decide) ?_
          exact v_iret X Y dX6_count_65 (Or.inr ⟨t, htt, rfl, Or.inr ⟨hsr.1, hsr.2, ⟨hGE36.1, hGE36.2.1, hL36⟩, by rw [h51]⟩⟩)
      · refine v_aload_n X 0 rfl dX6_count_43 ?_
        refine gf_X6_127 X dX6_count_44 ?_
        refine v_eqi (y := (nI (manyS (entM I t) (-1) (ro t) (co t)))) (hGE36.2.2.1) ?_
        refine v_goto X (tgt := 65) dX6_count_47 (by decide) ?_
        exact v_iret X Y dX6_count_65 (Or.inr ⟨t, htt, rfl, Or.inr ⟨hsr.1, hsr.2, ⟨hGE36.1, hGE36.2.1, hL36⟩, by rw [s_m1 hsr.1 h40]⟩⟩)
    · refine v_aload_n X 0 rfl dX6_count_27 ?_
      refine v_bipush X (v := (-7)) dX6_count_28 (by decide) ?_
      refine v_callV X (c_X6_no _ _ hE _ _ 7 (by decide) (by decide)) k_X6_80 dl_30 (cef_30 _ _ _ _) rfl ⟨rfl, rfl, Nat.le_of_ble_eq_true rfl, Nat.le_of_ble_eq_true rfl⟩ (As := [.int (-7)]) (rest := []) rfl rfl (Nat.le_of_ble_eq_true rfl) dX6_count_30 (fun r30 I30 L30 hp30 => ?_)
      obtain ⟨rfl, e1, e2⟩ := hp30
      have e1 := e1.symm
      have e2 := e2.symm
      subst e1; subst e2
      refine v_st (st' := [.int (-7)]) rfl ?_
      exact v_iret X Y dX6_count_33 (Or.inr ⟨t, htt, rfl, Or.inl ⟨fun q => h24 (in_S.mpr q), ⟨rfl, rfl⟩, rfl⟩⟩)
  · refine v_aload_n X 0 rfl dX6_count_8 ?_
    refine v_bipush X (v := (-3)) dX6_count_9 (by decide) ?_
    refine v_callV X (c_X6_no _ _ hE _ _ 3 (by decide) (by decide)) k_X6_80 dl_30 (cef_30 _ _ _ _) rfl ⟨rfl, rfl, Nat.le_of_ble_eq_true rfl, Nat.le_of_ble_eq_true rfl⟩ (As := [.int (-3)]) (rest := []) rfl rfl (Nat.le_of_ble_eq_true rfl) dX6_count_11 (fun r11 I11 L11 hp11 => ?_)
    obtain ⟨rfl, e1, e2⟩ := hp11
    have e1 := e1.symm
    have e2 := e2.symm
    subst e1; subst e2
    refine v_st (st' := [.int (-3)]) rfl ?_
    exact v_iret X Y dX6_count_14 (Or.inl ⟨(fun q => h5 ((inR_T (by have := hT.2.1; omega)).mpr q)), ⟨rfl, rfl⟩, rfl⟩)
