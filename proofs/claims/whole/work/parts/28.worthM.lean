/-! the model's worth of a part: sums over sets of columns, row by row -/
def entM (I : TI) (t : Nat) : Nat → Nat → Int64 := fun i j => (I 31 0 (25 * t + 5 * i + j)).toInt64
abbrev fsub (D C : Nat) : Prop := D &&& C = D
theorem sub_iff : ∀ s, s < 32 → ∀ C, C < 32 → (nI s &&& (nI C ^^^ (-1)) = 0 ↔ fsub s C) := by decide +kernel
theorem irem2 : ∀ n, n < 6 → nI n - nI n / nI 2 * nI 2 = nI (n % 2) := by decide +kernel
theorem or_lt : ∀ s, s < 32 → ∀ j, j < 5 → s ||| 2 ^ j < 32 := by decide +kernel
theorem or_hi : ∀ s, s < 32 → ∀ j, j < 5 → (s ||| 2 ^ j) / 2 ^ (j + 1) = s / 2 ^ (j + 1) := by decide +kernel
theorem or_pc : ∀ s, s < 32 → ∀ j, j < 5 → ¬ bitN s j → pc5 (s ||| 2 ^ j) = pc5 s + 1 ∧ bitN (s ||| 2 ^ j) j ∧ (s ||| 2 ^ j) ^^^ 2 ^ j = s := by decide +kernel
theorem xor_or : ∀ D, D < 32 → ∀ j, j < 5 → bitN D j → (D ^^^ 2 ^ j) ||| 2 ^ j = D ∧ ¬ bitN (D ^^^ 2 ^ j) j := by decide +kernel
theorem xor_inj : ∀ D, D < 32 → ∀ j, j < 5 → ∀ k, k < 5 → D ^^^ 2 ^ j = D ^^^ 2 ^ k → j = k := by decide +kernel
theorem sub_bit' : ∀ D, D < 32 → ∀ C, C < 32 → ∀ j, j < 5 → (¬ fsub D C ∨ ¬ bitN D j ∨ (bitN C j ∧ fsub (D ^^^ 2 ^ j) C)) := by decide +kernel
theorem sub_bit (D : Nat) (hD : D < 32) (C : Nat) (hC : C < 32) (j : Nat) (hj : j < 5) (h1 : fsub D C) (h2 : bitN D j) : bitN C j ∧ fsub (D ^^^ 2 ^ j) C := ((sub_bit' D hD C hC j hj).resolve_left (fun z => z h1)).resolve_left (fun z => z h2)
theorem rsel_atR : ∀ R, R < 32 → ∀ i, i < 5 → bitN R i → rsel R (rl R i).length = i := by decide +kernel
theorem sub_0 : ∀ C, C < 32 → fsub 0 C := by decide +kernel
theorem sub_self : ∀ C, C < 32 → fsub C C := by decide +kernel
def psT (f g : Nat → Int64) (s j D k : Nat) : Int64 := if s < D ^^^ 2 ^ k ∨ (s = D ^^^ 2 ^ k ∧ k < j) then alrT f g D k else 0
theorem tsum_c {F G : Nat → Int64} (h : ∀ k, k < 5 → F k = G k) : tsum F 0 = tsum G 0 := by
  unfold tsum
  rw [h 0 (by decide), h 1 (by decide), h 2 (by decide), h 3 (by decide), h 4 (by decide)]
theorem tsum_put {F G : Nat → Int64} {j : Nat} {v : Int64} (hj : j < 5) (h : ∀ k, k < 5 → k ≠ j → G k = F k) (h0 : F j = 0) (h1 : G j = v) : tsum G 0 = tsum F 0 + v := by
  have e : ∀ k, k < 5 → G k = F k + (if k = j then v else 0) := by
    intro k hk
    by_cases q : k = j
    · subst q
      rw [if_pos rfl, h0, h1, Int64.zero_add]
    · rw [if_neg q, h k hk q, Int64.add_zero]
  unfold tsum
  rw [e 0 (by decide), e 1 (by decide), e 2 (by decide), e 3 (by decide), e 4 (by decide)]
  rcases (show j = 0 ∨ j = 1 ∨ j = 2 ∨ j = 3 ∨ j = 4 by omega) with rfl | rfl | rfl | rfl | rfl <;> simp <;> ac_rfl
theorem psT_c {f g : Nat → Int64} {s j s' j' D : Nat} (h : ∀ k, k < 5 → bitN D k → ((s < D ^^^ 2 ^ k ∨ (s = D ^^^ 2 ^ k ∧ k < j)) ↔ (s' < D ^^^ 2 ^ k ∨ (s' = D ^^^ 2 ^ k ∧ k < j'))) ∨ g (D ^^^ 2 ^ k) = 0) : tsum (psT f g s j D) 0 = tsum (psT f g s' j' D) 0 := by
  refine tsum_c fun k hk => ?_
  unfold psT
  by_cases hb : bitN D k
  · rcases h k hk hb with q | q
    · simp only [q]
    · have e : alrT f g D k = 0 := by unfold alrT; rw [if_pos hb, q, Int64.mul_zero]
      rw [e]; split <;> split <;> rfl
  · have e : alrT f g D k = 0 := if_neg hb
    rw [e]; split <;> split <;> rfl
section WU
variable {a : Nat → Nat → Int64} {R C i n : Nat}
def WH (a : Nat → Nat → Int64) (R C n : Nat) (u : Nat → Int64) : Prop :=
  (∀ D, D < 32 → fsub D C → pc5 D ≤ n → u D = dN a (rsel R) (pc5 D) D) ∧ (∀ D, D < 32 → fsub D C → n < pc5 D → u D = 0)
def WU (a : Nat → Nat → Int64) (R C i n s j : Nat) (u : Nat → Int64) : Prop :=
  (∀ D, D < 32 → fsub D C → pc5 D ≤ n → u D = dN a (rsel R) (pc5 D) D) ∧
  (∀ D, D < 32 → fsub D C → pc5 D = n + 1 → u D = tsum (psT (a i) (fun D' => dN a (rsel R) n D') s j D) 0) ∧
  (∀ D, D < 32 → fsub D C → n + 1 < pc5 D → u D = 0)
theorem WH.ini {u : Nat → Int64} (h : ∀ D, D < 32 → u D = if D = 0 then 1 else 0) : WH a R C 0 u := by
  refine ⟨fun D hD hs hp => ?_, fun D hD hs hp => ?_⟩
  · have e : D = 0 := pc5_0 D hD (by omega)
    subst e
    rw [h 0 hD]
    rfl
  · rw [h D hD, if_neg]
    rintro rfl
    exact absurd hp (by decide)
theorem WH.row {u : Nat → Int64} (h : WH a R C n u) : WU a R C i n 32 5 u := by
  refine ⟨h.1, fun D hD hs hp => ?_, fun D hD hs hp => h.2 D hD hs (by omega)⟩
  rw [h.2 D hD hs (by omega)]
  have e : ∀ k, k < 5 → psT (a i) (fun D' => dN a (rsel R) n D') 32 5 D k = (fun _ => 0) k := fun k hk => by
    have := xor_lt D hD k hk
    exact if_neg (by omega)
  rw [tsum_c e]
  rfl
theorem WU.fin {u : Nat → Int64} (h : WU a R C i n 0 5 u) (hr : rsel R n = i) : WH a R C (n + 1) u := by
  refine ⟨fun D hD hs hp => ?_, h.2.2⟩
  rcases Nat.lt_or_ge n (pc5 D) with q | q
  · have e : pc5 D = n + 1 := by omega
    rw [h.2.1 D hD hs e, e]
    show _ = alr (a (rsel R n)) (fun D' => dN a (rsel R) n D') D
    rw [hr]
    exact tsum_c fun k hk => if_pos (by omega)
  · exact h.1 D hD hs q
theorem WU.cg {u : Nat → Int64} {s j s' j' : Nat} (h : WU a R C i n s j u) (e : ∀ D, D < 32 → fsub D C → pc5 D = n + 1 → ∀ k, k < 5 → bitN D k → ((s < D ^^^ 2 ^ k ∨ (s = D ^^^ 2 ^ k ∧ k < j)) ↔ (s' < D ^^^ 2 ^ k ∨ (s' = D ^^^ 2 ^ k ∧ k < j'))) ∨ dN a (rsel R) n (D ^^^ 2 ^ k) = 0) : WU a R C i n s' j' u :=
  ⟨h.1, fun D hD hs hp => (h.2.1 D hD hs hp).trans (psT_c (e D hD hs hp)), h.2.2⟩
theorem WU.dn {u : Nat → Int64} {q : Nat} (h : WU a R C i n (q + 1) 5 u) : WU a R C i n q 0 u :=
  h.cg fun D hD hs hp k hk hb => Or.inl (by omega)
theorem WU.skip {u : Nat → Int64} {q : Nat} (hC : C < 32) (h : WU a R C i n q 0 u) (hq : q < 32) (e : ¬ pc5 q = n ∨ (pc5 q = n ∧ u q = 0) ∨ ¬ fsub q C) : WU a R C i n q 5 u :=
  h.cg fun D hD hs hp k hk hb => by
    rcases Nat.decEq q (D ^^^ 2 ^ k) with z | z
    · exact Or.inl (by omega)
    · have h1 := xor_dn D hD k hk hb
      have h2 := sub_bit D hD C hC k hk hs hb
      rcases e with e | ⟨e, e0⟩ | e
      · exact absurd (show pc5 q = n by rw [z]; omega) e
      · right
        rw [← z]
        have h3 := h.1 q hq (by rw [z]; exact h2.2) (by omega)
        rw [e, e0] at h3
        exact h3.symm
      · exact absurd (z ▸ h2.2) e
theorem WU.jskip {u : Nat → Int64} {q j : Nat} (hC : C < 32) (h : WU a R C i n q j u) (e : ¬ bitN C j ∨ bitN q j) : WU a R C i n q (j + 1) u :=
  h.cg fun D hD hs hp k hk hb => Or.inl (by
    rcases Nat.decEq k j with z | z
    · omega
    · subst z
      rcases e with e | e
      · exact absurd (sub_bit D hD C hC k hk hs hb).1 e
      · have h3 := (xor_or D hD k hk hb).2
        have h4 : q ≠ D ^^^ 2 ^ k := fun y => h3 (y ▸ e)
        omega)
theorem WU.put {L1 : TL} {q j : Nat} {v : Int64} (hq : q < 32) (hj : j < 5) (hC : C < 32) (h : WU a R C i n q j (L1 42 0)) (hs : fsub q C) (hp : pc5 q = n) (hb : ¬ bitN q j)
    (hv : v = L1 42 0 (q ||| 2 ^ j) + sgm (q ||| 2 ^ j) (j + 1) * a i j * L1 42 0 q) : WU a R C i n q (j + 1) (upL L1 42 0 (q ||| 2 ^ j) v 42 0) := by
  have ho := or_pc q hq j hj hb
  have hol := or_lt q hq j hj
  refine ⟨fun D hD hs2 hp2 => ?_, fun D hD hs2 hp2 => ?_, fun D hD hs2 hp2 => ?_⟩
  · rw [upL_x (by rintro rfl; omega)]
    exact h.1 D hD hs2 hp2
  · by_cases e : D = q ||| 2 ^ j
    · subst e
      rw [upL_eq, hv, h.2.1 _ hD hs2 hp2]
      refine (tsum_put (j := j) hj (fun k hk hkj => ?_) ?_ ?_).symm
      · unfold psT
        have := fun z => xor_inj (q ||| 2 ^ j) hol k hk j hj z
        rw [ho.2.2] at this
        have : q ≠ (q ||| 2 ^ j) ^^^ 2 ^ k := fun z => hkj (this z.symm)
        have e2 : (q < (q ||| 2 ^ j) ^^^ 2 ^ k ∨ (q = (q ||| 2 ^ j) ^^^ 2 ^ k ∧ k < j + 1)) ↔ (q < (q ||| 2 ^ j) ^^^ 2 ^ k ∨ (q = (q ||| 2 ^ j) ^^^ 2 ^ k ∧ k < j)) := by omega
        simp only [e2]
      · exact if_neg (by rw [ho.2.2]; omega)
      · unfold psT
        rw [if_pos (by rw [ho.2.2]; omega)]
        unfold alrT
        rw [if_pos ho.2.1, ho.2.2, h.1 q hq hs (by omega), hp]
    · rw [upL_x e, h.2.1 D hD hs2 hp2]
      refine psT_c fun k hk hb2 => Or.inl ?_
      rcases Nat.decEq k j with z | z
      · omega
      · subst z
        have h3 := (xor_or D hD k hk hb2).1
        have h4 : q ≠ D ^^^ 2 ^ k := fun y => e (by rw [y, h3])
        omega
  · rw [upL_x (by rintro rfl; omega)]
    exact h.2.2 D hD hs2 hp2
theorem sg_o {D m : Nat} (h : pc5 (D / 2 ^ m) % 2 = 1) {x y z : Int64} : x + -(z * y) = x + sgm D m * y * z := by
  unfold sgm
  rw [if_pos h, Int64.mul_comm z y, Int64.neg_mul, Int64.neg_mul, Int64.one_mul]
theorem sg_e {D m : Nat} (h : ¬ pc5 (D / 2 ^ m) % 2 = 1) {x y z : Int64} : x + z * y = x + sgm D m * y * z := by
  unfold sgm
  rw [if_neg h, Int64.mul_comm z y, Int64.one_mul]
end WU

set_option maxHeartbeats 4000000 in
set_option maxRecDepth 100000 in
theorem c_X6_worthOf (l : Launch) (E : VE) (hE : EOk E) (I : TI) (L : TL) (t R C : Nat) (ht : t < 12) (hR : R < 32) (hC : C < 32) (hRC : pc5 R = pc5 C) : Ct l E yX6_worthOf cX6_worthOf 11 (some .long) rm_X6_worthOf [.ref (eA E 30 0), .int (nI t), .int (nI R), .int (nI C)] I L (fun r I' L' => r = some (.long (wrt (entM I t) R C)) ∧ I' = I ∧ FL [(42, 0)] L L') := by
  refine ct_of (by decide +kernel) (Nat.le_of_ble_eq_true rfl) hE ?_
  intro a X Y hl hEE
  subst hl; subst hEE
  show V a 0 [(0, .ref (eA (vE a) 30 0)), (1, .int (nI t)), (2, .int (nI R)), (3, .int (nI C))] [] I L
  refine v_iconst X (v := (nI 0)) dX6_worthOf_0 (by decide) ?_
  refine v_istore X [1, 2, 3, 4, 0] (lv' := [(0, .ref (eA (vE a) 30 0)), (1, .int (nI t)), (2, .int (nI R)), (3, .int (nI C)), (4, .int (nI 0))]) (by decide) rfl dX6_worthOf_1 ?_
  have loop3 : ∀ (fu : Nat) (k : Nat) (L1 : TL), 33 - k < fu → (k ≤ 32) → (FL [(42, 0)] L L1) → (∀ D, D < k → L1 42 0 D = if D = 0 then 1 else 0) → V a 3 [(0, .ref (eA (vE a) 30 0)), (1, .int (nI t)), (2, .int (nI R)), (3, .int (nI C)), (4, .int (nI k))] [] I L1 := by
    intro fu
    induction fu with
    | zero => intro k L1 hm _ _ _; exact absurd hm (Nat.not_lt_zero _)
    | succ fu ih3 =>
      intro k L1 hm3 hk hFL hz
      refine v_iload X 4 rfl dX6_worthOf_3 ?_
      refine v_bipush X (v := (nI 32)) dX6_worthOf_5 (by decide) ?_
      refine v_icmp_ge_n X (by omega) (by omega) dX6_worthOf_7 (tgt := 33) (by decide) (fun h7 => ?_) (fun h7 => ?_)
      · refine v_iconst X (v := (nI 0)) dX6_worthOf_33 (by decide) ?_
        refine v_istore X [1, 2, 3, 4, 0] (lv' := [(0, .ref (eA (vE a) 30 0)), (1, .int (nI t)), (2, .int (nI R)), (3, .int (nI C)), (4, .int (nI 0))]) (by decide) rfl dX6_worthOf_34 ?_
        refine v_iconst X (v := (nI 0)) dX6_worthOf_36 (by decide) ?_
        refine v_istore X [1, 2, 3, 4, 5, 0] (lv' := [(0, .ref (eA (vE a) 30 0)), (1, .int (nI t)), (2, .int (nI R)), (3, .int (nI C)), (4, .int (nI 0)), (5, .int (nI 0))]) (by decide) rfl dX6_worthOf_37 ?_
        have loop39 : ∀ (fu : Nat) (i : Nat) (n : Nat) (L1 : TL), 6 - i < fu → (i ≤ 5) → (n = (rl R i).length) → (FL [(42, 0)] L L1) → (WH (entM I t) R C n (L1 42 0)) → V a 39 [(0, .ref (eA (vE a) 30 0)), (1, .int (nI t)), (2, .int (nI R)), (3, .int (nI C)), (4, .int (nI n)), (5, .int (nI i))] [] I L1 := by
          intro fu
          induction fu with
          | zero => intro i n L1 hm _ _ _ _; exact absurd hm (Nat.not_lt_zero _)
          | succ fu ih39 =>
            intro i n L1 hm39 hi hn hFL hH
            refine v_iload X 5 rfl dX6_worthOf_39 ?_
            refine v_iconst X (v := (nI 5)) dX6_worthOf_41 (by decide) ?_
            refine v_icmp_ge_n X (by omega) (by omega) dX6_worthOf_42 (tgt := 228) (by decide) (fun h42 => ?_) (fun h42 => ?_)
            · have hi5 : i = 5 := by omega
              subst hi5
              refine v_aload_n X 0 rfl dX6_worthOf_228 ?_
              refine gf_X6_43 X dX6_worthOf_229 ?_
              refine v_iload_n X 3 rfl dX6_worthOf_232 ?_
              refine v_lald_n X dl_42 (fun _ _ => rfl) (n := 32) (by omega) (by decide) dX6_worthOf_233 ?_
              exact v_lret X Y dX6_worthOf_234 (⟨by rw [hH.1 C hC (sub_self C hC) (by rw [hn, rl_len R hR]; omega), ← hRC]; rfl, rfl, hFL⟩)
            · refine v_iload_n X 2 rfl dX6_worthOf_45 ?_
              refine v_iload X 5 rfl dX6_worthOf_46 ?_
              refine v_ishr X dX6_worthOf_48 ?_
              refine v_eqi (y := (nI (R / 2 ^ i))) (sh_r (by omega) (by omega)) ?_
              refine v_iconst X (v := (nI 1)) dX6_worthOf_49 (by decide) ?_
              refine v_iand X dX6_worthOf_50 ?_
              refine v_eqi (y := (nI ((R / 2 ^ i) &&& 1))) (an_and _ _) ?_
              refine v_eqi (y := (nI (R / 2 ^ i % 2))) (congrArg nI (Nat.and_one_is_mod _)) ?_
              refine v_if_ne_n X (by omega) dX6_worthOf_51 (tgt := 57) (by decide) (fun h51 => ?_) (fun h51 => ?_)
              · refine v_bipush X (v := (nI 31)) dX6_worthOf_57 (by decide) ?_
                refine v_eqi (y := (nI 32 - nI 1)) (by decide) ?_
                refine v_istore X [1, 2, 3, 4, 5, 6, 0] (lv' := [(0, .ref (eA (vE a) 30 0)), (1, .int (nI t)), (2, .int (nI R)), (3, .int (nI C)), (4, .int (nI n)), (5, .int (nI i)), (6, .int (nI 32 - nI 1))]) (by decide) rfl dX6_worthOf_59 ?_
                have hn5 : n ≤ 5 := by have := rl_le R i; omega
                have loop61 : ∀ (fu : Nat) (m : Nat) (L1 : TL), m < fu → (m ≤ 32) → (FL [(42, 0)] L L1) → (WU (entM I t) R C i n m 5 (L1 42 0)) → V a 61 [(0, .ref (eA (vE a) 30 0)), (1, .int (nI t)), (2, .int (nI R)), (3, .int (nI C)), (4, .int (nI n)), (5, .int (nI i)), (6, .int (nI m - nI 1))] [] I L1 := by
                  intro fu
                  induction fu with
                  | zero => intro m L1 hm _ _ _; exact absurd hm (Nat.not_lt_zero _)
                  | succ fu ih61 =>
                    intro m L1 hm61 hm hFL hW
                    refine v_iload X 6 rfl dX6_worthOf_61 ?_
                    refine v_if_lt X dX6_worthOf_63 (tgt := 219) (by decide) (fun h63 => ?_) (fun h63 => ?_)
                    · have hm0 : m = 0 := down_zero (by omega) h63
                      rw [hm0] at hW
                      refine v_iinc X [1, 2, 3, 4, 0, 5, 6] 4 (nI (n + 1)) (lv' := [(0, .ref (eA (vE a) 30 0)), (1, .int (nI t)), (2, .int (nI R)), (3, .int (nI C)), (4, .int (nI (n + 1))), (5, .int (nI i)), (6, .int (nI m - nI 1))]) rfl (nI_1 _) (by decide) rfl dX6_worthOf_219 ?_
                      refine v_iinc X [1, 2, 3, 4, 5, 0, 6] 5 (nI (i + 1)) (lv' := [(0, .ref (eA (vE a) 30 0)), (1, .int (nI t)), (2, .int (nI R)), (3, .int (nI C)), (4, .int (nI (n + 1))), (5, .int (nI (i + 1))), (6, .int (nI m - nI 1))]) rfl (nI_1 _) (by decide) rfl dX6_worthOf_222 ?_
                      refine v_goto X (tgt := 39) dX6_worthOf_225 (by decide) ?_
                      refine v_sub [0, 1, 2, 3, 4, 5] (lv' := [(0, .ref (eA (vE a) 30 0)), (1, .int (nI t)), (2, .int (nI R)), (3, .int (nI C)), (4, .int (nI (n + 1))), (5, .int (nI (i + 1)))]) rfl ?_
                      exact ih39 (i + 1) (n + 1) L1 (by omega) (by omega) (by rw [rl_y (by omega), List.length_append, ← hn]; rfl) hFL (hW.fin (by rw [hn]; exact rsel_atR R hR i (by omega) (by omega)))
                    · obtain ⟨q, rfl⟩ : ∃ q, m = q + 1 := ⟨m - 1, by have := down_pos h63; omega⟩
                      refine v_lv (lv' := [(0, .ref (eA (vE a) 30 0)), (1, .int (nI t)), (2, .int (nI R)), (3, .int (nI C)), (4, .int (nI n)), (5, .int (nI i)), (6, .int (nI q))]) (by rw [down_at]) ?_
                      have hq5 := pc5_le q
                      have hWq := hW.dn
                      refine v_iload X 6 rfl dX6_worthOf_66 ?_
                      refine v_callS X (c_X6_bits _ _ hE _ _ q (by omega)) k_X6_116 ⟨rfl, rfl, Nat.le_of_ble_eq_true rfl, Nat.le_of_ble_eq_true rfl⟩ (As := [.int (nI q)]) (rest := []) rfl rfl (Nat.le_of_ble_eq_true rfl) dX6_worthOf_68 (fun r68 I68 L68 hp68 => ?_)
                      obtain ⟨rfl, e1, e2⟩ := hp68
                      have e1 := e1.symm
                      have e2 := e2.symm
                      subst e1; subst e2
                      refine v_st (st' := [.int (nI (pc5 q))]) rfl ?_
                      refine v_iload X 4 rfl dX6_worthOf_71 ?_
                      refine v_icmp_ne_n X (by omega) (by omega) dX6_worthOf_73 (tgt := 213) (by decide) (fun h73 => ?_) (fun h73 => ?_)
                      · refine v_iinc X [1, 2, 3, 4, 5, 6, 0] 6 (nI q - nI 1) (lv' := [(0, .ref (eA (vE a) 30 0)), (1, .int (nI t)), (2, .int (nI R)), (3, .int (nI C)), (4, .int (nI n)), (5, .int (nI i)), (6, .int (nI q - nI 1))]) rfl (down_dec q) (by decide) rfl dX6_worthOf_213 ?_
                        refine v_goto X (tgt := 61) dX6_worthOf_216 (by decide) ?_
                        exact ih61 q L1 (by omega) (by omega) hFL (hWq.skip hC (by omega) (Or.inl h73))
                      · refine v_aload_n X 0 rfl dX6_worthOf_76 ?_
                        refine gf_X6_43 X dX6_worthOf_77 ?_
                        refine v_iload X 6 rfl dX6_worthOf_80 ?_
                        refine v_lald_n X dl_42 (fun _ _ => rfl) (n := 32) (by omega) (by decide) dX6_worthOf_82 ?_
                        refine v_lconst X (v := 0) dX6_worthOf_83 rfl ?_
                        refine v_lcmp_eq X dX6_worthOf_84 dX6_worthOf_85 (tgt := 213) (by decide) (fun h84 => ?_) (fun h84 => ?_)
                        · refine v_iinc X [1, 2, 3, 4, 5, 6, 0] 6 (nI q - nI 1) (lv' := [(0, .ref (eA (vE a) 30 0)), (1, .int (nI t)), (2, .int (nI R)), (3, .int (nI C)), (4, .int (nI n)), (5, .int (nI i)), (6, .int (nI q - nI 1))]) rfl (down_dec q) (by decide) rfl dX6_worthOf_213 ?_
                          refine v_goto X (tgt := 61) dX6_worthOf_216 (by decide) ?_
                          exact ih61 q L1 (by omega) (by omega) hFL (hWq.skip hC (by omega) (Or.inr (Or.inl ⟨h73, h84⟩)))
                        · refine v_iload X 6 rfl dX6_worthOf_88 ?_
                          refine v_iload_n X 3 rfl dX6_worthOf_90 ?_
                          refine v_iconst X (v := (-1)) dX6_worthOf_91 (by decide) ?_
                          refine v_ixor X dX6_worthOf_92 ?_
                          refine v_iand X dX6_worthOf_93 ?_
                          refine v_if_eq X dX6_worthOf_94 (tgt := 100) (by decide) (fun h94 => ?_) (fun h94 => ?_)
                          · have hsub := (sub_iff q (by omega) C hC).mp h94
                            refine v_iconst X (v := (nI 0)) dX6_worthOf_100 (by decide) ?_
                            refine v_istore X [1, 2, 3, 4, 5, 6, 7, 0] (lv' := [(0, .ref (eA (vE a) 30 0)), (1, .int (nI t)), (2, .int (nI R)), (3, .int (nI C)), (4, .int (nI n)), (5, .int (nI i)), (6, .int (nI q)), (7, .int (nI 0))]) (by decide) rfl dX6_worthOf_101 ?_
                            have loop103 : ∀ (fu : Nat) (j : Nat) (L2 : TL), 6 - j < fu → (j ≤ 5) → (FL [(42, 0)] L L2) → (WU (entM I t) R C i n q j (L2 42 0)) → V a 103 [(0, .ref (eA (vE a) 30 0)), (1, .int (nI t)), (2, .int (nI R)), (3, .int (nI C)), (4, .int (nI n)), (5, .int (nI i)), (6, .int (nI q)), (7, .int (nI j))] [] I L2 := by
                              intro fu
                              induction fu with
                              | zero => intro j L2 hm _ _ _; exact absurd hm (Nat.not_lt_zero _)
                              | succ fu ih103 =>
                                intro j L2 hm103 hj hFL2 hWj
                                refine v_iload X 7 rfl dX6_worthOf_103 ?_
                                refine v_iconst X (v := (nI 5)) dX6_worthOf_105 (by decide) ?_
                                refine v_icmp_ge_n X (by omega) (by omega) dX6_worthOf_106 (tgt := 213) (by decide) (fun h106 => ?_) (fun h106 => ?_)
                                · refine v_iinc X [1, 2, 3, 4, 5, 6, 0, 7] 6 (nI q - nI 1) (lv' := [(0, .ref (eA (vE a) 30 0)), (1, .int (nI t)), (2, .int (nI R)), (3, .int (nI C)), (4, .int (nI n)), (5, .int (nI i)), (6, .int (nI q - nI 1)), (7, .int (nI j))]) rfl (down_dec q) (by decide) rfl dX6_worthOf_213 ?_
                                  refine v_goto X (tgt := 61) dX6_worthOf_216 (by decide) ?_
                                  refine v_sub [0, 1, 2, 3, 4, 5, 6] (lv' := [(0, .ref (eA (vE a) 30 0)), (1, .int (nI t)), (2, .int (nI R)), (3, .int (nI C)), (4, .int (nI n)), (5, .int (nI i)), (6, .int (nI q - nI 1))]) rfl ?_
                                  have hj5 : j = 5 := by omega
                                  rw [hj5] at hWj
                                  exact ih61 q L2 (by omega) (by omega) hFL2 hWj
                                · refine v_iload_n X 3 rfl dX6_worthOf_109 ?_
                                  refine v_iload X 7 rfl dX6_worthOf_110 ?_
                                  refine v_ishr X dX6_worthOf_112 ?_
                                  refine v_eqi (y := (nI (C / 2 ^ j))) (sh_r (by omega) (by omega)) ?_
                                  refine v_iconst X (v := (nI 1)) dX6_worthOf_113 (by decide) ?_
                                  refine v_iand X dX6_worthOf_114 ?_
                                  refine v_eqi (y := (nI ((C / 2 ^ j) &&& 1))) (an_and _ _) ?_
                                  refine v_eqi (y := (nI (C / 2 ^ j % 2))) (congrArg nI (Nat.and_one_is_mod _)) ?_
                                  refine v_if_eq_n X (by omega) dX6_worthOf_115 (tgt := 207) (by decide) (fun h115 => ?_) (fun h115 => ?_)
                                  · refine v_iinc X [1, 2, 3, 4, 5, 6, 7, 0] 7 (nI (j + 1)) (lv' := [(0, .ref (eA (vE a) 30 0)), (1, .int (nI t)), (2, .int (nI R)), (3, .int (nI C)), (4, .int (nI n)), (5, .int (nI i)), (6, .int (nI q)), (7, .int (nI (j + 1)))]) rfl (nI_1 _) (by decide) rfl dX6_worthOf_207 ?_
                                    refine v_goto X (tgt := 103) dX6_worthOf_210 (by decide) ?_
                                    exact ih103 (j + 1) L2 (by omega) (by omega) hFL2 (hWj.jskip hC (Or.inl (by omega)))
                                  · refine v_iload X 6 rfl dX6_worthOf_118 ?_
                                    refine v_iload X 7 rfl dX6_worthOf_120 ?_
                                    refine v_ishr X dX6_worthOf_122 ?_
                                    refine v_eqi (y := (nI (q / 2 ^ j))) (sh_r (by omega) (by omega)) ?_
                                    refine v_iconst X (v := (nI 1)) dX6_worthOf_123 (by decide) ?_
                                    refine v_iand X dX6_worthOf_124 ?_
                                    refine v_eqi (y := (nI ((q / 2 ^ j) &&& 1))) (an_and _ _) ?_
                                    refine v_eqi (y := (nI (q / 2 ^ j % 2))) (congrArg nI (Nat.and_one_is_mod _)) ?_
                                    refine v_iconst X (v := (nI 1)) dX6_worthOf_125 (by decide) ?_
                                    refine v_icmp_ne_n X (by omega) (by omega) dX6_worthOf_126 (tgt := 132) (by decide) (fun h126 => ?_) (fun h126 => ?_)
                                    · refine v_iload X 6 rfl dX6_worthOf_132 ?_
                                      refine v_iload X 7 rfl dX6_worthOf_134 ?_
                                      refine v_iconst X (v := (nI 1)) dX6_worthOf_136 (by decide) ?_
                                      refine v_iadd X dX6_worthOf_137 ?_
                                      refine v_eqi (y := (nI (j + 1))) (nI_add _ _) ?_
                                      refine v_ishr X dX6_worthOf_138 ?_
                                      refine v_eqi (y := (nI (q / 2 ^ (j + 1)))) (sh_r (by omega) (by omega)) ?_
                                      have hdq := Nat.div_le_self q (2 ^ (j + 1))
                                      have hdp := pc5_le (q / 2 ^ (j + 1))
                                      refine v_callS X (c_X6_bits _ _ hE _ _ (q / 2 ^ (j + 1)) (by omega)) k_X6_116 ⟨rfl, rfl, Nat.le_of_ble_eq_true rfl, Nat.le_of_ble_eq_true rfl⟩ (As := [.int (nI (q / 2 ^ (j + 1)))]) (rest := []) rfl rfl (Nat.le_of_ble_eq_true rfl) dX6_worthOf_139 (fun r139 I139 L139 hp139 => ?_)
                                      obtain ⟨rfl, e1, e2⟩ := hp139
                                      have e1 := e1.symm
                                      have e2 := e2.symm
                                      subst e1; subst e2
                                      refine v_st (st' := [.int (nI (pc5 (q / 2 ^ (j + 1))))]) rfl ?_
                                      refine v_iconst X (v := (nI 2)) dX6_worthOf_142 (by decide) ?_
                                      refine v_irem X dX6_worthOf_143 (by decide) ?_
                                      refine v_eqi (y := (nI (pc5 (q / 2 ^ (j + 1)) % 2))) (irem2 _ (by omega)) ?_
                                      refine v_iconst X (v := (nI 1)) dX6_worthOf_144 (by decide) ?_
                                      refine v_icmp_ne_n X (by omega) (by omega) dX6_worthOf_145 (tgt := 152) (by decide) (fun h145 => ?_) (fun h145 => ?_)
                                      · refine v_iconst X (v := (nI 0)) dX6_worthOf_152 (by decide) ?_
                                        refine v_istore X [1, 2, 3, 4, 5, 6, 7, 8, 0] (lv' := [(0, .ref (eA (vE a) 30 0)), (1, .int (nI t)), (2, .int (nI R)), (3, .int (nI C)), (4, .int (nI n)), (5, .int (nI i)), (6, .int (nI q)), (7, .int (nI j)), (8, .int (nI 0))]) (by decide) rfl dX6_worthOf_153 ?_
                                        refine v_aload_n X 0 rfl dX6_worthOf_155 ?_
                                        refine gf_X6_43 X dX6_worthOf_156 ?_
                                        refine v_iload X 6 rfl dX6_worthOf_159 ?_
                                        refine v_lald_n X dl_42 (fun _ _ => rfl) (n := 32) (by omega) (by decide) dX6_worthOf_161 ?_
                                        refine v_aload_n X 0 rfl dX6_worthOf_162 ?_
                                        refine gf_X6_7 X dX6_worthOf_163 ?_
                                        refine v_iload_n X 1 rfl dX6_worthOf_166 ?_
                                        refine v_iload X 5 rfl dX6_worthOf_167 ?_
                                        refine v_iload X 7 rfl dX6_worthOf_169 ?_
                                        refine v_callS X (c_X6_place _ _ hE _ _ t i j) k_X6_113 ⟨rfl, rfl, Nat.le_of_ble_eq_true rfl, Nat.le_of_ble_eq_true rfl⟩ (As := [.int (nI t), .int (nI i), .int (nI j)]) (rest := [.ref (eA (vE a) 31 0), .long (L2 42 0 q)]) rfl rfl (Nat.le_of_ble_eq_true rfl) dX6_worthOf_171 (fun r171 I171 L171 hp171 => ?_)
                                        obtain ⟨rfl, e1, e2⟩ := hp171
                                        have e1 := e1.symm
                                        have e2 := e2.symm
                                        subst e1; subst e2
                                        refine v_st (st' := [.int (nI (25 * t + 5 * i + j)), .ref (eA (vE a) 31 0), .long (L2 42 0 q)]) rfl ?_
                                        refine v_iald_n X dl_31 (fun _ _ => rfl) (n := 300) (by omega) (by decide) dX6_worthOf_174 ?_
                                        refine v_i2l X dX6_worthOf_175 rfl ?_
                                        refine v_lmul X dX6_worthOf_176 ?_
                                        refine v_lstore X [1, 2, 3, 4, 5, 6, 7, 8, 9, 0] (lv' := [(0, .ref (eA (vE a) 30 0)), (1, .int (nI t)), (2, .int (nI R)), (3, .int (nI C)), (4, .int (nI n)), (5, .int (nI i)), (6, .int (nI q)), (7, .int (nI j)), (8, .int (nI 0)), (9, .long ((L2 42 0 q) * (I 31 0 (25 * t + 5 * i + j)).toInt64))]) (by decide) rfl dX6_worthOf_177 ?_
                                        refine v_aload_n X 0 rfl dX6_worthOf_179 ?_
                                        refine gf_X6_43 X dX6_worthOf_180 ?_
                                        refine v_iload X 6 rfl dX6_worthOf_183 ?_
                                        refine v_iconst X (v := (nI 1)) dX6_worthOf_185 (by decide) ?_
                                        refine v_iload X 7 rfl dX6_worthOf_186 ?_
                                        refine v_ishl X dX6_worthOf_188 ?_
                                        refine v_eqi (y := (nI (2 ^ j))) (sh_one (by omega)) ?_
                                        refine v_ior X dX6_worthOf_189 ?_
                                        refine v_eqi (y := (nI (q ||| (2 ^ j)))) (an_or _ _) ?_
                                        refine v_dup2_11 X dX6_worthOf_190 rfl rfl ?_
                                        refine v_lald_n X dl_42 (fun _ _ => rfl) (n := 32) (or_lt q (by omega) j (by omega)) (by decide) dX6_worthOf_191 ?_
                                        refine v_iload X 8 rfl dX6_worthOf_192 ?_
                                        refine v_if_eq_n X (by omega) dX6_worthOf_194 (tgt := 203) (by decide) (fun h194 => ?_) (fun h194 => ?_)
                                        · refine v_lload X 9 rfl dX6_worthOf_203 ?_
                                          refine v_ladd X dX6_worthOf_205 ?_
                                          refine v_last_n X dl_42 (fun _ _ => rfl) (n := 32) (or_lt q (by omega) j (by omega)) (by decide) dX6_worthOf_206 ?_
                                          refine v_iinc X [1, 2, 3, 4, 5, 6, 7, 0, 8, 9] 7 (nI (j + 1)) (lv' := [(0, .ref (eA (vE a) 30 0)), (1, .int (nI t)), (2, .int (nI R)), (3, .int (nI C)), (4, .int (nI n)), (5, .int (nI i)), (6, .int (nI q)), (7, .int (nI (j + 1))), (8, .int (nI 0)), (9, .long ((L2 42 0 q) * (I 31 0 (25 * t + 5 * i + j)).toInt64))]) rfl (nI_1 _) (by decide) rfl dX6_worthOf_207 ?_
                                          refine v_goto X (tgt := 103) dX6_worthOf_210 (by decide) ?_
                                          refine v_sub [0, 1, 2, 3, 4, 5, 6, 7] (lv' := [(0, .ref (eA (vE a) 30 0)), (1, .int (nI t)), (2, .int (nI R)), (3, .int (nI C)), (4, .int (nI n)), (5, .int (nI i)), (6, .int (nI q)), (7, .int (nI (j + 1)))]) rfl ?_
                                          have hpar := or_hi q (by omega) j (by omega)
                                          exact ih103 (j + 1) (upL L2 42 0 (q ||| (2 ^ j)) ((L2 42 0 (q ||| (2 ^ j))) + ((L2 42 0 q) * (I 31 0 (25 * t + 5 * i + j)).toInt64))) (by omega) (by omega) (hFL2.up (by simp)) (hWj.put (by omega) (by omega) hC hsub h73 h126 (sg_e (by rw [hpar]; exact h145)))
                                        · exact absurd h194 (by decide)
                                      · refine v_iconst X (v := (nI 1)) dX6_worthOf_148 (by decide) ?_
                                        refine v_goto X (tgt := 153) dX6_worthOf_149 (by decide) ?_
                                        refine v_istore X [1, 2, 3, 4, 5, 6, 7, 8, 0] (lv' := [(0, .ref (eA (vE a) 30 0)), (1, .int (nI t)), (2, .int (nI R)), (3, .int (nI C)), (4, .int (nI n)), (5, .int (nI i)), (6, .int (nI q)), (7, .int (nI j)), (8, .int (nI 1))]) (by decide) rfl dX6_worthOf_153 ?_
                                        refine v_aload_n X 0 rfl dX6_worthOf_155 ?_
                                        refine gf_X6_43 X dX6_worthOf_156 ?_
                                        refine v_iload X 6 rfl dX6_worthOf_159 ?_
                                        refine v_lald_n X dl_42 (fun _ _ => rfl) (n := 32) (by omega) (by decide) dX6_worthOf_161 ?_
                                        refine v_aload_n X 0 rfl dX6_worthOf_162 ?_
                                        refine gf_X6_7 X dX6_worthOf_163 ?_
                                        refine v_iload_n X 1 rfl dX6_worthOf_166 ?_
                                        refine v_iload X 5 rfl dX6_worthOf_167 ?_
                                        refine v_iload X 7 rfl dX6_worthOf_169 ?_
                                        refine v_callS X (c_X6_place _ _ hE _ _ t i j) k_X6_113 ⟨rfl, rfl, Nat.le_of_ble_eq_true rfl, Nat.le_of_ble_eq_true rfl⟩ (As := [.int (nI t), .int (nI i), .int (nI j)]) (rest := [.ref (eA (vE a) 31 0), .long (L2 42 0 q)]) rfl rfl (Nat.le_of_ble_eq_true rfl) dX6_worthOf_171 (fun r171 I171 L171 hp171 => ?_)
                                        obtain ⟨rfl, e1, e2⟩ := hp171
                                        have e1 := e1.symm
                                        have e2 := e2.symm
                                        subst e1; subst e2
                                        refine v_st (st' := [.int (nI (25 * t + 5 * i + j)), .ref (eA (vE a) 31 0), .long (L2 42 0 q)]) rfl ?_
                                        refine v_iald_n X dl_31 (fun _ _ => rfl) (n := 300) (by omega) (by decide) dX6_worthOf_174 ?_
                                        refine v_i2l X dX6_worthOf_175 rfl ?_
                                        refine v_lmul X dX6_worthOf_176 ?_
                                        refine v_lstore X [1, 2, 3, 4, 5, 6, 7, 8, 9, 0] (lv' := [(0, .ref (eA (vE a) 30 0)), (1, .int (nI t)), (2, .int (nI R)), (3, .int (nI C)), (4, .int (nI n)), (5, .int (nI i)), (6, .int (nI q)), (7, .int (nI j)), (8, .int (nI 1)), (9, .long ((L2 42 0 q) * (I 31 0 (25 * t + 5 * i + j)).toInt64))]) (by decide) rfl dX6_worthOf_177 ?_
                                        refine v_aload_n X 0 rfl dX6_worthOf_179 ?_
                                        refine gf_X6_43 X dX6_worthOf_180 ?_
                                        refine v_iload X 6 rfl dX6_worthOf_183 ?_
                                        refine v_iconst X (v := (nI 1)) dX6_worthOf_185 (by decide) ?_
                                        refine v_iload X 7 rfl dX6_worthOf_186 ?_
                                        refine v_ishl X dX6_worthOf_188 ?_
                                        refine v_eqi (y := (nI (2 ^ j))) (sh_one (by omega)) ?_
                                        refine v_ior X dX6_worthOf_189 ?_
                                        refine v_eqi (y := (nI (q ||| (2 ^ j)))) (an_or _ _) ?_
                                        refine v_dup2_11 X dX6_worthOf_190 rfl rfl ?_
                                        refine v_lald_n X dl_42 (fun _ _ => rfl) (n := 32) (or_lt q (by omega) j (by omega)) (by decide) dX6_worthOf_191 ?_
                                        refine v_iload X 8 rfl dX6_worthOf_192 ?_
                                        refine v_if_eq_n X (by omega) dX6_worthOf_194 (tgt := 203) (by decide) (fun h194 => ?_) (fun h194 => ?_)
                                        · exact absurd h194 (by decide)
                                        · refine v_lload X 9 rfl dX6_worthOf_197 ?_
                                          refine v_lneg X dX6_worthOf_199 ?_
                                          refine v_goto X (tgt := 205) dX6_worthOf_200 (by decide) ?_
                                          refine v_ladd X dX6_worthOf_205 ?_
                                          refine v_last_n X dl_42 (fun _ _ => rfl) (n := 32) (or_lt q (by omega) j (by omega)) (by decide) dX6_worthOf_206 ?_
                                          refine v_iinc X [1, 2, 3, 4, 5, 6, 7, 0, 8, 9] 7 (nI (j + 1)) (lv' := [(0, .ref (eA (vE a) 30 0)), (1, .int (nI t)), (2, .int (nI R)), (3, .int (nI C)), (4, .int (nI n)), (5, .int (nI i)), (6, .int (nI q)), (7, .int (nI (j + 1))), (8, .int (nI 1)), (9, .long ((L2 42 0 q) * (I 31 0 (25 * t + 5 * i + j)).toInt64))]) rfl (nI_1 _) (by decide) rfl dX6_worthOf_207 ?_
                                          refine v_goto X (tgt := 103) dX6_worthOf_210 (by decide) ?_
                                          refine v_sub [0, 1, 2, 3, 4, 5, 6, 7] (lv' := [(0, .ref (eA (vE a) 30 0)), (1, .int (nI t)), (2, .int (nI R)), (3, .int (nI C)), (4, .int (nI n)), (5, .int (nI i)), (6, .int (nI q)), (7, .int (nI (j + 1)))]) rfl ?_
                                          have hpar := or_hi q (by omega) j (by omega)
                                          exact ih103 (j + 1) (upL L2 42 0 (q ||| (2 ^ j)) ((L2 42 0 (q ||| (2 ^ j))) + (-((L2 42 0 q) * (I 31 0 (25 * t + 5 * i + j)).toInt64)))) (by omega) (by omega) (hFL2.up (by simp)) (hWj.put (by omega) (by omega) hC hsub h73 h126 (sg_o (by rw [hpar]; exact h145)))
                                    · refine v_goto X (tgt := 207) dX6_worthOf_129 (by decide) ?_
                                      refine v_iinc X [1, 2, 3, 4, 5, 6, 7, 0] 7 (nI (j + 1)) (lv' := [(0, .ref (eA (vE a) 30 0)), (1, .int (nI t)), (2, .int (nI R)), (3, .int (nI C)), (4, .int (nI n)), (5, .int (nI i)), (6, .int (nI q)), (7, .int (nI (j + 1)))]) rfl (nI_1 _) (by decide) rfl dX6_worthOf_207 ?_
                                      refine v_goto X (tgt := 103) dX6_worthOf_210 (by decide) ?_
                                      exact ih103 (j + 1) L2 (by omega) (by omega) hFL2 (hWj.jskip hC (Or.inr h126))
                            exact loop103 _ 0 L1 (Nat.lt_succ_self _) (by decide) hFL hWq
                          · refine v_goto X (tgt := 213) dX6_worthOf_97 (by decide) ?_
                            refine v_iinc X [1, 2, 3, 4, 5, 6, 0] 6 (nI q - nI 1) (lv' := [(0, .ref (eA (vE a) 30 0)), (1, .int (nI t)), (2, .int (nI R)), (3, .int (nI C)), (4, .int (nI n)), (5, .int (nI i)), (6, .int (nI q - nI 1))]) rfl (down_dec q) (by decide) rfl dX6_worthOf_213 ?_
                            refine v_goto X (tgt := 61) dX6_worthOf_216 (by decide) ?_
                            exact ih61 q L1 (by omega) (by omega) hFL (hWq.skip hC (by omega) (Or.inr (Or.inr (fun z => h94 ((sub_iff q (by omega) C hC).mpr z)))))
                exact loop61 _ 32 L1 (Nat.lt_succ_self _) (by decide) hFL hH.row
              · refine v_goto X (tgt := 222) dX6_worthOf_54 (by decide) ?_
                refine v_iinc X [1, 2, 3, 4, 5, 0] 5 (nI (i + 1)) (lv' := [(0, .ref (eA (vE a) 30 0)), (1, .int (nI t)), (2, .int (nI R)), (3, .int (nI C)), (4, .int (nI n)), (5, .int (nI (i + 1)))]) rfl (nI_1 _) (by decide) rfl dX6_worthOf_222 ?_
                refine v_goto X (tgt := 39) dX6_worthOf_225 (by decide) ?_
                exact ih39 (i + 1) n L1 (by omega) (by omega) (by rw [rl_n (by omega)]; exact hn) hFL hH
        exact loop39 _ 0 0 L1 (Nat.lt_succ_self _) (by decide) rfl hFL (WH.ini (fun D hD => hz D (by omega)))
      · refine v_aload_n X 0 rfl dX6_worthOf_10 ?_
        refine gf_X6_43 X dX6_worthOf_11 ?_
        refine v_iload X 4 rfl dX6_worthOf_14 ?_
        refine v_iload X 4 rfl dX6_worthOf_16 ?_
        refine v_if_ne_n X (by omega) dX6_worthOf_18 (tgt := 25) (by decide) (fun h18 => ?_) (fun h18 => ?_)
        · refine v_lconst X (v := 0) dX6_worthOf_25 rfl ?_
          refine v_last_n X dl_42 (fun _ _ => rfl) (n := 32) (by omega) (by decide) dX6_worthOf_26 ?_
          refine v_iinc X [1, 2, 3, 4, 0] 4 (nI (k + 1)) (lv' := [(0, .ref (eA (vE a) 30 0)), (1, .int (nI t)), (2, .int (nI R)), (3, .int (nI C)), (4, .int (nI (k + 1)))]) rfl (nI_1 _) (by decide) rfl dX6_worthOf_27 ?_
          refine v_goto X (tgt := 3) dX6_worthOf_30 (by decide) ?_
          have hnew : ∀ D, D < k + 1 → upL L1 42 0 k 0 42 0 D = if D = 0 then 1 else 0 := fun D hD => by
            by_cases e : D = k
            · rw [e, upL_eq, if_neg (by omega)]
            · rw [upL_x e]; exact hz D (by omega)
          exact ih3 (k + 1) (upL L1 42 0 k 0) (by omega) (by omega) (hFL.up (by simp)) hnew
        · refine v_lconst X (v := 1) dX6_worthOf_21 rfl ?_
          refine v_goto X (tgt := 26) dX6_worthOf_22 (by decide) ?_
          refine v_last_n X dl_42 (fun _ _ => rfl) (n := 32) (by omega) (by decide) dX6_worthOf_26 ?_
          refine v_iinc X [1, 2, 3, 4, 0] 4 (nI (k + 1)) (lv' := [(0, .ref (eA (vE a) 30 0)), (1, .int (nI t)), (2, .int (nI R)), (3, .int (nI C)), (4, .int (nI (k + 1)))]) rfl (nI_1 _) (by decide) rfl dX6_worthOf_27 ?_
          refine v_goto X (tgt := 3) dX6_worthOf_30 (by decide) ?_
          have hnew : ∀ D, D < k + 1 → upL L1 42 0 k 1 42 0 D = if D = 0 then 1 else 0 := fun D hD => by
            by_cases e : D = k
            · rw [e, upL_eq, if_pos (by omega)]
            · rw [upL_x e]; exact hz D (by omega)
          exact ih3 (k + 1) (upL L1 42 0 k 1) (by omega) (by omega) (hFL.up (by simp)) hnew
  exact loop3 _ 0 L (Nat.lt_succ_self _) (by decide) FL.rf (fun D h => absurd h (Nat.not_lt_zero _))
