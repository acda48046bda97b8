/-! further rows: truth values, numbers that are Nats, long compares, a copy -/
def bI (p : Prop) [Decidable p] : Int32 := if p then 1 else 0
theorem bI_eq0 {p : Prop} [Decidable p] : bI p = 0 ↔ ¬ p := by
  unfold bI
  split <;> simp_all
theorem bI_nar {p : Prop} [Decidable p] : narrow .boolean (.int (bI p)) = .int (bI p) := by
  unfold bI
  split <;> rfl
theorem bI_t {p : Prop} [Decidable p] (h : p) : bI p = 1 := if_pos h
theorem bI_f {p : Prop} [Decidable p] (h : ¬ p) : bI p = 0 := if_neg h
theorem nI_pos_ne {n : Nat} (h : n < 2 ^ 31) : nI n = 0 ↔ n = 0 := nI_eq h (by decide) (b := 0)
theorem nI_0lt {n : Nat} (h : n < 2 ^ 31) : 0 < nI n ↔ 0 < n := nI_ltI (a := 0) (by decide) h
theorem nI_le0 {n : Nat} (h : n < 2 ^ 31) : nI n ≤ 0 ↔ n = 0 := by
  have := nI_leI (b := 0) h (by decide)
  exact this.trans Nat.le_zero
/-- an index within, as a number -/
theorem ix_of {x : Int32} {n : Nat} (h1 : 0 ≤ x) (h2 : x < nI n) (hn : n < 2 ^ 31) : ∃ j : Nat, j < n ∧ x = nI j := by
  obtain ⟨j, hj, rfl⟩ := nI_of (Int32.not_lt.mpr h1)
  exact ⟨j, (nI_ltI hj hn).mp h2, rfl⟩
theorem ix_of' {x : Int32} {n : Nat} (h1 : 0 ≤ x) (h2 : x ≤ nI n) (hn : n < 2 ^ 31) : ∃ j : Nat, j ≤ n ∧ x = nI j := by
  obtain ⟨j, hj, rfl⟩ := nI_of (Int32.not_lt.mpr h1)
  exact ⟨j, (nI_leI hj hn).mp h2, rfl⟩
def rowI (I : TI) (k j : Nat) (f : Nat → Int32) : TI := fun k' j' => if k' = k ∧ j' = j then f else I k' j'
def rowL (L : TL) (k j : Nat) (f : Nat → Int64) : TL := fun k' j' => if k' = k ∧ j' = j then f else L k' j'
theorem rowI_row (I : TI) (k j : Nat) (f : Nat → Int32) : rowI I k j f k j = f := by simp [rowI]
theorem rowI_off (I : TI) (k j : Nat) (f : Nat → Int32) {k' j' : Nat} (h : (k', j') ≠ (k, j)) : rowI I k j f k' j' = I k' j' := by
  unfold rowI
  rw [if_neg]
  rintro ⟨rfl, rfl⟩
  exact h rfl
theorem rowL_row (L : TL) (k j : Nat) (f : Nat → Int64) : rowL L k j f k j = f := by simp [rowL]
theorem rowL_off (L : TL) (k j : Nat) (f : Nat → Int64) {k' j' : Nat} (h : (k', j') ≠ (k, j)) : rowL L k j f k' j' = L k' j' := by
  unfold rowL
  rw [if_neg]
  rintro ⟨rfl, rfl⟩
  exact h rfl
theorem rowI_self (I : TI) (k j : Nat) : rowI I k j (I k j) = I := by
  funext k' j'
  unfold rowI
  split
  next h => rw [h.1, h.2]
  next => rfl
theorem rowL_self (L : TL) (k j : Nat) : rowL L k j (L k j) = L := by
  funext k' j'
  unfold rowL
  split
  next h => rw [h.1, h.2]
  next => rfl
theorem rowI_rowI (I : TI) (k j : Nat) (f g : Nat → Int32) : rowI (rowI I k j f) k j g = rowI I k j g := by
  funext k' j'
  unfold rowI
  split <;> rfl
theorem rowL_rowL (L : TL) (k j : Nat) (f g : Nat → Int64) : rowL (rowL L k j f) k j g = rowL L k j g := by
  funext k' j'
  unfold rowL
  split <;> rfl
theorem upI_rowI (I : TI) (k j x : Nat) (v : Int32) : upI I k j x v = rowI I k j (upd (I k j) x v) := by
  funext k' j' x'
  unfold upI rowI
  by_cases h : k' = k ∧ j' = j
  · obtain ⟨rfl, rfl⟩ := h
    simp [upd]
  · rw [if_neg h, if_neg (fun q => h ⟨q.1, q.2.1⟩)]
theorem upL_rowL (L : TL) (k j x : Nat) (v : Int64) : upL L k j x v = rowL L k j (vp_updL (L k j) x v) := by
  funext k' j' x'
  unfold upL rowL
  by_cases h : k' = k ∧ j' = j
  · obtain ⟨rfl, rfl⟩ := h
    simp [vp_updL]
  · rw [if_neg h, if_neg (fun q => h ⟨q.1, q.2.1⟩)]
theorem an_and (a b : Nat) : nI a &&& nI b = nI (a &&& b) := by
  apply Int32.toBitVec_inj.mp
  show (nI a).toBitVec &&& (nI b).toBitVec = (nI (a &&& b)).toBitVec
  apply BitVec.eq_of_toNat_eq
  simp [nI, Nat.and_mod_two_pow]
theorem an_or (a b : Nat) : nI a ||| nI b = nI (a ||| b) := by
  apply Int32.toBitVec_inj.mp
  show (nI a).toBitVec ||| (nI b).toBitVec = (nI (a ||| b)).toBitVec
  apply BitVec.eq_of_toNat_eq
  simp [nI, Nat.or_mod_two_pow]
theorem an_xor (a b : Nat) : nI a ^^^ nI b = nI (a ^^^ b) := by
  apply Int32.toBitVec_inj.mp
  show (nI a).toBitVec ^^^ (nI b).toBitVec = (nI (a ^^^ b)).toBitVec
  apply BitVec.eq_of_toNat_eq
  simp [nI, Nat.xor_mod_two_pow]
theorem sh_amt : ∀ n, n < 32 → ((nI n &&& 31).toBitVec.smod 32).toNat = n := by decide +kernel
theorem sh_l {n k : Nat} (hk : k < 31) (h : n * 2 ^ k < 2 ^ 31) : nI n <<< (nI k &&& 31) = nI (n * 2 ^ k) := pk_shlN _ k (sh_amt k (by omega)) (by omega)
theorem sh_one {k : Nat} (hk : k < 31) : nI 1 <<< (nI k &&& 31) = nI (2 ^ k) := by
  have h : 2 ^ k < 2 ^ 31 := Nat.pow_lt_pow_right (by decide) hk
  have e := sh_l (n := 1) hk (by omega)
  rwa [Nat.one_mul] at e
theorem sh_r {n k : Nat} (hn : n < 2 ^ 31) (hk : k < 32) : nI n >>> (nI k &&& 31) = nI (n / 2 ^ k) := pk_shrN hn _ k (sh_amt k hk)
theorem nI_dec {n : Nat} (h : 0 < n) : nI n + Int32.ofInt (-1) = nI (n - 1) := by
  obtain ⟨m, rfl⟩ : ∃ m, n = m + 1 := ⟨n - 1, by omega⟩
  exact pk_m1 m
theorem retT {p : Prop} [Decidable p] (h : p) : some (Value.int (nI 1)) = some (.int (bI p)) := by rw [bI_t h]; rfl
theorem retF {p : Prop} [Decidable p] (h : ¬ p) : some (Value.int (nI 0)) = some (.int (bI p)) := by rw [bI_f h]; rfl
def isT (c : Nat) (x : Int32) : Prop := ∃ t, t < c ∧ x = nI t
theorem isT_of {x : Int32} {c : Nat} (hc : c < 2 ^ 31) (h1 : ¬ x < 0) (h2 : ¬ nI c ≤ x) : isT c x := ix_of (Int32.not_lt.mp h1) (Int32.not_le.mp h2) hc
theorem isT_neg {x : Int32} {c : Nat} (hc : c < 2 ^ 31) (h : x < 0) : ¬ isT c x := fun ⟨t, h1, h2⟩ => nI_pos (n := t) (by omega) (h2 ▸ h)
theorem isT_big {x : Int32} {c : Nat} (hc : c < 2 ^ 31) (h : nI c ≤ x) : ¬ isT c x := fun ⟨t, h1, h2⟩ => by
  rw [h2] at h
  have := (nI_leI hc (by omega)).mp h
  omega
section VM
variable {a : VA} {own : String} {cc : ByteArray} {rm : Room} {nL : Nat} {pc : Nat} {lv : List (Nat × Value)} {st : List Value} {I : TI} {L : TL}
theorem v_ifb_eq (X : VOk a own cc rm nL) {p : Prop} [Decidable p] {off : Int} {tgt : Nat} (hd : decode cc pc = .ok (.ifCond .eq off, 3)) (ht : (pc : Int) + off = (tgt : Int)) (kt : ¬ p → V a tgt lv st I L) (kf : p → V a (pc + 3) lv st I L) : V a pc lv (.int (bI p) :: st) I L :=
  v_if_eq X hd ht (fun h => kt (bI_eq0.mp h)) (fun h => kf (Decidable.not_not.mp fun q => h (bI_eq0.mpr q)))
theorem v_ifb_ne (X : VOk a own cc rm nL) {p : Prop} [Decidable p] {off : Int} {tgt : Nat} (hd : decode cc pc = .ok (.ifCond .ne off, 3)) (ht : (pc : Int) + off = (tgt : Int)) (kt : p → V a tgt lv st I L) (kf : ¬ p → V a (pc + 3) lv st I L) : V a pc lv (.int (bI p) :: st) I L :=
  v_if_ne X hd ht (fun h => kt (Decidable.not_not.mp fun q => h (bI_eq0.mpr q))) (fun h => kf (bI_eq0.mp h))
theorem v_icmp_lt_n (X : VOk a own cc rm nL) {x y : Nat} (ha : x < 2 ^ 31) (hb : y < 2 ^ 31) {off : Int} {tgt : Nat} (hd : decode cc pc = .ok (.if_icmp .lt off, 3)) (ht : (pc : Int) + off = (tgt : Int)) (kt : x < y → V a tgt lv st I L) (kf : y ≤ x → V a (pc + 3) lv st I L) : V a pc lv (.int (nI y) :: .int (nI x) :: st) I L := v_icmp_lt X hd ht (fun h => kt ((nI_ltI ha hb).mp h)) (fun h => kf (Nat.le_of_not_lt fun q => h ((nI_ltI ha hb).mpr q)))
theorem v_icmp_ge_n (X : VOk a own cc rm nL) {x y : Nat} (ha : x < 2 ^ 31) (hb : y < 2 ^ 31) {off : Int} {tgt : Nat} (hd : decode cc pc = .ok (.if_icmp .ge off, 3)) (ht : (pc : Int) + off = (tgt : Int)) (kt : y ≤ x → V a tgt lv st I L) (kf : x < y → V a (pc + 3) lv st I L) : V a pc lv (.int (nI y) :: .int (nI x) :: st) I L := v_icmp_ge X hd ht (fun h => kt ((nI_leI hb ha).mp h)) (fun h => kf (Nat.lt_of_not_le fun q => h ((nI_leI hb ha).mpr q)))
theorem v_icmp_gt_n (X : VOk a own cc rm nL) {x y : Nat} (ha : x < 2 ^ 31) (hb : y < 2 ^ 31) {off : Int} {tgt : Nat} (hd : decode cc pc = .ok (.if_icmp .gt off, 3)) (ht : (pc : Int) + off = (tgt : Int)) (kt : y < x → V a tgt lv st I L) (kf : x ≤ y → V a (pc + 3) lv st I L) : V a pc lv (.int (nI y) :: .int (nI x) :: st) I L := v_icmp_gt X hd ht (fun h => kt ((nI_ltI hb ha).mp h)) (fun h => kf (Nat.le_of_not_lt fun q => h ((nI_ltI hb ha).mpr q)))
theorem v_icmp_le_n (X : VOk a own cc rm nL) {x y : Nat} (ha : x < 2 ^ 31) (hb : y < 2 ^ 31) {off : Int} {tgt : Nat} (hd : decode cc pc = .ok (.if_icmp .le off, 3)) (ht : (pc : Int) + off = (tgt : Int)) (kt : x ≤ y → V a tgt lv st I L) (kf : y < x → V a (pc + 3) lv st I L) : V a pc lv (.int (nI y) :: .int (nI x) :: st) I L := v_icmp_le X hd ht (fun h => kt ((nI_leI ha hb).mp h)) (fun h => kf (Nat.lt_of_not_le fun q => h ((nI_leI ha hb).mpr q)))
theorem v_icmp_eq_n (X : VOk a own cc rm nL) {x y : Nat} (ha : x < 2 ^ 31) (hb : y < 2 ^ 31) {off : Int} {tgt : Nat} (hd : decode cc pc = .ok (.if_icmp .eq off, 3)) (ht : (pc : Int) + off = (tgt : Int)) (kt : x = y → V a tgt lv st I L) (kf : x ≠ y → V a (pc + 3) lv st I L) : V a pc lv (.int (nI y) :: .int (nI x) :: st) I L := v_icmp_eq X hd ht (fun h => kt ((nI_eq ha hb).mp h)) (fun h => kf (fun q => h ((nI_eq ha hb).mpr q)))
theorem v_icmp_ne_n (X : VOk a own cc rm nL) {x y : Nat} (ha : x < 2 ^ 31) (hb : y < 2 ^ 31) {off : Int} {tgt : Nat} (hd : decode cc pc = .ok (.if_icmp .ne off, 3)) (ht : (pc : Int) + off = (tgt : Int)) (kt : x ≠ y → V a tgt lv st I L) (kf : x = y → V a (pc + 3) lv st I L) : V a pc lv (.int (nI y) :: .int (nI x) :: st) I L := v_icmp_ne X hd ht (fun h => kt (fun q => h ((nI_eq ha hb).mpr q))) (fun h => kf ((nI_eq ha hb).mp h))
theorem v_if_eq_n (X : VOk a own cc rm nL) {x : Nat} (ha : x < 2 ^ 31) {off : Int} {tgt : Nat} (hd : decode cc pc = .ok (.ifCond .eq off, 3)) (ht : (pc : Int) + off = (tgt : Int)) (kt : x = 0 → V a tgt lv st I L) (kf : 0 < x → V a (pc + 3) lv st I L) : V a pc lv (.int (nI x) :: st) I L := v_if_eq X hd ht (fun h => kt ((nI_pos_ne ha).mp h)) (fun h => kf (Nat.pos_of_ne_zero fun q => h ((nI_pos_ne ha).mpr q)))
theorem v_if_ne_n (X : VOk a own cc rm nL) {x : Nat} (ha : x < 2 ^ 31) {off : Int} {tgt : Nat} (hd : decode cc pc = .ok (.ifCond .ne off, 3)) (ht : (pc : Int) + off = (tgt : Int)) (kt : 0 < x → V a tgt lv st I L) (kf : x = 0 → V a (pc + 3) lv st I L) : V a pc lv (.int (nI x) :: st) I L := v_if_ne X hd ht (fun h => kt (Nat.pos_of_ne_zero fun q => h ((nI_pos_ne ha).mpr q))) (fun h => kf ((nI_pos_ne ha).mp h))
theorem v_if_gt_n (X : VOk a own cc rm nL) {x : Nat} (ha : x < 2 ^ 31) {off : Int} {tgt : Nat} (hd : decode cc pc = .ok (.ifCond .gt off, 3)) (ht : (pc : Int) + off = (tgt : Int)) (kt : 0 < x → V a tgt lv st I L) (kf : x = 0 → V a (pc + 3) lv st I L) : V a pc lv (.int (nI x) :: st) I L := v_if_gt X hd ht (fun h => kt ((nI_0lt ha).mp h)) (fun h => kf (Nat.le_zero.mp (Nat.le_of_not_lt fun q => h ((nI_0lt ha).mpr q))))
theorem v_if_le_n (X : VOk a own cc rm nL) {x : Nat} (ha : x < 2 ^ 31) {off : Int} {tgt : Nat} (hd : decode cc pc = .ok (.ifCond .le off, 3)) (ht : (pc : Int) + off = (tgt : Int)) (kt : x = 0 → V a tgt lv st I L) (kf : 0 < x → V a (pc + 3) lv st I L) : V a pc lv (.int (nI x) :: st) I L := v_if_le X hd ht (fun h => kt ((nI_le0 ha).mp h)) (fun h => kf (Nat.pos_of_ne_zero fun q => h ((nI_le0 ha).mpr q)))
theorem v_if_lt_n (X : VOk a own cc rm nL) {x : Nat} (ha : x < 2 ^ 31) {off : Int} {tgt : Nat} (hd : decode cc pc = .ok (.ifCond .lt off, 3)) (ht : (pc : Int) + off = (tgt : Int)) (kf : V a (pc + 3) lv st I L) : V a pc lv (.int (nI x) :: st) I L := v_if_lt X hd ht (fun h => absurd h (nI_pos ha)) (fun _ => kf)
theorem v_if_ge_n (X : VOk a own cc rm nL) {x : Nat} (ha : x < 2 ^ 31) {off : Int} {tgt : Nat} (hd : decode cc pc = .ok (.ifCond .ge off, 3)) (ht : (pc : Int) + off = (tgt : Int)) (kt : V a tgt lv st I L) : V a pc lv (.int (nI x) :: st) I L := v_if_ge X hd ht (fun _ => kt) (fun h => absurd (nI_pos' ha) h)
theorem v_lcmp_lt (X : VOk a own cc rm nL) {x y : Int64} {off : Int} {tgt : Nat} (h1 : decode cc pc = .ok (.lcmp, 1)) (hd : decode cc (pc + 1) = .ok (.ifCond .lt off, 3)) (ht : ((pc + 1 : Nat) : Int) + off = (tgt : Int)) (kt : x < y → V a tgt lv st I L) (kf : ¬ x < y → V a (pc + 1 + 3) lv st I L) : V a pc lv (.long y :: .long x :: st) I L := v_lcmp X h1 (v_if_lt X hd ht (fun h => kt ((lg_cmp_lt x y).mp h)) (fun h => kf (fun q => h ((lg_cmp_lt x y).mpr q))))
theorem v_lcmp_ge (X : VOk a own cc rm nL) {x y : Int64} {off : Int} {tgt : Nat} (h1 : decode cc pc = .ok (.lcmp, 1)) (hd : decode cc (pc + 1) = .ok (.ifCond .ge off, 3)) (ht : ((pc + 1 : Nat) : Int) + off = (tgt : Int)) (kt : y ≤ x → V a tgt lv st I L) (kf : ¬ y ≤ x → V a (pc + 1 + 3) lv st I L) : V a pc lv (.long y :: .long x :: st) I L := v_lcmp X h1 (v_if_ge X hd ht (fun h => kt ((lg_cmp_ge x y).mp h)) (fun h => kf (fun q => h ((lg_cmp_ge x y).mpr q))))
theorem v_lcmp_gt (X : VOk a own cc rm nL) {x y : Int64} {off : Int} {tgt : Nat} (h1 : decode cc pc = .ok (.lcmp, 1)) (hd : decode cc (pc + 1) = .ok (.ifCond .gt off, 3)) (ht : ((pc + 1 : Nat) : Int) + off = (tgt : Int)) (kt : y < x → V a tgt lv st I L) (kf : ¬ y < x → V a (pc + 1 + 3) lv st I L) : V a pc lv (.long y :: .long x :: st) I L := v_lcmp X h1 (v_if_gt X hd ht (fun h => kt ((lg_cmp_gt x y).mp h)) (fun h => kf (fun q => h ((lg_cmp_gt x y).mpr q))))
theorem v_lcmp_le (X : VOk a own cc rm nL) {x y : Int64} {off : Int} {tgt : Nat} (h1 : decode cc pc = .ok (.lcmp, 1)) (hd : decode cc (pc + 1) = .ok (.ifCond .le off, 3)) (ht : ((pc + 1 : Nat) : Int) + off = (tgt : Int)) (kt : x ≤ y → V a tgt lv st I L) (kf : ¬ x ≤ y → V a (pc + 1 + 3) lv st I L) : V a pc lv (.long y :: .long x :: st) I L := v_lcmp X h1 (v_if_le X hd ht (fun h => kt ((lg_cmp_le x y).mp h)) (fun h => kf (fun q => h ((lg_cmp_le x y).mpr q))))
theorem v_lcmp_eq (X : VOk a own cc rm nL) {x y : Int64} {off : Int} {tgt : Nat} (h1 : decode cc pc = .ok (.lcmp, 1)) (hd : decode cc (pc + 1) = .ok (.ifCond .eq off, 3)) (ht : ((pc + 1 : Nat) : Int) + off = (tgt : Int)) (kt : x = y → V a tgt lv st I L) (kf : ¬ x = y → V a (pc + 1 + 3) lv st I L) : V a pc lv (.long y :: .long x :: st) I L := v_lcmp X h1 (v_if_eq X hd ht (fun h => kt ((lg_cmp_eq x y).mp h)) (fun h => kf (fun q => h ((lg_cmp_eq x y).mpr q))))
theorem v_lcmp_ne (X : VOk a own cc rm nL) {x y : Int64} {off : Int} {tgt : Nat} (h1 : decode cc pc = .ok (.lcmp, 1)) (hd : decode cc (pc + 1) = .ok (.ifCond .ne off, 3)) (ht : ((pc + 1 : Nat) : Int) + off = (tgt : Int)) (kt : ¬ x = y → V a tgt lv st I L) (kf : x = y → V a (pc + 1 + 3) lv st I L) : V a pc lv (.long y :: .long x :: st) I L := v_lcmp X h1 (v_if_ne X hd ht (fun h => kt (fun q => h ((lg_cmp_eq x y).mpr q))) (fun h => kf ((lg_cmp_eq x y).mp h)))
theorem v_st {st' : List Value} (h : st = st') (k : V a pc lv st' I L) : V a pc lv st I L := h ▸ k
theorem v_iald_n (X : VOk a own cc rm nL) {k j n : Nat} (hdom : (k, j) ∈ DL) (hce : ∀ f g, cef (vE a) k j f g = .inl (eC (vE a) 0, n, .inl f)) {i : Nat} (hi : i < n) (hn : n < 2 ^ 31) (hd : decode cc pc = .ok (.iaload, 1)) (kk : V a (pc + 1) lv (.int (I k j i) :: st) I L) : V a pc lv (.int (nI i) :: .ref (eA (vE a) k j) :: st) I L :=
  v_iald X hdom hce (vp_in_nI hi hn) hd (by rw [nI_clamp (by omega)]; exact kk)
theorem v_lald_n (X : VOk a own cc rm nL) {k j n : Nat} (hdom : (k, j) ∈ DL) (hce : ∀ f g, cef (vE a) k j f g = .inl (eC (vE a) 1, n, .inr (.inl g))) {i : Nat} (hi : i < n) (hn : n < 2 ^ 31) (hd : decode cc pc = .ok (.laload, 1)) (kk : V a (pc + 1) lv (.long (L k j i) :: st) I L) : V a pc lv (.int (nI i) :: .ref (eA (vE a) k j) :: st) I L :=
  v_lald X hdom hce (vp_in_nI hi hn) hd (by rw [nI_clamp (by omega)]; exact kk)
theorem v_iast_n (X : VOk a own cc rm nL) {k j n : Nat} (hdom : (k, j) ∈ DL) (hce : ∀ f g, cef (vE a) k j f g = .inl (eC (vE a) 0, n, .inl f)) {i : Nat} {x : Int32} (hi : i < n) (hn : n < 2 ^ 31) (hd : decode cc pc = .ok (.iastore, 1)) (kk : V a (pc + 1) lv st (upI I k j i x) L) : V a pc lv (.int x :: .int (nI i) :: .ref (eA (vE a) k j) :: st) I L :=
  v_iast X hdom hce (vp_in_nI hi hn) hd (by rw [nI_clamp (by omega)]; exact kk)
theorem v_last_n (X : VOk a own cc rm nL) {k j n : Nat} (hdom : (k, j) ∈ DL) (hce : ∀ f g, cef (vE a) k j f g = .inl (eC (vE a) 1, n, .inr (.inl g))) {i : Nat} {x : Int64} (hi : i < n) (hn : n < 2 ^ 31) (hd : decode cc pc = .ok (.lastore, 1)) (kk : V a (pc + 1) lv st I (upL L k j i x)) : V a pc lv (.long x :: .int (nI i) :: .ref (eA (vE a) k j) :: st) I L :=
  v_last X hdom hce (vp_in_nI hi hn) hd (by rw [nI_clamp (by omega)]; exact kk)
theorem v_aaldG_n (X : VOk a own cc rm nL) {i : Nat} (hi : i < 12) (hd : decode cc pc = .ok (.aaload, 1)) (kk : V a (pc + 1) lv (.ref (eA (vE a) 2 i) :: st) I L) : V a pc lv (.int (nI i) :: .ref (eA (vE a) 1 0) :: st) I L :=
  v_aaldG X (vp_in_nI hi (by decide)) hd (by rw [nI_clamp (by omega)]; exact kk)
theorem v_aaldW_n (X : VOk a own cc rm nL) {i : Nat} (hi : i < 4) (hd : decode cc pc = .ok (.aaload, 1)) (kk : V a (pc + 1) lv (.ref (eA (vE a) 5 i) :: st) I L) : V a pc lv (.int (nI i) :: .ref (eA (vE a) 4 0) :: st) I L :=
  v_aaldW X (vp_in_nI hi (by decide)) hd (by rw [nI_clamp (by omega)]; exact kk)
theorem v_min (X : VOk a own cc rm nL) {index : Nat} {x y : Int32} (h1 : Cond.methodLink own index Lib.Math.min.name ∈ WS) (h2 : Cond.static Lib.Math.min.name ∈ WS) (h3 : Cond.initialized "java/lang/Math" ∈ WS) (h4 : Cond.code Lib.Math.min.name Lib.Math.min.code 2 (some .int) ∈ WS) (hf : 1 ≤ rm.frames) (hlo : (st.map fun v => v.category).sum + 13 ≤ rm.locals) (hd : decode cc pc = .ok (.invokestatic index, 3)) (kk : V a (pc + 3) lv (.int (if y < x then y else x) :: st) I L) : V a pc lv (.int y :: .int x :: st) I L := by
  intro H locs ls hl hP hS
  exact va_mmin X.1 X.2.1 hl.1.symm X.2.2.2.1 (X.2.2.2.2.1 _ h1) (X.2.2.2.2.1 _ h2) (X.2.2.2.2.1 _ h3) (X.2.2.2.2.1 _ h4) (by rw [X.2.2.2.2.2.2.2.2.1]; exact hf) (by rw [X.2.2.2.2.2.2.2.2.1]; exact hlo) (by rw [X.2.2.2.2.2.2.2.2.1]; exact X.2.2.2.2.2.2.2.2.2.1) (by rw [X.2.2.2.2.2.2.2.2.1]; exact X.2.2.2.2.2.2.2.2.2.2) hd (kk H locs ls hl hP hS)
theorem v_lmax (X : VOk a own cc rm nL) {index : Nat} {x y : Int64} (h1 : Cond.methodLink own index Lib.MathLoose.max_long.x ∈ WS) (h2 : Cond.static Lib.MathLoose.max_long.x ∈ WS) (h3 : Cond.initialized "java/lang/Math" ∈ WS) (h4 : Cond.code Lib.MathLoose.max_long.x Lib.MathLoose.max_long.code 4 (some .long) ∈ WS) (hf : 1 ≤ rm.frames) (hlo : (st.map fun v => v.category).sum + 15 ≤ rm.locals) (hd : decode cc pc = .ok (.invokestatic index, 3)) (kk : V a (pc + 3) lv (.long (if y < x then x else y) :: st) I L) : V a pc lv (.long y :: .long x :: st) I L := by
  intro H locs ls hl hP hS
  exact va_mmax_long X.1 X.2.1 hl.1.symm X.2.2.2.1 (X.2.2.2.2.1 _ h1) (X.2.2.2.2.1 _ h2) (X.2.2.2.2.1 _ h3) (X.2.2.2.2.1 _ h4) (by rw [X.2.2.2.2.2.2.2.2.1]; exact hf) (by rw [X.2.2.2.2.2.2.2.2.1]; exact hlo) (by rw [X.2.2.2.2.2.2.2.2.1]; exact X.2.2.2.2.2.2.2.2.2.1) (by rw [X.2.2.2.2.2.2.2.2.1]; exact X.2.2.2.2.2.2.2.2.2.2) hd (kk H locs ls hl hP hS)
theorem v_labs (X : VOk a own cc rm nL) {index : Nat} {x : Int64} (h1 : Cond.methodLink own index Lib.MathLoose.abs_long.x ∈ WS) (h2 : Cond.static Lib.MathLoose.abs_long.x ∈ WS) (h3 : Cond.initialized "java/lang/Math" ∈ WS) (h4 : Cond.code Lib.MathLoose.abs_long.x Lib.MathLoose.abs_long.code 2 (some .long) ∈ WS) (hf : 1 ≤ rm.frames) (hlo : (st.map fun v => v.category).sum + 13 ≤ rm.locals) (hd : decode cc pc = .ok (.invokestatic index, 3)) (kk : V a (pc + 3) lv (.long (if 0 < x then x else -x) :: st) I L) : V a pc lv (.long x :: st) I L := by
  intro H locs ls hl hP hS
  exact va_mabs_long X.1 X.2.1 hl.1.symm X.2.2.2.1 (X.2.2.2.2.1 _ h1) (X.2.2.2.2.1 _ h2) (X.2.2.2.2.1 _ h3) (X.2.2.2.2.1 _ h4) (by rw [X.2.2.2.2.2.2.2.2.1]; exact hf) (by rw [X.2.2.2.2.2.2.2.2.1]; exact hlo) (by rw [X.2.2.2.2.2.2.2.2.1]; exact X.2.2.2.2.2.2.2.2.2.1) (by rw [X.2.2.2.2.2.2.2.2.1]; exact X.2.2.2.2.2.2.2.2.2.2) hd (kk H locs ls hl hP hS)
theorem v_copy9 (X : VOk a own cc rm nL) {index : Nat} {sp dp n : Int32} (h1 : Cond.methodLink own index arraycopyName ∈ WS) (h2 : Cond.native arraycopyName ∈ lw_tbl ∧ Cond.native arraycopyName ∈ WS) (h3 : Cond.static arraycopyName ∈ WS) (h4 : Cond.initialized "java/lang/System" ∈ WS) (hf : 1 ≤ rm.frames) (hlo : (st.map fun v => v.category).sum + (nativeFrameWords "java/lang/System" "arraycopy" 5 + 11) ≤ rm.locals)
    (g1 : ¬ sp < 0) (g2 : ¬ dp < 0) (g3 : ¬ n < 0) (g4 : sp.toNatClampNeg + n.toNatClampNeg ≤ 16) (g5 : dp.toNatClampNeg + n.toNatClampNeg ≤ 16) (hd : decode cc pc = .ok (.invokestatic index, 3))
    (kk : V a (pc + 3) lv st (rowI I 9 0 (va_cpy (I 9 0) (I 9 0) sp.toNatClampNeg dp.toNatClampNeg n.toNatClampNeg)) L) : V a pc lv (.int n :: .int dp :: .ref (eA (vE a) 9 0) :: .int sp :: .ref (eA (vE a) 9 0) :: st) I L := by
  intro H locs ls hl hP hS
  obtain ⟨q0, h0, he⟩ := wl_at dl_9
  have he := he (vE a) I L
  rw [cef_9] at he
  refine va_copyi X.1 X.2.1 hl.1.symm X.2.2.2.1 (X.2.2.2.2.1 _ h1) (X.2.2.2.2.1 _ h2.2) (X.2.2.2.2.1 _ h3) (X.2.2.2.2.1 _ h4) X.2.2.2.2.2.2.1 hP (X.2.2.2.2.2.2.2.1 I L) hS q0 q0 0 0 he he rfl rfl rfl g1 g2 g3 g4 g5 (fun _ _ => rfl) (by rw [X.2.2.2.2.2.2.2.2.1]; exact hf) (by rw [X.2.2.2.2.2.2.2.2.1]; exact hlo) hd (fun H1 locs1 hP1 _ hS1 => ?_)
  have e := wl_set (E := vE a) (L := L) (L' := L) h0 (fun k' j' h => rowI_off I 9 0 (va_cpy (I 9 0) (I 9 0) sp.toNatClampNeg dp.toNatClampNeg n.toNatClampNeg) h) (fun _ _ _ => rfl)
  rw [rowI_row, cef_9] at e
  rw [e] at hP1
  exact kk H1 locs1 ls hl hP1 hS1
end VM
/-! frames -/
theorem upI_k {I : TI} {k j x k' j' x' : Nat} {v : Int32} (h : k' ≠ k) : upI I k j x v k' j' x' = I k' j' x' := by
  unfold upI
  rw [if_neg (fun q => h q.1)]
theorem upI_j {I : TI} {k j x k' j' x' : Nat} {v : Int32} (h : j' ≠ j) : upI I k j x v k' j' x' = I k' j' x' := by
  unfold upI
  rw [if_neg (fun q => h q.2.1)]
theorem upI_x {I : TI} {k j x k' j' x' : Nat} {v : Int32} (h : x' ≠ x) : upI I k j x v k' j' x' = I k' j' x' := by
  unfold upI
  rw [if_neg (fun q => h q.2.2)]
theorem upI_eq {I : TI} {k j x : Nat} {v : Int32} : upI I k j x v k j x = v := by
  unfold upI
  rw [if_pos ⟨rfl, rfl, rfl⟩]
theorem upL_k {I : TL} {k j x k' j' x' : Nat} {v : Int64} (h : k' ≠ k) : upL I k j x v k' j' x' = I k' j' x' := by
  unfold upL
  rw [if_neg (fun q => h q.1)]
theorem upL_j {I : TL} {k j x k' j' x' : Nat} {v : Int64} (h : j' ≠ j) : upL I k j x v k' j' x' = I k' j' x' := by
  unfold upL
  rw [if_neg (fun q => h q.2.1)]
theorem upL_x {I : TL} {k j x k' j' x' : Nat} {v : Int64} (h : x' ≠ x) : upL I k j x v k' j' x' = I k' j' x' := by
  unfold upL
  rw [if_neg (fun q => h q.2.2)]
theorem upL_eq {I : TL} {k j x : Nat} {v : Int64} : upL I k j x v k j x = v := by
  unfold upL
  rw [if_pos ⟨rfl, rfl, rfl⟩]
def Fr (S : List (Nat × Nat)) (I I' : TI) : Prop := ∀ k j, (k, j) ∉ S → I' k j = I k j
def FL (S : List (Nat × Nat)) (L L' : TL) : Prop := ∀ k j, (k, j) ∉ S → L' k j = L k j
theorem Fr.rf {S : List (Nat × Nat)} {I : TI} : Fr S I I := fun _ _ _ => rfl
theorem FL.rf {S : List (Nat × Nat)} {I : TL} : FL S I I := fun _ _ _ => rfl
theorem Fr.tr {S : List (Nat × Nat)} {I J K : TI} (h : Fr S I J) (g : Fr S J K) : Fr S I K := fun k j n => (g k j n).trans (h k j n)
theorem FL.tr {S : List (Nat × Nat)} {I J K : TL} (h : FL S I J) (g : FL S J K) : FL S I K := fun k j n => (g k j n).trans (h k j n)
theorem Fr.mono {S S' : List (Nat × Nat)} {I J : TI} (h : Fr S I J) (hs : ∀ q ∈ S, q ∈ S') : Fr S' I J := fun k j n => h k j (fun q => n (hs _ q))
theorem FL.mono {S S' : List (Nat × Nat)} {I J : TL} (h : FL S I J) (hs : ∀ q ∈ S, q ∈ S') : FL S' I J := fun k j n => h k j (fun q => n (hs _ q))
theorem Fr.up {S : List (Nat × Nat)} {I J : TI} (h : Fr S I J) {k j x : Nat} {v : Int32} (hs : (k, j) ∈ S) : Fr S I (upI J k j x v) := fun k' j' n => (upI_off J k j x v (fun e => n (e ▸ hs))).trans (h k' j' n)
theorem FL.up {S : List (Nat × Nat)} {I J : TL} (h : FL S I J) {k j x : Nat} {v : Int64} (hs : (k, j) ∈ S) : FL S I (upL J k j x v) := fun k' j' n => (upL_off J k j x v (fun e => n (e ▸ hs))).trans (h k' j' n)
theorem Fr.at {S : List (Nat × Nat)} {I J : TI} (h : Fr S I J) {k j : Nat} (n : (k, j) ∉ S) (x : Nat) : J k j x = I k j x := congrFun (h k j n) x
theorem FL.at {S : List (Nat × Nat)} {I J : TL} (h : FL S I J) {k j : Nat} (n : (k, j) ∉ S) (x : Nat) : J k j x = I k j x := congrFun (h k j n) x
abbrev inR (n : Nat) (x : Int32) : Prop := 0 ≤ x ∧ x < nI n
theorem inR_n {n x : Nat} (hn : n < 2 ^ 31) (hx : x < 2 ^ 31) : inR n (nI x) ↔ x < n := ⟨fun h => (nI_ltI hx hn).mp h.2, fun h => ⟨nI_pos' hx, (nI_ltI hx hn).mpr h⟩⟩
theorem inR_of {n : Nat} {x : Int32} (hn : n < 2 ^ 31) (h : inR n x) : ∃ j, j < n ∧ x = nI j := ix_of h.1 h.2 hn
theorem inR_T {n : Nat} {x : Int32} (hn : n < 2 ^ 31) : inR n x ↔ isT n x := ⟨fun h => inR_of hn h, fun ⟨j, h1, h2⟩ => h2 ▸ (inR_n hn (by omega)).mpr h1⟩
theorem v_lv {a : VA} {pc : Nat} {lv lv' : List (Nat × Value)} {st : List Value} {I : TI} {L : TL} (h : lv = lv') (k : V a pc lv' st I L) : V a pc lv st I L := h ▸ k
theorem down_pos {m : Nat} (h : ¬ nI m - nI 1 < 0) : 0 < m := by
  rcases Nat.eq_zero_or_pos m with rfl | q
  · exact absurd (show nI 0 - nI 1 < 0 by decide) h
  · exact q
theorem down_zero {m : Nat} (hm : m < 2 ^ 31) (h : nI m - nI 1 < 0) : m = 0 := by
  rcases Nat.eq_zero_or_pos m with q | q
  · exact q
  · obtain ⟨k, rfl⟩ : ∃ k, m = k + 1 := ⟨m - 1, by omega⟩
    have e : nI (k + 1) - nI 1 = nI k := nI_pred k
    rw [e] at h
    exact absurd h (nI_pos (by omega))
theorem down_at (k : Nat) : nI (k + 1) - nI 1 = nI k := nI_pred k
theorem down_dec (k : Nat) : nI k + Int32.ofInt (-1) = nI k - nI 1 := by
  rw [Int32.sub_eq_add_neg]
  rfl
theorem pow32 {c : Nat} (h : c ≤ 5) : 2 ^ c ≤ 32 := Nat.pow_le_pow_right (by decide) h
