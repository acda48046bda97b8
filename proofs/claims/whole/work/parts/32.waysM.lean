/-! the model's ways: forward and back are one -/
def fw (kd pl : Nat → Nat) (wv : Nat → Int64) : Nat → Nat → Nat → Int64
  | 0, a, b => if a = b then 1 else 0
  | s + 1, a, b => if kd s = 2 then (if b = pl s then fw kd pl wv s a b * wv s else fw kd pl wv s a b) else if b = ads (kd s) (pl s) then fw kd pl wv s a b + wv s * fw kd pl wv s a (asr (kd s) (pl s)) else fw kd pl wv s a b
def S5 (F : Nat → Int64) : Int64 := F 0 + F 1 + F 2 + F 3 + F 4
theorem S5_c {F G : Nat → Int64} (h : ∀ k, k < 5 → F k = G k) : S5 F = S5 G := by
  unfold S5
  rw [h 0 (by decide), h 1 (by decide), h 2 (by decide), h 3 (by decide), h 4 (by decide)]
theorem S5_on (F G : Nat → Int64) (w : Int64) {p : Nat} (hp : p < 5) : S5 (fun k => F k * (if k = p then w * G k else G k)) = S5 (fun k => (if k = p then F k * w else F k) * G k) := by
  refine S5_c (fun k _ => ?_)
  by_cases e : k = p
  · rw [if_pos e, if_pos e, Int64.mul_assoc]
  · rw [if_neg e, if_neg e]
theorem S5_add (F G : Nat → Int64) : S5 (fun k => F k + G k) = S5 F + S5 G := by
  show (F 0 + G 0) + (F 1 + G 1) + (F 2 + G 2) + (F 3 + G 3) + (F 4 + G 4) = (F 0 + F 1 + F 2 + F 3 + F 4) + (G 0 + G 1 + G 2 + G 3 + G 4)
  ac_rfl
theorem S5_one (F : Nat → Int64) {p : Nat} (hp : p < 5) : S5 (fun k => if k = p then F k else 0) = F p := by
  rcases (show p = 0 ∨ p = 1 ∨ p = 2 ∨ p = 3 ∨ p = 4 by omega) with rfl | rfl | rfl | rfl | rfl <;> simp [S5]
theorem S5_go (F G : Nat → Int64) (w : Int64) {s d : Nat} (hs : s < 5) (hd : d < 5) : S5 (fun k => F k * (if k = s then G k + w * G d else G k)) = S5 (fun k => (if k = d then F k + w * F s else F k) * G k) := by
  have e1 : S5 (fun k => F k * (if k = s then G k + w * G d else G k)) = S5 (fun k => F k * G k) + S5 (fun k => if k = s then F k * (w * G d) else 0) := by
    rw [← S5_add]
    refine S5_c (fun k _ => ?_)
    by_cases e : k = s
    · rw [if_pos e, if_pos e, Int64.mul_add]
    · rw [if_neg e, if_neg e, Int64.add_zero]
  have e2 : S5 (fun k => (if k = d then F k + w * F s else F k) * G k) = S5 (fun k => F k * G k) + S5 (fun k => if k = d then w * F s * G k else 0) := by
    rw [← S5_add]
    refine S5_c (fun k _ => ?_)
    by_cases e : k = d
    · rw [if_pos e, if_pos e, Int64.add_mul]
    · rw [if_neg e, if_neg e, Int64.add_zero]
  rw [e1, e2, S5_one (fun k => F k * (w * G d)) hs, S5_one (fun k => w * F s * G k) hd]
  congr 1
  rw [← Int64.mul_assoc, Int64.mul_comm (F s) w]
theorem bit_1 : ∀ k, k < 5 → ∀ p, p < 5 → (bitN (2 ^ k) p ↔ k = p) := by decide +kernel
theorem aft_1' : ∀ d, d < 2 → ∀ p, p < 4 → ∀ k, k < 5 → aft d p (2 ^ k) = if k = asr d p then 2 ^ ads d p else 2 ^ k := by decide +kernel
theorem pow_i : ∀ k, k < 5 → ∀ j, j < 5 → (2 ^ k = 2 ^ j ↔ k = j) := by decide +kernel
theorem pow_l : ∀ k, k < 5 → 2 ^ k < 32 := by decide +kernel
theorem ad_ne : ∀ d, d < 2 → ∀ p, p < 4 → asr d p < 5 ∧ ads d p < 5 ∧ ads d p ≠ asr d p := by decide +kernel
section FB
variable {ln sc to j : Nat} {kd pl wt : Nat → Nat} {wv : Nat → Int64}
/-- a step, seen from one line -/
theorem bw_on {g : Nat → Int64} {d p k : Nat} {v : Int64} (hd : d = 2) (hp : p < 5) (hk : k < 5) : frs d p v g (2 ^ k) = if k = p then v * g (2 ^ k) else g (2 ^ k) := by
  unfold frs
  by_cases e : k = p
  · rw [if_pos ⟨hd, (bit_1 k hk p hp).mpr e⟩, if_pos e]
  · rw [if_neg (fun z => e ((bit_1 k hk p hp).mp z.2)), if_pos (aft_on hd), if_neg e]
theorem bw_go {g : Nat → Int64} {d p k : Nat} {v : Int64} (hd : d < 2) (hp : p < 4) (hk : k < 5) : frs d p v g (2 ^ k) = if k = asr d p then g (2 ^ k) + v * g (2 ^ ads d p) else g (2 ^ k) := by
  unfold frs
  have h := aft_1' d hd p hp k hk
  obtain ⟨a1, a2, a3⟩ := ad_ne d hd p hp
  rw [if_neg (fun z => absurd z.1 (by omega)), h]
  by_cases e : k = asr d p
  · rw [if_pos e, if_pos e, if_neg]
    intro z
    exact a3 (((pow_i _ a2 k hk).mp z).trans e)
  · rw [if_neg e, if_pos rfl, if_neg e]
theorem fb_step (hn : netOk ln sc kd pl wt) {s : Nat} (hs : s < sc) (a : Nat) : S5 (fun k => fw kd pl wv s a k * wy sc kd pl wv to (sc - s) (2 ^ k)) = S5 (fun k => fw kd pl wv (s + 1) a k * wy sc kd pl wv to (sc - (s + 1)) (2 ^ k)) := by
  obtain ⟨-, hl5, -, hst⟩ := hn
  obtain ⟨h1, h2, h3, -, -⟩ := hst s hs
  by_cases e : kd s = 2
  · refine ((S5_c (fun k hk => ?_)).trans (S5_on (fun k => fw kd pl wv s a k) (fun k => wy sc kd pl wv to (sc - (s + 1)) (2 ^ k)) (wv s) (p := pl s) (by omega))).trans (S5_c (fun k hk => ?_))
    · rw [wy_s hs, bw_on e (by omega) hk]
    · show _ = (if kd s = 2 then (if k = pl s then fw kd pl wv s a k * wv s else fw kd pl wv s a k) else _) * _
      rw [if_pos e]
  · obtain ⟨a1, a2, a3⟩ := ad_ne (kd s) (by omega) (pl s) (by omega)
    refine ((S5_c (fun k hk => ?_)).trans (S5_go (fun k => fw kd pl wv s a k) (fun k => wy sc kd pl wv to (sc - (s + 1)) (2 ^ k)) (wv s) a1 a2)).trans (S5_c (fun k hk => ?_))
    · rw [wy_s hs, bw_go (by omega) (by omega) hk]
    · show _ = (if kd s = 2 then _ else if k = ads (kd s) (pl s) then fw kd pl wv s a k + wv s * fw kd pl wv s a (asr (kd s) (pl s)) else fw kd pl wv s a k) * _
      rw [if_neg e]
theorem fb_all (hn : netOk ln sc kd pl wt) (a : Nat) : ∀ s, s ≤ sc → S5 (fun k => fw kd pl wv 0 a k * wy sc kd pl wv to (sc - 0) (2 ^ k)) = S5 (fun k => fw kd pl wv s a k * wy sc kd pl wv to (sc - s) (2 ^ k))
  | 0, _ => rfl
  | s + 1, h => (fb_all hn a s (by omega)).trans (fb_step hn (by omega) a)
theorem fb (hn : netOk ln sc kd pl wt) {a b : Nat} (ha : a < 5) (hb : b < 5) : fw kd pl wv sc a b = wy sc kd pl wv (2 ^ b) sc (2 ^ a) := by
  have h := fb_all (wv := wv) (to := 2 ^ b) hn a sc (Nat.le_refl _)
  have e1 : S5 (fun k => fw kd pl wv 0 a k * wy sc kd pl wv (2 ^ b) (sc - 0) (2 ^ k)) = wy sc kd pl wv (2 ^ b) sc (2 ^ a) := by
    refine (S5_c (fun k hk => ?_)).trans (S5_one (fun k => wy sc kd pl wv (2 ^ b) sc (2 ^ k)) ha)
    show (if a = k then (1 : Int64) else 0) * _ = _
    by_cases e : a = k
    · rw [if_pos e, if_pos e.symm, Int64.one_mul]
      rfl
    · rw [if_neg e, if_neg (fun z => e z.symm), Int64.zero_mul]
  have e2 : S5 (fun k => fw kd pl wv sc a k * wy sc kd pl wv (2 ^ b) (sc - sc) (2 ^ k)) = fw kd pl wv sc a b := by
    refine (S5_c (fun k hk => ?_)).trans (S5_one (fun k => fw kd pl wv sc a k) hb)
    rw [Nat.sub_self]
    show _ * (if 2 ^ k = 2 ^ b then (1 : Int64) else 0) = _
    by_cases e : k = b
    · rw [if_pos e, if_pos (by rw [e]), Int64.mul_one]
    · rw [if_neg e, if_neg (fun z => e ((pow_i k hk b hb).mp z)), Int64.mul_zero]
  rw [e1, e2] at h
  exact h.symm
end FB
theorem irem6 : ∀ n, n < 25 → nI n - nI n / nI 6 * nI 6 = nI (n % 6) := by decide +kernel
section FN
variable {I I' : TI} {L1 : TL} {kd pl : Nat → Nat} {wv : Nat → Int64} {s i n c : Nat} {r : Option Value}
def FN (L1 : TL) (kd pl : Nat → Nat) (wv : Nat → Int64) (n s i : Nat) : Prop := ∀ a b, a < n → b < 5 → L1 43 0 (5 * a + b) = if a < i then fw kd pl wv (s + 1) a b else fw kd pl wv s a b
theorem FN.row (h : FN L1 kd pl wv n s i) (hi : n ≤ i) : FN L1 kd pl wv n (s + 1) 0 := fun a b ha hb => by
  rw [h a b ha hb, if_pos (by omega), if_neg (by omega)]
theorem FN.ini (hn : n ≤ 5) (h : ∀ x, x < 25 → L1 43 0 x = if x % 6 = 0 then 1 else 0) : FN L1 kd pl wv n 0 0 := fun a b ha hb => by
  rw [h _ (by omega), if_neg (show ¬ a < 0 by omega)]
  show _ = if a = b then (1 : Int64) else 0
  by_cases e : a = b
  · rw [if_pos (by omega), if_pos e]
  · rw [if_neg (by omega), if_neg e]
theorem FN.at (h : FN L1 kd pl wv n s i) (hi : i < n) {b : Nat} (hb : b < 5) : L1 43 0 (5 * i + b) = fw kd pl wv s i b := by
  rw [h i b hi hb, if_neg (by omega)]
theorem FN.put (h : FN L1 kd pl wv n s i) (hi : i < n) {t : Nat} (ht : t < 5) {v : Int64} (hv : v = fw kd pl wv (s + 1) i t) (ho : ∀ b, b < 5 → b ≠ t → fw kd pl wv (s + 1) i b = fw kd pl wv s i b) : FN (upL L1 43 0 (5 * i + t) v) kd pl wv n s (i + 1) := fun a b ha hb => by
  by_cases e : a = i ∧ b = t
  · obtain ⟨rfl, rfl⟩ := e
    rw [upL_eq, if_pos (by omega), hv]
  · rw [upL_x (by omega), h a b ha hb]
    by_cases q : a < i
    · rw [if_pos q, if_pos (by omega)]
    · rw [if_neg q]
      by_cases z : a = i
      · subst z
        rw [if_pos (by omega), ho b hb (by omega)]
      · rw [if_neg (by omega)]
theorem FN.on (h : FN L1 kd pl wv n s i) (hi : i < n) (h2 : kd s = 2) (hp : pl s < 5) {v : Int64} (hv : v = wv s) : FN (upL L1 43 0 (5 * i + pl s) (L1 43 0 (5 * i + pl s) * v)) kd pl wv n s (i + 1) := by
  refine h.put hi hp ?_ (fun b hb hne => ?_)
  · rw [h.at hi hp, hv]
    show _ = if kd s = 2 then (if pl s = pl s then _ else _) else _
    rw [if_pos h2, if_pos rfl]
  · show (if kd s = 2 then (if b = pl s then _ else _) else _) = _
    rw [if_pos h2, if_neg hne]
theorem FN.go (h : FN L1 kd pl wv n s i) (hi : i < n) (h2 : ¬ kd s = 2) {f t : Nat} (hf : f = asr (kd s) (pl s)) (ht : t = ads (kd s) (pl s)) (hf5 : f < 5) (ht5 : t < 5) {v : Int64} (hv : v = wv s) : FN (upL L1 43 0 (5 * i + t) (L1 43 0 (5 * i + t) + v * L1 43 0 (5 * i + f))) kd pl wv n s (i + 1) := by
  refine h.put hi ht5 ?_ (fun b hb hne => ?_)
  · rw [h.at hi ht5, h.at hi hf5, hv, hf, ht]
    show _ = if kd s = 2 then _ else (if ads (kd s) (pl s) = ads (kd s) (pl s) then _ else _)
    rw [if_neg h2, if_pos rfl]
  · show (if kd s = 2 then _ else (if b = ads (kd s) (pl s) then _ else _)) = _
    rw [if_neg h2, if_neg (fun z => hne (z.trans ht.symm))]
def ResN (I I' : TI) (r : Option Value) (c n net : Nat) (V : Nat → Nat → Int64) : Prop := (c < 12 ∧ (∀ a b, a < n → b < n → nm (V a b)) ∧ (∃ I1, AddM I I1 c n n (nI 1) V ∧ I' = upI I1 35 0 c (nI net)) ∧ r = some (.int (nI c))) ∨ ((c = 12 ∨ ∃ a b, a < n ∧ b < n ∧ ¬ nm (V a b)) ∧ MEF I I' r 8)
end FN
theorem wvl1 {wt : Nat → Nat} {s : Nat} : (nI (wt s)).toInt64 = wvl 1 wt s := rfl
/-- the next step of a walk along a family -/
theorem fam_next {ln sc to s T q1 q2 kk : Nat} {kd pl wt : Nat → Nat} (hs : s < sc) (h1 : wy sc kd pl (wvl 0 wt) to (sc - s) T = lN q1) (h2 : wy sc kd pl (wvl 0 wt) to (sc - (s + 1)) T = lN q2) (b1 : q1 ≤ 65536) (b2 : q2 ≤ 65536) (hk : kk < q1) (hk2 : q2 ≤ kk) :
    aft (kd s) (pl s) T ≠ T ∧ (∀ q3, q3 ≤ 65536 → wy sc kd pl (wvl 0 wt) to (sc - (s + 1)) (aft (kd s) (pl s) T) = lN q3 → kk - q2 < q3) := by
  rw [wy_s hs] at h1
  unfold frs at h1
  by_cases e : kd s = 2 ∧ bitN T (pl s)
  · rw [if_pos e] at h1
    have h3 : (1 : Int64) * lN q2 = lN q1 := by rw [← h2]; exact h1
    rw [Int64.one_mul] at h3
    have := (pk_lEQ (by omega) (by omega)).mp h3
    omega
  · rw [if_neg e] at h1
    by_cases f : aft (kd s) (pl s) T = T
    · rw [if_pos f] at h1
      have h3 : lN q2 = lN q1 := by rw [← h2]; exact h1
      have := (pk_lEQ (by omega) (by omega)).mp h3
      omega
    · refine ⟨f, fun q3 b3 h3 => ?_⟩
      rw [if_neg f] at h1
      have h4 : lN q2 + (1 : Int64) * lN q3 = lN q1 := by rw [← h2, ← h3]; exact h1
      rw [Int64.one_mul, lN_add] at h4
      have := (pk_lEQ (by omega) (by omega)).mp h4
      omega
def wkW (sc : Nat) (kd pl wt : Nat → Nat) (to f k : Nat) : Nat → Nat × Int64 := wk kd pl (fun s T => wy sc kd pl (wvl 0 wt) to (sc - s) T) f (nI k).toInt64
theorem wk_stay {sc to f k s T kk q2 : Nat} {kd pl wt : Nat → Nat} (h : wkW sc kd pl wt to f k s = (T, (nI kk).toInt64)) (h2 : wy sc kd pl (wvl 0 wt) to (sc - (s + 1)) T = lN q2) (b : q2 ≤ 65536) (bk : kk < 65536) (hk : kk < q2) : wkW sc kd pl wt to f k (s + 1) = (T, (nI kk).toInt64) := by
  show (if aft (kd s) (pl s) (wkW sc kd pl wt to f k s).1 ≠ (wkW sc kd pl wt to f k s).1 ∧ wy sc kd pl (wvl 0 wt) to (sc - (s + 1)) (wkW sc kd pl wt to f k s).1 ≤ (wkW sc kd pl wt to f k s).2 then _ else wkW sc kd pl wt to f k s) = _
  rw [h, if_neg]
  rintro ⟨-, z⟩
  have z : wy sc kd pl (wvl 0 wt) to (sc - (s + 1)) T ≤ (nI kk).toInt64 := z
  rw [h2, nI_l (by omega)] at z
  have := (pk_lLE (by omega) (by omega)).mp z
  omega
theorem wk_go {sc to f k s T kk q2 : Nat} {kd pl wt : Nat → Nat} (h : wkW sc kd pl wt to f k s = (T, (nI kk).toInt64)) (h2 : wy sc kd pl (wvl 0 wt) to (sc - (s + 1)) T = lN q2) (b : q2 ≤ 65536) (bk : kk < 65536) (hk : q2 ≤ kk) (ha : aft (kd s) (pl s) T ≠ T) : wkW sc kd pl wt to f k (s + 1) = (aft (kd s) (pl s) T, (nI (kk - q2)).toInt64) := by
  show (if aft (kd s) (pl s) (wkW sc kd pl wt to f k s).1 ≠ (wkW sc kd pl wt to f k s).1 ∧ wy sc kd pl (wvl 0 wt) to (sc - (s + 1)) (wkW sc kd pl wt to f k s).1 ≤ (wkW sc kd pl wt to f k s).2 then (aft (kd s) (pl s) (wkW sc kd pl wt to f k s).1, (wkW sc kd pl wt to f k s).2 - wy sc kd pl (wvl 0 wt) to (sc - (s + 1)) (wkW sc kd pl wt to f k s).1) else _) = _
  rw [h, if_pos]
  · show (_, (nI kk).toInt64 - wy sc kd pl (wvl 0 wt) to (sc - (s + 1)) T) = _
    rw [h2, nI_l (by omega), nI_l (by omega), lN_sub hk]
  · refine ⟨ha, ?_⟩
    show wy sc kd pl (wvl 0 wt) to (sc - (s + 1)) T ≤ (nI kk).toInt64
    rw [h2, nI_l (by omega)]
    exact (pk_lLE (by omega) (by omega)).mpr hk

set_option maxHeartbeats 4000000 in
set_option maxRecDepth 100000 in
theorem c_X6_whyNot (l : Launch) (E : VE) (hE : EOk E) (I : TI) (L : TL) (n : Nat) (ln sc : Nat → Nat) (kd pl wt : Nat → Nat → Nat) (hN : MN I n ln sc kd pl wt) (x f t : Int32) : Ct l E yX6_whyNot cX6_whyNot 4 (some .int) rm_X6_whyNot [.ref (eA E 30 0), .int x, .int f, .int t] I L (fun r I' L' => ((¬ inS n ln ln x f t ∧ r = some (.int (-nI 3))) ∨ (∃ w f' t', w < n ∧ x = nI w ∧ 1 ≤ f' ∧ f' < 2 ^ ln w ∧ 1 ≤ t' ∧ t' < 2 ^ ln w ∧ f = nI f' ∧ t = nI t' ∧ ((¬ pc5 f' = pc5 t' ∧ r = some (.int (-nI 7))) ∨ (pc5 f' = pc5 t' ∧ r = some (.int (nI 0)))))) ∧ I' = I ∧ L' = L) := by
  refine ct_of (by decide +kernel) (Nat.le_of_ble_eq_true rfl) hE ?_
  intro a X Y hl hEE
  subst hl; subst hEE
  show V a 0 [(0, .ref (eA (vE a) 30 0)), (1, .int x), (2, .int f), (3, .int t)] [] I L
  refine v_aload_n X 0 rfl dX6_whyNot_0 ?_
  refine v_iload_n X 1 rfl dX6_whyNot_1 ?_
  refine v_callV X (c_X6_isNet _ _ hE _ _ n (hN.1) x) k_X6_171 dl_30 (cef_30 _ _ _ _) rfl ⟨rfl, rfl, Nat.le_of_ble_eq_true rfl, Nat.le_of_ble_eq_true rfl⟩ (As := [.int x]) (rest := []) rfl rfl (Nat.le_of_ble_eq_true rfl) dX6_whyNot_2 (fun r2 I2 L2 hp2 => ?_)
  obtain ⟨rfl, e1, e2⟩ := hp2
  have e1 := e1.symm
  have e2 := e2.symm
  subst e1; subst e2
  refine v_st (st' := [.int (bI (inR n x))]) rfl ?_
  refine v_ifb_eq X dX6_whyNot_5 (tgt := 34) (by decide) (fun h5 => ?_) (fun h5 => ?_)
  · refine v_bipush X (v := (-3)) dX6_whyNot_34 (by decide) ?_
    exact v_iret X Y dX6_whyNot_36 (⟨Or.inl ⟨inS_no' (fun q => h5 ((inR_T (by have := hN.2.1; omega)).mpr q)), rfl⟩, rfl, rfl⟩)
  · obtain ⟨w, hw, rfl⟩ := inR_of (by have := hN.2.1; omega) h5
    have hn4 := hN.2.1
    obtain ⟨hweb, hok⟩ := hN.2.2 w hw
    obtain ⟨hl1, hl5, hsc16, hst⟩ := id hok
    have hw4 : w < 4 := by omega
    refine v_iload_n X 2 rfl dX6_whyNot_8 ?_
    refine v_aload_n X 0 rfl dX6_whyNot_9 ?_
    refine gf_X6_25 X dX6_whyNot_10 ?_
    refine v_iload_n X 1 rfl dX6_whyNot_13 ?_
    refine v_iald_n X dl_36 (fun _ _ => rfl) (n := 4) (by omega) (by decide) dX6_whyNot_14 ?_
    refine v_eqi (y := (nI (ln w))) (hweb.1) ?_
    refine v_callS X (c_X6_isSome _ _ hE _ _ f (ln w) (by omega)) k_X6_119 ⟨rfl, rfl, Nat.le_of_ble_eq_true rfl, Nat.le_of_ble_eq_true rfl⟩ (As := [.int f, .int (nI (ln w))]) (rest := []) rfl rfl (Nat.le_of_ble_eq_true rfl) dX6_whyNot_15 (fun r15 I15 L15 hp15 => ?_)
    obtain ⟨rfl, e1, e2⟩ := hp15
    have e1 := e1.symm
    have e2 := e2.symm
    subst e1; subst e2
    refine v_st (st' := [.int (bI (0 < f ∧ f < nI (2 ^ (ln w))))]) rfl ?_
    refine v_ifb_eq X dX6_whyNot_18 (tgt := 34) (by decide) (fun h18 => ?_) (fun h18 => ?_)
    · refine v_bipush X (v := (-3)) dX6_whyNot_34 (by decide) ?_
      exact v_iret X Y dX6_whyNot_36 (⟨Or.inl ⟨inS_no hl5 hl5 (by omega) hw (Or.inl h18), rfl⟩, rfl, rfl⟩)
    · refine v_iload_n X 3 rfl dX6_whyNot_21 ?_
      refine v_aload_n X 0 rfl dX6_whyNot_22 ?_
      refine gf_X6_25 X dX6_whyNot_23 ?_
      refine v_iload_n X 1 rfl dX6_whyNot_26 ?_
      refine v_iald_n X dl_36 (fun _ _ => rfl) (n := 4) (by omega) (by decide) dX6_whyNot_27 ?_
      refine v_eqi (y := (nI (ln w))) (hweb.1) ?_
      refine v_callS X (c_X6_isSome _ _ hE _ _ t (ln w) (by omega)) k_X6_119 ⟨rfl, rfl, Nat.le_of_ble_eq_true rfl, Nat.le_of_ble_eq_true rfl⟩ (As := [.int t, .int (nI (ln w))]) (rest := []) rfl rfl (Nat.le_of_ble_eq_true rfl) dX6_whyNot_28 (fun r28 I28 L28 hp28 => ?_)
      obtain ⟨rfl, e1, e2⟩ := hp28
      have e1 := e1.symm
      have e2 := e2.symm
      subst e1; subst e2
      refine v_st (st' := [.int (bI (0 < t ∧ t < nI (2 ^ (ln w))))]) rfl ?_
      refine v_ifb_ne X dX6_whyNot_31 (tgt := 37) (by decide) (fun h31 => ?_) (fun h31 => ?_)
      · obtain ⟨f', hf1, hf2, rfl⟩ := (isS_iff hl5).mpr h18
        obtain ⟨t', ht1, ht2, rfl⟩ := (isS_iff hl5).mpr h31
        have hpr := pow32 hl5
        have hf5 := pc5_le f'
        have ht5 := pc5_le t'
        refine v_iload_n X 2 rfl dX6_whyNot_37 ?_
        refine v_callS X (c_X6_bits _ _ hE _ _ f' (by omega)) k_X6_116 ⟨rfl, rfl, Nat.le_of_ble_eq_true rfl, Nat.le_of_ble_eq_true rfl⟩ (As := [.int (nI f')]) (rest := []) rfl rfl (Nat.le_of_ble_eq_true rfl) dX6_whyNot_38 (fun r38 I38 L38 hp38 => ?_)
        obtain ⟨rfl, e1, e2⟩ := hp38
        have e1 := e1.symm
        have e2 := e2.symm
        subst e1; subst e2
        refine v_st (st' := [.int (nI (pc5 f'))]) rfl ?_
        refine v_iload_n X 3 rfl dX6_whyNot_41 ?_
        refine v_callS X (c_X6_bits _ _ hE _ _ t' (by omega)) k_X6_116 ⟨rfl, rfl, Nat.le_of_ble_eq_true rfl, Nat.le_of_ble_eq_true rfl⟩ (As := [.int (nI t')]) (rest := [.int (nI (pc5 f'))]) rfl rfl (Nat.le_of_ble_eq_true rfl) dX6_whyNot_42 (fun r42 I42 L42 hp42 => ?_)
        obtain ⟨rfl, e1, e2⟩ := hp42
        have e1 := e1.symm
        have e2 := e2.symm
        subst e1; subst e2
        refine v_st (st' := [.int (nI (pc5 t')), .int (nI (pc5 f'))]) rfl ?_
        refine v_icmp_ne_n X (by omega) (by omega) dX6_whyNot_45 (tgt := 52) (by decide) (fun h45 => ?_) (fun h45 => ?_)
        · refine v_bipush X (v := (-7)) dX6_whyNot_52 (by decide) ?_
          exact v_iret X Y dX6_whyNot_54 (⟨Or.inr ⟨w, f', t', hw, rfl, hf1, hf2, ht1, ht2, rfl, rfl, Or.inl ⟨h45, rfl⟩⟩, rfl, rfl⟩)
        · refine v_iconst X (v := (nI 0)) dX6_whyNot_48 (by decide) ?_
          refine v_goto X (tgt := 54) dX6_whyNot_49 (by decide) ?_
          exact v_iret X Y dX6_whyNot_54 (⟨Or.inr ⟨w, f', t', hw, rfl, hf1, hf2, ht1, ht2, rfl, rfl, Or.inr ⟨h45, rfl⟩⟩, rfl, rfl⟩)
      · refine v_bipush X (v := (-3)) dX6_whyNot_34 (by decide) ?_
        exact v_iret X Y dX6_whyNot_36 (⟨Or.inl ⟨inS_no hl5 hl5 (by omega) hw (Or.inr h31), rfl⟩, rfl, rfl⟩)
set_option maxHeartbeats 4000000 in
set_option maxRecDepth 100000 in
theorem c_X6_families (l : Launch) (E : VE) (hE : EOk E) (I : TI) (L : TL) (n : Nat) (ln sc : Nat → Nat) (kd pl wt : Nat → Nat → Nat) (hN : MN I n ln sc kd pl wt) (x f t : Int32) : Ct l E yX6_families cX6_families 5 (some .int) rm_X6_families [.ref (eA E 30 0), .int x, .int f, .int t] I L (fun r I' L' => (¬ inS n ln ln x f t ∧ r = some (.int (-nI 3)) ∧ I' = rfM I 3 ∧ L' = L) ∨ (∃ w f' t', w < n ∧ x = nI w ∧ 1 ≤ f' ∧ f' < 2 ^ ln w ∧ 1 ≤ t' ∧ t' < 2 ^ ln w ∧ f = nI f' ∧ t = nI t' ∧ ((¬ pc5 f' = pc5 t' ∧ r = some (.int (-nI 7)) ∧ I' = rfM I 7 ∧ L' = L) ∨ (pc5 f' = pc5 t' ∧ r = some (.int (wy (sc w) (kd w) (pl w) (wvl 0 (wt w)) t' (sc w) f').toInt32) ∧ Fr [(44, 0)] I I' ∧ FL [(45, 0)] L L')))) := by
  refine ct_of (by decide +kernel) (Nat.le_of_ble_eq_true rfl) hE ?_
  intro a X Y hl hEE
  subst hl; subst hEE
  show V a 0 [(0, .ref (eA (vE a) 30 0)), (1, .int x), (2, .int f), (3, .int t)] [] I L
  refine v_aload_n X 0 rfl dX6_families_0 ?_
  refine v_iload_n X 1 rfl dX6_families_1 ?_
  refine v_iload_n X 2 rfl dX6_families_2 ?_
  refine v_iload_n X 3 rfl dX6_families_3 ?_
  refine v_callV X (c_X6_whyNot _ _ hE _ _ n ln sc kd pl wt hN x f t) k_X6_179 dl_30 (cef_30 _ _ _ _) rfl ⟨rfl, rfl, Nat.le_of_ble_eq_true rfl, Nat.le_of_ble_eq_true rfl⟩ (As := [.int x, .int f, .int t]) (rest := []) rfl rfl (Nat.le_of_ble_eq_true rfl) dX6_families_4 (fun r4 I4 L4 hp4 => ?_)
  obtain ⟨ho4, e1, e2⟩ := hp4
  have e1 := e1.symm
  have e2 := e2.symm
  subst e1; subst e2
  rcases ho4 with ⟨hno, rfl⟩ | ⟨w, f', t', hw, rfl, hf1, hf2, ht1, ht2, rfl, rfl, ⟨hpc, rfl⟩ | ⟨hpc, rfl⟩⟩
  · skip
    refine v_st (st' := [.int (-3)]) rfl ?_
    refine v_istore X [1, 2, 3, 4, 0] (lv' := [(0, .ref (eA (vE a) 30 0)), (1, .int x), (2, .int f), (3, .int t), (4, .int (-3))]) (by decide) rfl dX6_families_7 ?_
    refine v_iload X 4 rfl dX6_families_9 ?_
    refine v_if_eq X dX6_families_11 (tgt := 21) (by decide) (fun h11 => ?_) (fun h11 => ?_)
    · exact absurd h11 (by decide)
    · refine v_aload_n X 0 rfl dX6_families_14 ?_
      refine v_iload X 4 rfl dX6_families_15 ?_
      refine v_callV X (c_X6_no _ _ hE _ _ 3 (by decide) (by decide)) k_X6_80 dl_30 (cef_30 _ _ _ _) rfl ⟨rfl, rfl, Nat.le_of_ble_eq_true rfl, Nat.le_of_ble_eq_true rfl⟩ (As := [.int (-3)]) (rest := []) rfl rfl (Nat.le_of_ble_eq_true rfl) dX6_families_17 (fun r17 I17 L17 hp17 => ?_)
      obtain ⟨rfl, e1, e2⟩ := hp17
      have e1 := e1.symm
      have e2 := e2.symm
      subst e1; subst e2
      refine v_st (st' := [.int (-3)]) rfl ?_
      exact v_iret X Y dX6_families_20 (Or.inl ⟨hno, rfl, rfl, rfl⟩)
  · have hn4 := hN.2.1
    obtain ⟨hweb, hok⟩ := hN.2.2 w hw
    obtain ⟨hl1, hl5, hsc16, hst⟩ := id hok
    have hw4 : w < 4 := by omega
    have hpr := pow32 hl5
    refine v_st (st' := [.int (-7)]) rfl ?_
    refine v_istore X [1, 2, 3, 4, 0] (lv' := [(0, .ref (eA (vE a) 30 0)), (1, .int (nI w)), (2, .int (nI f')), (3, .int (nI t')), (4, .int (-7))]) (by decide) rfl dX6_families_7 ?_
    refine v_iload X 4 rfl dX6_families_9 ?_
    refine v_if_eq X dX6_families_11 (tgt := 21) (by decide) (fun h11 => ?_) (fun h11 => ?_)
    · exact absurd h11 (by decide)
    · refine v_aload_n X 0 rfl dX6_families_14 ?_
      refine v_iload X 4 rfl dX6_families_15 ?_
      refine v_callV X (c_X6_no _ _ hE _ _ 7 (by decide) (by decide)) k_X6_80 dl_30 (cef_30 _ _ _ _) rfl ⟨rfl, rfl, Nat.le_of_ble_eq_true rfl, Nat.le_of_ble_eq_true rfl⟩ (As := [.int (-7)]) (rest := []) rfl rfl (Nat.le_of_ble_eq_true rfl) dX6_families_17 (fun r17 I17 L17 hp17 => ?_)
      obtain ⟨rfl, e1, e2⟩ := hp17
      have e1 := e1.symm
      have e2 := e2.symm
      subst e1; subst e2
      refine v_st (st' := [.int (-7)]) rfl ?_
      exact v_iret X Y dX6_families_20 (Or.inr ⟨w, f', t', hw, rfl, hf1, hf2, ht1, ht2, rfl, rfl, Or.inl ⟨hpc, rfl, rfl, rfl⟩⟩)
  · have hn4 := hN.2.1
    obtain ⟨hweb, hok⟩ := hN.2.2 w hw
    obtain ⟨hl1, hl5, hsc16, hst⟩ := id hok
    have hw4 : w < 4 := by omega
    have hpr := pow32 hl5
    refine v_st (st' := [.int (nI 0)]) rfl ?_
    refine v_istore X [1, 2, 3, 4, 0] (lv' := [(0, .ref (eA (vE a) 30 0)), (1, .int (nI w)), (2, .int (nI f')), (3, .int (nI t')), (4, .int (nI 0))]) (by decide) rfl dX6_families_7 ?_
    refine v_iload X 4 rfl dX6_families_9 ?_
    refine v_if_eq_n X (by omega) dX6_families_11 (tgt := 21) (by decide) (fun h11 => ?_) (fun h11 => ?_)
    · refine v_aload_n X 0 rfl dX6_families_21 ?_
      refine v_iload_n X 1 rfl dX6_families_22 ?_
      refine v_iload_n X 3 rfl dX6_families_23 ?_
      refine v_callV X (c_X6_finds _ _ hE _ _ w hw4 (ln w) (sc w) (kd w) (pl w) (wt w) hok hweb t' (by omega)) k_X6_182 dl_30 (cef_30 _ _ _ _) rfl ⟨rfl, rfl, Nat.le_of_ble_eq_true rfl, Nat.le_of_ble_eq_true rfl⟩ (As := [.int (nI w), .int (nI t')]) (rest := []) rfl rfl (Nat.le_of_ble_eq_true rfl) dX6_families_24 (fun r24 I24 L24 hp24 => ?_)
      obtain ⟨rfl, hF24, hL24, hWR⟩ := hp24
      refine v_st (st' := []) rfl ?_
      refine v_aload_n X 0 rfl dX6_families_27 ?_
      refine gf_X6_50 X dX6_families_28 ?_
      refine v_iload_n X 2 rfl dX6_families_31 ?_
      refine v_iald_n X dl_44 (fun _ _ => rfl) (n := 544) (by omega) (by decide) dX6_families_32 ?_
      have hv0 := (hWR 0 (Nat.zero_le _) f' (by omega)).1
      rw [Nat.mul_zero, Nat.zero_add, Nat.sub_zero] at hv0
      exact v_iret X Y dX6_families_33 (Or.inr ⟨w, f', t', hw, rfl, hf1, hf2, ht1, ht2, rfl, rfl, Or.inr ⟨hpc, by rw [hv0], hF24, hL24⟩⟩)
    · exact absurd h11 (by decide)
set_option maxHeartbeats 4000000 in
set_option maxRecDepth 100000 in
theorem c_X6_weight (l : Launch) (E : VE) (hE : EOk E) (I : TI) (L : TL) (n : Nat) (ln sc : Nat → Nat) (kd pl wt : Nat → Nat → Nat) (hN : MN I n ln sc kd pl wt) (x f t : Int32) : Ct l E yX6_weight cX6_weight 5 (some .long) rm_X6_weight [.ref (eA E 30 0), .int x, .int f, .int t] I L (fun r I' L' => (¬ inS n ln ln x f t ∧ r = some (.long 0) ∧ I' = rfM I 3 ∧ L' = L) ∨ (∃ w f' t', w < n ∧ x = nI w ∧ 1 ≤ f' ∧ f' < 2 ^ ln w ∧ 1 ≤ t' ∧ t' < 2 ^ ln w ∧ f = nI f' ∧ t = nI t' ∧ ((¬ pc5 f' = pc5 t' ∧ r = some (.long 0) ∧ I' = rfM I 7 ∧ L' = L) ∨ (pc5 f' = pc5 t' ∧ r = some (.long (wy (sc w) (kd w) (pl w) (wvl 1 (wt w)) t' (sc w) f')) ∧ Fr [(44, 0)] I I' ∧ FL [(45, 0)] L L')))) := by
  refine ct_of (by decide +kernel) (Nat.le_of_ble_eq_true rfl) hE ?_
  intro a X Y hl hEE
  subst hl; subst hEE
  show V a 0 [(0, .ref (eA (vE a) 30 0)), (1, .int x), (2, .int f), (3, .int t)] [] I L
  refine v_aload_n X 0 rfl dX6_weight_0 ?_
  refine v_iload_n X 1 rfl dX6_weight_1 ?_
  refine v_iload_n X 2 rfl dX6_weight_2 ?_
  refine v_iload_n X 3 rfl dX6_weight_3 ?_
  refine v_callV X (c_X6_whyNot _ _ hE _ _ n ln sc kd pl wt hN x f t) k_X6_179 dl_30 (cef_30 _ _ _ _) rfl ⟨rfl, rfl, Nat.le_of_ble_eq_true rfl, Nat.le_of_ble_eq_true rfl⟩ (As := [.int x, .int f, .int t]) (rest := []) rfl rfl (Nat.le_of_ble_eq_true rfl) dX6_weight_4 (fun r4 I4 L4 hp4 => ?_)
  obtain ⟨ho4, e1, e2⟩ := hp4
  have e1 := e1.symm
  have e2 := e2.symm
  subst e1; subst e2
  rcases ho4 with ⟨hno, rfl⟩ | ⟨w, f', t', hw, rfl, hf1, hf2, ht1, ht2, rfl, rfl, ⟨hpc, rfl⟩ | ⟨hpc, rfl⟩⟩
  · skip
    refine v_st (st' := [.int (-3)]) rfl ?_
    refine v_istore X [1, 2, 3, 4, 0] (lv' := [(0, .ref (eA (vE a) 30 0)), (1, .int x), (2, .int f), (3, .int t), (4, .int (-3))]) (by decide) rfl dX6_weight_7 ?_
    refine v_iload X 4 rfl dX6_weight_9 ?_
    refine v_if_eq X dX6_weight_11 (tgt := 22) (by decide) (fun h11 => ?_) (fun h11 => ?_)
    · exact absurd h11 (by decide)
    · refine v_aload_n X 0 rfl dX6_weight_14 ?_
      refine v_iload X 4 rfl dX6_weight_15 ?_
      refine v_callV X (c_X6_none _ _ hE _ _ 3 (by decide) (by decide)) k_X6_106 dl_30 (cef_30 _ _ _ _) rfl ⟨rfl, rfl, Nat.le_of_ble_eq_true rfl, Nat.le_of_ble_eq_true rfl⟩ (As := [.int (-3)]) (rest := []) rfl rfl (Nat.le_of_ble_eq_true rfl) dX6_weight_17 (fun r17 I17 L17 hp17 => ?_)
      obtain ⟨rfl, e1, e2⟩ := hp17
      have e1 := e1.symm
      have e2 := e2.symm
      subst e1; subst e2
      refine v_st (st' := [.int (nI 0)]) rfl ?_
      refine v_i2l X dX6_weight_20 rfl ?_
      refine v_eql (y := 0) (by decide) ?_
      exact v_lret X Y dX6_weight_21 (Or.inl ⟨hno, rfl, rfl, rfl⟩)
  · have hn4 := hN.2.1
    obtain ⟨hweb, hok⟩ := hN.2.2 w hw
    obtain ⟨hl1, hl5, hsc16, hst⟩ := id hok
    have hw4 : w < 4 := by omega
    have hpr := pow32 hl5
    refine v_st (st' := [.int (-7)]) rfl ?_
    refine v_istore X [1, 2, 3, 4, 0] (lv' := [(0, .ref (eA (vE a) 30 0)), (1, .int (nI w)), (2, .int (nI f')), (3, .int (nI t')), (4, .int (-7))]) (by decide) rfl dX6_weight_7 ?_
    refine v_iload X 4 rfl dX6_weight_9 ?_
    refine v_if_eq X dX6_weight_11 (tgt := 22) (by decide) (fun h11 => ?_) (fun h11 => ?_)
    · exact absurd h11 (by decide)
    · refine v_aload_n X 0 rfl dX6_weight_14 ?_
      refine v_iload X 4 rfl dX6_weight_15 ?_
      refine v_callV X (c_X6_none _ _ hE _ _ 7 (by decide) (by decide)) k_X6_106 dl_30 (cef_30 _ _ _ _) rfl ⟨rfl, rfl, Nat.le_of_ble_eq_true rfl, Nat.le_of_ble_eq_true rfl⟩ (As := [.int (-7)]) (rest := []) rfl rfl (Nat.le_of_ble_eq_true rfl) dX6_weight_17 (fun r17 I17 L17 hp17 => ?_)
      obtain ⟨rfl, e1, e2⟩ := hp17
      have e1 := e1.symm
      have e2 := e2.symm
      subst e1; subst e2
      refine v_st (st' := [.int (nI 0)]) rfl ?_
      refine v_i2l X dX6_weight_20 rfl ?_
      refine v_eql (y := 0) (by decide) ?_
      exact v_lret X Y dX6_weight_21 (Or.inr ⟨w, f', t', hw, rfl, hf1, hf2, ht1, ht2, rfl, rfl, Or.inl ⟨hpc, rfl, rfl, rfl⟩⟩)
  · have hn4 := hN.2.1
    obtain ⟨hweb, hok⟩ := hN.2.2 w hw
    obtain ⟨hl1, hl5, hsc16, hst⟩ := id hok
    have hw4 : w < 4 := by omega
    have hpr := pow32 hl5
    refine v_st (st' := [.int (nI 0)]) rfl ?_
    refine v_istore X [1, 2, 3, 4, 0] (lv' := [(0, .ref (eA (vE a) 30 0)), (1, .int (nI w)), (2, .int (nI f')), (3, .int (nI t')), (4, .int (nI 0))]) (by decide) rfl dX6_weight_7 ?_
    refine v_iload X 4 rfl dX6_weight_9 ?_
    refine v_if_eq_n X (by omega) dX6_weight_11 (tgt := 22) (by decide) (fun h11 => ?_) (fun h11 => ?_)
    · refine v_aload_n X 0 rfl dX6_weight_22 ?_
      refine v_iload_n X 1 rfl dX6_weight_23 ?_
      refine v_iload_n X 3 rfl dX6_weight_24 ?_
      refine v_callV X (c_X6_finds _ _ hE _ _ w hw4 (ln w) (sc w) (kd w) (pl w) (wt w) hok hweb t' (by omega)) k_X6_182 dl_30 (cef_30 _ _ _ _) rfl ⟨rfl, rfl, Nat.le_of_ble_eq_true rfl, Nat.le_of_ble_eq_true rfl⟩ (As := [.int (nI w), .int (nI t')]) (rest := []) rfl rfl (Nat.le_of_ble_eq_true rfl) dX6_weight_25 (fun r25 I25 L25 hp25 => ?_)
      obtain ⟨rfl, hF25, hL25, hWR⟩ := hp25
      refine v_st (st' := []) rfl ?_
      refine v_aload_n X 0 rfl dX6_weight_28 ?_
      refine gf_X6_53 X dX6_weight_29 ?_
      refine v_iload_n X 2 rfl dX6_weight_32 ?_
      refine v_lald_n X dl_45 (fun _ _ => rfl) (n := 544) (by omega) (by decide) dX6_weight_33 ?_
      have hv0 := (hWR 0 (Nat.zero_le _) f' (by omega)).2
      rw [Nat.mul_zero, Nat.zero_add, Nat.sub_zero] at hv0
      exact v_lret X Y dX6_weight_34 (Or.inr ⟨w, f', t', hw, rfl, hf1, hf2, ht1, ht2, rfl, rfl, Or.inr ⟨hpc, by rw [hv0], hF25, hL25⟩⟩)
    · exact absurd h11 (by decide)
set_option maxHeartbeats 4000000 in
set_option maxRecDepth 100000 in
theorem c_X6_family (l : Launch) (E : VE) (hE : EOk E) (I : TI) (L : TL) (n : Nat) (ln sc : Nat → Nat) (kd pl wt : Nat → Nat → Nat) (hN : MN I n ln sc kd pl wt) (x f t told : Int32) (hto : (∃ q, q < 2 ^ 31 ∧ told = nI q) ∨ told < 0) : Ct l E yX6_family cX6_family 11 (some .int) rm_X6_family [.ref (eA E 30 0), .int x, .int f, .int t, .int told] I L (fun r I' L' => (¬ inS n ln ln x f t ∧ r = some (.int (-nI 3)) ∧ I' = rfM I 3 ∧ L' = L) ∨ (∃ w f' t', w < n ∧ x = nI w ∧ 1 ≤ f' ∧ f' < 2 ^ ln w ∧ 1 ≤ t' ∧ t' < 2 ^ ln w ∧ f = nI f' ∧ t = nI t' ∧ ((¬ pc5 f' = pc5 t' ∧ r = some (.int (-nI 7)) ∧ I' = rfM I 7 ∧ L' = L) ∨ (pc5 f' = pc5 t' ∧ FL [(45, 0)] L L' ∧ ((¬ (∃ k' s', k' < 2 ^ 20 ∧ s' ≤ sc w ∧ sc w ≤ 16 ∧ told = nI (s' * 2 ^ 20 + k') ∧ (nI k').toInt64 < (wy (sc w) (kd w) (pl w) (wvl 0 (wt w)) t' (sc w) f')) ∧ r = some (.int (-nI 3)) ∧ ∃ I1, Fr [(44, 0)] I I1 ∧ I' = rfM I1 3) ∨ (∃ k' s', k' < 2 ^ 20 ∧ s' ≤ sc w ∧ sc w ≤ 16 ∧ told = nI (s' * 2 ^ 20 + k') ∧ (nI k').toInt64 < (wy (sc w) (kd w) (pl w) (wvl 0 (wt w)) t' (sc w) f') ∧ r = some (.int (nI (wk (kd w) (pl w) (fun s T => wy (sc w) (kd w) (pl w) (wvl 0 (wt w)) t' (sc w - s) T) f' (nI k').toInt64 s').1)) ∧ Fr [(44, 0)] I I')))))) := by
  refine ct_of (by decide +kernel) (Nat.le_of_ble_eq_true rfl) hE ?_
  intro a X Y hl hEE
  subst hl; subst hEE
  show V a 0 [(0, .ref (eA (vE a) 30 0)), (1, .int x), (2, .int f), (3, .int t), (4, .int told)] [] I L
  refine v_aload_n X 0 rfl dX6_family_0 ?_
  refine v_iload_n X 1 rfl dX6_family_1 ?_
  refine v_iload_n X 2 rfl dX6_family_2 ?_
  refine v_iload_n X 3 rfl dX6_family_3 ?_
  refine v_callV X (c_X6_whyNot _ _ hE _ _ n ln sc kd pl wt hN x f t) k_X6_179 dl_30 (cef_30 _ _ _ _) rfl ⟨rfl, rfl, Nat.le_of_ble_eq_true rfl, Nat.le_of_ble_eq_true rfl⟩ (As := [.int x, .int f, .int t]) (rest := []) rfl rfl (Nat.le_of_ble_eq_true rfl) dX6_family_4 (fun r4 I4 L4 hp4 => ?_)
  obtain ⟨ho4, e1, e2⟩ := hp4
  have e1 := e1.symm
  have e2 := e2.symm
  subst e1; subst e2
  rcases ho4 with ⟨hno, rfl⟩ | ⟨w, f', t', hw, rfl, hf1, hf2, ht1, ht2, rfl, rfl, ⟨hpc, rfl⟩ | ⟨hpc, rfl⟩⟩
  · skip
    refine v_st (st' := [.int (-3)]) rfl ?_
    refine v_istore X [1, 2, 3, 4, 5, 0] (lv' := [(0, .ref (eA (vE a) 30 0)), (1, .int x), (2, .int f), (3, .int t), (4, .int told), (5, .int (-3))]) (by decide) rfl dX6_family_7 ?_
    refine v_iload X 5 rfl dX6_family_9 ?_
    refine v_if_eq X dX6_family_11 (tgt := 21) (by decide) (fun h11 => ?_) (fun h11 => ?_)
    · exact absurd h11 (by decide)
    · refine v_aload_n X 0 rfl dX6_family_14 ?_
      refine v_iload X 5 rfl dX6_family_15 ?_
      refine v_callV X (c_X6_no _ _ hE _ _ 3 (by decide) (by decide)) k_X6_80 dl_30 (cef_30 _ _ _ _) rfl ⟨rfl, rfl, Nat.le_of_ble_eq_true rfl, Nat.le_of_ble_eq_true rfl⟩ (As := [.int (-3)]) (rest := []) rfl rfl (Nat.le_of_ble_eq_true rfl) dX6_family_17 (fun r17 I17 L17 hp17 => ?_)
      obtain ⟨rfl, e1, e2⟩ := hp17
      have e1 := e1.symm
      have e2 := e2.symm
      subst e1; subst e2
      refine v_st (st' := [.int (-3)]) rfl ?_
      exact v_iret X Y dX6_family_20 (Or.inl ⟨hno, rfl, rfl, rfl⟩)
  · have hn4 := hN.2.1
    obtain ⟨hweb, hok⟩ := hN.2.2 w hw
    obtain ⟨hl1, hl5, hsc16, hst⟩ := id hok
    have hw4 : w < 4 := by omega
    have hpr := pow32 hl5
    refine v_st (st' := [.int (-7)]) rfl ?_
    refine v_istore X [1, 2, 3, 4, 5, 0] (lv' := [(0, .ref (eA (vE a) 30 0)), (1, .int (nI w)), (2, .int (nI f')), (3, .int (nI t')), (4, .int told), (5, .int (-7))]) (by decide) rfl dX6_family_7 ?_
    refine v_iload X 5 rfl dX6_family_9 ?_
    refine v_if_eq X dX6_family_11 (tgt := 21) (by decide) (fun h11 => ?_) (fun h11 => ?_)
    · exact absurd h11 (by decide)
    · refine v_aload_n X 0 rfl dX6_family_14 ?_
      refine v_iload X 5 rfl dX6_family_15 ?_
      refine v_callV X (c_X6_no _ _ hE _ _ 7 (by decide) (by decide)) k_X6_80 dl_30 (cef_30 _ _ _ _) rfl ⟨rfl, rfl, Nat.le_of_ble_eq_true rfl, Nat.le_of_ble_eq_true rfl⟩ (As := [.int (-7)]) (rest := []) rfl rfl (Nat.le_of_ble_eq_true rfl) dX6_family_17 (fun r17 I17 L17 hp17 => ?_)
      obtain ⟨rfl, e1, e2⟩ := hp17
      have e1 := e1.symm
      have e2 := e2.symm
      subst e1; subst e2
      refine v_st (st' := [.int (-7)]) rfl ?_
      exact v_iret X Y dX6_family_20 (Or.inr ⟨w, f', t', hw, rfl, hf1, hf2, ht1, ht2, rfl, rfl, Or.inl ⟨hpc, rfl, rfl, rfl⟩⟩)
  · have hn4 := hN.2.1
    obtain ⟨hweb, hok⟩ := hN.2.2 w hw
    obtain ⟨hl1, hl5, hsc16, hst⟩ := id hok
    have hw4 : w < 4 := by omega
    have hpr := pow32 hl5
    refine v_st (st' := [.int (nI 0)]) rfl ?_
    refine v_istore X [1, 2, 3, 4, 5, 0] (lv' := [(0, .ref (eA (vE a) 30 0)), (1, .int (nI w)), (2, .int (nI f')), (3, .int (nI t')), (4, .int told), (5, .int (nI 0))]) (by decide) rfl dX6_family_7 ?_
    refine v_iload X 5 rfl dX6_family_9 ?_
    refine v_if_eq_n X (by omega) dX6_family_11 (tgt := 21) (by decide) (fun h11 => ?_) (fun h11 => ?_)
    · refine v_aload_n X 0 rfl dX6_family_21 ?_
      refine v_iload_n X 1 rfl dX6_family_22 ?_
      refine v_iload_n X 3 rfl dX6_family_23 ?_
      refine v_callV X (c_X6_finds _ _ hE _ _ w hw4 (ln w) (sc w) (kd w) (pl w) (wt w) hok hweb t' (by omega)) k_X6_182 dl_30 (cef_30 _ _ _ _) rfl ⟨rfl, rfl, Nat.le_of_ble_eq_true rfl, Nat.le_of_ble_eq_true rfl⟩ (As := [.int (nI w), .int (nI t')]) (rest := []) rfl rfl (Nat.le_of_ble_eq_true rfl) dX6_family_24 (fun r24 I24 L24 hp24 => ?_)
      obtain ⟨rfl, hF24, hL24, hWR⟩ := hp24
      refine v_st (st' := []) rfl ?_
      rcases hto with ⟨q, hq31, rfl⟩ | hneg
      · have hqd : q / 2 ^ 20 < 2 ^ 31 := Nat.lt_of_le_of_lt (Nat.div_le_self _ _) hq31
        have hqm : q % 2 ^ 20 < 2 ^ 20 := Nat.mod_lt _ (by decide)
        have hq32 : q < 2 ^ 31 := hq31
        refine v_iload X 4 rfl dX6_family_27 ?_
        refine v_ldc X (v := 1048575) kc_X6_186 dX6_family_29 ?_
        refine v_eqi (y := (nI 1048575)) (rfl) ?_
        refine v_iand X dX6_family_31 ?_
        refine v_eqi (y := (nI (q &&& 1048575))) (an_and _ _) ?_
        refine v_eqi (y := (nI (q % 2 ^ 20))) (congrArg nI (Nat.and_two_pow_sub_one_eq_mod q 20)) ?_
        refine v_istore X [1, 2, 3, 4, 5, 6, 0] (lv' := [(0, .ref (eA (vE a) 30 0)), (1, .int (nI w)), (2, .int (nI f')), (3, .int (nI t')), (4, .int (nI q)), (5, .int (nI 0)), (6, .int (nI (q % 2 ^ 20)))]) (by decide) rfl dX6_family_32 ?_
        refine v_iload X 4 rfl dX6_family_34 ?_
        refine v_bipush X (v := (nI 20)) dX6_family_36 (by decide) ?_
        refine v_ishr X dX6_family_38 ?_
        refine v_eqi (y := (nI (q / 2 ^ 20))) (sh_r (by omega) (by omega)) ?_
        refine v_istore X [1, 2, 3, 4, 5, 6, 7, 0] (lv' := [(0, .ref (eA (vE a) 30 0)), (1, .int (nI w)), (2, .int (nI f')), (3, .int (nI t')), (4, .int (nI q)), (5, .int (nI 0)), (6, .int (nI (q % 2 ^ 20))), (7, .int (nI (q / 2 ^ 20)))]) (by decide) rfl dX6_family_39 ?_
        refine v_iload X 4 rfl dX6_family_41 ?_
        refine v_if_lt_n X (by omega) dX6_family_43 (tgt := 68) (by decide) ?_
        refine v_iload X 7 rfl dX6_family_46 ?_
        refine v_aload_n X 0 rfl dX6_family_48 ?_
        refine gf_X6_28 X dX6_family_49 ?_
        refine v_iload_n X 1 rfl dX6_family_52 ?_
        refine v_iald_n X dl_37 (fun _ _ => rfl) (n := 4) (by omega) (by decide) dX6_family_53 ?_
        refine v_eqi (y := (nI (sc w))) ((Fr.at hF24 (by simp) _).trans (hweb.2.1)) ?_
        refine v_icmp_gt_n X (by omega) (by omega) dX6_family_54 (tgt := 68) (by decide) (fun h54 => ?_) (fun h54 => ?_)
        · refine v_aload_n X 0 rfl dX6_family_68 ?_
          refine v_bipush X (v := (-3)) dX6_family_69 (by decide) ?_
          refine v_callV X (c_X6_no _ _ hE _ _ 3 (by decide) (by decide)) k_X6_80 dl_30 (cef_30 _ _ _ _) rfl ⟨rfl, rfl, Nat.le_of_ble_eq_true rfl, Nat.le_of_ble_eq_true rfl⟩ (As := [.int (-3)]) (rest := []) rfl rfl (Nat.le_of_ble_eq_true rfl) dX6_family_71 (fun r71 I71 L71 hp71 => ?_)
          obtain ⟨rfl, e1, e2⟩ := hp71
          have e1 := e1.symm
          have e2 := e2.symm
          subst e1; subst e2
          refine v_st (st' := [.int (-3)]) rfl ?_
          exact v_iret X Y dX6_family_74 (Or.inr ⟨w, f', t', hw, rfl, hf1, hf2, ht1, ht2, rfl, rfl, Or.inr ⟨hpc, hL24, Or.inl ⟨fun ⟨k', s', a1, a2, a3, a4, a5⟩ => by
                have e := (nI_eq hq31 (by omega)).mp a4
                omega, rfl, I24, hF24, rfl⟩⟩⟩)
        · refine v_iload X 6 rfl dX6_family_57 ?_
          refine v_aload_n X 0 rfl dX6_family_59 ?_
          refine gf_X6_50 X dX6_family_60 ?_
          refine v_iload_n X 2 rfl dX6_family_63 ?_
          refine v_iald_n X dl_44 (fun _ _ => rfl) (n := 544) (by omega) (by decide) dX6_family_64 ?_
          have hv0 := (hWR 0 (Nat.zero_le _) f' (by omega)).1
          rw [Nat.mul_zero, Nat.zero_add, Nat.sub_zero] at hv0
          obtain ⟨q0, hq0, hwy0⟩ := wy_few (b := 0) (to := t') rfl hok (Nat.le_refl (sc w)) f'
          rw [hwy0, lN_tI (by omega)] at hv0
          refine v_eqi (y := (nI q0)) (hv0) ?_
          refine v_icmp_lt_n X (by omega) (by omega) dX6_family_65 (tgt := 75) (by decide) (fun h65 => ?_) (fun h65 => ?_)
          · refine v_iload_n X 2 rfl dX6_family_75 ?_
            refine v_istore X [1, 2, 3, 4, 5, 6, 7, 8, 0] (lv' := [(0, .ref (eA (vE a) 30 0)), (1, .int (nI w)), (2, .int (nI f')), (3, .int (nI t')), (4, .int (nI q)), (5, .int (nI 0)), (6, .int (nI (q % 2 ^ 20))), (7, .int (nI (q / 2 ^ 20))), (8, .int (nI f'))]) (by decide) rfl dX6_family_76 ?_
            refine v_iconst X (v := (nI 0)) dX6_family_78 (by decide) ?_
            refine v_istore X [1, 2, 3, 4, 5, 6, 7, 8, 9, 0] (lv' := [(0, .ref (eA (vE a) 30 0)), (1, .int (nI w)), (2, .int (nI f')), (3, .int (nI t')), (4, .int (nI q)), (5, .int (nI 0)), (6, .int (nI (q % 2 ^ 20))), (7, .int (nI (q / 2 ^ 20))), (8, .int (nI f')), (9, .int (nI 0))]) (by decide) rfl dX6_family_79 ?_
            have loop81 : ∀ (fu : Nat) (s : Nat) (T : Nat) (kk : Nat), 17 - s < fu → (s ≤ q / 2 ^ 20) → (T < 32) → (wkW (sc w) (kd w) (pl w) (wt w) t' f' (q % 2 ^ 20) s = (T, (nI kk).toInt64)) → (∃ q1, q1 ≤ 65536 ∧ wy (sc w) (kd w) (pl w) (wvl 0 (wt w)) t' (sc w - s) T = lN q1 ∧ kk < q1) → V a 81 [(0, .ref (eA (vE a) 30 0)), (1, .int (nI w)), (2, .int (nI f')), (3, .int (nI t')), (4, .int (nI q)), (5, .int (nI 0)), (6, .int (nI kk)), (7, .int (nI (q / 2 ^ 20))), (8, .int (nI T)), (9, .int (nI s))] [] I24 L24 := by
              intro fu
              induction fu with
              | zero => intro s T kk hm _ _ _ _; exact absurd hm (Nat.not_lt_zero _)
              | succ fu ih81 =>
                intro s T kk hm81 hsu hT hw2 hinv
                refine v_iload X 9 rfl dX6_family_81 ?_
                refine v_iload X 7 rfl dX6_family_83 ?_
                refine v_icmp_ge_n X (by omega) (by omega) dX6_family_85 (tgt := 144) (by decide) (fun h85 => ?_) (fun h85 => ?_)
                · refine v_iload X 8 rfl dX6_family_144 ?_
                  exact v_iret X Y dX6_family_146 (Or.inr ⟨w, f', t', hw, rfl, hf1, hf2, ht1, ht2, rfl, rfl, Or.inr ⟨hpc, hL24, Or.inr ⟨q % 2 ^ 20, q / 2 ^ 20, by omega, by omega, hsc16, by rw [show q / 2 ^ 20 * 2 ^ 20 + q % 2 ^ 20 = q by omega], by rw [hwy0, nI_l (by omega)]; exact (pk_lLT (by omega) (by omega)).mpr h65, by
                        rw [show q / 2 ^ 20 = s by omega]
                        have e := congrArg Prod.fst hw2
                        exact congrArg (fun z => some (Value.int (nI z))) e.symm, hF24⟩⟩⟩)
                · obtain ⟨q1, hq1, hwy1, hkk⟩ := hinv
                  refine v_aload_n X 0 rfl dX6_family_88 ?_
                  refine gf_X6_50 X dX6_family_89 ?_
                  refine v_bipush X (v := (nI 32)) dX6_family_92 (by decide) ?_
                  refine v_iload X 9 rfl dX6_family_94 ?_
                  refine v_imul X dX6_family_96 ?_
                  refine v_eqi (y := (nI (32 * s))) (pk_mul _ _) ?_
                  refine v_bipush X (v := (nI 32)) dX6_family_97 (by decide) ?_
                  refine v_iadd X dX6_family_99 ?_
                  refine v_eqi (y := (nI ((32 * s) + 32))) (nI_add _ _) ?_
                  refine v_iload X 8 rfl dX6_family_100 ?_
                  refine v_iadd X dX6_family_102 ?_
                  refine v_eqi (y := (nI (((32 * s) + 32) + T))) (nI_add _ _) ?_
                  refine v_iald_n X dl_44 (fun _ _ => rfl) (n := 544) (by omega) (by decide) dX6_family_103 ?_
                  have hs1 : s < sc w := by omega
                  have hv1 := (hWR (s + 1) (by omega) T hT).1
                  obtain ⟨q2, hq2, hwy2⟩ := wy_few (b := 0) (to := t') rfl hok (show sc w - (s + 1) ≤ sc w by omega) T
                  rw [hwy2, lN_tI (by omega), show 32 * (s + 1) + T = 32 * s + 32 + T by omega] at hv1
                  refine v_eqi (y := (nI q2)) (hv1) ?_
                  refine v_istore X [1, 2, 3, 4, 5, 6, 7, 8, 9, 10, 0] (lv' := [(0, .ref (eA (vE a) 30 0)), (1, .int (nI w)), (2, .int (nI f')), (3, .int (nI t')), (4, .int (nI q)), (5, .int (nI 0)), (6, .int (nI kk)), (7, .int (nI (q / 2 ^ 20))), (8, .int (nI T)), (9, .int (nI s)), (10, .int (nI q2))]) (by decide) rfl dX6_family_104 ?_
                  refine v_iload X 6 rfl dX6_family_106 ?_
                  refine v_iload X 10 rfl dX6_family_108 ?_
                  refine v_icmp_ge_n X (by omega) (by omega) dX6_family_110 (tgt := 116) (by decide) (fun h110 => ?_) (fun h110 => ?_)
                  · obtain ⟨hane, hkq⟩ := fam_next (ln := ln w) hs1 hwy1 hwy2 hq1 hq2 hkk h110
                    have hlt := aft_lt hok hs1 hT
                    obtain ⟨q3, hq3, hwy3⟩ := wy_few (b := 0) (to := t') rfl hok (show sc w - (s + 1) ≤ sc w by omega) (aft (kd w s) (pl w s) T)
                    have hkk3 := hkq q3 hq3 hwy3
                    have hweb2 := webM_fr hF24 (by simp) (by simp) (by simp) (by simp) (by simp) hweb
                    refine v_iload X 6 rfl dX6_family_116 ?_
                    refine v_iload X 10 rfl dX6_family_118 ?_
                    refine v_isub X dX6_family_120 ?_
                    refine v_eqi (y := (nI (kk - q2))) (pk_sub (by omega)) ?_
                    refine v_istore X [1, 2, 3, 4, 5, 6, 0, 7, 8, 9, 10] (lv' := [(0, .ref (eA (vE a) 30 0)), (1, .int (nI w)), (2, .int (nI f')), (3, .int (nI t')), (4, .int (nI q)), (5, .int (nI 0)), (6, .int (nI (kk - q2))), (7, .int (nI (q / 2 ^ 20))), (8, .int (nI T)), (9, .int (nI s)), (10, .int (nI q2))]) (by decide) rfl dX6_family_121 ?_
                    refine v_aload_n X 0 rfl dX6_family_123 ?_
                    refine v_bipush X (v := (nI 16)) dX6_family_124 (by decide) ?_
                    refine v_iload_n X 1 rfl dX6_family_126 ?_
                    refine v_imul X dX6_family_127 ?_
                    refine v_eqi (y := (nI (16 * w))) (pk_mul _ _) ?_
                    refine v_iload X 9 rfl dX6_family_128 ?_
                    refine v_iadd X dX6_family_130 ?_
                    refine v_eqi (y := (nI ((16 * w) + s))) (nI_add _ _) ?_
                    refine v_iload X 8 rfl dX6_family_131 ?_
                    refine v_callV X (c_X6_over _ _ hE _ _ w hw4 (ln w) (sc w) (kd w) (pl w) (wt w) hok hweb2 s hs1 T hT) k_X6_176 dl_30 (cef_30 _ _ _ _) rfl ⟨rfl, rfl, Nat.le_of_ble_eq_true rfl, Nat.le_of_ble_eq_true rfl⟩ (As := [.int (nI ((16 * w) + s)), .int (nI T)]) (rest := []) rfl rfl (Nat.le_of_ble_eq_true rfl) dX6_family_133 (fun r133 I133 L133 hp133 => ?_)
                    obtain ⟨rfl, e1, e2⟩ := hp133
                    have e1 := e1.symm
                    have e2 := e2.symm
                    subst e1; subst e2
                    rw [if_neg hane]
                    refine v_st (st' := [.int (nI (aft (kd w s) (pl w s) T))]) rfl ?_
                    refine v_istore X [1, 2, 3, 4, 5, 6, 7, 8, 0, 9, 10] (lv' := [(0, .ref (eA (vE a) 30 0)), (1, .int (nI w)), (2, .int (nI f')), (3, .int (nI t')), (4, .int (nI q)), (5, .int (nI 0)), (6, .int (nI (kk - q2))), (7, .int (nI (q / 2 ^ 20))), (8, .int (nI (aft (kd w s) (pl w s) T))), (9, .int (nI s)), (10, .int (nI q2))]) (by decide) rfl dX6_family_136 ?_
                    refine v_iinc X [1, 2, 3, 4, 5, 6, 7, 8, 9, 0, 10] 9 (nI (s + 1)) (lv' := [(0, .ref (eA (vE a) 30 0)), (1, .int (nI w)), (2, .int (nI f')), (3, .int (nI t')), (4, .int (nI q)), (5, .int (nI 0)), (6, .int (nI (kk - q2))), (7, .int (nI (q / 2 ^ 20))), (8, .int (nI (aft (kd w s) (pl w s) T))), (9, .int (nI (s + 1))), (10, .int (nI q2))]) rfl (nI_1 _) (by decide) rfl dX6_family_138 ?_
                    refine v_goto X (tgt := 81) dX6_family_141 (by decide) ?_
                    refine v_sub [0, 1, 2, 3, 4, 5, 6, 7, 8, 9] (lv' := [(0, .ref (eA (vE a) 30 0)), (1, .int (nI w)), (2, .int (nI f')), (3, .int (nI t')), (4, .int (nI q)), (5, .int (nI 0)), (6, .int (nI (kk - q2))), (7, .int (nI (q / 2 ^ 20))), (8, .int (nI (aft (kd w s) (pl w s) T))), (9, .int (nI (s + 1)))]) rfl ?_
                    exact ih81 (s + 1) (aft (kd w s) (pl w s) T) (kk - q2) (by omega) (by omega) hlt (wk_go hw2 hwy2 hq2 (by omega) h110 hane) (⟨q3, hq3, hwy3, hkk3⟩)
                  · refine v_goto X (tgt := 138) dX6_family_113 (by decide) ?_
                    refine v_iinc X [1, 2, 3, 4, 5, 6, 7, 8, 9, 0, 10] 9 (nI (s + 1)) (lv' := [(0, .ref (eA (vE a) 30 0)), (1, .int (nI w)), (2, .int (nI f')), (3, .int (nI t')), (4, .int (nI q)), (5, .int (nI 0)), (6, .int (nI kk)), (7, .int (nI (q / 2 ^ 20))), (8, .int (nI T)), (9, .int (nI (s + 1))), (10, .int (nI q2))]) rfl (nI_1 _) (by decide) rfl dX6_family_138 ?_
                    refine v_goto X (tgt := 81) dX6_family_141 (by decide) ?_
                    refine v_sub [0, 1, 2, 3, 4, 5, 6, 7, 8, 9] (lv' := [(0, .ref (eA (vE a) 30 0)), (1, .int (nI w)), (2, .int (nI f')), (3, .int (nI t')), (4, .int (nI q)), (5, .int (nI 0)), (6, .int (nI kk)), (7, .int (nI (q / 2 ^ 20))), (8, .int (nI T)), (9, .int (nI (s + 1)))]) rfl ?_
                    exact ih81 (s + 1) T kk (by omega) (by omega) hT (wk_stay hw2 hwy2 hq2 (by omega) h110) (⟨q2, hq2, hwy2, h110⟩)
            exact loop81 _ 0 f' (q % 2 ^ 20) (Nat.lt_succ_self _) (Nat.zero_le _) (by omega) rfl (⟨q0, hq0, hwy0, h65⟩)
          · refine v_aload_n X 0 rfl dX6_family_68 ?_
            refine v_bipush X (v := (-3)) dX6_family_69 (by decide) ?_
            refine v_callV X (c_X6_no _ _ hE _ _ 3 (by decide) (by decide)) k_X6_80 dl_30 (cef_30 _ _ _ _) rfl ⟨rfl, rfl, Nat.le_of_ble_eq_true rfl, Nat.le_of_ble_eq_true rfl⟩ (As := [.int (-3)]) (rest := []) rfl rfl (Nat.le_of_ble_eq_true rfl) dX6_family_71 (fun r71 I71 L71 hp71 => ?_)
            obtain ⟨rfl, e1, e2⟩ := hp71
            have e1 := e1.symm
            have e2 := e2.symm
            subst e1; subst e2
            refine v_st (st' := [.int (-3)]) rfl ?_
            exact v_iret X Y dX6_family_74 (Or.inr ⟨w, f', t', hw, rfl, hf1, hf2, ht1, ht2, rfl, rfl, Or.inr ⟨hpc, hL24, Or.inl ⟨fun ⟨k', s', a1, a2, a3, a4, a5⟩ => by
                  have e := (nI_eq hq31 (by omega)).mp a4
                  rw [hwy0, nI_l (by omega)] at a5
                  have := (pk_lLT (by omega) (by omega)).mp a5
                  omega, rfl, I24, hF24, rfl⟩⟩⟩)
      · skip
        refine v_iload X 4 rfl dX6_family_27 ?_
        refine v_ldc X (v := 1048575) kc_X6_186 dX6_family_29 ?_
        refine v_eqi (y := (nI 1048575)) (rfl) ?_
        refine v_iand X dX6_family_31 ?_
        refine v_istore X [1, 2, 3, 4, 5, 6, 0] (lv' := [(0, .ref (eA (vE a) 30 0)), (1, .int (nI w)), (2, .int (nI f')), (3, .int (nI t')), (4, .int told), (5, .int (nI 0)), (6, .int (told &&& (nI 1048575)))]) (by decide) rfl dX6_family_32 ?_
        refine v_iload X 4 rfl dX6_family_34 ?_
        refine v_bipush X (v := (nI 20)) dX6_family_36 (by decide) ?_
        refine v_ishr X dX6_family_38 ?_
        refine v_istore X [1, 2, 3, 4, 5, 6, 7, 0] (lv' := [(0, .ref (eA (vE a) 30 0)), (1, .int (nI w)), (2, .int (nI f')), (3, .int (nI t')), (4, .int told), (5, .int (nI 0)), (6, .int (told &&& (nI 1048575))), (7, .int (told >>> ((nI 20) &&& 31)))]) (by decide) rfl dX6_family_39 ?_
        refine v_iload X 4 rfl dX6_family_41 ?_
        refine v_if_lt X dX6_family_43 (tgt := 68) (by decide) (fun h43 => ?_) (fun h43 => ?_)
        · refine v_aload_n X 0 rfl dX6_family_68 ?_
          refine v_bipush X (v := (-3)) dX6_family_69 (by decide) ?_
          refine v_callV X (c_X6_no _ _ hE _ _ 3 (by decide) (by decide)) k_X6_80 dl_30 (cef_30 _ _ _ _) rfl ⟨rfl, rfl, Nat.le_of_ble_eq_true rfl, Nat.le_of_ble_eq_true rfl⟩ (As := [.int (-3)]) (rest := []) rfl rfl (Nat.le_of_ble_eq_true rfl) dX6_family_71 (fun r71 I71 L71 hp71 => ?_)
          obtain ⟨rfl, e1, e2⟩ := hp71
          have e1 := e1.symm
          have e2 := e2.symm
          subst e1; subst e2
          refine v_st (st' := [.int (-3)]) rfl ?_
          exact v_iret X Y dX6_family_74 (Or.inr ⟨w, f', t', hw, rfl, hf1, hf2, ht1, ht2, rfl, rfl, Or.inr ⟨hpc, hL24, Or.inl ⟨fun ⟨k', s', a1, a2, a3, a4, _⟩ => nI_pos (n := s' * 2 ^ 20 + k') (by omega) (a4 ▸ hneg), rfl, I24, hF24, rfl⟩⟩⟩)
        · exact absurd hneg h43
    · exact absurd h11 (by decide)
set_option maxHeartbeats 4000000 in
set_option maxRecDepth 100000 in
theorem c_X6_made (l : Launch) (E : VE) (hE : EOk E) (I : TI) (L : TL) (c : Nat) (ro co : Nat → Nat) (hT : MT I c ro co) (n : Nat) (ln sc : Nat → Nat) (kd pl wt : Nat → Nat → Nat) (hN : MN I n ln sc kd pl wt) (x : Int32) : Ct l E yX6_made cX6_made 7 (some .int) rm_X6_made [.ref (eA E 30 0), .int x] I L (fun r I' L' => (¬ isT n x ∧ MEF I I' r 3 ∧ L' = L) ∨ (∃ w, w < n ∧ x = nI w ∧ ResN I I' r c (ln w) w (fun i j => wy (sc w) (kd w) (pl w) (wvl 1 (wt w)) (2 ^ j) (sc w) (2 ^ i)) ∧ FL [(43, 0)] L L')) := by
  refine ct_of (by decide +kernel) (Nat.le_of_ble_eq_true rfl) hE ?_
  intro a X Y hl hEE
  subst hl; subst hEE
  show V a 0 [(0, .ref (eA (vE a) 30 0)), (1, .int x)] [] I L
  refine v_aload_n X 0 rfl dX6_made_0 ?_
  refine v_iload_n X 1 rfl dX6_made_1 ?_
  refine v_callV X (c_X6_isNet _ _ hE _ _ n (hN.1) x) k_X6_171 dl_30 (cef_30 _ _ _ _) rfl ⟨rfl, rfl, Nat.le_of_ble_eq_true rfl, Nat.le_of_ble_eq_true rfl⟩ (As := [.int x]) (rest := []) rfl rfl (Nat.le_of_ble_eq_true rfl) dX6_made_2 (fun r2 I2 L2 hp2 => ?_)
  obtain ⟨rfl, e1, e2⟩ := hp2
  have e1 := e1.symm
  have e2 := e2.symm
  subst e1; subst e2
  refine v_st (st' := [.int (bI (inR n x))]) rfl ?_
  refine v_ifb_ne X dX6_made_5 (tgt := 15) (by decide) (fun h5 => ?_) (fun h5 => ?_)
  · obtain ⟨w, hw, rfl⟩ := inR_of (by have := hN.2.1; omega) h5
    have hn4 := hN.2.1
    obtain ⟨hweb, hok⟩ := hN.2.2 w hw
    obtain ⟨hl1, hl5, hsc16, hst⟩ := id hok
    have hw4 : w < 4 := by omega
    refine v_aload_n X 0 rfl dX6_made_15 ?_
    refine gf_X6_25 X dX6_made_16 ?_
    refine v_iload_n X 1 rfl dX6_made_19 ?_
    refine v_iald_n X dl_36 (fun _ _ => rfl) (n := 4) (by omega) (by decide) dX6_made_20 ?_
    refine v_eqi (y := (nI (ln w))) (hweb.1) ?_
    refine v_istore_n X [1, 2, 0] (lv' := [(0, .ref (eA (vE a) 30 0)), (1, .int (nI w)), (2, .int (nI (ln w)))]) (by decide) rfl dX6_made_21 ?_
    refine v_iconst X (v := (nI 0)) dX6_made_22 (by decide) ?_
    refine v_istore_n X [1, 2, 3, 0] (lv' := [(0, .ref (eA (vE a) 30 0)), (1, .int (nI w)), (2, .int (nI (ln w))), (3, .int (nI 0))]) (by decide) rfl dX6_made_23 ?_
    have loop24 : ∀ (fu : Nat) (k : Nat) (L1 : TL), 26 - k < fu → (k ≤ 25) → (FL [(43, 0)] L L1) → (∀ x, x < k → L1 43 0 x = if x % 6 = 0 then 1 else 0) → V a 24 [(0, .ref (eA (vE a) 30 0)), (1, .int (nI w)), (2, .int (nI (ln w))), (3, .int (nI k))] [] I L1 := by
      intro fu
      induction fu with
      | zero => intro k L1 hm _ _ _; exact absurd hm (Nat.not_lt_zero _)
      | succ fu ih24 =>
        intro k L1 hm24 hk hFL hv
        refine v_iload_n X 3 rfl dX6_made_24 ?_
        refine v_bipush X (v := (nI 25)) dX6_made_25 (by decide) ?_
        refine v_icmp_ge_n X (by omega) (by omega) dX6_made_27 (tgt := 54) (by decide) (fun h27 => ?_) (fun h27 => ?_)
        · refine v_bipush X (v := (nI 16)) dX6_made_54 (by decide) ?_
          refine v_iload_n X 1 rfl dX6_made_56 ?_
          refine v_imul X dX6_made_57 ?_
          refine v_eqi (y := (nI (16 * w))) (pk_mul _ _) ?_
          refine v_istore_n X [1, 2, 3, 0] (lv' := [(0, .ref (eA (vE a) 30 0)), (1, .int (nI w)), (2, .int (nI (ln w))), (3, .int (nI (16 * w)))]) (by decide) rfl dX6_made_58 ?_
          have loop59 : ∀ (fu : Nat) (s : Nat) (L1 : TL), 17 - s < fu → (s ≤ sc w) → (FL [(43, 0)] L L1) → (FN L1 (kd w) (pl w) (wvl 1 (wt w)) (ln w) s 0) → V a 59 [(0, .ref (eA (vE a) 30 0)), (1, .int (nI w)), (2, .int (nI (ln w))), (3, .int (nI (16 * w + s)))] [] I L1 := by
            intro fu
            induction fu with
            | zero => intro s L1 hm _ _ _; exact absurd hm (Nat.not_lt_zero _)
            | succ fu ih59 =>
              intro s L1 hm59 hs16 hFL hFN
              refine v_iload_n X 3 rfl dX6_made_59 ?_
              refine v_bipush X (v := (nI 16)) dX6_made_60 (by decide) ?_
              refine v_iload_n X 1 rfl dX6_made_62 ?_
              refine v_imul X dX6_made_63 ?_
              refine v_eqi (y := (nI (16 * w))) (pk_mul _ _) ?_
              refine v_aload_n X 0 rfl dX6_made_64 ?_
              refine gf_X6_28 X dX6_made_65 ?_
              refine v_iload_n X 1 rfl dX6_made_68 ?_
              refine v_iald_n X dl_37 (fun _ _ => rfl) (n := 4) (by omega) (by decide) dX6_made_69 ?_
              refine v_eqi (y := (nI (sc w))) (hweb.2.1) ?_
              refine v_iadd X dX6_made_70 ?_
              refine v_eqi (y := (nI ((16 * w) + (sc w)))) (nI_add _ _) ?_
              refine v_icmp_ge_n X (by omega) (by omega) dX6_made_71 (tgt := 222) (by decide) (fun h71 => ?_) (fun h71 => ?_)
              · refine v_aload_n X 0 rfl dX6_made_222 ?_
                refine v_iload_n X 2 rfl dX6_made_223 ?_
                refine v_iload_n X 2 rfl dX6_made_224 ?_
                refine v_iconst X (v := (nI 1)) dX6_made_225 (by decide) ?_
                refine v_callV X (c_X6_comes _ _ hE _ _ c ro co hT (ln w) (ln w) hl1 hl5 hl5 (nI 1)) k_X6_160 dl_30 (cef_30 _ _ _ _) rfl ⟨rfl, rfl, Nat.le_of_ble_eq_true rfl, Nat.le_of_ble_eq_true rfl⟩ (As := [.int (nI (ln w)), .int (nI (ln w)), .int (nI 1)]) (rest := []) rfl rfl (Nat.le_of_ble_eq_true rfl) dX6_made_226 (fun r226 I226 L226 hp226 => ?_)
                obtain ⟨hres0, e2⟩ := hp226
                have e2 := e2.symm
                subst e2
                have hres := ResM.cg (V' := fun i j => wy (sc w) (kd w) (pl w) (wvl 1 (wt w)) (2 ^ j) (sc w) (2 ^ i)) (fun a b ha hb => by rw [hFN a b ha (by omega), if_neg (show ¬ a < 0 by omega), show s = sc w by omega]; exact fb hok (by omega) (by omega)) hres0
                rcases hres with ⟨hcl, hnm, hadd, rfl⟩ | ⟨hbad, rfl, e1⟩
                · refine v_st (st' := [.int (nI c)]) rfl ?_
                  refine v_istore_n X [1, 2, 3, 0] (lv' := [(0, .ref (eA (vE a) 30 0)), (1, .int (nI w)), (2, .int (nI (ln w))), (3, .int (nI c))]) (by decide) rfl dX6_made_229 ?_
                  refine v_iload_n X 3 rfl dX6_made_230 ?_
                  refine v_if_lt_n X (by omega) dX6_made_231 (tgt := 241) (by decide) ?_
                  refine v_aload_n X 0 rfl dX6_made_234 ?_
                  refine gf_X6_22 X dX6_made_235 ?_
                  refine v_iload_n X 3 rfl dX6_made_238 ?_
                  refine v_iload_n X 1 rfl dX6_made_239 ?_
                  refine v_iast_n X dl_35 (fun _ _ => rfl) (n := 12) (by omega) (by decide) dX6_made_240 ?_
                  refine v_iload_n X 3 rfl dX6_made_241 ?_
                  exact v_iret X Y dX6_made_242 (Or.inr ⟨w, hw, rfl, Or.inl ⟨hcl, hnm, ⟨_, hadd, rfl⟩, rfl⟩, hFL⟩)
                · refine v_st (st' := [.int (-nI 8)]) rfl ?_
                  refine v_istore_n X [1, 2, 3, 0] (lv' := [(0, .ref (eA (vE a) 30 0)), (1, .int (nI w)), (2, .int (nI (ln w))), (3, .int (-nI 8))]) (by decide) rfl dX6_made_229 ?_
                  refine v_iload_n X 3 rfl dX6_made_230 ?_
                  refine v_if_lt X dX6_made_231 (tgt := 241) (by decide) (fun h231 => ?_) (fun h231 => ?_)
                  · refine v_iload_n X 3 rfl dX6_made_241 ?_
                    exact v_iret X Y dX6_made_242 (Or.inr ⟨w, hw, rfl, Or.inr ⟨hbad, rfl, e1⟩, hFL⟩)
                  · exact absurd (by decide) h231
              · have hs : s < sc w := by omega
                obtain ⟨hk2, hpln, hkp, hw1, hw9⟩ := hst s hs
                refine v_aload_n X 0 rfl dX6_made_74 ?_
                refine gf_X6_31 X dX6_made_75 ?_
                refine v_iload_n X 3 rfl dX6_made_78 ?_
                refine v_iald_n X dl_38 (fun _ _ => rfl) (n := 64) (by omega) (by decide) dX6_made_79 ?_
                refine v_eqi (y := (nI (kd w s))) ((hweb.2.2 s hs).1) ?_
                refine v_iconst X (v := (nI 1)) dX6_made_80 (by decide) ?_
                refine v_icmp_ne_n X (by omega) (by omega) dX6_made_81 (tgt := 95) (by decide) (fun h81 => ?_) (fun h81 => ?_)
                · refine v_aload_n X 0 rfl dX6_made_95 ?_
                  refine gf_X6_34 X dX6_made_96 ?_
                  refine v_iload_n X 3 rfl dX6_made_99 ?_
                  refine v_iald_n X dl_39 (fun _ _ => rfl) (n := 64) (by omega) (by decide) dX6_made_100 ?_
                  refine v_eqi (y := (nI (pl w s))) ((hweb.2.2 s hs).2.1) ?_
                  refine v_istore X [1, 2, 3, 4, 0] (lv' := [(0, .ref (eA (vE a) 30 0)), (1, .int (nI w)), (2, .int (nI (ln w))), (3, .int (nI (16 * w + s))), (4, .int (nI (pl w s)))]) (by decide) rfl dX6_made_101 ?_
                  refine v_aload_n X 0 rfl dX6_made_103 ?_
                  refine gf_X6_31 X dX6_made_104 ?_
                  refine v_iload_n X 3 rfl dX6_made_107 ?_
                  refine v_iald_n X dl_38 (fun _ _ => rfl) (n := 64) (by omega) (by decide) dX6_made_108 ?_
                  refine v_eqi (y := (nI (kd w s))) ((hweb.2.2 s hs).1) ?_
                  refine v_if_ne_n X (by omega) dX6_made_109 (tgt := 123) (by decide) (fun h109 => ?_) (fun h109 => ?_)
                  · refine v_aload_n X 0 rfl dX6_made_123 ?_
                    refine gf_X6_34 X dX6_made_124 ?_
                    refine v_iload_n X 3 rfl dX6_made_127 ?_
                    refine v_iald_n X dl_39 (fun _ _ => rfl) (n := 64) (by omega) (by decide) dX6_made_128 ?_
                    refine v_eqi (y := (nI (pl w s))) ((hweb.2.2 s hs).2.1) ?_
                    refine v_istore X [1, 2, 3, 4, 5, 0] (lv' := [(0, .ref (eA (vE a) 30 0)), (1, .int (nI w)), (2, .int (nI (ln w))), (3, .int (nI (16 * w + s))), (4, .int (nI (pl w s))), (5, .int (nI (pl w s)))]) (by decide) rfl dX6_made_129 ?_
                    refine v_iconst X (v := (nI 0)) dX6_made_131 (by decide) ?_
                    refine v_istore X [1, 2, 3, 4, 5, 6, 0] (lv' := [(0, .ref (eA (vE a) 30 0)), (1, .int (nI w)), (2, .int (nI (ln w))), (3, .int (nI (16 * w + s))), (4, .int (nI (pl w s))), (5, .int (nI (pl w s))), (6, .int (nI 0))]) (by decide) rfl dX6_made_132 ?_
                    have loop134 : ∀ (fu : Nat) (i : Nat) (L1 : TL), 6 - i < fu → (i ≤ ln w) → (FL [(43, 0)] L L1) → (FN L1 (kd w) (pl w) (wvl 1 (wt w)) (ln w) s i) → V a 134 [(0, .ref (eA (vE a) 30 0)), (1, .int (nI w)), (2, .int (nI (ln w))), (3, .int (nI (16 * w + s))), (4, .int (nI (pl w s))), (5, .int (nI (pl w s))), (6, .int (nI i))] [] I L1 := by
                      intro fu
                      induction fu with
                      | zero => intro i L1 hm _ _ _; exact absurd hm (Nat.not_lt_zero _)
                      | succ fu ih134 =>
                        intro i L1 hm134 hi hFL hFN
                        refine v_iload X 6 rfl dX6_made_134 ?_
                        refine v_iload_n X 2 rfl dX6_made_136 ?_
                        refine v_icmp_ge_n X (by omega) (by omega) dX6_made_137 (tgt := 216) (by decide) (fun h137 => ?_) (fun h137 => ?_)
                        · refine v_iinc X [1, 2, 3, 0, 4, 5, 6] 3 (nI ((16 * w + s) + 1)) (lv' := [(0, .ref (eA (vE a) 30 0)), (1, .int (nI w)), (2, .int (nI (ln w))), (3, .int (nI ((16 * w + s) + 1))), (4, .int (nI (pl w s))), (5, .int (nI (pl w s))), (6, .int (nI i))]) rfl (nI_1 _) (by decide) rfl dX6_made_216 ?_
                          refine v_goto X (tgt := 59) dX6_made_219 (by decide) ?_
                          refine v_sub [0, 1, 2, 3] (lv' := [(0, .ref (eA (vE a) 30 0)), (1, .int (nI w)), (2, .int (nI (ln w))), (3, .int (nI ((16 * w + s) + 1)))]) rfl ?_
                          exact ih59 (s + 1) L1 (by omega) (by omega) hFL (hFN.row (by omega))
                        · refine v_aload_n X 0 rfl dX6_made_140 ?_
                          refine gf_X6_31 X dX6_made_141 ?_
                          refine v_iload_n X 3 rfl dX6_made_144 ?_
                          refine v_iald_n X dl_38 (fun _ _ => rfl) (n := 64) (by omega) (by decide) dX6_made_145 ?_
                          refine v_eqi (y := (nI (kd w s))) ((hweb.2.2 s hs).1) ?_
                          refine v_iconst X (v := (nI 2)) dX6_made_146 (by decide) ?_
                          refine v_icmp_ne_n X (by omega) (by omega) dX6_made_147 (tgt := 175) (by decide) (fun h147 => ?_) (fun h147 => ?_)
                          · exact absurd (show kd w s = 2 by omega) h147
                          · refine v_aload_n X 0 rfl dX6_made_150 ?_
                            refine gf_X6_47 X dX6_made_151 ?_
                            refine v_iconst X (v := (nI 5)) dX6_made_154 (by decide) ?_
                            refine v_iload X 6 rfl dX6_made_155 ?_
                            refine v_imul X dX6_made_157 ?_
                            refine v_eqi (y := (nI (5 * i))) (pk_mul _ _) ?_
                            refine v_iload X 5 rfl dX6_made_158 ?_
                            refine v_iadd X dX6_made_160 ?_
                            refine v_eqi (y := (nI ((5 * i) + (pl w s)))) (nI_add _ _) ?_
                            refine v_dup2_11 X dX6_made_161 rfl rfl ?_
                            refine v_lald_n X dl_43 (fun _ _ => rfl) (n := 25) (by omega) (by decide) dX6_made_162 ?_
                            refine v_aload_n X 0 rfl dX6_made_163 ?_
                            refine gf_X6_37 X dX6_made_164 ?_
                            refine v_iload_n X 3 rfl dX6_made_167 ?_
                            refine v_iald_n X dl_40 (fun _ _ => rfl) (n := 64) (by omega) (by decide) dX6_made_168 ?_
                            refine v_eqi (y := (nI (wt w s))) ((hweb.2.2 s hs).2.2) ?_
                            refine v_i2l X dX6_made_169 rfl ?_
                            refine v_lmul X dX6_made_170 ?_
                            refine v_last_n X dl_43 (fun _ _ => rfl) (n := 25) (by omega) (by decide) dX6_made_171 ?_
                            refine v_goto X (tgt := 210) dX6_made_172 (by decide) ?_
                            refine v_iinc X [1, 2, 3, 4, 5, 6, 0] 6 (nI (i + 1)) (lv' := [(0, .ref (eA (vE a) 30 0)), (1, .int (nI w)), (2, .int (nI (ln w))), (3, .int (nI (16 * w + s))), (4, .int (nI (pl w s))), (5, .int (nI (pl w s))), (6, .int (nI (i + 1)))]) rfl (nI_1 _) (by decide) rfl dX6_made_210 ?_
                            refine v_goto X (tgt := 134) dX6_made_213 (by decide) ?_
                            exact ih134 (i + 1) (upL L1 43 0 ((5 * i) + (pl w s)) ((L1 43 0 ((5 * i) + (pl w s))) * (nI (wt w s)).toInt64)) (by omega) (by omega) (hFL.up (by simp)) (hFN.on (by omega) h147 (by omega) rfl)
                    exact loop134 _ 0 L1 (Nat.lt_succ_self _) (Nat.zero_le _) hFL hFN
                  · refine v_aload_n X 0 rfl dX6_made_112 ?_
                    refine gf_X6_34 X dX6_made_113 ?_
                    refine v_iload_n X 3 rfl dX6_made_116 ?_
                    refine v_iald_n X dl_39 (fun _ _ => rfl) (n := 64) (by omega) (by decide) dX6_made_117 ?_
                    refine v_eqi (y := (nI (pl w s))) ((hweb.2.2 s hs).2.1) ?_
                    refine v_iconst X (v := (nI 1)) dX6_made_118 (by decide) ?_
                    refine v_iadd X dX6_made_119 ?_
                    refine v_eqi (y := (nI ((pl w s) + 1))) (nI_add _ _) ?_
                    refine v_goto X (tgt := 129) dX6_made_120 (by decide) ?_
                    refine v_istore X [1, 2, 3, 4, 5, 0] (lv' := [(0, .ref (eA (vE a) 30 0)), (1, .int (nI w)), (2, .int (nI (ln w))), (3, .int (nI (16 * w + s))), (4, .int (nI (pl w s))), (5, .int (nI ((pl w s) + 1)))]) (by decide) rfl dX6_made_129 ?_
                    refine v_iconst X (v := (nI 0)) dX6_made_131 (by decide) ?_
                    refine v_istore X [1, 2, 3, 4, 5, 6, 0] (lv' := [(0, .ref (eA (vE a) 30 0)), (1, .int (nI w)), (2, .int (nI (ln w))), (3, .int (nI (16 * w + s))), (4, .int (nI (pl w s))), (5, .int (nI ((pl w s) + 1))), (6, .int (nI 0))]) (by decide) rfl dX6_made_132 ?_
                    have loop134 : ∀ (fu : Nat) (i : Nat) (L1 : TL), 6 - i < fu → (i ≤ ln w) → (FL [(43, 0)] L L1) → (FN L1 (kd w) (pl w) (wvl 1 (wt w)) (ln w) s i) → V a 134 [(0, .ref (eA (vE a) 30 0)), (1, .int (nI w)), (2, .int (nI (ln w))), (3, .int (nI (16 * w + s))), (4, .int (nI (pl w s))), (5, .int (nI ((pl w s) + 1))), (6, .int (nI i))] [] I L1 := by
                      intro fu
                      induction fu with
                      | zero => intro i L1 hm _ _ _; exact absurd hm (Nat.not_lt_zero _)
                      | succ fu ih134 =>
                        intro i L1 hm134 hi hFL hFN
                        refine v_iload X 6 rfl dX6_made_134 ?_
                        refine v_iload_n X 2 rfl dX6_made_136 ?_
                        refine v_icmp_ge_n X (by omega) (by omega) dX6_made_137 (tgt := 216) (by decide) (fun h137 => ?_) (fun h137 => ?_)
                        · refine v_iinc X [1, 2, 3, 0, 4, 5, 6] 3 (nI ((16 * w + s) + 1)) (lv' := [(0, .ref (eA (vE a) 30 0)), (1, .int (nI w)), (2, .int (nI (ln w))), (3, .int (nI ((16 * w + s) + 1))), (4, .int (nI (pl w s))), (5, .int (nI ((pl w s) + 1))), (6, .int (nI i))]) rfl (nI_1 _) (by decide) rfl dX6_made_216 ?_
                          refine v_goto X (tgt := 59) dX6_made_219 (by decide) ?_
                          refine v_sub [0, 1, 2, 3] (lv' := [(0, .ref (eA (vE a) 30 0)), (1, .int (nI w)), (2, .int (nI (ln w))), (3, .int (nI ((16 * w + s) + 1)))]) rfl ?_
                          exact ih59 (s + 1) L1 (by omega) (by omega) hFL (hFN.row (by omega))
                        · refine v_aload_n X 0 rfl dX6_made_140 ?_
                          refine gf_X6_31 X dX6_made_141 ?_
                          refine v_iload_n X 3 rfl dX6_made_144 ?_
                          refine v_iald_n X dl_38 (fun _ _ => rfl) (n := 64) (by omega) (by decide) dX6_made_145 ?_
                          refine v_eqi (y := (nI (kd w s))) ((hweb.2.2 s hs).1) ?_
                          refine v_iconst X (v := (nI 2)) dX6_made_146 (by decide) ?_
                          refine v_icmp_ne_n X (by omega) (by omega) dX6_made_147 (tgt := 175) (by decide) (fun h147 => ?_) (fun h147 => ?_)
                          · refine v_aload_n X 0 rfl dX6_made_175 ?_
                            refine gf_X6_47 X dX6_made_176 ?_
                            refine v_iconst X (v := (nI 5)) dX6_made_179 (by decide) ?_
                            refine v_iload X 6 rfl dX6_made_180 ?_
                            refine v_imul X dX6_made_182 ?_
                            refine v_eqi (y := (nI (5 * i))) (pk_mul _ _) ?_
                            refine v_iload X 5 rfl dX6_made_183 ?_
                            refine v_iadd X dX6_made_185 ?_
                            refine v_eqi (y := (nI ((5 * i) + ((pl w s) + 1)))) (nI_add _ _) ?_
                            refine v_dup2_11 X dX6_made_186 rfl rfl ?_
                            refine v_lald_n X dl_43 (fun _ _ => rfl) (n := 25) (by omega) (by decide) dX6_made_187 ?_
                            refine v_aload_n X 0 rfl dX6_made_188 ?_
                            refine gf_X6_37 X dX6_made_189 ?_
                            refine v_iload_n X 3 rfl dX6_made_192 ?_
                            refine v_iald_n X dl_40 (fun _ _ => rfl) (n := 64) (by omega) (by decide) dX6_made_193 ?_
                            refine v_eqi (y := (nI (wt w s))) ((hweb.2.2 s hs).2.2) ?_
                            refine v_i2l X dX6_made_194 rfl ?_
                            refine v_aload_n X 0 rfl dX6_made_195 ?_
                            refine gf_X6_47 X dX6_made_196 ?_
                            refine v_iconst X (v := (nI 5)) dX6_made_199 (by decide) ?_
                            refine v_iload X 6 rfl dX6_made_200 ?_
                            refine v_imul X dX6_made_202 ?_
                            refine v_eqi (y := (nI (5 * i))) (pk_mul _ _) ?_
                            refine v_iload X 4 rfl dX6_made_203 ?_
                            refine v_iadd X dX6_made_205 ?_
                            refine v_eqi (y := (nI ((5 * i) + (pl w s)))) (nI_add _ _) ?_
                            refine v_lald_n X dl_43 (fun _ _ => rfl) (n := 25) (by omega) (by decide) dX6_made_206 ?_
                            refine v_lmul X dX6_made_207 ?_
                            refine v_ladd X dX6_made_208 ?_
                            refine v_last_n X dl_43 (fun _ _ => rfl) (n := 25) (by omega) (by decide) dX6_made_209 ?_
                            refine v_iinc X [1, 2, 3, 4, 5, 6, 0] 6 (nI (i + 1)) (lv' := [(0, .ref (eA (vE a) 30 0)), (1, .int (nI w)), (2, .int (nI (ln w))), (3, .int (nI (16 * w + s))), (4, .int (nI (pl w s))), (5, .int (nI ((pl w s) + 1))), (6, .int (nI (i + 1)))]) rfl (nI_1 _) (by decide) rfl dX6_made_210 ?_
                            refine v_goto X (tgt := 134) dX6_made_213 (by decide) ?_
                            exact ih134 (i + 1) (upL L1 43 0 ((5 * i) + ((pl w s) + 1)) ((L1 43 0 ((5 * i) + ((pl w s) + 1))) + ((nI (wt w s)).toInt64 * (L1 43 0 ((5 * i) + (pl w s)))))) (by omega) (by omega) (hFL.up (by simp)) (hFN.go (by omega) h147 (asr_0 (by omega)) (ads_0 (by omega)) (by omega) (by omega) rfl)
                          · exact absurd h147 (by omega)
                    exact loop134 _ 0 L1 (Nat.lt_succ_self _) (Nat.zero_le _) hFL hFN
                · refine v_aload_n X 0 rfl dX6_made_84 ?_
                  refine gf_X6_34 X dX6_made_85 ?_
                  refine v_iload_n X 3 rfl dX6_made_88 ?_
                  refine v_iald_n X dl_39 (fun _ _ => rfl) (n := 64) (by omega) (by decide) dX6_made_89 ?_
                  refine v_eqi (y := (nI (pl w s))) ((hweb.2.2 s hs).2.1) ?_
                  refine v_iconst X (v := (nI 1)) dX6_made_90 (by decide) ?_
                  refine v_iadd X dX6_made_91 ?_
                  refine v_eqi (y := (nI ((pl w s) + 1))) (nI_add _ _) ?_
                  refine v_goto X (tgt := 101) dX6_made_92 (by decide) ?_
                  refine v_istore X [1, 2, 3, 4, 0] (lv' := [(0, .ref (eA (vE a) 30 0)), (1, .int (nI w)), (2, .int (nI (ln w))), (3, .int (nI (16 * w + s))), (4, .int (nI ((pl w s) + 1)))]) (by decide) rfl dX6_made_101 ?_
                  refine v_aload_n X 0 rfl dX6_made_103 ?_
                  refine gf_X6_31 X dX6_made_104 ?_
                  refine v_iload_n X 3 rfl dX6_made_107 ?_
                  refine v_iald_n X dl_38 (fun _ _ => rfl) (n := 64) (by omega) (by decide) dX6_made_108 ?_
                  refine v_eqi (y := (nI (kd w s))) ((hweb.2.2 s hs).1) ?_
                  refine v_if_ne_n X (by omega) dX6_made_109 (tgt := 123) (by decide) (fun h109 => ?_) (fun h109 => ?_)
                  · refine v_aload_n X 0 rfl dX6_made_123 ?_
                    refine gf_X6_34 X dX6_made_124 ?_
                    refine v_iload_n X 3 rfl dX6_made_127 ?_
                    refine v_iald_n X dl_39 (fun _ _ => rfl) (n := 64) (by omega) (by decide) dX6_made_128 ?_
                    refine v_eqi (y := (nI (pl w s))) ((hweb.2.2 s hs).2.1) ?_
                    refine v_istore X [1, 2, 3, 4, 5, 0] (lv' := [(0, .ref (eA (vE a) 30 0)), (1, .int (nI w)), (2, .int (nI (ln w))), (3, .int (nI (16 * w + s))), (4, .int (nI ((pl w s) + 1))), (5, .int (nI (pl w s)))]) (by decide) rfl dX6_made_129 ?_
                    refine v_iconst X (v := (nI 0)) dX6_made_131 (by decide) ?_
                    refine v_istore X [1, 2, 3, 4, 5, 6, 0] (lv' := [(0, .ref (eA (vE a) 30 0)), (1, .int (nI w)), (2, .int (nI (ln w))), (3, .int (nI (16 * w + s))), (4, .int (nI ((pl w s) + 1))), (5, .int (nI (pl w s))), (6, .int (nI 0))]) (by decide) rfl dX6_made_132 ?_
                    have loop134 : ∀ (fu : Nat) (i : Nat) (L1 : TL), 6 - i < fu → (i ≤ ln w) → (FL [(43, 0)] L L1) → (FN L1 (kd w) (pl w) (wvl 1 (wt w)) (ln w) s i) → V a 134 [(0, .ref (eA (vE a) 30 0)), (1, .int (nI w)), (2, .int (nI (ln w))), (3, .int (nI (16 * w + s))), (4, .int (nI ((pl w s) + 1))), (5, .int (nI (pl w s))), (6, .int (nI i))] [] I L1 := by
                      intro fu
                      induction fu with
                      | zero => intro i L1 hm _ _ _; exact absurd hm (Nat.not_lt_zero _)
                      | succ fu ih134 =>
                        intro i L1 hm134 hi hFL hFN
                        refine v_iload X 6 rfl dX6_made_134 ?_
                        refine v_iload_n X 2 rfl dX6_made_136 ?_
                        refine v_icmp_ge_n X (by omega) (by omega) dX6_made_137 (tgt := 216) (by decide) (fun h137 => ?_) (fun h137 => ?_)
                        · refine v_iinc X [1, 2, 3, 0, 4, 5, 6] 3 (nI ((16 * w + s) + 1)) (lv' := [(0, .ref (eA (vE a) 30 0)), (1, .int (nI w)), (2, .int (nI (ln w))), (3, .int (nI ((16 * w + s) + 1))), (4, .int (nI ((pl w s) + 1))), (5, .int (nI (pl w s))), (6, .int (nI i))]) rfl (nI_1 _) (by decide) rfl dX6_made_216 ?_
                          refine v_goto X (tgt := 59) dX6_made_219 (by decide) ?_
                          refine v_sub [0, 1, 2, 3] (lv' := [(0, .ref (eA (vE a) 30 0)), (1, .int (nI w)), (2, .int (nI (ln w))), (3, .int (nI ((16 * w + s) + 1)))]) rfl ?_
                          exact ih59 (s + 1) L1 (by omega) (by omega) hFL (hFN.row (by omega))
                        · refine v_aload_n X 0 rfl dX6_made_140 ?_
                          refine gf_X6_31 X dX6_made_141 ?_
                          refine v_iload_n X 3 rfl dX6_made_144 ?_
                          refine v_iald_n X dl_38 (fun _ _ => rfl) (n := 64) (by omega) (by decide) dX6_made_145 ?_
                          refine v_eqi (y := (nI (kd w s))) ((hweb.2.2 s hs).1) ?_
                          refine v_iconst X (v := (nI 2)) dX6_made_146 (by decide) ?_
                          refine v_icmp_ne_n X (by omega) (by omega) dX6_made_147 (tgt := 175) (by decide) (fun h147 => ?_) (fun h147 => ?_)
                          · refine v_aload_n X 0 rfl dX6_made_175 ?_
                            refine gf_X6_47 X dX6_made_176 ?_
                            refine v_iconst X (v := (nI 5)) dX6_made_179 (by decide) ?_
                            refine v_iload X 6 rfl dX6_made_180 ?_
                            refine v_imul X dX6_made_182 ?_
                            refine v_eqi (y := (nI (5 * i))) (pk_mul _ _) ?_
                            refine v_iload X 5 rfl dX6_made_183 ?_
                            refine v_iadd X dX6_made_185 ?_
                            refine v_eqi (y := (nI ((5 * i) + (pl w s)))) (nI_add _ _) ?_
                            refine v_dup2_11 X dX6_made_186 rfl rfl ?_
                            refine v_lald_n X dl_43 (fun _ _ => rfl) (n := 25) (by omega) (by decide) dX6_made_187 ?_
                            refine v_aload_n X 0 rfl dX6_made_188 ?_
                            refine gf_X6_37 X dX6_made_189 ?_
                            refine v_iload_n X 3 rfl dX6_made_192 ?_
                            refine v_iald_n X dl_40 (fun _ _ => rfl) (n := 64) (by omega) (by decide) dX6_made_193 ?_
                            refine v_eqi (y := (nI (wt w s))) ((hweb.2.2 s hs).2.2) ?_
                            refine v_i2l X dX6_made_194 rfl ?_
                            refine v_aload_n X 0 rfl dX6_made_195 ?_
                            refine gf_X6_47 X dX6_made_196 ?_
                            refine v_iconst X (v := (nI 5)) dX6_made_199 (by decide) ?_
                            refine v_iload X 6 rfl dX6_made_200 ?_
                            refine v_imul X dX6_made_202 ?_
                            refine v_eqi (y := (nI (5 * i))) (pk_mul _ _) ?_
                            refine v_iload X 4 rfl dX6_made_203 ?_
                            refine v_iadd X dX6_made_205 ?_
                            refine v_eqi (y := (nI ((5 * i) + ((pl w s) + 1)))) (nI_add _ _) ?_
                            refine v_lald_n X dl_43 (fun _ _ => rfl) (n := 25) (by omega) (by decide) dX6_made_206 ?_
                            refine v_lmul X dX6_made_207 ?_
                            refine v_ladd X dX6_made_208 ?_
                            refine v_last_n X dl_43 (fun _ _ => rfl) (n := 25) (by omega) (by decide) dX6_made_209 ?_
                            refine v_iinc X [1, 2, 3, 4, 5, 6, 0] 6 (nI (i + 1)) (lv' := [(0, .ref (eA (vE a) 30 0)), (1, .int (nI w)), (2, .int (nI (ln w))), (3, .int (nI (16 * w + s))), (4, .int (nI ((pl w s) + 1))), (5, .int (nI (pl w s))), (6, .int (nI (i + 1)))]) rfl (nI_1 _) (by decide) rfl dX6_made_210 ?_
                            refine v_goto X (tgt := 134) dX6_made_213 (by decide) ?_
                            exact ih134 (i + 1) (upL L1 43 0 ((5 * i) + (pl w s)) ((L1 43 0 ((5 * i) + (pl w s))) + ((nI (wt w s)).toInt64 * (L1 43 0 ((5 * i) + ((pl w s) + 1)))))) (by omega) (by omega) (hFL.up (by simp)) (hFN.go (by omega) h147 (asr_1 (by omega)) (ads_1 (by omega)) (by omega) (by omega) rfl)
                          · exact absurd h147 (by omega)
                    exact loop134 _ 0 L1 (Nat.lt_succ_self _) (Nat.zero_le _) hFL hFN
                  · exact absurd h109 (by omega)
          exact loop59 _ 0 L1 (Nat.lt_succ_self _) (Nat.zero_le _) hFL (FN.ini hl5 (fun x hx => hv x (by omega)))
        · refine v_aload_n X 0 rfl dX6_made_30 ?_
          refine gf_X6_47 X dX6_made_31 ?_
          refine v_iload_n X 3 rfl dX6_made_34 ?_
          refine v_iload_n X 3 rfl dX6_made_35 ?_
          refine v_bipush X (v := (nI 6)) dX6_made_36 (by decide) ?_
          refine v_irem X dX6_made_38 (by decide) ?_
          refine v_eqi (y := (nI (k % 6))) (irem6 k (by omega)) ?_
          refine v_if_ne_n X (by omega) dX6_made_39 (tgt := 46) (by decide) (fun h39 => ?_) (fun h39 => ?_)
          · refine v_lconst X (v := 0) dX6_made_46 rfl ?_
            refine v_last_n X dl_43 (fun _ _ => rfl) (n := 25) (by omega) (by decide) dX6_made_47 ?_
            refine v_iinc X [1, 2, 3, 0] 3 (nI (k + 1)) (lv' := [(0, .ref (eA (vE a) 30 0)), (1, .int (nI w)), (2, .int (nI (ln w))), (3, .int (nI (k + 1)))]) rfl (nI_1 _) (by decide) rfl dX6_made_48 ?_
            refine v_goto X (tgt := 24) dX6_made_51 (by decide) ?_
            have hnew : ∀ x, x < k + 1 → upL L1 43 0 k 0 43 0 x = if x % 6 = 0 then 1 else 0 := fun x hx => by
              by_cases e : x = k
              · rw [e, upL_eq, if_neg (by omega)]
              · rw [upL_x e]; exact hv x (by omega)
            exact ih24 (k + 1) (upL L1 43 0 k 0) (by omega) (by omega) (hFL.up (by simp)) hnew
          · refine v_lconst X (v := 1) dX6_made_42 rfl ?_
            refine v_goto X (tgt := 47) dX6_made_43 (by decide) ?_
            refine v_last_n X dl_43 (fun _ _ => rfl) (n := 25) (by omega) (by decide) dX6_made_47 ?_
            refine v_iinc X [1, 2, 3, 0] 3 (nI (k + 1)) (lv' := [(0, .ref (eA (vE a) 30 0)), (1, .int (nI w)), (2, .int (nI (ln w))), (3, .int (nI (k + 1)))]) rfl (nI_1 _) (by decide) rfl dX6_made_48 ?_
            refine v_goto X (tgt := 24) dX6_made_51 (by decide) ?_
            have hnew : ∀ x, x < k + 1 → upL L1 43 0 k 1 43 0 x = if x % 6 = 0 then 1 else 0 := fun x hx => by
              by_cases e : x = k
              · rw [e, upL_eq, if_pos (by omega)]
              · rw [upL_x e]; exact hv x (by omega)
            exact ih24 (k + 1) (upL L1 43 0 k 1) (by omega) (by omega) (hFL.up (by simp)) hnew
    exact loop24 _ 0 L (Nat.lt_succ_self _) (Nat.zero_le _) FL.rf (fun x h => absurd h (Nat.not_lt_zero _))
  · refine v_aload_n X 0 rfl dX6_made_8 ?_
    refine v_bipush X (v := (-3)) dX6_made_9 (by decide) ?_
    refine v_callV X (c_X6_no _ _ hE _ _ 3 (by decide) (by decide)) k_X6_80 dl_30 (cef_30 _ _ _ _) rfl ⟨rfl, rfl, Nat.le_of_ble_eq_true rfl, Nat.le_of_ble_eq_true rfl⟩ (As := [.int (-3)]) (rest := []) rfl rfl (Nat.le_of_ble_eq_true rfl) dX6_made_11 (fun r11 I11 L11 hp11 => ?_)
    obtain ⟨rfl, e1, e2⟩ := hp11
    have e1 := e1.symm
    have e2 := e2.symm
    subst e1; subst e2
    refine v_st (st' := [.int (-3)]) rfl ?_
    exact v_iret X Y dX6_made_14 (Or.inl ⟨(fun q => h5 ((inR_T (by have := hN.2.1; omega)).mpr q)), ⟨rfl, rfl⟩, rfl⟩)
