/-! the law's loop -/
theorem and31 (x : Int32) : ∃ k, k < 32 ∧ x &&& nI 31 = nI k := by
  refine ⟨(x &&& nI 31).toBitVec.toNat, ?_, ?_⟩
  · have e : (x &&& nI 31).toBitVec = x.toBitVec &&& (nI 31).toBitVec := rfl
    rw [e, BitVec.toNat_and]
    exact Nat.lt_of_le_of_lt Nat.and_le_right (by decide)
  · apply Int32.toBitVec_inj.mp
    apply BitVec.eq_of_toNat_eq
    have h : (x &&& nI 31).toBitVec.toNat < 2 ^ 32 := BitVec.isLt _
    simp only [nI]
    simp
theorem told_c (x : Int32) : (∃ q, q < 2 ^ 31 ∧ x = nI q) ∨ x < 0 := by
  by_cases h : x < 0
  · exact Or.inr h
  · exact Or.inl (nI_of h)
theorem len5 {n i : Nat} (hn : n ≤ 2560) (hi : i ≤ 2560) (h : ¬ nI n - nI 5 < nI i) : i + 5 ≤ n := by
  rw [Int32.lt_iff_toInt_lt, Int32.toInt_sub, nI_toInt (by omega), nI_toInt (by decide), nI_toInt (by omega), Int.bmod_eq_of_le (by omega) (by omega)] at h
  omega
theorem nI_5 (i : Nat) : nI i + Int32.ofInt 5 = nI (i + 5) := by
  rw [show Int32.ofInt 5 = nI 5 by decide]
  exact nI_add _ _
theorem v_sld {a : VA} {own : String} {cc : ByteArray} {rm : Room} {nL : Nat} {pc : Nat} {lv : List (Nat × Value)} {st : List Value} {I : TI} {L : TL} (X : VOk a own cc rm nL) {b n0 : Nat} {xs : Nat → Int32} (hX : va_X b n0 xs (vs a) (vs a).heap) (hbl : b < (vs a).heap.size) (hbA : ¬ eF (vE a) b) {i : Nat} (hi : i < n0) (hn : n0 < 2 ^ 31) (hd : decode cc pc = .ok (.iaload, 1)) (kk : V a (pc + 1) lv (.int (xs i) :: st) I L) : V a pc lv (.int (nI i) :: .ref b :: st) I L := by
  intro H locs ls hl hP hS
  refine va_sld X.1 X.2.1 hX hbl hbA hS (vp_in_nI hi hn) hd ?_
  rw [nI_clamp (by omega)]
  exact kk H locs ls hl hP hS
theorem v_slen {a : VA} {own : String} {cc : ByteArray} {rm : Room} {nL : Nat} {pc : Nat} {lv : List (Nat × Value)} {st : List Value} {I : TI} {L : TL} (X : VOk a own cc rm nL) {b n0 : Nat} {xs : Nat → Int32} (hX : va_X b n0 xs (vs a) (vs a).heap) (hbl : b < (vs a).heap.size) (hbA : ¬ eF (vE a) b) (hd : decode cc pc = .ok (.arraylength, 1)) (kk : V a (pc + 1) lv (.int (nI n0) :: st) I L) : V a pc lv (.ref b :: st) I L := fun H locs ls hl hP hS => va_slen X.1 X.2.1 hX hbl hbA hS hd (kk H locs ls hl hP hS)
set_option maxHeartbeats 40000000 in
set_option maxRecDepth 100000 in
theorem law_loop {a : VA} (X : VOk a RL cL_law room_1 4) (hE : EOk (vE a)) {b n0 : Nat} {xs : Nat → Int32} (hn : n0 ≤ 2560) (hX0 : va_X b n0 xs (vs a) (vs a).heap) (hbl : b < (vs a).heap.size) (hbA : ¬ eF (vE a) b) (hend : ∀ lv (I : TI) (L : TL), V a 1211 lv [.int (nI 1)] I L) (I : TI) (L : TL) (hR0 : RR I L) : V a 18 [(0, .ref b), (1, .ref (eA (vE a) 0 0)), (2, .ref (eA (vE a) 30 0)), (3, .int (nI 0))] [] I L := by
  have loop18 : ∀ (fu : Nat) (i : Nat) (I1 : TI) (L1 : TL), n0 + 1 - i < fu → (i ≤ n0) → (i ≤ 2560) → (RR I1 L1) → V a 18 [(0, .ref b), (1, .ref (eA (vE a) 0 0)), (2, .ref (eA (vE a) 30 0)), (3, .int (nI i))] [] I1 L1 := by
    intro fu
    induction fu with
    | zero => intro i I1 L1 hm _ _ _; exact absurd hm (Nat.not_lt_zero _)
    | succ fu ih18 =>
      intro i I1 L1 hm18 hi hi2 hR
      refine v_iload_n X 3 rfl dL_law_18 ?_
      refine v_aload_n X 0 rfl dL_law_19 ?_
      refine v_slen X hX0 hbl hbA dL_law_20 ?_
      refine v_iconst X (v := (nI 5)) dL_law_21 (by decide) ?_
      refine v_isub X dL_law_22 ?_
      refine v_icmp_gt X dL_law_23 (tgt := 1210) (by decide) (fun h23 => ?_) (fun h23 => ?_)
      · refine v_iconst X (v := (nI 1)) dL_law_1210 (by decide) ?_
        exact hend _ _ _
      · have hi5 := len5 hn hi2 h23
        have hi52 : i + 5 ≤ 2560 := by omega
        have hms : n0 + 1 - (i + 5) < fu := by omega
        obtain ⟨⟨c, ro, co, hT⟩, hX⟩ := id hR
        obtain ⟨n, ln, sc, kd, pl, wt, hN⟩ := hX.1
        obtain ⟨h, hW⟩ := hX.2.1
        obtain ⟨S, hS⟩ := hX.2.2.2
        refine v_aload_n X 0 rfl dL_law_26 ?_
        refine v_iload_n X 3 rfl dL_law_27 ?_
        refine v_sld X hX0 hbl hbA (by omega) (by omega) dL_law_28 ?_
        refine v_bipush X (v := (nI 31)) dL_law_29 (by decide) ?_
        refine v_iand X dL_law_31 ?_
        obtain ⟨k, hk32, ek⟩ := and31 (xs i)
        refine v_eqi (y := nI k) ek ?_
        rcases (show k = 0 ∨ k = 1 ∨ k = 2 ∨ k = 3 ∨ k = 4 ∨ k = 5 ∨ k = 6 ∨ k = 7 ∨ k = 8 ∨ k = 9 ∨ k = 10 ∨ k = 11 ∨ k = 12 ∨ k = 13 ∨ k = 14 ∨ k = 15 ∨ k = 16 ∨ k = 17 ∨ k = 18 ∨ k = 19 ∨ k = 20 ∨ k = 21 ∨ k = 22 ∨ k = 23 ∨ k = 24 ∨ k = 25 ∨ k = 26 ∨ k = 27 ∨ k = 28 ∨ k = 29 ∨ k = 30 ∨ k = 31 by omega) with rfl | rfl | rfl | rfl | rfl | rfl | rfl | rfl | rfl | rfl | rfl | rfl | rfl | rfl | rfl | rfl | rfl | rfl | rfl | rfl | rfl | rfl | rfl | rfl | rfl | rfl | rfl | rfl | rfl | rfl | rfl | rfl
        · refine v_tableIn X dL_law_32 (by decide) (by decide) (off := 140) rfl (tgt := 172) (by decide) ?_
          refine v_aload_n X 1 rfl dL_law_172 ?_
          refine v_aload_n X 0 rfl dL_law_173 ?_
          refine v_iload_n X 3 rfl dL_law_174 ?_
          refine v_iconst X (v := (nI 1)) dL_law_175 (by decide) ?_
          refine v_iadd X dL_law_176 ?_
          refine v_eqi (y := (nI (i + 1))) (nI_add _ _) ?_
          refine v_sld X hX0 hbl hbA (by omega) (by omega) dL_law_177 ?_
          refine v_aload_n X 0 rfl dL_law_178 ?_
          refine v_iload_n X 3 rfl dL_law_179 ?_
          refine v_iconst X (v := (nI 2)) dL_law_180 (by decide) ?_
          refine v_iadd X dL_law_181 ?_
          refine v_eqi (y := (nI (i + 2))) (nI_add _ _) ?_
          refine v_sld X hX0 hbl hbA (by omega) (by omega) dL_law_182 ?_
          refine v_callV X (c_X5_table _ _ hE _ _ c ro co hT.1 (xs (i + 1)) (xs (i + 2))) k_L_13 dl_0 (cef_0 _ _ _ _) rfl ⟨rfl, rfl, Nat.le_of_ble_eq_true rfl, Nat.le_of_ble_eq_true rfl⟩ (As := [.int (xs (i + 1)), .int (xs (i + 2))]) (rest := []) rfl rfl (Nat.le_of_ble_eq_true rfl) dL_law_183 (fun r183 I183 L183 hp183 => ?_)
          obtain ⟨km, ⟨xr, rfl⟩, hk⟩ := J_table hT hX hp183
          refine v_st (st' := [.int xr]) rfl ?_
          refine v_aload_n X 2 rfl dL_law_186 ?_
          refine v_aload_n X 0 rfl dL_law_187 ?_
          refine v_iload_n X 3 rfl dL_law_188 ?_
          refine v_iconst X (v := (nI 1)) dL_law_189 (by decide) ?_
          refine v_iadd X dL_law_190 ?_
          refine v_eqi (y := (nI (i + 1))) (nI_add _ _) ?_
          refine v_sld X hX0 hbl hbA (by omega) (by omega) dL_law_191 ?_
          refine v_aload_n X 0 rfl dL_law_192 ?_
          refine v_iload_n X 3 rfl dL_law_193 ?_
          refine v_iconst X (v := (nI 2)) dL_law_194 (by decide) ?_
          refine v_iadd X dL_law_195 ?_
          refine v_eqi (y := (nI (i + 2))) (nI_add _ _) ?_
          refine v_sld X hX0 hbl hbA (by omega) (by omega) dL_law_196 ?_
          refine v_callV X (c_X6_table _ _ hE _ _ c ro co (hT.2.1.km km) (xs (i + 1)) (xs (i + 2))) k_L_17 dl_30 (cef_30 _ _ _ _) rfl ⟨rfl, rfl, Nat.le_of_ble_eq_true rfl, Nat.le_of_ble_eq_true rfl⟩ (As := [.int (xs (i + 1)), .int (xs (i + 2))]) (rest := [.int xr]) rfl rfl (Nat.le_of_ble_eq_true rfl) dL_law_197 (fun r197 I197 L197 hp197 => ?_)
          obtain ⟨er, hR2⟩ := hk _ _ _ hp197
          subst er
          refine v_st (st' := [.int xr, .int xr]) rfl ?_
          refine v_icmp_eq X dL_law_200 (tgt := 1204) (by decide) (fun h200 => ?_) (fun h200 => ?_)
          · refine v_iinc X [1, 2, 3, 0] 3 (nI (i + 5)) (lv' := [(0, .ref b), (1, .ref (eA (vE a) 0 0)), (2, .ref (eA (vE a) 30 0)), (3, .int (nI (i + 5)))]) rfl (nI_5 i) (by decide) rfl dL_law_1204 ?_
            refine v_goto X (tgt := 18) dL_law_1207 (by decide) ?_
            exact ih18 (i + 5) I197 L197 hms hi5 hi52 hR2
          · exact absurd rfl h200
        · refine v_tableIn X dL_law_32 (by decide) (by decide) (off := 173) rfl (tgt := 205) (by decide) ?_
          refine v_aload_n X 1 rfl dL_law_205 ?_
          refine v_aload_n X 0 rfl dL_law_206 ?_
          refine v_iload_n X 3 rfl dL_law_207 ?_
          refine v_iconst X (v := (nI 1)) dL_law_208 (by decide) ?_
          refine v_iadd X dL_law_209 ?_
          refine v_eqi (y := (nI (i + 1))) (nI_add _ _) ?_
          refine v_sld X hX0 hbl hbA (by omega) (by omega) dL_law_210 ?_
          refine v_aload_n X 0 rfl dL_law_211 ?_
          refine v_iload_n X 3 rfl dL_law_212 ?_
          refine v_iconst X (v := (nI 2)) dL_law_213 (by decide) ?_
          refine v_iadd X dL_law_214 ?_
          refine v_eqi (y := (nI (i + 2))) (nI_add _ _) ?_
          refine v_sld X hX0 hbl hbA (by omega) (by omega) dL_law_215 ?_
          refine v_aload_n X 0 rfl dL_law_216 ?_
          refine v_iload_n X 3 rfl dL_law_217 ?_
          refine v_iconst X (v := (nI 3)) dL_law_218 (by decide) ?_
          refine v_iadd X dL_law_219 ?_
          refine v_eqi (y := (nI (i + 3))) (nI_add _ _) ?_
          refine v_sld X hX0 hbl hbA (by omega) (by omega) dL_law_220 ?_
          refine v_aload_n X 0 rfl dL_law_221 ?_
          refine v_iload_n X 3 rfl dL_law_222 ?_
          refine v_iconst X (v := (nI 4)) dL_law_223 (by decide) ?_
          refine v_iadd X dL_law_224 ?_
          refine v_eqi (y := (nI (i + 4))) (nI_add _ _) ?_
          refine v_sld X hX0 hbl hbA (by omega) (by omega) dL_law_225 ?_
          refine v_callV X (c_X5_set _ _ hE _ _ c ro co hT.1 (xs (i + 1)) (xs (i + 2)) (xs (i + 3)) (xs (i + 4))) k_L_18 dl_0 (cef_0 _ _ _ _) rfl ⟨rfl, rfl, Nat.le_of_ble_eq_true rfl, Nat.le_of_ble_eq_true rfl⟩ (As := [.int (xs (i + 1)), .int (xs (i + 2)), .int (xs (i + 3)), .int (xs (i + 4))]) (rest := []) rfl rfl (Nat.le_of_ble_eq_true rfl) dL_law_226 (fun r226 I226 L226 hp226 => ?_)
          obtain ⟨km, ⟨xr, rfl⟩, hk⟩ := J_set hT hX hp226
          refine v_st (st' := [.int xr]) rfl ?_
          refine v_aload_n X 2 rfl dL_law_229 ?_
          refine v_aload_n X 0 rfl dL_law_230 ?_
          refine v_iload_n X 3 rfl dL_law_231 ?_
          refine v_iconst X (v := (nI 1)) dL_law_232 (by decide) ?_
          refine v_iadd X dL_law_233 ?_
          refine v_eqi (y := (nI (i + 1))) (nI_add _ _) ?_
          refine v_sld X hX0 hbl hbA (by omega) (by omega) dL_law_234 ?_
          refine v_aload_n X 0 rfl dL_law_235 ?_
          refine v_iload_n X 3 rfl dL_law_236 ?_
          refine v_iconst X (v := (nI 2)) dL_law_237 (by decide) ?_
          refine v_iadd X dL_law_238 ?_
          refine v_eqi (y := (nI (i + 2))) (nI_add _ _) ?_
          refine v_sld X hX0 hbl hbA (by omega) (by omega) dL_law_239 ?_
          refine v_aload_n X 0 rfl dL_law_240 ?_
          refine v_iload_n X 3 rfl dL_law_241 ?_
          refine v_iconst X (v := (nI 3)) dL_law_242 (by decide) ?_
          refine v_iadd X dL_law_243 ?_
          refine v_eqi (y := (nI (i + 3))) (nI_add _ _) ?_
          refine v_sld X hX0 hbl hbA (by omega) (by omega) dL_law_244 ?_
          refine v_aload_n X 0 rfl dL_law_245 ?_
          refine v_iload_n X 3 rfl dL_law_246 ?_
          refine v_iconst X (v := (nI 4)) dL_law_247 (by decide) ?_
          refine v_iadd X dL_law_248 ?_
          refine v_eqi (y := (nI (i + 4))) (nI_add _ _) ?_
          refine v_sld X hX0 hbl hbA (by omega) (by omega) dL_law_249 ?_
          refine v_callV X (c_X6_set _ _ hE _ _ c ro co (hT.2.1.km km) (xs (i + 1)) (xs (i + 2)) (xs (i + 3)) (xs (i + 4))) k_L_22 dl_30 (cef_30 _ _ _ _) rfl ⟨rfl, rfl, Nat.le_of_ble_eq_true rfl, Nat.le_of_ble_eq_true rfl⟩ (As := [.int (xs (i + 1)), .int (xs (i + 2)), .int (xs (i + 3)), .int (xs (i + 4))]) (rest := [.int xr]) rfl rfl (Nat.le_of_ble_eq_true rfl) dL_law_250 (fun r250 I250 L250 hp250 => ?_)
          obtain ⟨er, hR2⟩ := hk _ _ _ hp250
          subst er
          refine v_st (st' := [.int xr, .int xr]) rfl ?_
          refine v_icmp_eq X dL_law_253 (tgt := 1204) (by decide) (fun h253 => ?_) (fun h253 => ?_)
          · refine v_iinc X [1, 2, 3, 0] 3 (nI (i + 5)) (lv' := [(0, .ref b), (1, .ref (eA (vE a) 0 0)), (2, .ref (eA (vE a) 30 0)), (3, .int (nI (i + 5)))]) rfl (nI_5 i) (by decide) rfl dL_law_1204 ?_
            refine v_goto X (tgt := 18) dL_law_1207 (by decide) ?_
            exact ih18 (i + 5) I250 L250 hms hi5 hi52 hR2
          · exact absurd rfl h253
        · refine v_tableIn X dL_law_32 (by decide) (by decide) (off := 226) rfl (tgt := 258) (by decide) ?_
          refine v_aload_n X 1 rfl dL_law_258 ?_
          refine v_aload_n X 0 rfl dL_law_259 ?_
          refine v_iload_n X 3 rfl dL_law_260 ?_
          refine v_iconst X (v := (nI 1)) dL_law_261 (by decide) ?_
          refine v_iadd X dL_law_262 ?_
          refine v_eqi (y := (nI (i + 1))) (nI_add _ _) ?_
          refine v_sld X hX0 hbl hbA (by omega) (by omega) dL_law_263 ?_
          refine v_aload_n X 0 rfl dL_law_264 ?_
          refine v_iload_n X 3 rfl dL_law_265 ?_
          refine v_iconst X (v := (nI 2)) dL_law_266 (by decide) ?_
          refine v_iadd X dL_law_267 ?_
          refine v_eqi (y := (nI (i + 2))) (nI_add _ _) ?_
          refine v_sld X hX0 hbl hbA (by omega) (by omega) dL_law_268 ?_
          refine v_aload_n X 0 rfl dL_law_269 ?_
          refine v_iload_n X 3 rfl dL_law_270 ?_
          refine v_iconst X (v := (nI 3)) dL_law_271 (by decide) ?_
          refine v_iadd X dL_law_272 ?_
          refine v_eqi (y := (nI (i + 3))) (nI_add _ _) ?_
          refine v_sld X hX0 hbl hbA (by omega) (by omega) dL_law_273 ?_
          refine v_callV X (c_X5_at _ _ hE _ _ c ro co hT.1 (xs (i + 1)) (xs (i + 2)) (xs (i + 3))) k_L_23 dl_0 (cef_0 _ _ _ _) rfl ⟨rfl, rfl, Nat.le_of_ble_eq_true rfl, Nat.le_of_ble_eq_true rfl⟩ (As := [.int (xs (i + 1)), .int (xs (i + 2)), .int (xs (i + 3))]) (rest := []) rfl rfl (Nat.le_of_ble_eq_true rfl) dL_law_274 (fun r274 I274 L274 hp274 => ?_)
          obtain ⟨km, ⟨xr, rfl⟩, hk⟩ := J_at hT hX hp274
          refine v_st (st' := [.int xr]) rfl ?_
          refine v_aload_n X 2 rfl dL_law_277 ?_
          refine v_aload_n X 0 rfl dL_law_278 ?_
          refine v_iload_n X 3 rfl dL_law_279 ?_
          refine v_iconst X (v := (nI 1)) dL_law_280 (by decide) ?_
          refine v_iadd X dL_law_281 ?_
          refine v_eqi (y := (nI (i + 1))) (nI_add _ _) ?_
          refine v_sld X hX0 hbl hbA (by omega) (by omega) dL_law_282 ?_
          refine v_aload_n X 0 rfl dL_law_283 ?_
          refine v_iload_n X 3 rfl dL_law_284 ?_
          refine v_iconst X (v := (nI 2)) dL_law_285 (by decide) ?_
          refine v_iadd X dL_law_286 ?_
          refine v_eqi (y := (nI (i + 2))) (nI_add _ _) ?_
          refine v_sld X hX0 hbl hbA (by omega) (by omega) dL_law_287 ?_
          refine v_aload_n X 0 rfl dL_law_288 ?_
          refine v_iload_n X 3 rfl dL_law_289 ?_
          refine v_iconst X (v := (nI 3)) dL_law_290 (by decide) ?_
          refine v_iadd X dL_law_291 ?_
          refine v_eqi (y := (nI (i + 3))) (nI_add _ _) ?_
          refine v_sld X hX0 hbl hbA (by omega) (by omega) dL_law_292 ?_
          refine v_callV X (c_X6_at _ _ hE _ _ c ro co (hT.2.1.km km) (xs (i + 1)) (xs (i + 2)) (xs (i + 3))) k_L_27 dl_30 (cef_30 _ _ _ _) rfl ⟨rfl, rfl, Nat.le_of_ble_eq_true rfl, Nat.le_of_ble_eq_true rfl⟩ (As := [.int (xs (i + 1)), .int (xs (i + 2)), .int (xs (i + 3))]) (rest := [.int xr]) rfl rfl (Nat.le_of_ble_eq_true rfl) dL_law_293 (fun r293 I293 L293 hp293 => ?_)
          obtain ⟨er, hR2⟩ := hk _ _ _ hp293
          subst er
          refine v_st (st' := [.int xr, .int xr]) rfl ?_
          refine v_icmp_eq X dL_law_296 (tgt := 1204) (by decide) (fun h296 => ?_) (fun h296 => ?_)
          · refine v_iinc X [1, 2, 3, 0] 3 (nI (i + 5)) (lv' := [(0, .ref b), (1, .ref (eA (vE a) 0 0)), (2, .ref (eA (vE a) 30 0)), (3, .int (nI (i + 5)))]) rfl (nI_5 i) (by decide) rfl dL_law_1204 ?_
            refine v_goto X (tgt := 18) dL_law_1207 (by decide) ?_
            exact ih18 (i + 5) I293 L293 hms hi5 hi52 hR2
          · exact absurd rfl h296
        · refine v_tableIn X dL_law_32 (by decide) (by decide) (off := 269) rfl (tgt := 301) (by decide) ?_
          refine v_aload_n X 1 rfl dL_law_301 ?_
          refine v_aload_n X 0 rfl dL_law_302 ?_
          refine v_iload_n X 3 rfl dL_law_303 ?_
          refine v_iconst X (v := (nI 1)) dL_law_304 (by decide) ?_
          refine v_iadd X dL_law_305 ?_
          refine v_eqi (y := (nI (i + 1))) (nI_add _ _) ?_
          refine v_sld X hX0 hbl hbA (by omega) (by omega) dL_law_306 ?_
          refine v_aload_n X 0 rfl dL_law_307 ?_
          refine v_iload_n X 3 rfl dL_law_308 ?_
          refine v_iconst X (v := (nI 2)) dL_law_309 (by decide) ?_
          refine v_iadd X dL_law_310 ?_
          refine v_eqi (y := (nI (i + 2))) (nI_add _ _) ?_
          refine v_sld X hX0 hbl hbA (by omega) (by omega) dL_law_311 ?_
          refine v_callV X (c_X5_look _ _ hE _ _ c ro co hT.1 (xs (i + 1)) (xs (i + 2))) k_L_28 dl_0 (cef_0 _ _ _ _) rfl ⟨rfl, rfl, Nat.le_of_ble_eq_true rfl, Nat.le_of_ble_eq_true rfl⟩ (As := [.int (xs (i + 1)), .int (xs (i + 2))]) (rest := []) rfl rfl (Nat.le_of_ble_eq_true rfl) dL_law_312 (fun r312 I312 L312 hp312 => ?_)
          obtain ⟨km, ⟨xr, rfl⟩, hk⟩ := J_look hT hX hp312
          refine v_st (st' := [.int xr]) rfl ?_
          refine v_aload_n X 2 rfl dL_law_315 ?_
          refine v_aload_n X 0 rfl dL_law_316 ?_
          refine v_iload_n X 3 rfl dL_law_317 ?_
          refine v_iconst X (v := (nI 1)) dL_law_318 (by decide) ?_
          refine v_iadd X dL_law_319 ?_
          refine v_eqi (y := (nI (i + 1))) (nI_add _ _) ?_
          refine v_sld X hX0 hbl hbA (by omega) (by omega) dL_law_320 ?_
          refine v_aload_n X 0 rfl dL_law_321 ?_
          refine v_iload_n X 3 rfl dL_law_322 ?_
          refine v_iconst X (v := (nI 2)) dL_law_323 (by decide) ?_
          refine v_iadd X dL_law_324 ?_
          refine v_eqi (y := (nI (i + 2))) (nI_add _ _) ?_
          refine v_sld X hX0 hbl hbA (by omega) (by omega) dL_law_325 ?_
          refine v_callV X (c_X6_look _ _ hE _ _ c ro co (hT.2.1.km km) (xs (i + 1)) (xs (i + 2))) k_L_31 dl_30 (cef_30 _ _ _ _) rfl ⟨rfl, rfl, Nat.le_of_ble_eq_true rfl, Nat.le_of_ble_eq_true rfl⟩ (As := [.int (xs (i + 1)), .int (xs (i + 2))]) (rest := [.int xr]) rfl rfl (Nat.le_of_ble_eq_true rfl) dL_law_326 (fun r326 I326 L326 hp326 => ?_)
          obtain ⟨er, hR2⟩ := hk _ _ _ hp326
          subst er
          refine v_st (st' := [.int xr, .int xr]) rfl ?_
          refine v_icmp_eq X dL_law_329 (tgt := 1204) (by decide) (fun h329 => ?_) (fun h329 => ?_)
          · refine v_iinc X [1, 2, 3, 0] 3 (nI (i + 5)) (lv' := [(0, .ref b), (1, .ref (eA (vE a) 0 0)), (2, .ref (eA (vE a) 30 0)), (3, .int (nI (i + 5)))]) rfl (nI_5 i) (by decide) rfl dL_law_1204 ?_
            refine v_goto X (tgt := 18) dL_law_1207 (by decide) ?_
            exact ih18 (i + 5) I326 L326 hms hi5 hi52 hR2
          · exact absurd rfl h329
        · refine v_tableIn X dL_law_32 (by decide) (by decide) (off := 302) rfl (tgt := 334) (by decide) ?_
          refine v_aload_n X 1 rfl dL_law_334 ?_
          refine v_callV X (c_X5_drop _ _ hE _ _ c hT.1.1 hT.1.2.1 ) k_L_32 dl_0 (cef_0 _ _ _ _) rfl ⟨rfl, rfl, Nat.le_of_ble_eq_true rfl, Nat.le_of_ble_eq_true rfl⟩ (As := []) (rest := []) rfl rfl (Nat.le_of_ble_eq_true rfl) dL_law_335 (fun r335 I335 L335 hp335 => ?_)
          obtain ⟨km, ⟨xr, rfl⟩, hk⟩ := J_drop hT hX hp335
          refine v_st (st' := [.int xr]) rfl ?_
          refine v_aload_n X 2 rfl dL_law_338 ?_
          refine v_callV X (c_X6_drop _ _ hE _ _ c (hT.2.1.km km).1 (hT.2.1.km km).2.1 ) k_L_36 dl_30 (cef_30 _ _ _ _) rfl ⟨rfl, rfl, Nat.le_of_ble_eq_true rfl, Nat.le_of_ble_eq_true rfl⟩ (As := []) (rest := [.int xr]) rfl rfl (Nat.le_of_ble_eq_true rfl) dL_law_339 (fun r339 I339 L339 hp339 => ?_)
          obtain ⟨er, hR2⟩ := hk _ _ _ hp339
          subst er
          refine v_st (st' := [.int xr, .int xr]) rfl ?_
          refine v_icmp_eq X dL_law_342 (tgt := 1204) (by decide) (fun h342 => ?_) (fun h342 => ?_)
          · refine v_iinc X [1, 2, 3, 0] 3 (nI (i + 5)) (lv' := [(0, .ref b), (1, .ref (eA (vE a) 0 0)), (2, .ref (eA (vE a) 30 0)), (3, .int (nI (i + 5)))]) rfl (nI_5 i) (by decide) rfl dL_law_1204 ?_
            refine v_goto X (tgt := 18) dL_law_1207 (by decide) ?_
            exact ih18 (i + 5) I339 L339 hms hi5 hi52 hR2
          · exact absurd rfl h342
        · refine v_tableIn X dL_law_32 (by decide) (by decide) (off := 315) rfl (tgt := 347) (by decide) ?_
          refine v_aload_n X 1 rfl dL_law_347 ?_
          refine v_aload_n X 0 rfl dL_law_348 ?_
          refine v_iload_n X 3 rfl dL_law_349 ?_
          refine v_iconst X (v := (nI 1)) dL_law_350 (by decide) ?_
          refine v_iadd X dL_law_351 ?_
          refine v_eqi (y := (nI (i + 1))) (nI_add _ _) ?_
          refine v_sld X hX0 hbl hbA (by omega) (by omega) dL_law_352 ?_
          refine v_aload_n X 0 rfl dL_law_353 ?_
          refine v_iload_n X 3 rfl dL_law_354 ?_
          refine v_iconst X (v := (nI 2)) dL_law_355 (by decide) ?_
          refine v_iadd X dL_law_356 ?_
          refine v_eqi (y := (nI (i + 2))) (nI_add _ _) ?_
          refine v_sld X hX0 hbl hbA (by omega) (by omega) dL_law_357 ?_
          refine v_aload_n X 0 rfl dL_law_358 ?_
          refine v_iload_n X 3 rfl dL_law_359 ?_
          refine v_iconst X (v := (nI 3)) dL_law_360 (by decide) ?_
          refine v_iadd X dL_law_361 ?_
          refine v_eqi (y := (nI (i + 3))) (nI_add _ _) ?_
          refine v_sld X hX0 hbl hbA (by omega) (by omega) dL_law_362 ?_
          refine v_callV X (c_X5_worth _ _ hE _ _ c ro co hT.1 (xs (i + 1)) (xs (i + 2)) (xs (i + 3))) k_L_37 dl_0 (cef_0 _ _ _ _) rfl ⟨rfl, rfl, Nat.le_of_ble_eq_true rfl, Nat.le_of_ble_eq_true rfl⟩ (As := [.int (xs (i + 1)), .int (xs (i + 2)), .int (xs (i + 3))]) (rest := []) rfl rfl (Nat.le_of_ble_eq_true rfl) dL_law_363 (fun r363 I363 L363 hp363 => ?_)
          obtain ⟨km, ⟨xr, rfl⟩, hk⟩ := J_worth hT hX hp363
          refine v_st (st' := [.long xr]) rfl ?_
          refine v_aload_n X 2 rfl dL_law_366 ?_
          refine v_aload_n X 0 rfl dL_law_367 ?_
          refine v_iload_n X 3 rfl dL_law_368 ?_
          refine v_iconst X (v := (nI 1)) dL_law_369 (by decide) ?_
          refine v_iadd X dL_law_370 ?_
          refine v_eqi (y := (nI (i + 1))) (nI_add _ _) ?_
          refine v_sld X hX0 hbl hbA (by omega) (by omega) dL_law_371 ?_
          refine v_aload_n X 0 rfl dL_law_372 ?_
          refine v_iload_n X 3 rfl dL_law_373 ?_
          refine v_iconst X (v := (nI 2)) dL_law_374 (by decide) ?_
          refine v_iadd X dL_law_375 ?_
          refine v_eqi (y := (nI (i + 2))) (nI_add _ _) ?_
          refine v_sld X hX0 hbl hbA (by omega) (by omega) dL_law_376 ?_
          refine v_aload_n X 0 rfl dL_law_377 ?_
          refine v_iload_n X 3 rfl dL_law_378 ?_
          refine v_iconst X (v := (nI 3)) dL_law_379 (by decide) ?_
          refine v_iadd X dL_law_380 ?_
          refine v_eqi (y := (nI (i + 3))) (nI_add _ _) ?_
          refine v_sld X hX0 hbl hbA (by omega) (by omega) dL_law_381 ?_
          refine v_callV X (c_X6_worth _ _ hE _ _ c ro co (hT.2.1.km km) (xs (i + 1)) (xs (i + 2)) (xs (i + 3))) k_L_41 dl_30 (cef_30 _ _ _ _) rfl ⟨rfl, rfl, Nat.le_of_ble_eq_true rfl, Nat.le_of_ble_eq_true rfl⟩ (As := [.int (xs (i + 1)), .int (xs (i + 2)), .int (xs (i + 3))]) (rest := [.long xr]) rfl rfl (Nat.le_of_ble_eq_true rfl) dL_law_382 (fun r382 I382 L382 hp382 => ?_)
          obtain ⟨er, hR2⟩ := hk _ _ _ hp382
          subst er
          refine v_st (st' := [.long xr, .long xr]) rfl ?_
          refine v_lcmp_eq X dL_law_385 dL_law_386 (tgt := 1204) (by decide) (fun h385 => ?_) (fun h385 => ?_)
          · refine v_iinc X [1, 2, 3, 0] 3 (nI (i + 5)) (lv' := [(0, .ref b), (1, .ref (eA (vE a) 0 0)), (2, .ref (eA (vE a) 30 0)), (3, .int (nI (i + 5)))]) rfl (nI_5 i) (by decide) rfl dL_law_1204 ?_
            refine v_goto X (tgt := 18) dL_law_1207 (by decide) ?_
            exact ih18 (i + 5) I382 L382 hms hi5 hi52 hR2
          · exact absurd rfl h385
        · refine v_tableIn X dL_law_32 (by decide) (by decide) (off := 359) rfl (tgt := 391) (by decide) ?_
          refine v_aload_n X 1 rfl dL_law_391 ?_
          refine v_aload_n X 0 rfl dL_law_392 ?_
          refine v_iload_n X 3 rfl dL_law_393 ?_
          refine v_iconst X (v := (nI 1)) dL_law_394 (by decide) ?_
          refine v_iadd X dL_law_395 ?_
          refine v_eqi (y := (nI (i + 1))) (nI_add _ _) ?_
          refine v_sld X hX0 hbl hbA (by omega) (by omega) dL_law_396 ?_
          refine v_aload_n X 0 rfl dL_law_397 ?_
          refine v_iload_n X 3 rfl dL_law_398 ?_
          refine v_iconst X (v := (nI 2)) dL_law_399 (by decide) ?_
          refine v_iadd X dL_law_400 ?_
          refine v_eqi (y := (nI (i + 2))) (nI_add _ _) ?_
          refine v_sld X hX0 hbl hbA (by omega) (by omega) dL_law_401 ?_
          refine v_if_eq X dL_law_402 (tgt := 409) (by decide) (fun h402 => ?_) (fun h402 => ?_)
          · refine v_iconst X (v := (nI 0)) dL_law_409 (by decide) ?_
            refine v_callV X (c_X5_low _ _ hE _ _ c ro co hT.1 (xs (i + 1)) 0 (by decide)) k_L_42 dl_0 (cef_0 _ _ _ _) rfl ⟨rfl, rfl, Nat.le_of_ble_eq_true rfl, Nat.le_of_ble_eq_true rfl⟩ (As := [.int (xs (i + 1)), .int (nI 0)]) (rest := []) rfl rfl (Nat.le_of_ble_eq_true rfl) dL_law_410 (fun r410 I410 L410 hp410 => ?_)
            obtain ⟨km, ⟨xr, rfl⟩, hk⟩ := J_low hT hX hp410
            refine v_st (st' := [.int xr]) rfl ?_
            refine v_aload_n X 2 rfl dL_law_413 ?_
            refine v_aload_n X 0 rfl dL_law_414 ?_
            refine v_iload_n X 3 rfl dL_law_415 ?_
            refine v_iconst X (v := (nI 1)) dL_law_416 (by decide) ?_
            refine v_iadd X dL_law_417 ?_
            refine v_eqi (y := (nI (i + 1))) (nI_add _ _) ?_
            refine v_sld X hX0 hbl hbA (by omega) (by omega) dL_law_418 ?_
            refine v_aload_n X 0 rfl dL_law_419 ?_
            refine v_iload_n X 3 rfl dL_law_420 ?_
            refine v_iconst X (v := (nI 2)) dL_law_421 (by decide) ?_
            refine v_iadd X dL_law_422 ?_
            refine v_eqi (y := (nI (i + 2))) (nI_add _ _) ?_
            refine v_sld X hX0 hbl hbA (by omega) (by omega) dL_law_423 ?_
            refine v_if_eq X dL_law_424 (tgt := 431) (by decide) (fun h424 => ?_) (fun h424 => ?_)
            · refine v_iconst X (v := (nI 0)) dL_law_431 (by decide) ?_
              refine v_callV X (c_X6_low _ _ hE _ _ c ro co (hT.2.1.km km) (xs (i + 1)) 0 (by decide)) k_L_46 dl_30 (cef_30 _ _ _ _) rfl ⟨rfl, rfl, Nat.le_of_ble_eq_true rfl, Nat.le_of_ble_eq_true rfl⟩ (As := [.int (xs (i + 1)), .int (nI 0)]) (rest := [.int xr]) rfl rfl (Nat.le_of_ble_eq_true rfl) dL_law_432 (fun r432 I432 L432 hp432 => ?_)
              obtain ⟨er, hR2⟩ := hk _ _ _ hp432
              subst er
              refine v_st (st' := [.int xr, .int xr]) rfl ?_
              refine v_icmp_eq X dL_law_435 (tgt := 1204) (by decide) (fun h435 => ?_) (fun h435 => ?_)
              · refine v_iinc X [1, 2, 3, 0] 3 (nI (i + 5)) (lv' := [(0, .ref b), (1, .ref (eA (vE a) 0 0)), (2, .ref (eA (vE a) 30 0)), (3, .int (nI (i + 5)))]) rfl (nI_5 i) (by decide) rfl dL_law_1204 ?_
                refine v_goto X (tgt := 18) dL_law_1207 (by decide) ?_
                exact ih18 (i + 5) I432 L432 hms hi5 hi52 hR2
              · exact absurd rfl h435
            · exact absurd h402 h424
          · refine v_iconst X (v := (nI 1)) dL_law_405 (by decide) ?_
            refine v_goto X (tgt := 410) dL_law_406 (by decide) ?_
            refine v_callV X (c_X5_low _ _ hE _ _ c ro co hT.1 (xs (i + 1)) 1 (by decide)) k_L_42 dl_0 (cef_0 _ _ _ _) rfl ⟨rfl, rfl, Nat.le_of_ble_eq_true rfl, Nat.le_of_ble_eq_true rfl⟩ (As := [.int (xs (i + 1)), .int (nI 1)]) (rest := []) rfl rfl (Nat.le_of_ble_eq_true rfl) dL_law_410 (fun r410 I410 L410 hp410 => ?_)
            obtain ⟨km, ⟨xr, rfl⟩, hk⟩ := J_low hT hX hp410
            refine v_st (st' := [.int xr]) rfl ?_
            refine v_aload_n X 2 rfl dL_law_413 ?_
            refine v_aload_n X 0 rfl dL_law_414 ?_
            refine v_iload_n X 3 rfl dL_law_415 ?_
            refine v_iconst X (v := (nI 1)) dL_law_416 (by decide) ?_
            refine v_iadd X dL_law_417 ?_
            refine v_eqi (y := (nI (i + 1))) (nI_add _ _) ?_
            refine v_sld X hX0 hbl hbA (by omega) (by omega) dL_law_418 ?_
            refine v_aload_n X 0 rfl dL_law_419 ?_
            refine v_iload_n X 3 rfl dL_law_420 ?_
            refine v_iconst X (v := (nI 2)) dL_law_421 (by decide) ?_
            refine v_iadd X dL_law_422 ?_
            refine v_eqi (y := (nI (i + 2))) (nI_add _ _) ?_
            refine v_sld X hX0 hbl hbA (by omega) (by omega) dL_law_423 ?_
            refine v_if_eq X dL_law_424 (tgt := 431) (by decide) (fun h424 => ?_) (fun h424 => ?_)
            · exact absurd h424 h402
            · refine v_iconst X (v := (nI 1)) dL_law_427 (by decide) ?_
              refine v_goto X (tgt := 432) dL_law_428 (by decide) ?_
              refine v_callV X (c_X6_low _ _ hE _ _ c ro co (hT.2.1.km km) (xs (i + 1)) 1 (by decide)) k_L_46 dl_30 (cef_30 _ _ _ _) rfl ⟨rfl, rfl, Nat.le_of_ble_eq_true rfl, Nat.le_of_ble_eq_true rfl⟩ (As := [.int (xs (i + 1)), .int (nI 1)]) (rest := [.int xr]) rfl rfl (Nat.le_of_ble_eq_true rfl) dL_law_432 (fun r432 I432 L432 hp432 => ?_)
              obtain ⟨er, hR2⟩ := hk _ _ _ hp432
              subst er
              refine v_st (st' := [.int xr, .int xr]) rfl ?_
              refine v_icmp_eq X dL_law_435 (tgt := 1204) (by decide) (fun h435 => ?_) (fun h435 => ?_)
              · refine v_iinc X [1, 2, 3, 0] 3 (nI (i + 5)) (lv' := [(0, .ref b), (1, .ref (eA (vE a) 0 0)), (2, .ref (eA (vE a) 30 0)), (3, .int (nI (i + 5)))]) rfl (nI_5 i) (by decide) rfl dL_law_1204 ?_
                refine v_goto X (tgt := 18) dL_law_1207 (by decide) ?_
                exact ih18 (i + 5) I432 L432 hms hi5 hi52 hR2
              · exact absurd rfl h435
        · refine v_tableIn X dL_law_32 (by decide) (by decide) (off := 408) rfl (tgt := 440) (by decide) ?_
          refine v_aload_n X 1 rfl dL_law_440 ?_
          refine v_aload_n X 0 rfl dL_law_441 ?_
          refine v_iload_n X 3 rfl dL_law_442 ?_
          refine v_iconst X (v := (nI 1)) dL_law_443 (by decide) ?_
          refine v_iadd X dL_law_444 ?_
          refine v_eqi (y := (nI (i + 1))) (nI_add _ _) ?_
          refine v_sld X hX0 hbl hbA (by omega) (by omega) dL_law_445 ?_
          refine v_aload_n X 0 rfl dL_law_446 ?_
          refine v_iload_n X 3 rfl dL_law_447 ?_
          refine v_iconst X (v := (nI 2)) dL_law_448 (by decide) ?_
          refine v_iadd X dL_law_449 ?_
          refine v_eqi (y := (nI (i + 2))) (nI_add _ _) ?_
          refine v_sld X hX0 hbl hbA (by omega) (by omega) dL_law_450 ?_
          refine v_callV X (c_X5_count _ _ hE _ _ c ro co hT.1 (xs (i + 1)) (xs (i + 2))) k_L_47 dl_0 (cef_0 _ _ _ _) rfl ⟨rfl, rfl, Nat.le_of_ble_eq_true rfl, Nat.le_of_ble_eq_true rfl⟩ (As := [.int (xs (i + 1)), .int (xs (i + 2))]) (rest := []) rfl rfl (Nat.le_of_ble_eq_true rfl) dL_law_451 (fun r451 I451 L451 hp451 => ?_)
          obtain ⟨km, ⟨xr, rfl⟩, hk⟩ := J_count hT hX hp451
          refine v_st (st' := [.int xr]) rfl ?_
          refine v_aload_n X 2 rfl dL_law_454 ?_
          refine v_aload_n X 0 rfl dL_law_455 ?_
          refine v_iload_n X 3 rfl dL_law_456 ?_
          refine v_iconst X (v := (nI 1)) dL_law_457 (by decide) ?_
          refine v_iadd X dL_law_458 ?_
          refine v_eqi (y := (nI (i + 1))) (nI_add _ _) ?_
          refine v_sld X hX0 hbl hbA (by omega) (by omega) dL_law_459 ?_
          refine v_aload_n X 0 rfl dL_law_460 ?_
          refine v_iload_n X 3 rfl dL_law_461 ?_
          refine v_iconst X (v := (nI 2)) dL_law_462 (by decide) ?_
          refine v_iadd X dL_law_463 ?_
          refine v_eqi (y := (nI (i + 2))) (nI_add _ _) ?_
          refine v_sld X hX0 hbl hbA (by omega) (by omega) dL_law_464 ?_
          refine v_callV X (c_X6_count _ _ hE _ _ c ro co (hT.2.1.km km) (xs (i + 1)) (xs (i + 2))) k_L_50 dl_30 (cef_30 _ _ _ _) rfl ⟨rfl, rfl, Nat.le_of_ble_eq_true rfl, Nat.le_of_ble_eq_true rfl⟩ (As := [.int (xs (i + 1)), .int (xs (i + 2))]) (rest := [.int xr]) rfl rfl (Nat.le_of_ble_eq_true rfl) dL_law_465 (fun r465 I465 L465 hp465 => ?_)
          obtain ⟨er, hR2⟩ := hk _ _ _ hp465
          subst er
          refine v_st (st' := [.int xr, .int xr]) rfl ?_
          refine v_icmp_eq X dL_law_468 (tgt := 1204) (by decide) (fun h468 => ?_) (fun h468 => ?_)
          · refine v_iinc X [1, 2, 3, 0] 3 (nI (i + 5)) (lv' := [(0, .ref b), (1, .ref (eA (vE a) 0 0)), (2, .ref (eA (vE a) 30 0)), (3, .int (nI (i + 5)))]) rfl (nI_5 i) (by decide) rfl dL_law_1204 ?_
            refine v_goto X (tgt := 18) dL_law_1207 (by decide) ?_
            exact ih18 (i + 5) I465 L465 hms hi5 hi52 hR2
          · exact absurd rfl h468
        · refine v_tableIn X dL_law_32 (by decide) (by decide) (off := 441) rfl (tgt := 473) (by decide) ?_
          refine v_aload_n X 1 rfl dL_law_473 ?_
          refine v_aload_n X 0 rfl dL_law_474 ?_
          refine v_iload_n X 3 rfl dL_law_475 ?_
          refine v_iconst X (v := (nI 1)) dL_law_476 (by decide) ?_
          refine v_iadd X dL_law_477 ?_
          refine v_eqi (y := (nI (i + 1))) (nI_add _ _) ?_
          refine v_sld X hX0 hbl hbA (by omega) (by omega) dL_law_478 ?_
          refine v_aload_n X 0 rfl dL_law_479 ?_
          refine v_iload_n X 3 rfl dL_law_480 ?_
          refine v_iconst X (v := (nI 2)) dL_law_481 (by decide) ?_
          refine v_iadd X dL_law_482 ?_
          refine v_eqi (y := (nI (i + 2))) (nI_add _ _) ?_
          refine v_sld X hX0 hbl hbA (by omega) (by omega) dL_law_483 ?_
          refine v_callV X (c_X5_product _ _ hE _ _ c ro co hT.1 (xs (i + 1)) (xs (i + 2))) k_L_51 dl_0 (cef_0 _ _ _ _) rfl ⟨rfl, rfl, Nat.le_of_ble_eq_true rfl, Nat.le_of_ble_eq_true rfl⟩ (As := [.int (xs (i + 1)), .int (xs (i + 2))]) (rest := []) rfl rfl (Nat.le_of_ble_eq_true rfl) dL_law_484 (fun r484 I484 L484 hp484 => ?_)
          obtain ⟨km, ⟨xr, rfl⟩, hk⟩ := J_product hT hX hp484
          refine v_st (st' := [.int xr]) rfl ?_
          refine v_aload_n X 2 rfl dL_law_487 ?_
          refine v_aload_n X 0 rfl dL_law_488 ?_
          refine v_iload_n X 3 rfl dL_law_489 ?_
          refine v_iconst X (v := (nI 1)) dL_law_490 (by decide) ?_
          refine v_iadd X dL_law_491 ?_
          refine v_eqi (y := (nI (i + 1))) (nI_add _ _) ?_
          refine v_sld X hX0 hbl hbA (by omega) (by omega) dL_law_492 ?_
          refine v_aload_n X 0 rfl dL_law_493 ?_
          refine v_iload_n X 3 rfl dL_law_494 ?_
          refine v_iconst X (v := (nI 2)) dL_law_495 (by decide) ?_
          refine v_iadd X dL_law_496 ?_
          refine v_eqi (y := (nI (i + 2))) (nI_add _ _) ?_
          refine v_sld X hX0 hbl hbA (by omega) (by omega) dL_law_497 ?_
          refine v_callV X (c_X6_product _ _ hE _ _ c ro co (hT.2.1.km km) (xs (i + 1)) (xs (i + 2))) k_L_54 dl_30 (cef_30 _ _ _ _) rfl ⟨rfl, rfl, Nat.le_of_ble_eq_true rfl, Nat.le_of_ble_eq_true rfl⟩ (As := [.int (xs (i + 1)), .int (xs (i + 2))]) (rest := [.int xr]) rfl rfl (Nat.le_of_ble_eq_true rfl) dL_law_498 (fun r498 I498 L498 hp498 => ?_)
          obtain ⟨er, hR2⟩ := hk _ _ _ hp498
          subst er
          refine v_st (st' := [.int xr, .int xr]) rfl ?_
          refine v_icmp_eq X dL_law_501 (tgt := 1204) (by decide) (fun h501 => ?_) (fun h501 => ?_)
          · refine v_iinc X [1, 2, 3, 0] 3 (nI (i + 5)) (lv' := [(0, .ref b), (1, .ref (eA (vE a) 0 0)), (2, .ref (eA (vE a) 30 0)), (3, .int (nI (i + 5)))]) rfl (nI_5 i) (by decide) rfl dL_law_1204 ?_
            refine v_goto X (tgt := 18) dL_law_1207 (by decide) ?_
            exact ih18 (i + 5) I498 L498 hms hi5 hi52 hR2
          · exact absurd rfl h501
        · refine v_tableIn X dL_law_32 (by decide) (by decide) (off := 474) rfl (tgt := 506) (by decide) ?_
          refine v_aload_n X 1 rfl dL_law_506 ?_
          refine v_aload_n X 0 rfl dL_law_507 ?_
          refine v_iload_n X 3 rfl dL_law_508 ?_
          refine v_iconst X (v := (nI 1)) dL_law_509 (by decide) ?_
          refine v_iadd X dL_law_510 ?_
          refine v_eqi (y := (nI (i + 1))) (nI_add _ _) ?_
          refine v_sld X hX0 hbl hbA (by omega) (by omega) dL_law_511 ?_
          refine v_aload_n X 0 rfl dL_law_512 ?_
          refine v_iload_n X 3 rfl dL_law_513 ?_
          refine v_iconst X (v := (nI 2)) dL_law_514 (by decide) ?_
          refine v_iadd X dL_law_515 ?_
          refine v_eqi (y := (nI (i + 2))) (nI_add _ _) ?_
          refine v_sld X hX0 hbl hbA (by omega) (by omega) dL_law_516 ?_
          refine v_callV X (c_X5_sum _ _ hE _ _ c ro co hT.1 (xs (i + 1)) (xs (i + 2))) k_L_55 dl_0 (cef_0 _ _ _ _) rfl ⟨rfl, rfl, Nat.le_of_ble_eq_true rfl, Nat.le_of_ble_eq_true rfl⟩ (As := [.int (xs (i + 1)), .int (xs (i + 2))]) (rest := []) rfl rfl (Nat.le_of_ble_eq_true rfl) dL_law_517 (fun r517 I517 L517 hp517 => ?_)
          obtain ⟨km, ⟨xr, rfl⟩, hk⟩ := J_sum hT hX hp517
          refine v_st (st' := [.int xr]) rfl ?_
          refine v_aload_n X 2 rfl dL_law_520 ?_
          refine v_aload_n X 0 rfl dL_law_521 ?_
          refine v_iload_n X 3 rfl dL_law_522 ?_
          refine v_iconst X (v := (nI 1)) dL_law_523 (by decide) ?_
          refine v_iadd X dL_law_524 ?_
          refine v_eqi (y := (nI (i + 1))) (nI_add _ _) ?_
          refine v_sld X hX0 hbl hbA (by omega) (by omega) dL_law_525 ?_
          refine v_aload_n X 0 rfl dL_law_526 ?_
          refine v_iload_n X 3 rfl dL_law_527 ?_
          refine v_iconst X (v := (nI 2)) dL_law_528 (by decide) ?_
          refine v_iadd X dL_law_529 ?_
          refine v_eqi (y := (nI (i + 2))) (nI_add _ _) ?_
          refine v_sld X hX0 hbl hbA (by omega) (by omega) dL_law_530 ?_
          refine v_callV X (c_X6_sum _ _ hE _ _ c ro co (hT.2.1.km km) (xs (i + 1)) (xs (i + 2))) k_L_58 dl_30 (cef_30 _ _ _ _) rfl ⟨rfl, rfl, Nat.le_of_ble_eq_true rfl, Nat.le_of_ble_eq_true rfl⟩ (As := [.int (xs (i + 1)), .int (xs (i + 2))]) (rest := [.int xr]) rfl rfl (Nat.le_of_ble_eq_true rfl) dL_law_531 (fun r531 I531 L531 hp531 => ?_)
          obtain ⟨er, hR2⟩ := hk _ _ _ hp531
          subst er
          refine v_st (st' := [.int xr, .int xr]) rfl ?_
          refine v_icmp_eq X dL_law_534 (tgt := 1204) (by decide) (fun h534 => ?_) (fun h534 => ?_)
          · refine v_iinc X [1, 2, 3, 0] 3 (nI (i + 5)) (lv' := [(0, .ref b), (1, .ref (eA (vE a) 0 0)), (2, .ref (eA (vE a) 30 0)), (3, .int (nI (i + 5)))]) rfl (nI_5 i) (by decide) rfl dL_law_1204 ?_
            refine v_goto X (tgt := 18) dL_law_1207 (by decide) ?_
            exact ih18 (i + 5) I531 L531 hms hi5 hi52 hR2
          · exact absurd rfl h534
        · refine v_tableIn X dL_law_32 (by decide) (by decide) (off := 507) rfl (tgt := 539) (by decide) ?_
          refine v_aload_n X 1 rfl dL_law_539 ?_
          refine v_aload_n X 0 rfl dL_law_540 ?_
          refine v_iload_n X 3 rfl dL_law_541 ?_
          refine v_iconst X (v := (nI 1)) dL_law_542 (by decide) ?_
          refine v_iadd X dL_law_543 ?_
          refine v_eqi (y := (nI (i + 1))) (nI_add _ _) ?_
          refine v_sld X hX0 hbl hbA (by omega) (by omega) dL_law_544 ?_
          refine v_aload_n X 0 rfl dL_law_545 ?_
          refine v_iload_n X 3 rfl dL_law_546 ?_
          refine v_iconst X (v := (nI 2)) dL_law_547 (by decide) ?_
          refine v_iadd X dL_law_548 ?_
          refine v_eqi (y := (nI (i + 2))) (nI_add _ _) ?_
          refine v_sld X hX0 hbl hbA (by omega) (by omega) dL_law_549 ?_
          refine v_aload_n X 0 rfl dL_law_550 ?_
          refine v_iload_n X 3 rfl dL_law_551 ?_
          refine v_iconst X (v := (nI 3)) dL_law_552 (by decide) ?_
          refine v_iadd X dL_law_553 ?_
          refine v_eqi (y := (nI (i + 3))) (nI_add _ _) ?_
          refine v_sld X hX0 hbl hbA (by omega) (by omega) dL_law_554 ?_
          refine v_callV X (c_X5_part _ _ hE _ _ c ro co hT.1 (xs (i + 1)) (xs (i + 2)) (xs (i + 3))) k_L_59 dl_0 (cef_0 _ _ _ _) rfl ⟨rfl, rfl, Nat.le_of_ble_eq_true rfl, Nat.le_of_ble_eq_true rfl⟩ (As := [.int (xs (i + 1)), .int (xs (i + 2)), .int (xs (i + 3))]) (rest := []) rfl rfl (Nat.le_of_ble_eq_true rfl) dL_law_555 (fun r555 I555 L555 hp555 => ?_)
          obtain ⟨km, ⟨xr, rfl⟩, hk⟩ := J_part hT hX hp555
          refine v_st (st' := [.int xr]) rfl ?_
          refine v_aload_n X 2 rfl dL_law_558 ?_
          refine v_aload_n X 0 rfl dL_law_559 ?_
          refine v_iload_n X 3 rfl dL_law_560 ?_
          refine v_iconst X (v := (nI 1)) dL_law_561 (by decide) ?_
          refine v_iadd X dL_law_562 ?_
          refine v_eqi (y := (nI (i + 1))) (nI_add _ _) ?_
          refine v_sld X hX0 hbl hbA (by omega) (by omega) dL_law_563 ?_
          refine v_aload_n X 0 rfl dL_law_564 ?_
          refine v_iload_n X 3 rfl dL_law_565 ?_
          refine v_iconst X (v := (nI 2)) dL_law_566 (by decide) ?_
          refine v_iadd X dL_law_567 ?_
          refine v_eqi (y := (nI (i + 2))) (nI_add _ _) ?_
          refine v_sld X hX0 hbl hbA (by omega) (by omega) dL_law_568 ?_
          refine v_aload_n X 0 rfl dL_law_569 ?_
          refine v_iload_n X 3 rfl dL_law_570 ?_
          refine v_iconst X (v := (nI 3)) dL_law_571 (by decide) ?_
          refine v_iadd X dL_law_572 ?_
          refine v_eqi (y := (nI (i + 3))) (nI_add _ _) ?_
          refine v_sld X hX0 hbl hbA (by omega) (by omega) dL_law_573 ?_
          refine v_callV X (c_X6_part _ _ hE _ _ c ro co (hT.2.1.km km) (xs (i + 1)) (xs (i + 2)) (xs (i + 3))) k_L_62 dl_30 (cef_30 _ _ _ _) rfl ⟨rfl, rfl, Nat.le_of_ble_eq_true rfl, Nat.le_of_ble_eq_true rfl⟩ (As := [.int (xs (i + 1)), .int (xs (i + 2)), .int (xs (i + 3))]) (rest := [.int xr]) rfl rfl (Nat.le_of_ble_eq_true rfl) dL_law_574 (fun r574 I574 L574 hp574 => ?_)
          obtain ⟨er, hR2⟩ := hk _ _ _ hp574
          subst er
          refine v_st (st' := [.int xr, .int xr]) rfl ?_
          refine v_icmp_eq X dL_law_577 (tgt := 1204) (by decide) (fun h577 => ?_) (fun h577 => ?_)
          · refine v_iinc X [1, 2, 3, 0] 3 (nI (i + 5)) (lv' := [(0, .ref b), (1, .ref (eA (vE a) 0 0)), (2, .ref (eA (vE a) 30 0)), (3, .int (nI (i + 5)))]) rfl (nI_5 i) (by decide) rfl dL_law_1204 ?_
            refine v_goto X (tgt := 18) dL_law_1207 (by decide) ?_
            exact ih18 (i + 5) I574 L574 hms hi5 hi52 hR2
          · exact absurd rfl h577
        · refine v_tableIn X dL_law_32 (by decide) (by decide) (off := 550) rfl (tgt := 582) (by decide) ?_
          refine v_aload_n X 1 rfl dL_law_582 ?_
          refine v_aload_n X 0 rfl dL_law_583 ?_
          refine v_iload_n X 3 rfl dL_law_584 ?_
          refine v_iconst X (v := (nI 1)) dL_law_585 (by decide) ?_
          refine v_iadd X dL_law_586 ?_
          refine v_eqi (y := (nI (i + 1))) (nI_add _ _) ?_
          refine v_sld X hX0 hbl hbA (by omega) (by omega) dL_law_587 ?_
          refine v_aload_n X 0 rfl dL_law_588 ?_
          refine v_iload_n X 3 rfl dL_law_589 ?_
          refine v_iconst X (v := (nI 2)) dL_law_590 (by decide) ?_
          refine v_iadd X dL_law_591 ?_
          refine v_eqi (y := (nI (i + 2))) (nI_add _ _) ?_
          refine v_sld X hX0 hbl hbA (by omega) (by omega) dL_law_592 ?_
          refine v_callV X (c_X5_turn _ _ hE _ _ c ro co hT.1 (xs (i + 1)) (xs (i + 2))) k_L_63 dl_0 (cef_0 _ _ _ _) rfl ⟨rfl, rfl, Nat.le_of_ble_eq_true rfl, Nat.le_of_ble_eq_true rfl⟩ (As := [.int (xs (i + 1)), .int (xs (i + 2))]) (rest := []) rfl rfl (Nat.le_of_ble_eq_true rfl) dL_law_593 (fun r593 I593 L593 hp593 => ?_)
          obtain ⟨km, ⟨xr, rfl⟩, hk⟩ := J_turn hT hX hp593
          refine v_st (st' := [.int xr]) rfl ?_
          refine v_aload_n X 2 rfl dL_law_596 ?_
          refine v_aload_n X 0 rfl dL_law_597 ?_
          refine v_iload_n X 3 rfl dL_law_598 ?_
          refine v_iconst X (v := (nI 1)) dL_law_599 (by decide) ?_
          refine v_iadd X dL_law_600 ?_
          refine v_eqi (y := (nI (i + 1))) (nI_add _ _) ?_
          refine v_sld X hX0 hbl hbA (by omega) (by omega) dL_law_601 ?_
          refine v_aload_n X 0 rfl dL_law_602 ?_
          refine v_iload_n X 3 rfl dL_law_603 ?_
          refine v_iconst X (v := (nI 2)) dL_law_604 (by decide) ?_
          refine v_iadd X dL_law_605 ?_
          refine v_eqi (y := (nI (i + 2))) (nI_add _ _) ?_
          refine v_sld X hX0 hbl hbA (by omega) (by omega) dL_law_606 ?_
          refine v_callV X (c_X6_turn _ _ hE _ _ c ro co (hT.2.1.km km) (xs (i + 1)) (xs (i + 2))) k_L_66 dl_30 (cef_30 _ _ _ _) rfl ⟨rfl, rfl, Nat.le_of_ble_eq_true rfl, Nat.le_of_ble_eq_true rfl⟩ (As := [.int (xs (i + 1)), .int (xs (i + 2))]) (rest := [.int xr]) rfl rfl (Nat.le_of_ble_eq_true rfl) dL_law_607 (fun r607 I607 L607 hp607 => ?_)
          obtain ⟨er, hR2⟩ := hk _ _ _ hp607
          subst er
          refine v_st (st' := [.int xr, .int xr]) rfl ?_
          refine v_icmp_eq X dL_law_610 (tgt := 1204) (by decide) (fun h610 => ?_) (fun h610 => ?_)
          · refine v_iinc X [1, 2, 3, 0] 3 (nI (i + 5)) (lv' := [(0, .ref b), (1, .ref (eA (vE a) 0 0)), (2, .ref (eA (vE a) 30 0)), (3, .int (nI (i + 5)))]) rfl (nI_5 i) (by decide) rfl dL_law_1204 ?_
            refine v_goto X (tgt := 18) dL_law_1207 (by decide) ?_
            exact ih18 (i + 5) I607 L607 hms hi5 hi52 hR2
          · exact absurd rfl h610
        · refine v_tableIn X dL_law_32 (by decide) (by decide) (off := 583) rfl (tgt := 615) (by decide) ?_
          refine v_aload_n X 1 rfl dL_law_615 ?_
          refine v_aload_n X 0 rfl dL_law_616 ?_
          refine v_iload_n X 3 rfl dL_law_617 ?_
          refine v_iconst X (v := (nI 1)) dL_law_618 (by decide) ?_
          refine v_iadd X dL_law_619 ?_
          refine v_eqi (y := (nI (i + 1))) (nI_add _ _) ?_
          refine v_sld X hX0 hbl hbA (by omega) (by omega) dL_law_620 ?_
          refine v_aload_n X 0 rfl dL_law_621 ?_
          refine v_iload_n X 3 rfl dL_law_622 ?_
          refine v_iconst X (v := (nI 2)) dL_law_623 (by decide) ?_
          refine v_iadd X dL_law_624 ?_
          refine v_eqi (y := (nI (i + 2))) (nI_add _ _) ?_
          refine v_sld X hX0 hbl hbA (by omega) (by omega) dL_law_625 ?_
          refine v_callV X (c_X5_same _ _ hE _ _ c ro co hT.1 (xs (i + 1)) (xs (i + 2))) k_L_67 dl_0 (cef_0 _ _ _ _) rfl ⟨rfl, rfl, Nat.le_of_ble_eq_true rfl, Nat.le_of_ble_eq_true rfl⟩ (As := [.int (xs (i + 1)), .int (xs (i + 2))]) (rest := []) rfl rfl (Nat.le_of_ble_eq_true rfl) dL_law_626 (fun r626 I626 L626 hp626 => ?_)
          obtain ⟨km, ⟨xr, rfl⟩, hk⟩ := J_same hT hX hp626
          refine v_st (st' := [.int xr]) rfl ?_
          refine v_aload_n X 2 rfl dL_law_629 ?_
          refine v_aload_n X 0 rfl dL_law_630 ?_
          refine v_iload_n X 3 rfl dL_law_631 ?_
          refine v_iconst X (v := (nI 1)) dL_law_632 (by decide) ?_
          refine v_iadd X dL_law_633 ?_
          refine v_eqi (y := (nI (i + 1))) (nI_add _ _) ?_
          refine v_sld X hX0 hbl hbA (by omega) (by omega) dL_law_634 ?_
          refine v_aload_n X 0 rfl dL_law_635 ?_
          refine v_iload_n X 3 rfl dL_law_636 ?_
          refine v_iconst X (v := (nI 2)) dL_law_637 (by decide) ?_
          refine v_iadd X dL_law_638 ?_
          refine v_eqi (y := (nI (i + 2))) (nI_add _ _) ?_
          refine v_sld X hX0 hbl hbA (by omega) (by omega) dL_law_639 ?_
          refine v_callV X (c_X6_same _ _ hE _ _ c ro co (hT.2.1.km km) (xs (i + 1)) (xs (i + 2))) k_L_70 dl_30 (cef_30 _ _ _ _) rfl ⟨rfl, rfl, Nat.le_of_ble_eq_true rfl, Nat.le_of_ble_eq_true rfl⟩ (As := [.int (xs (i + 1)), .int (xs (i + 2))]) (rest := [.int xr]) rfl rfl (Nat.le_of_ble_eq_true rfl) dL_law_640 (fun r640 I640 L640 hp640 => ?_)
          obtain ⟨er, hR2⟩ := hk _ _ _ hp640
          subst er
          refine v_st (st' := [.int xr, .int xr]) rfl ?_
          refine v_icmp_eq X dL_law_643 (tgt := 1204) (by decide) (fun h643 => ?_) (fun h643 => ?_)
          · refine v_iinc X [1, 2, 3, 0] 3 (nI (i + 5)) (lv' := [(0, .ref b), (1, .ref (eA (vE a) 0 0)), (2, .ref (eA (vE a) 30 0)), (3, .int (nI (i + 5)))]) rfl (nI_5 i) (by decide) rfl dL_law_1204 ?_
            refine v_goto X (tgt := 18) dL_law_1207 (by decide) ?_
            exact ih18 (i + 5) I640 L640 hms hi5 hi52 hR2
          · exact absurd rfl h643
        · refine v_tableIn X dL_law_32 (by decide) (by decide) (off := 616) rfl (tgt := 648) (by decide) ?_
          refine v_aload_n X 1 rfl dL_law_648 ?_
          refine v_aload_n X 0 rfl dL_law_649 ?_
          refine v_iload_n X 3 rfl dL_law_650 ?_
          refine v_iconst X (v := (nI 1)) dL_law_651 (by decide) ?_
          refine v_iadd X dL_law_652 ?_
          refine v_eqi (y := (nI (i + 1))) (nI_add _ _) ?_
          refine v_sld X hX0 hbl hbA (by omega) (by omega) dL_law_653 ?_
          refine v_callV X (c_X5_net _ _ hE _ _ n hN.1.1 hN.1.2.1 (xs (i + 1))) k_L_71 dl_0 (cef_0 _ _ _ _) rfl ⟨rfl, rfl, Nat.le_of_ble_eq_true rfl, Nat.le_of_ble_eq_true rfl⟩ (As := [.int (xs (i + 1))]) (rest := []) rfl rfl (Nat.le_of_ble_eq_true rfl) dL_law_654 (fun r654 I654 L654 hp654 => ?_)
          obtain ⟨km, ⟨xr, rfl⟩, hk⟩ := J_net hR hN hp654
          refine v_st (st' := [.int xr]) rfl ?_
          refine v_aload_n X 2 rfl dL_law_657 ?_
          refine v_aload_n X 0 rfl dL_law_658 ?_
          refine v_iload_n X 3 rfl dL_law_659 ?_
          refine v_iconst X (v := (nI 1)) dL_law_660 (by decide) ?_
          refine v_iadd X dL_law_661 ?_
          refine v_eqi (y := (nI (i + 1))) (nI_add _ _) ?_
          refine v_sld X hX0 hbl hbA (by omega) (by omega) dL_law_662 ?_
          refine v_callV X (c_X6_net _ _ hE _ _ n (hN.2.km km).1 (hN.2.km km).2.1 (xs (i + 1))) k_L_75 dl_30 (cef_30 _ _ _ _) rfl ⟨rfl, rfl, Nat.le_of_ble_eq_true rfl, Nat.le_of_ble_eq_true rfl⟩ (As := [.int (xs (i + 1))]) (rest := [.int xr]) rfl rfl (Nat.le_of_ble_eq_true rfl) dL_law_663 (fun r663 I663 L663 hp663 => ?_)
          obtain ⟨er, hR2⟩ := hk _ _ _ hp663
          subst er
          refine v_st (st' := [.int xr, .int xr]) rfl ?_
          refine v_icmp_eq X dL_law_666 (tgt := 1204) (by decide) (fun h666 => ?_) (fun h666 => ?_)
          · refine v_iinc X [1, 2, 3, 0] 3 (nI (i + 5)) (lv' := [(0, .ref b), (1, .ref (eA (vE a) 0 0)), (2, .ref (eA (vE a) 30 0)), (3, .int (nI (i + 5)))]) rfl (nI_5 i) (by decide) rfl dL_law_1204 ?_
            refine v_goto X (tgt := 18) dL_law_1207 (by decide) ?_
            exact ih18 (i + 5) I663 L663 hms hi5 hi52 hR2
          · exact absurd rfl h666
        · refine v_tableIn X dL_law_32 (by decide) (by decide) (off := 639) rfl (tgt := 671) (by decide) ?_
          refine v_aload_n X 1 rfl dL_law_671 ?_
          refine v_aload_n X 0 rfl dL_law_672 ?_
          refine v_iload_n X 3 rfl dL_law_673 ?_
          refine v_iconst X (v := (nI 1)) dL_law_674 (by decide) ?_
          refine v_iadd X dL_law_675 ?_
          refine v_eqi (y := (nI (i + 1))) (nI_add _ _) ?_
          refine v_sld X hX0 hbl hbA (by omega) (by omega) dL_law_676 ?_
          refine v_aload_n X 0 rfl dL_law_677 ?_
          refine v_iload_n X 3 rfl dL_law_678 ?_
          refine v_iconst X (v := (nI 2)) dL_law_679 (by decide) ?_
          refine v_iadd X dL_law_680 ?_
          refine v_eqi (y := (nI (i + 2))) (nI_add _ _) ?_
          refine v_sld X hX0 hbl hbA (by omega) (by omega) dL_law_681 ?_
          refine v_aload_n X 0 rfl dL_law_682 ?_
          refine v_iload_n X 3 rfl dL_law_683 ?_
          refine v_iconst X (v := (nI 3)) dL_law_684 (by decide) ?_
          refine v_iadd X dL_law_685 ?_
          refine v_eqi (y := (nI (i + 3))) (nI_add _ _) ?_
          refine v_sld X hX0 hbl hbA (by omega) (by omega) dL_law_686 ?_
          refine v_aload_n X 0 rfl dL_law_687 ?_
          refine v_iload_n X 3 rfl dL_law_688 ?_
          refine v_iconst X (v := (nI 4)) dL_law_689 (by decide) ?_
          refine v_iadd X dL_law_690 ?_
          refine v_eqi (y := (nI (i + 4))) (nI_add _ _) ?_
          refine v_sld X hX0 hbl hbA (by omega) (by omega) dL_law_691 ?_
          refine v_callV X (c_X5_step _ _ hE _ _ n ln sc kd pl wt hN.1 (xs (i + 1)) (xs (i + 2)) (xs (i + 3)) (xs (i + 4))) k_L_76 dl_0 (cef_0 _ _ _ _) rfl ⟨rfl, rfl, Nat.le_of_ble_eq_true rfl, Nat.le_of_ble_eq_true rfl⟩ (As := [.int (xs (i + 1)), .int (xs (i + 2)), .int (xs (i + 3)), .int (xs (i + 4))]) (rest := []) rfl rfl (Nat.le_of_ble_eq_true rfl) dL_law_692 (fun r692 I692 L692 hp692 => ?_)
          obtain ⟨km, ⟨xr, rfl⟩, hk⟩ := J_step hR hN hp692
          refine v_st (st' := [.int xr]) rfl ?_
          refine v_aload_n X 2 rfl dL_law_695 ?_
          refine v_aload_n X 0 rfl dL_law_696 ?_
          refine v_iload_n X 3 rfl dL_law_697 ?_
          refine v_iconst X (v := (nI 1)) dL_law_698 (by decide) ?_
          refine v_iadd X dL_law_699 ?_
          refine v_eqi (y := (nI (i + 1))) (nI_add _ _) ?_
          refine v_sld X hX0 hbl hbA (by omega) (by omega) dL_law_700 ?_
          refine v_aload_n X 0 rfl dL_law_701 ?_
          refine v_iload_n X 3 rfl dL_law_702 ?_
          refine v_iconst X (v := (nI 2)) dL_law_703 (by decide) ?_
          refine v_iadd X dL_law_704 ?_
          refine v_eqi (y := (nI (i + 2))) (nI_add _ _) ?_
          refine v_sld X hX0 hbl hbA (by omega) (by omega) dL_law_705 ?_
          refine v_aload_n X 0 rfl dL_law_706 ?_
          refine v_iload_n X 3 rfl dL_law_707 ?_
          refine v_iconst X (v := (nI 3)) dL_law_708 (by decide) ?_
          refine v_iadd X dL_law_709 ?_
          refine v_eqi (y := (nI (i + 3))) (nI_add _ _) ?_
          refine v_sld X hX0 hbl hbA (by omega) (by omega) dL_law_710 ?_
          refine v_aload_n X 0 rfl dL_law_711 ?_
          refine v_iload_n X 3 rfl dL_law_712 ?_
          refine v_iconst X (v := (nI 4)) dL_law_713 (by decide) ?_
          refine v_iadd X dL_law_714 ?_
          refine v_eqi (y := (nI (i + 4))) (nI_add _ _) ?_
          refine v_sld X hX0 hbl hbA (by omega) (by omega) dL_law_715 ?_
          refine v_callV X (c_X6_step _ _ hE _ _ n ln sc kd pl wt (hN.2.km km) (xs (i + 1)) (xs (i + 2)) (xs (i + 3)) (xs (i + 4))) k_L_79 dl_30 (cef_30 _ _ _ _) rfl ⟨rfl, rfl, Nat.le_of_ble_eq_true rfl, Nat.le_of_ble_eq_true rfl⟩ (As := [.int (xs (i + 1)), .int (xs (i + 2)), .int (xs (i + 3)), .int (xs (i + 4))]) (rest := [.int xr]) rfl rfl (Nat.le_of_ble_eq_true rfl) dL_law_716 (fun r716 I716 L716 hp716 => ?_)
          obtain ⟨er, hR2⟩ := hk _ _ _ hp716
          subst er
          refine v_st (st' := [.int xr, .int xr]) rfl ?_
          refine v_icmp_eq X dL_law_719 (tgt := 1204) (by decide) (fun h719 => ?_) (fun h719 => ?_)
          · refine v_iinc X [1, 2, 3, 0] 3 (nI (i + 5)) (lv' := [(0, .ref b), (1, .ref (eA (vE a) 0 0)), (2, .ref (eA (vE a) 30 0)), (3, .int (nI (i + 5)))]) rfl (nI_5 i) (by decide) rfl dL_law_1204 ?_
            refine v_goto X (tgt := 18) dL_law_1207 (by decide) ?_
            exact ih18 (i + 5) I716 L716 hms hi5 hi52 hR2
          · exact absurd rfl h719
        · refine v_tableIn X dL_law_32 (by decide) (by decide) (off := 692) rfl (tgt := 724) (by decide) ?_
          refine v_aload_n X 1 rfl dL_law_724 ?_
          refine v_aload_n X 0 rfl dL_law_725 ?_
          refine v_iload_n X 3 rfl dL_law_726 ?_
          refine v_iconst X (v := (nI 1)) dL_law_727 (by decide) ?_
          refine v_iadd X dL_law_728 ?_
          refine v_eqi (y := (nI (i + 1))) (nI_add _ _) ?_
          refine v_sld X hX0 hbl hbA (by omega) (by omega) dL_law_729 ?_
          refine v_callV X (c_X5_back _ _ hE _ _ n ln sc kd pl wt hN.1 (xs (i + 1))) k_L_80 dl_0 (cef_0 _ _ _ _) rfl ⟨rfl, rfl, Nat.le_of_ble_eq_true rfl, Nat.le_of_ble_eq_true rfl⟩ (As := [.int (xs (i + 1))]) (rest := []) rfl rfl (Nat.le_of_ble_eq_true rfl) dL_law_730 (fun r730 I730 L730 hp730 => ?_)
          obtain ⟨km, ⟨xr, rfl⟩, hk⟩ := J_back hR hN hp730
          refine v_st (st' := [.int xr]) rfl ?_
          refine v_aload_n X 2 rfl dL_law_733 ?_
          refine v_aload_n X 0 rfl dL_law_734 ?_
          refine v_iload_n X 3 rfl dL_law_735 ?_
          refine v_iconst X (v := (nI 1)) dL_law_736 (by decide) ?_
          refine v_iadd X dL_law_737 ?_
          refine v_eqi (y := (nI (i + 1))) (nI_add _ _) ?_
          refine v_sld X hX0 hbl hbA (by omega) (by omega) dL_law_738 ?_
          refine v_callV X (c_X6_back _ _ hE _ _ n ln sc kd pl wt (hN.2.km km) (xs (i + 1))) k_L_83 dl_30 (cef_30 _ _ _ _) rfl ⟨rfl, rfl, Nat.le_of_ble_eq_true rfl, Nat.le_of_ble_eq_true rfl⟩ (As := [.int (xs (i + 1))]) (rest := [.int xr]) rfl rfl (Nat.le_of_ble_eq_true rfl) dL_law_739 (fun r739 I739 L739 hp739 => ?_)
          obtain ⟨er, hR2⟩ := hk _ _ _ hp739
          subst er
          refine v_st (st' := [.int xr, .int xr]) rfl ?_
          refine v_icmp_eq X dL_law_742 (tgt := 1204) (by decide) (fun h742 => ?_) (fun h742 => ?_)
          · refine v_iinc X [1, 2, 3, 0] 3 (nI (i + 5)) (lv' := [(0, .ref b), (1, .ref (eA (vE a) 0 0)), (2, .ref (eA (vE a) 30 0)), (3, .int (nI (i + 5)))]) rfl (nI_5 i) (by decide) rfl dL_law_1204 ?_
            refine v_goto X (tgt := 18) dL_law_1207 (by decide) ?_
            exact ih18 (i + 5) I739 L739 hms hi5 hi52 hR2
          · exact absurd rfl h742
        · refine v_tableIn X dL_law_32 (by decide) (by decide) (off := 715) rfl (tgt := 747) (by decide) ?_
          refine v_aload_n X 1 rfl dL_law_747 ?_
          refine v_aload_n X 0 rfl dL_law_748 ?_
          refine v_iload_n X 3 rfl dL_law_749 ?_
          refine v_iconst X (v := (nI 1)) dL_law_750 (by decide) ?_
          refine v_iadd X dL_law_751 ?_
          refine v_eqi (y := (nI (i + 1))) (nI_add _ _) ?_
          refine v_sld X hX0 hbl hbA (by omega) (by omega) dL_law_752 ?_
          refine v_callV X (c_X5_made _ _ hE _ _ c hT.1.1 hT.1.2.1 n ln sc kd pl wt hN.1 (xs (i + 1))) k_L_84 dl_0 (cef_0 _ _ _ _) rfl ⟨rfl, rfl, Nat.le_of_ble_eq_true rfl, Nat.le_of_ble_eq_true rfl⟩ (As := [.int (xs (i + 1))]) (rest := []) rfl rfl (Nat.le_of_ble_eq_true rfl) dL_law_753 (fun r753 I753 L753 hp753 => ?_)
          obtain ⟨km, ⟨xr, rfl⟩, hk⟩ := J_made hT hX hN hp753
          refine v_st (st' := [.int xr]) rfl ?_
          refine v_aload_n X 2 rfl dL_law_756 ?_
          refine v_aload_n X 0 rfl dL_law_757 ?_
          refine v_iload_n X 3 rfl dL_law_758 ?_
          refine v_iconst X (v := (nI 1)) dL_law_759 (by decide) ?_
          refine v_iadd X dL_law_760 ?_
          refine v_eqi (y := (nI (i + 1))) (nI_add _ _) ?_
          refine v_sld X hX0 hbl hbA (by omega) (by omega) dL_law_761 ?_
          refine v_callV X (c_X6_made _ _ hE _ _ c ro co (hT.2.1.km km) n ln sc kd pl wt (hN.2.km km) (xs (i + 1))) k_L_87 dl_30 (cef_30 _ _ _ _) rfl ⟨rfl, rfl, Nat.le_of_ble_eq_true rfl, Nat.le_of_ble_eq_true rfl⟩ (As := [.int (xs (i + 1))]) (rest := [.int xr]) rfl rfl (Nat.le_of_ble_eq_true rfl) dL_law_762 (fun r762 I762 L762 hp762 => ?_)
          obtain ⟨er, hR2⟩ := hk _ _ _ hp762
          subst er
          refine v_st (st' := [.int xr, .int xr]) rfl ?_
          refine v_icmp_eq X dL_law_765 (tgt := 1204) (by decide) (fun h765 => ?_) (fun h765 => ?_)
          · refine v_iinc X [1, 2, 3, 0] 3 (nI (i + 5)) (lv' := [(0, .ref b), (1, .ref (eA (vE a) 0 0)), (2, .ref (eA (vE a) 30 0)), (3, .int (nI (i + 5)))]) rfl (nI_5 i) (by decide) rfl dL_law_1204 ?_
            refine v_goto X (tgt := 18) dL_law_1207 (by decide) ?_
            exact ih18 (i + 5) I762 L762 hms hi5 hi52 hR2
          · exact absurd rfl h765
        · refine v_tableIn X dL_law_32 (by decide) (by decide) (off := 738) rfl (tgt := 770) (by decide) ?_
          refine v_aload_n X 1 rfl dL_law_770 ?_
          refine v_aload_n X 0 rfl dL_law_771 ?_
          refine v_iload_n X 3 rfl dL_law_772 ?_
          refine v_iconst X (v := (nI 1)) dL_law_773 (by decide) ?_
          refine v_iadd X dL_law_774 ?_
          refine v_eqi (y := (nI (i + 1))) (nI_add _ _) ?_
          refine v_sld X hX0 hbl hbA (by omega) (by omega) dL_law_775 ?_
          refine v_aload_n X 0 rfl dL_law_776 ?_
          refine v_iload_n X 3 rfl dL_law_777 ?_
          refine v_iconst X (v := (nI 2)) dL_law_778 (by decide) ?_
          refine v_iadd X dL_law_779 ?_
          refine v_eqi (y := (nI (i + 2))) (nI_add _ _) ?_
          refine v_sld X hX0 hbl hbA (by omega) (by omega) dL_law_780 ?_
          refine v_aload_n X 0 rfl dL_law_781 ?_
          refine v_iload_n X 3 rfl dL_law_782 ?_
          refine v_iconst X (v := (nI 3)) dL_law_783 (by decide) ?_
          refine v_iadd X dL_law_784 ?_
          refine v_eqi (y := (nI (i + 3))) (nI_add _ _) ?_
          refine v_sld X hX0 hbl hbA (by omega) (by omega) dL_law_785 ?_
          refine v_callV X (c_X5_families _ _ hE _ _ n ln sc kd pl wt hN.1 (xs (i + 1)) (xs (i + 2)) (xs (i + 3))) k_L_88 dl_0 (cef_0 _ _ _ _) rfl ⟨rfl, rfl, Nat.le_of_ble_eq_true rfl, Nat.le_of_ble_eq_true rfl⟩ (As := [.int (xs (i + 1)), .int (xs (i + 2)), .int (xs (i + 3))]) (rest := []) rfl rfl (Nat.le_of_ble_eq_true rfl) dL_law_786 (fun r786 I786 L786 hp786 => ?_)
          obtain ⟨km, ⟨xr, rfl⟩, hk⟩ := J_families hR hN hp786
          refine v_st (st' := [.int xr]) rfl ?_
          refine v_aload_n X 2 rfl dL_law_789 ?_
          refine v_aload_n X 0 rfl dL_law_790 ?_
          refine v_iload_n X 3 rfl dL_law_791 ?_
          refine v_iconst X (v := (nI 1)) dL_law_792 (by decide) ?_
          refine v_iadd X dL_law_793 ?_
          refine v_eqi (y := (nI (i + 1))) (nI_add _ _) ?_
          refine v_sld X hX0 hbl hbA (by omega) (by omega) dL_law_794 ?_
          refine v_aload_n X 0 rfl dL_law_795 ?_
          refine v_iload_n X 3 rfl dL_law_796 ?_
          refine v_iconst X (v := (nI 2)) dL_law_797 (by decide) ?_
          refine v_iadd X dL_law_798 ?_
          refine v_eqi (y := (nI (i + 2))) (nI_add _ _) ?_
          refine v_sld X hX0 hbl hbA (by omega) (by omega) dL_law_799 ?_
          refine v_aload_n X 0 rfl dL_law_800 ?_
          refine v_iload_n X 3 rfl dL_law_801 ?_
          refine v_iconst X (v := (nI 3)) dL_law_802 (by decide) ?_
          refine v_iadd X dL_law_803 ?_
          refine v_eqi (y := (nI (i + 3))) (nI_add _ _) ?_
          refine v_sld X hX0 hbl hbA (by omega) (by omega) dL_law_804 ?_
          refine v_callV X (c_X6_families _ _ hE _ _ n ln sc kd pl wt (hN.2.km km) (xs (i + 1)) (xs (i + 2)) (xs (i + 3))) k_L_91 dl_30 (cef_30 _ _ _ _) rfl ⟨rfl, rfl, Nat.le_of_ble_eq_true rfl, Nat.le_of_ble_eq_true rfl⟩ (As := [.int (xs (i + 1)), .int (xs (i + 2)), .int (xs (i + 3))]) (rest := [.int xr]) rfl rfl (Nat.le_of_ble_eq_true rfl) dL_law_805 (fun r805 I805 L805 hp805 => ?_)
          obtain ⟨er, hR2⟩ := hk _ _ _ hp805
          subst er
          refine v_st (st' := [.int xr, .int xr]) rfl ?_
          refine v_icmp_eq X dL_law_808 (tgt := 1204) (by decide) (fun h808 => ?_) (fun h808 => ?_)
          · refine v_iinc X [1, 2, 3, 0] 3 (nI (i + 5)) (lv' := [(0, .ref b), (1, .ref (eA (vE a) 0 0)), (2, .ref (eA (vE a) 30 0)), (3, .int (nI (i + 5)))]) rfl (nI_5 i) (by decide) rfl dL_law_1204 ?_
            refine v_goto X (tgt := 18) dL_law_1207 (by decide) ?_
            exact ih18 (i + 5) I805 L805 hms hi5 hi52 hR2
          · exact absurd rfl h808
        · refine v_tableIn X dL_law_32 (by decide) (by decide) (off := 781) rfl (tgt := 813) (by decide) ?_
          refine v_aload_n X 1 rfl dL_law_813 ?_
          refine v_aload_n X 0 rfl dL_law_814 ?_
          refine v_iload_n X 3 rfl dL_law_815 ?_
          refine v_iconst X (v := (nI 1)) dL_law_816 (by decide) ?_
          refine v_iadd X dL_law_817 ?_
          refine v_eqi (y := (nI (i + 1))) (nI_add _ _) ?_
          refine v_sld X hX0 hbl hbA (by omega) (by omega) dL_law_818 ?_
          refine v_aload_n X 0 rfl dL_law_819 ?_
          refine v_iload_n X 3 rfl dL_law_820 ?_
          refine v_iconst X (v := (nI 2)) dL_law_821 (by decide) ?_
          refine v_iadd X dL_law_822 ?_
          refine v_eqi (y := (nI (i + 2))) (nI_add _ _) ?_
          refine v_sld X hX0 hbl hbA (by omega) (by omega) dL_law_823 ?_
          refine v_aload_n X 0 rfl dL_law_824 ?_
          refine v_iload_n X 3 rfl dL_law_825 ?_
          refine v_iconst X (v := (nI 3)) dL_law_826 (by decide) ?_
          refine v_iadd X dL_law_827 ?_
          refine v_eqi (y := (nI (i + 3))) (nI_add _ _) ?_
          refine v_sld X hX0 hbl hbA (by omega) (by omega) dL_law_828 ?_
          refine v_callV X (c_X5_weight _ _ hE _ _ n ln sc kd pl wt hN.1 (xs (i + 1)) (xs (i + 2)) (xs (i + 3))) k_L_92 dl_0 (cef_0 _ _ _ _) rfl ⟨rfl, rfl, Nat.le_of_ble_eq_true rfl, Nat.le_of_ble_eq_true rfl⟩ (As := [.int (xs (i + 1)), .int (xs (i + 2)), .int (xs (i + 3))]) (rest := []) rfl rfl (Nat.le_of_ble_eq_true rfl) dL_law_829 (fun r829 I829 L829 hp829 => ?_)
          obtain ⟨km, ⟨xr, rfl⟩, hk⟩ := J_weight hR hN hp829
          refine v_st (st' := [.long xr]) rfl ?_
          refine v_aload_n X 2 rfl dL_law_832 ?_
          refine v_aload_n X 0 rfl dL_law_833 ?_
          refine v_iload_n X 3 rfl dL_law_834 ?_
          refine v_iconst X (v := (nI 1)) dL_law_835 (by decide) ?_
          refine v_iadd X dL_law_836 ?_
          refine v_eqi (y := (nI (i + 1))) (nI_add _ _) ?_
          refine v_sld X hX0 hbl hbA (by omega) (by omega) dL_law_837 ?_
          refine v_aload_n X 0 rfl dL_law_838 ?_
          refine v_iload_n X 3 rfl dL_law_839 ?_
          refine v_iconst X (v := (nI 2)) dL_law_840 (by decide) ?_
          refine v_iadd X dL_law_841 ?_
          refine v_eqi (y := (nI (i + 2))) (nI_add _ _) ?_
          refine v_sld X hX0 hbl hbA (by omega) (by omega) dL_law_842 ?_
          refine v_aload_n X 0 rfl dL_law_843 ?_
          refine v_iload_n X 3 rfl dL_law_844 ?_
          refine v_iconst X (v := (nI 3)) dL_law_845 (by decide) ?_
          refine v_iadd X dL_law_846 ?_
          refine v_eqi (y := (nI (i + 3))) (nI_add _ _) ?_
          refine v_sld X hX0 hbl hbA (by omega) (by omega) dL_law_847 ?_
          refine v_callV X (c_X6_weight _ _ hE _ _ n ln sc kd pl wt (hN.2.km km) (xs (i + 1)) (xs (i + 2)) (xs (i + 3))) k_L_95 dl_30 (cef_30 _ _ _ _) rfl ⟨rfl, rfl, Nat.le_of_ble_eq_true rfl, Nat.le_of_ble_eq_true rfl⟩ (As := [.int (xs (i + 1)), .int (xs (i + 2)), .int (xs (i + 3))]) (rest := [.long xr]) rfl rfl (Nat.le_of_ble_eq_true rfl) dL_law_848 (fun r848 I848 L848 hp848 => ?_)
          obtain ⟨er, hR2⟩ := hk _ _ _ hp848
          subst er
          refine v_st (st' := [.long xr, .long xr]) rfl ?_
          refine v_lcmp_eq X dL_law_851 dL_law_852 (tgt := 1204) (by decide) (fun h851 => ?_) (fun h851 => ?_)
          · refine v_iinc X [1, 2, 3, 0] 3 (nI (i + 5)) (lv' := [(0, .ref b), (1, .ref (eA (vE a) 0 0)), (2, .ref (eA (vE a) 30 0)), (3, .int (nI (i + 5)))]) rfl (nI_5 i) (by decide) rfl dL_law_1204 ?_
            refine v_goto X (tgt := 18) dL_law_1207 (by decide) ?_
            exact ih18 (i + 5) I848 L848 hms hi5 hi52 hR2
          · exact absurd rfl h851
        · refine v_tableIn X dL_law_32 (by decide) (by decide) (off := 825) rfl (tgt := 857) (by decide) ?_
          refine v_aload_n X 1 rfl dL_law_857 ?_
          refine v_aload_n X 0 rfl dL_law_858 ?_
          refine v_iload_n X 3 rfl dL_law_859 ?_
          refine v_iconst X (v := (nI 1)) dL_law_860 (by decide) ?_
          refine v_iadd X dL_law_861 ?_
          refine v_eqi (y := (nI (i + 1))) (nI_add _ _) ?_
          refine v_sld X hX0 hbl hbA (by omega) (by omega) dL_law_862 ?_
          refine v_aload_n X 0 rfl dL_law_863 ?_
          refine v_iload_n X 3 rfl dL_law_864 ?_
          refine v_iconst X (v := (nI 2)) dL_law_865 (by decide) ?_
          refine v_iadd X dL_law_866 ?_
          refine v_eqi (y := (nI (i + 2))) (nI_add _ _) ?_
          refine v_sld X hX0 hbl hbA (by omega) (by omega) dL_law_867 ?_
          refine v_aload_n X 0 rfl dL_law_868 ?_
          refine v_iload_n X 3 rfl dL_law_869 ?_
          refine v_iconst X (v := (nI 3)) dL_law_870 (by decide) ?_
          refine v_iadd X dL_law_871 ?_
          refine v_eqi (y := (nI (i + 3))) (nI_add _ _) ?_
          refine v_sld X hX0 hbl hbA (by omega) (by omega) dL_law_872 ?_
          refine v_aload_n X 0 rfl dL_law_873 ?_
          refine v_iload_n X 3 rfl dL_law_874 ?_
          refine v_iconst X (v := (nI 4)) dL_law_875 (by decide) ?_
          refine v_iadd X dL_law_876 ?_
          refine v_eqi (y := (nI (i + 4))) (nI_add _ _) ?_
          refine v_sld X hX0 hbl hbA (by omega) (by omega) dL_law_877 ?_
          refine v_callV X (c_X5_family _ _ hE _ _ n ln sc kd pl wt hN.1 (xs (i + 1)) (xs (i + 2)) (xs (i + 3)) (xs (i + 4)) (told_c _)) k_L_96 dl_0 (cef_0 _ _ _ _) rfl ⟨rfl, rfl, Nat.le_of_ble_eq_true rfl, Nat.le_of_ble_eq_true rfl⟩ (As := [.int (xs (i + 1)), .int (xs (i + 2)), .int (xs (i + 3)), .int (xs (i + 4))]) (rest := []) rfl rfl (Nat.le_of_ble_eq_true rfl) dL_law_878 (fun r878 I878 L878 hp878 => ?_)
          obtain ⟨km, ⟨xr, rfl⟩, hk⟩ := J_family hR hN hp878
          refine v_st (st' := [.int xr]) rfl ?_
          refine v_aload_n X 2 rfl dL_law_881 ?_
          refine v_aload_n X 0 rfl dL_law_882 ?_
          refine v_iload_n X 3 rfl dL_law_883 ?_
          refine v_iconst X (v := (nI 1)) dL_law_884 (by decide) ?_
          refine v_iadd X dL_law_885 ?_
          refine v_eqi (y := (nI (i + 1))) (nI_add _ _) ?_
          refine v_sld X hX0 hbl hbA (by omega) (by omega) dL_law_886 ?_
          refine v_aload_n X 0 rfl dL_law_887 ?_
          refine v_iload_n X 3 rfl dL_law_888 ?_
          refine v_iconst X (v := (nI 2)) dL_law_889 (by decide) ?_
          refine v_iadd X dL_law_890 ?_
          refine v_eqi (y := (nI (i + 2))) (nI_add _ _) ?_
          refine v_sld X hX0 hbl hbA (by omega) (by omega) dL_law_891 ?_
          refine v_aload_n X 0 rfl dL_law_892 ?_
          refine v_iload_n X 3 rfl dL_law_893 ?_
          refine v_iconst X (v := (nI 3)) dL_law_894 (by decide) ?_
          refine v_iadd X dL_law_895 ?_
          refine v_eqi (y := (nI (i + 3))) (nI_add _ _) ?_
          refine v_sld X hX0 hbl hbA (by omega) (by omega) dL_law_896 ?_
          refine v_aload_n X 0 rfl dL_law_897 ?_
          refine v_iload_n X 3 rfl dL_law_898 ?_
          refine v_iconst X (v := (nI 4)) dL_law_899 (by decide) ?_
          refine v_iadd X dL_law_900 ?_
          refine v_eqi (y := (nI (i + 4))) (nI_add _ _) ?_
          refine v_sld X hX0 hbl hbA (by omega) (by omega) dL_law_901 ?_
          refine v_callV X (c_X6_family _ _ hE _ _ n ln sc kd pl wt (hN.2.km km) (xs (i + 1)) (xs (i + 2)) (xs (i + 3)) (xs (i + 4)) (told_c _)) k_L_99 dl_30 (cef_30 _ _ _ _) rfl ⟨rfl, rfl, Nat.le_of_ble_eq_true rfl, Nat.le_of_ble_eq_true rfl⟩ (As := [.int (xs (i + 1)), .int (xs (i + 2)), .int (xs (i + 3)), .int (xs (i + 4))]) (rest := [.int xr]) rfl rfl (Nat.le_of_ble_eq_true rfl) dL_law_902 (fun r902 I902 L902 hp902 => ?_)
          obtain ⟨er, hR2⟩ := hk _ _ _ hp902
          subst er
          refine v_st (st' := [.int xr, .int xr]) rfl ?_
          refine v_icmp_eq X dL_law_905 (tgt := 1204) (by decide) (fun h905 => ?_) (fun h905 => ?_)
          · refine v_iinc X [1, 2, 3, 0] 3 (nI (i + 5)) (lv' := [(0, .ref b), (1, .ref (eA (vE a) 0 0)), (2, .ref (eA (vE a) 30 0)), (3, .int (nI (i + 5)))]) rfl (nI_5 i) (by decide) rfl dL_law_1204 ?_
            refine v_goto X (tgt := 18) dL_law_1207 (by decide) ?_
            exact ih18 (i + 5) I902 L902 hms hi5 hi52 hR2
          · exact absurd rfl h905
        · refine v_tableIn X dL_law_32 (by decide) (by decide) (off := 878) rfl (tgt := 910) (by decide) ?_
          refine v_aload_n X 1 rfl dL_law_910 ?_
          refine v_callV X (c_X5_unnet _ _ hE _ _ n hN.1.1 hN.1.2.1 ) k_L_100 dl_0 (cef_0 _ _ _ _) rfl ⟨rfl, rfl, Nat.le_of_ble_eq_true rfl, Nat.le_of_ble_eq_true rfl⟩ (As := []) (rest := []) rfl rfl (Nat.le_of_ble_eq_true rfl) dL_law_911 (fun r911 I911 L911 hp911 => ?_)
          obtain ⟨km, ⟨xr, rfl⟩, hk⟩ := J_unnet hR hN hp911
          refine v_st (st' := [.int xr]) rfl ?_
          refine v_aload_n X 2 rfl dL_law_914 ?_
          refine v_callV X (c_X6_unnet _ _ hE _ _ n (hN.2.km km).1 (hN.2.km km).2.1 ) k_L_103 dl_30 (cef_30 _ _ _ _) rfl ⟨rfl, rfl, Nat.le_of_ble_eq_true rfl, Nat.le_of_ble_eq_true rfl⟩ (As := []) (rest := [.int xr]) rfl rfl (Nat.le_of_ble_eq_true rfl) dL_law_915 (fun r915 I915 L915 hp915 => ?_)
          obtain ⟨er, hR2⟩ := hk _ _ _ hp915
          subst er
          refine v_st (st' := [.int xr, .int xr]) rfl ?_
          refine v_icmp_eq X dL_law_918 (tgt := 1204) (by decide) (fun h918 => ?_) (fun h918 => ?_)
          · refine v_iinc X [1, 2, 3, 0] 3 (nI (i + 5)) (lv' := [(0, .ref b), (1, .ref (eA (vE a) 0 0)), (2, .ref (eA (vE a) 30 0)), (3, .int (nI (i + 5)))]) rfl (nI_5 i) (by decide) rfl dL_law_1204 ?_
            refine v_goto X (tgt := 18) dL_law_1207 (by decide) ?_
            exact ih18 (i + 5) I915 L915 hms hi5 hi52 hR2
          · exact absurd rfl h918
        · refine v_tableIn X dL_law_32 (by decide) (by decide) (off := 891) rfl (tgt := 923) (by decide) ?_
          refine v_aload_n X 1 rfl dL_law_923 ?_
          refine v_aload_n X 0 rfl dL_law_924 ?_
          refine v_iload_n X 3 rfl dL_law_925 ?_
          refine v_iconst X (v := (nI 1)) dL_law_926 (by decide) ?_
          refine v_iadd X dL_law_927 ?_
          refine v_eqi (y := (nI (i + 1))) (nI_add _ _) ?_
          refine v_sld X hX0 hbl hbA (by omega) (by omega) dL_law_928 ?_
          refine v_aload_n X 0 rfl dL_law_929 ?_
          refine v_iload_n X 3 rfl dL_law_930 ?_
          refine v_iconst X (v := (nI 2)) dL_law_931 (by decide) ?_
          refine v_iadd X dL_law_932 ?_
          refine v_eqi (y := (nI (i + 2))) (nI_add _ _) ?_
          refine v_sld X hX0 hbl hbA (by omega) (by omega) dL_law_933 ?_
          refine v_callV X (c_X5_tell _ _ hE _ _ h hW.2.1 hW.1 (xs (i + 1)) (xs (i + 2))) k_L_104 dl_0 (cef_0 _ _ _ _) rfl ⟨rfl, rfl, Nat.le_of_ble_eq_true rfl, Nat.le_of_ble_eq_true rfl⟩ (As := [.int (xs (i + 1)), .int (xs (i + 2))]) (rest := []) rfl rfl (Nat.le_of_ble_eq_true rfl) dL_law_934 (fun r934 I934 L934 hp934 => ?_)
          obtain ⟨km, ⟨xr, rfl⟩, hk⟩ := J_tell hR hW hp934
          refine v_st (st' := [.int xr]) rfl ?_
          refine v_aload_n X 2 rfl dL_law_937 ?_
          refine v_aload_n X 0 rfl dL_law_938 ?_
          refine v_iload_n X 3 rfl dL_law_939 ?_
          refine v_iconst X (v := (nI 1)) dL_law_940 (by decide) ?_
          refine v_iadd X dL_law_941 ?_
          refine v_eqi (y := (nI (i + 1))) (nI_add _ _) ?_
          refine v_sld X hX0 hbl hbA (by omega) (by omega) dL_law_942 ?_
          refine v_aload_n X 0 rfl dL_law_943 ?_
          refine v_iload_n X 3 rfl dL_law_944 ?_
          refine v_iconst X (v := (nI 2)) dL_law_945 (by decide) ?_
          refine v_iadd X dL_law_946 ?_
          refine v_eqi (y := (nI (i + 2))) (nI_add _ _) ?_
          refine v_sld X hX0 hbl hbA (by omega) (by omega) dL_law_947 ?_
          refine v_callV X (c_X6_tell _ _ hE _ _ h ((congrFun (km.1 30 0 (by decide)) 24).trans hW.2.2.1) hW.1 (xs (i + 1)) (xs (i + 2))) k_L_107 dl_30 (cef_30 _ _ _ _) rfl ⟨rfl, rfl, Nat.le_of_ble_eq_true rfl, Nat.le_of_ble_eq_true rfl⟩ (As := [.int (xs (i + 1)), .int (xs (i + 2))]) (rest := [.int xr]) rfl rfl (Nat.le_of_ble_eq_true rfl) dL_law_948 (fun r948 I948 L948 hp948 => ?_)
          obtain ⟨er, hR2⟩ := hk _ _ _ hp948
          subst er
          refine v_st (st' := [.int xr, .int xr]) rfl ?_
          refine v_icmp_eq X dL_law_951 (tgt := 1204) (by decide) (fun h951 => ?_) (fun h951 => ?_)
          · refine v_iinc X [1, 2, 3, 0] 3 (nI (i + 5)) (lv' := [(0, .ref b), (1, .ref (eA (vE a) 0 0)), (2, .ref (eA (vE a) 30 0)), (3, .int (nI (i + 5)))]) rfl (nI_5 i) (by decide) rfl dL_law_1204 ?_
            refine v_goto X (tgt := 18) dL_law_1207 (by decide) ?_
            exact ih18 (i + 5) I948 L948 hms hi5 hi52 hR2
          · exact absurd rfl h951
        · refine v_tableIn X dL_law_32 (by decide) (by decide) (off := 924) rfl (tgt := 956) (by decide) ?_
          refine v_aload_n X 1 rfl dL_law_956 ?_
          refine v_aload_n X 0 rfl dL_law_957 ?_
          refine v_iload_n X 3 rfl dL_law_958 ?_
          refine v_iconst X (v := (nI 1)) dL_law_959 (by decide) ?_
          refine v_iadd X dL_law_960 ?_
          refine v_eqi (y := (nI (i + 1))) (nI_add _ _) ?_
          refine v_sld X hX0 hbl hbA (by omega) (by omega) dL_law_961 ?_
          refine v_callV X (c_X5_changes _ _ hE _ _ c ro co hT.1 h hW.2.1 hW.1 (xs (i + 1))) k_L_108 dl_0 (cef_0 _ _ _ _) rfl ⟨rfl, rfl, Nat.le_of_ble_eq_true rfl, Nat.le_of_ble_eq_true rfl⟩ (As := [.int (xs (i + 1))]) (rest := []) rfl rfl (Nat.le_of_ble_eq_true rfl) dL_law_962 (fun r962 I962 L962 hp962 => ?_)
          obtain ⟨km, ⟨xr, rfl⟩, hk⟩ := J_changes hR hT hW hp962
          refine v_st (st' := [.int xr]) rfl ?_
          refine v_aload_n X 2 rfl dL_law_965 ?_
          refine v_aload_n X 0 rfl dL_law_966 ?_
          refine v_iload_n X 3 rfl dL_law_967 ?_
          refine v_iconst X (v := (nI 1)) dL_law_968 (by decide) ?_
          refine v_iadd X dL_law_969 ?_
          refine v_eqi (y := (nI (i + 1))) (nI_add _ _) ?_
          refine v_sld X hX0 hbl hbA (by omega) (by omega) dL_law_970 ?_
          refine v_callV X (c_X6_changes _ _ hE _ _ c ro co (hT.2.1.km km) h ((congrFun (km.1 30 0 (by decide)) 24).trans hW.2.2.1) hW.1 (xs (i + 1))) k_L_111 dl_30 (cef_30 _ _ _ _) rfl ⟨rfl, rfl, Nat.le_of_ble_eq_true rfl, Nat.le_of_ble_eq_true rfl⟩ (As := [.int (xs (i + 1))]) (rest := [.int xr]) rfl rfl (Nat.le_of_ble_eq_true rfl) dL_law_971 (fun r971 I971 L971 hp971 => ?_)
          obtain ⟨er, hR2⟩ := hk _ _ _ hp971
          subst er
          refine v_st (st' := [.int xr, .int xr]) rfl ?_
          refine v_icmp_eq X dL_law_974 (tgt := 1204) (by decide) (fun h974 => ?_) (fun h974 => ?_)
          · refine v_iinc X [1, 2, 3, 0] 3 (nI (i + 5)) (lv' := [(0, .ref b), (1, .ref (eA (vE a) 0 0)), (2, .ref (eA (vE a) 30 0)), (3, .int (nI (i + 5)))]) rfl (nI_5 i) (by decide) rfl dL_law_1204 ?_
            refine v_goto X (tgt := 18) dL_law_1207 (by decide) ?_
            exact ih18 (i + 5) I971 L971 hms hi5 hi52 hR2
          · exact absurd rfl h974
        · refine v_tableIn X dL_law_32 (by decide) (by decide) (off := 947) rfl (tgt := 979) (by decide) ?_
          refine v_aload_n X 1 rfl dL_law_979 ?_
          refine v_aload_n X 0 rfl dL_law_980 ?_
          refine v_iload_n X 3 rfl dL_law_981 ?_
          refine v_iconst X (v := (nI 1)) dL_law_982 (by decide) ?_
          refine v_iadd X dL_law_983 ?_
          refine v_eqi (y := (nI (i + 1))) (nI_add _ _) ?_
          refine v_sld X hX0 hbl hbA (by omega) (by omega) dL_law_984 ?_
          refine v_aload_n X 0 rfl dL_law_985 ?_
          refine v_iload_n X 3 rfl dL_law_986 ?_
          refine v_iconst X (v := (nI 2)) dL_law_987 (by decide) ?_
          refine v_iadd X dL_law_988 ?_
          refine v_eqi (y := (nI (i + 2))) (nI_add _ _) ?_
          refine v_sld X hX0 hbl hbA (by omega) (by omega) dL_law_989 ?_
          refine v_callV X (c_X5_band _ _ hE _ _ c hT.1.1 hT.1.2.1 h hW.2.1 hW.1 (xs (i + 1)) (xs (i + 2))) k_L_112 dl_0 (cef_0 _ _ _ _) rfl ⟨rfl, rfl, Nat.le_of_ble_eq_true rfl, Nat.le_of_ble_eq_true rfl⟩ (As := [.int (xs (i + 1)), .int (xs (i + 2))]) (rest := []) rfl rfl (Nat.le_of_ble_eq_true rfl) dL_law_990 (fun r990 I990 L990 hp990 => ?_)
          obtain ⟨km, ⟨xr, rfl⟩, hk⟩ := J_band hT hX hW hp990
          refine v_st (st' := [.int xr]) rfl ?_
          refine v_aload_n X 2 rfl dL_law_993 ?_
          refine v_aload_n X 0 rfl dL_law_994 ?_
          refine v_iload_n X 3 rfl dL_law_995 ?_
          refine v_iconst X (v := (nI 1)) dL_law_996 (by decide) ?_
          refine v_iadd X dL_law_997 ?_
          refine v_eqi (y := (nI (i + 1))) (nI_add _ _) ?_
          refine v_sld X hX0 hbl hbA (by omega) (by omega) dL_law_998 ?_
          refine v_aload_n X 0 rfl dL_law_999 ?_
          refine v_iload_n X 3 rfl dL_law_1000 ?_
          refine v_iconst X (v := (nI 2)) dL_law_1001 (by decide) ?_
          refine v_iadd X dL_law_1002 ?_
          refine v_eqi (y := (nI (i + 2))) (nI_add _ _) ?_
          refine v_sld X hX0 hbl hbA (by omega) (by omega) dL_law_1003 ?_
          refine v_callV X (c_X6_band _ _ hE _ _ c ro co (hT.2.1.km km) h ((congrFun (km.1 30 0 (by decide)) 24).trans hW.2.2.1) hW.1 (xs (i + 1)) (xs (i + 2))) k_L_115 dl_30 (cef_30 _ _ _ _) rfl ⟨rfl, rfl, Nat.le_of_ble_eq_true rfl, Nat.le_of_ble_eq_true rfl⟩ (As := [.int (xs (i + 1)), .int (xs (i + 2))]) (rest := [.int xr]) rfl rfl (Nat.le_of_ble_eq_true rfl) dL_law_1004 (fun r1004 I1004 L1004 hp1004 => ?_)
          obtain ⟨er, hR2⟩ := hk _ _ _ hp1004
          subst er
          refine v_st (st' := [.int xr, .int xr]) rfl ?_
          refine v_icmp_eq X dL_law_1007 (tgt := 1204) (by decide) (fun h1007 => ?_) (fun h1007 => ?_)
          · refine v_iinc X [1, 2, 3, 0] 3 (nI (i + 5)) (lv' := [(0, .ref b), (1, .ref (eA (vE a) 0 0)), (2, .ref (eA (vE a) 30 0)), (3, .int (nI (i + 5)))]) rfl (nI_5 i) (by decide) rfl dL_law_1204 ?_
            refine v_goto X (tgt := 18) dL_law_1207 (by decide) ?_
            exact ih18 (i + 5) I1004 L1004 hms hi5 hi52 hR2
          · exact absurd rfl h1007
        · refine v_tableIn X dL_law_32 (by decide) (by decide) (off := 980) rfl (tgt := 1012) (by decide) ?_
          refine v_aload_n X 1 rfl dL_law_1012 ?_
          refine v_aload_n X 0 rfl dL_law_1013 ?_
          refine v_iload_n X 3 rfl dL_law_1014 ?_
          refine v_iconst X (v := (nI 1)) dL_law_1015 (by decide) ?_
          refine v_iadd X dL_law_1016 ?_
          refine v_eqi (y := (nI (i + 1))) (nI_add _ _) ?_
          refine v_sld X hX0 hbl hbA (by omega) (by omega) dL_law_1017 ?_
          refine v_callV X (c_X5_make _ _ hE _ _ c ro co hT.1 (xs (i + 1)) (hbdC hT)) k_L_116 dl_0 (cef_0 _ _ _ _) rfl ⟨rfl, rfl, Nat.le_of_ble_eq_true rfl, Nat.le_of_ble_eq_true rfl⟩ (As := [.int (xs (i + 1))]) (rest := []) rfl rfl (Nat.le_of_ble_eq_true rfl) dL_law_1018 (fun r1018 I1018 L1018 hp1018 => ?_)
          obtain ⟨km, ⟨xr, rfl⟩, hk⟩ := J_make hR hT hp1018
          refine v_st (st' := [.int xr]) rfl ?_
          refine v_aload_n X 2 rfl dL_law_1021 ?_
          refine v_aload_n X 0 rfl dL_law_1022 ?_
          refine v_iload_n X 3 rfl dL_law_1023 ?_
          refine v_iconst X (v := (nI 1)) dL_law_1024 (by decide) ?_
          refine v_iadd X dL_law_1025 ?_
          refine v_eqi (y := (nI (i + 1))) (nI_add _ _) ?_
          refine v_sld X hX0 hbl hbA (by omega) (by omega) dL_law_1026 ?_
          refine v_callV X (c_X6_make _ _ hE _ _ c ro co (hT.2.1.km km) (xs (i + 1)) (hbdM hT km)) k_L_119 dl_30 (cef_30 _ _ _ _) rfl ⟨rfl, rfl, Nat.le_of_ble_eq_true rfl, Nat.le_of_ble_eq_true rfl⟩ (As := [.int (xs (i + 1))]) (rest := [.int xr]) rfl rfl (Nat.le_of_ble_eq_true rfl) dL_law_1027 (fun r1027 I1027 L1027 hp1027 => ?_)
          obtain ⟨er, hR2⟩ := hk _ _ _ hp1027
          subst er
          refine v_st (st' := [.int xr, .int xr]) rfl ?_
          refine v_icmp_eq X dL_law_1030 (tgt := 1204) (by decide) (fun h1030 => ?_) (fun h1030 => ?_)
          · refine v_iinc X [1, 2, 3, 0] 3 (nI (i + 5)) (lv' := [(0, .ref b), (1, .ref (eA (vE a) 0 0)), (2, .ref (eA (vE a) 30 0)), (3, .int (nI (i + 5)))]) rfl (nI_5 i) (by decide) rfl dL_law_1204 ?_
            refine v_goto X (tgt := 18) dL_law_1207 (by decide) ?_
            exact ih18 (i + 5) I1027 L1027 hms hi5 hi52 hR2
          · exact absurd rfl h1030
        · refine v_tableIn X dL_law_32 (by decide) (by decide) (off := 1003) rfl (tgt := 1035) (by decide) ?_
          refine v_aload_n X 1 rfl dL_law_1035 ?_
          refine v_aload_n X 0 rfl dL_law_1036 ?_
          refine v_iload_n X 3 rfl dL_law_1037 ?_
          refine v_iconst X (v := (nI 1)) dL_law_1038 (by decide) ?_
          refine v_iadd X dL_law_1039 ?_
          refine v_eqi (y := (nI (i + 1))) (nI_add _ _) ?_
          refine v_sld X hX0 hbl hbA (by omega) (by omega) dL_law_1040 ?_
          refine v_aload_n X 0 rfl dL_law_1041 ?_
          refine v_iload_n X 3 rfl dL_law_1042 ?_
          refine v_iconst X (v := (nI 2)) dL_law_1043 (by decide) ?_
          refine v_iadd X dL_law_1044 ?_
          refine v_eqi (y := (nI (i + 2))) (nI_add _ _) ?_
          refine v_sld X hX0 hbl hbA (by omega) (by omega) dL_law_1045 ?_
          refine v_callV X (c_X5_making _ _ hE _ _ S hS.1 hS.2.2 (xs (i + 1)) (xs (i + 2))) k_L_120 dl_0 (cef_0 _ _ _ _) rfl ⟨rfl, rfl, Nat.le_of_ble_eq_true rfl, Nat.le_of_ble_eq_true rfl⟩ (As := [.int (xs (i + 1)), .int (xs (i + 2))]) (rest := []) rfl rfl (Nat.le_of_ble_eq_true rfl) dL_law_1046 (fun r1046 I1046 L1046 hp1046 => ?_)
          obtain ⟨km, ⟨xr, rfl⟩, hk⟩ := J_making hR hS hp1046
          refine v_st (st' := [.long xr]) rfl ?_
          refine v_aload_n X 2 rfl dL_law_1049 ?_
          refine v_aload_n X 0 rfl dL_law_1050 ?_
          refine v_iload_n X 3 rfl dL_law_1051 ?_
          refine v_iconst X (v := (nI 1)) dL_law_1052 (by decide) ?_
          refine v_iadd X dL_law_1053 ?_
          refine v_eqi (y := (nI (i + 1))) (nI_add _ _) ?_
          refine v_sld X hX0 hbl hbA (by omega) (by omega) dL_law_1054 ?_
          refine v_aload_n X 0 rfl dL_law_1055 ?_
          refine v_iload_n X 3 rfl dL_law_1056 ?_
          refine v_iconst X (v := (nI 2)) dL_law_1057 (by decide) ?_
          refine v_iadd X dL_law_1058 ?_
          refine v_eqi (y := (nI (i + 2))) (nI_add _ _) ?_
          refine v_sld X hX0 hbl hbA (by omega) (by omega) dL_law_1059 ?_
          refine v_callV X (c_X6_making _ _ hE _ _ S (hS.2.1.km km) hS.2.2 (xs (i + 1)) (xs (i + 2))) k_L_124 dl_30 (cef_30 _ _ _ _) rfl ⟨rfl, rfl, Nat.le_of_ble_eq_true rfl, Nat.le_of_ble_eq_true rfl⟩ (As := [.int (xs (i + 1)), .int (xs (i + 2))]) (rest := [.long xr]) rfl rfl (Nat.le_of_ble_eq_true rfl) dL_law_1060 (fun r1060 I1060 L1060 hp1060 => ?_)
          obtain ⟨er, hR2⟩ := hk _ _ _ hp1060
          subst er
          refine v_st (st' := [.long xr, .long xr]) rfl ?_
          refine v_lcmp_eq X dL_law_1063 dL_law_1064 (tgt := 1204) (by decide) (fun h1063 => ?_) (fun h1063 => ?_)
          · refine v_iinc X [1, 2, 3, 0] 3 (nI (i + 5)) (lv' := [(0, .ref b), (1, .ref (eA (vE a) 0 0)), (2, .ref (eA (vE a) 30 0)), (3, .int (nI (i + 5)))]) rfl (nI_5 i) (by decide) rfl dL_law_1204 ?_
            refine v_goto X (tgt := 18) dL_law_1207 (by decide) ?_
            exact ih18 (i + 5) I1060 L1060 hms hi5 hi52 hR2
          · exact absurd rfl h1063
        · refine v_tableIn X dL_law_32 (by decide) (by decide) (off := 1037) rfl (tgt := 1069) (by decide) ?_
          refine v_aload_n X 1 rfl dL_law_1069 ?_
          refine v_aload_n X 0 rfl dL_law_1070 ?_
          refine v_iload_n X 3 rfl dL_law_1071 ?_
          refine v_iconst X (v := (nI 1)) dL_law_1072 (by decide) ?_
          refine v_iadd X dL_law_1073 ?_
          refine v_eqi (y := (nI (i + 1))) (nI_add _ _) ?_
          refine v_sld X hX0 hbl hbA (by omega) (by omega) dL_law_1074 ?_
          refine v_aload_n X 0 rfl dL_law_1075 ?_
          refine v_iload_n X 3 rfl dL_law_1076 ?_
          refine v_iconst X (v := (nI 2)) dL_law_1077 (by decide) ?_
          refine v_iadd X dL_law_1078 ?_
          refine v_eqi (y := (nI (i + 2))) (nI_add _ _) ?_
          refine v_sld X hX0 hbl hbA (by omega) (by omega) dL_law_1079 ?_
          refine v_callV X (c_X5_lay _ _ hE _ _ c ro co hT.1 (xs (i + 1)) (xs (i + 2))) k_L_125 dl_0 (cef_0 _ _ _ _) rfl ⟨rfl, rfl, Nat.le_of_ble_eq_true rfl, Nat.le_of_ble_eq_true rfl⟩ (As := [.int (xs (i + 1)), .int (xs (i + 2))]) (rest := []) rfl rfl (Nat.le_of_ble_eq_true rfl) dL_law_1080 (fun r1080 I1080 L1080 hp1080 => ?_)
          obtain ⟨km, ⟨xr, rfl⟩, hk⟩ := J_lay hR hT hp1080
          refine v_st (st' := [.int xr]) rfl ?_
          refine v_aload_n X 2 rfl dL_law_1083 ?_
          refine v_aload_n X 0 rfl dL_law_1084 ?_
          refine v_iload_n X 3 rfl dL_law_1085 ?_
          refine v_iconst X (v := (nI 1)) dL_law_1086 (by decide) ?_
          refine v_iadd X dL_law_1087 ?_
          refine v_eqi (y := (nI (i + 1))) (nI_add _ _) ?_
          refine v_sld X hX0 hbl hbA (by omega) (by omega) dL_law_1088 ?_
          refine v_aload_n X 0 rfl dL_law_1089 ?_
          refine v_iload_n X 3 rfl dL_law_1090 ?_
          refine v_iconst X (v := (nI 2)) dL_law_1091 (by decide) ?_
          refine v_iadd X dL_law_1092 ?_
          refine v_eqi (y := (nI (i + 2))) (nI_add _ _) ?_
          refine v_sld X hX0 hbl hbA (by omega) (by omega) dL_law_1093 ?_
          refine v_callV X (c_X6_lay _ _ hE _ _ c ro co (hT.2.1.km km) (xs (i + 1)) (xs (i + 2))) k_L_128 dl_30 (cef_30 _ _ _ _) rfl ⟨rfl, rfl, Nat.le_of_ble_eq_true rfl, Nat.le_of_ble_eq_true rfl⟩ (As := [.int (xs (i + 1)), .int (xs (i + 2))]) (rest := [.int xr]) rfl rfl (Nat.le_of_ble_eq_true rfl) dL_law_1094 (fun r1094 I1094 L1094 hp1094 => ?_)
          obtain ⟨er, hR2⟩ := hk _ _ _ hp1094
          subst er
          refine v_st (st' := [.int xr, .int xr]) rfl ?_
          refine v_icmp_eq X dL_law_1097 (tgt := 1204) (by decide) (fun h1097 => ?_) (fun h1097 => ?_)
          · refine v_iinc X [1, 2, 3, 0] 3 (nI (i + 5)) (lv' := [(0, .ref b), (1, .ref (eA (vE a) 0 0)), (2, .ref (eA (vE a) 30 0)), (3, .int (nI (i + 5)))]) rfl (nI_5 i) (by decide) rfl dL_law_1204 ?_
            refine v_goto X (tgt := 18) dL_law_1207 (by decide) ?_
            exact ih18 (i + 5) I1094 L1094 hms hi5 hi52 hR2
          · exact absurd rfl h1097
        · refine v_tableIn X dL_law_32 (by decide) (by decide) (off := 1070) rfl (tgt := 1102) (by decide) ?_
          refine v_aload_n X 1 rfl dL_law_1102 ?_
          refine v_callV X (c_X5_tear _ _ hE _ _ h hW.2.1 hW.1 ) k_L_129 dl_0 (cef_0 _ _ _ _) rfl ⟨rfl, rfl, Nat.le_of_ble_eq_true rfl, Nat.le_of_ble_eq_true rfl⟩ (As := []) (rest := []) rfl rfl (Nat.le_of_ble_eq_true rfl) dL_law_1103 (fun r1103 I1103 L1103 hp1103 => ?_)
          obtain ⟨km, ⟨xr, rfl⟩, hk⟩ := J_tear hR hp1103
          refine v_st (st' := [.int xr]) rfl ?_
          refine v_aload_n X 2 rfl dL_law_1106 ?_
          refine v_callV X (c_X6_tear _ _ hE _ _ h ((congrFun (km.1 30 0 (by decide)) 24).trans hW.2.2.1) hW.1 ) k_L_132 dl_30 (cef_30 _ _ _ _) rfl ⟨rfl, rfl, Nat.le_of_ble_eq_true rfl, Nat.le_of_ble_eq_true rfl⟩ (As := []) (rest := [.int xr]) rfl rfl (Nat.le_of_ble_eq_true rfl) dL_law_1107 (fun r1107 I1107 L1107 hp1107 => ?_)
          obtain ⟨er, hR2⟩ := hk _ _ _ hp1107
          subst er
          refine v_st (st' := [.int xr, .int xr]) rfl ?_
          refine v_icmp_eq X dL_law_1110 (tgt := 1204) (by decide) (fun h1110 => ?_) (fun h1110 => ?_)
          · refine v_iinc X [1, 2, 3, 0] 3 (nI (i + 5)) (lv' := [(0, .ref b), (1, .ref (eA (vE a) 0 0)), (2, .ref (eA (vE a) 30 0)), (3, .int (nI (i + 5)))]) rfl (nI_5 i) (by decide) rfl dL_law_1204 ?_
            refine v_goto X (tgt := 18) dL_law_1207 (by decide) ?_
            exact ih18 (i + 5) I1107 L1107 hms hi5 hi52 hR2
          · exact absurd rfl h1110
        · refine v_tableIn X dL_law_32 (by decide) (by decide) (off := 1083) rfl (tgt := 1115) (by decide) ?_
          refine v_aload_n X 1 rfl dL_law_1115 ?_
          refine v_aload_n X 0 rfl dL_law_1116 ?_
          refine v_iload_n X 3 rfl dL_law_1117 ?_
          refine v_iconst X (v := (nI 1)) dL_law_1118 (by decide) ?_
          refine v_iadd X dL_law_1119 ?_
          refine v_eqi (y := (nI (i + 1))) (nI_add _ _) ?_
          refine v_sld X hX0 hbl hbA (by omega) (by omega) dL_law_1120 ?_
          refine v_callV X (c_X5_row _ _ hE _ _ h hW.2.1 hW.1 (xs (i + 1))) k_L_133 dl_0 (cef_0 _ _ _ _) rfl ⟨rfl, rfl, Nat.le_of_ble_eq_true rfl, Nat.le_of_ble_eq_true rfl⟩ (As := [.int (xs (i + 1))]) (rest := []) rfl rfl (Nat.le_of_ble_eq_true rfl) dL_law_1121 (fun r1121 I1121 L1121 hp1121 => ?_)
          obtain ⟨km, ⟨xr, rfl⟩, hk⟩ := J_row hR hW hp1121
          refine v_st (st' := [.int xr]) rfl ?_
          refine v_aload_n X 2 rfl dL_law_1124 ?_
          refine v_aload_n X 0 rfl dL_law_1125 ?_
          refine v_iload_n X 3 rfl dL_law_1126 ?_
          refine v_iconst X (v := (nI 1)) dL_law_1127 (by decide) ?_
          refine v_iadd X dL_law_1128 ?_
          refine v_eqi (y := (nI (i + 1))) (nI_add _ _) ?_
          refine v_sld X hX0 hbl hbA (by omega) (by omega) dL_law_1129 ?_
          refine v_callV X (c_X6_row _ _ hE _ _ h ((congrFun (km.1 30 0 (by decide)) 24).trans hW.2.2.1) hW.1 (xs (i + 1))) k_L_136 dl_30 (cef_30 _ _ _ _) rfl ⟨rfl, rfl, Nat.le_of_ble_eq_true rfl, Nat.le_of_ble_eq_true rfl⟩ (As := [.int (xs (i + 1))]) (rest := [.int xr]) rfl rfl (Nat.le_of_ble_eq_true rfl) dL_law_1130 (fun r1130 I1130 L1130 hp1130 => ?_)
          obtain ⟨er, hR2⟩ := hk _ _ _ hp1130
          subst er
          refine v_st (st' := [.int xr, .int xr]) rfl ?_
          refine v_icmp_eq X dL_law_1133 (tgt := 1204) (by decide) (fun h1133 => ?_) (fun h1133 => ?_)
          · refine v_iinc X [1, 2, 3, 0] 3 (nI (i + 5)) (lv' := [(0, .ref b), (1, .ref (eA (vE a) 0 0)), (2, .ref (eA (vE a) 30 0)), (3, .int (nI (i + 5)))]) rfl (nI_5 i) (by decide) rfl dL_law_1204 ?_
            refine v_goto X (tgt := 18) dL_law_1207 (by decide) ?_
            exact ih18 (i + 5) I1130 L1130 hms hi5 hi52 hR2
          · exact absurd rfl h1133
        · refine v_tableIn X dL_law_32 (by decide) (by decide) (off := 1106) rfl (tgt := 1138) (by decide) ?_
          refine v_aload_n X 1 rfl dL_law_1138 ?_
          refine v_aload_n X 0 rfl dL_law_1139 ?_
          refine v_iload_n X 3 rfl dL_law_1140 ?_
          refine v_iconst X (v := (nI 1)) dL_law_1141 (by decide) ?_
          refine v_iadd X dL_law_1142 ?_
          refine v_eqi (y := (nI (i + 1))) (nI_add _ _) ?_
          refine v_sld X hX0 hbl hbA (by omega) (by omega) dL_law_1143 ?_
          refine v_aload_n X 0 rfl dL_law_1144 ?_
          refine v_iload_n X 3 rfl dL_law_1145 ?_
          refine v_iconst X (v := (nI 2)) dL_law_1146 (by decide) ?_
          refine v_iadd X dL_law_1147 ?_
          refine v_eqi (y := (nI (i + 2))) (nI_add _ _) ?_
          refine v_sld X hX0 hbl hbA (by omega) (by omega) dL_law_1148 ?_
          refine v_aload_n X 0 rfl dL_law_1149 ?_
          refine v_iload_n X 3 rfl dL_law_1150 ?_
          refine v_iconst X (v := (nI 3)) dL_law_1151 (by decide) ?_
          refine v_iadd X dL_law_1152 ?_
          refine v_eqi (y := (nI (i + 3))) (nI_add _ _) ?_
          refine v_sld X hX0 hbl hbA (by omega) (by omega) dL_law_1153 ?_
          refine v_callV X (c_X5_copy _ _ hE _ _ h hW.2.1 hW.1 (xs (i + 1)) (xs (i + 2)) (xs (i + 3))) k_L_137 dl_0 (cef_0 _ _ _ _) rfl ⟨rfl, rfl, Nat.le_of_ble_eq_true rfl, Nat.le_of_ble_eq_true rfl⟩ (As := [.int (xs (i + 1)), .int (xs (i + 2)), .int (xs (i + 3))]) (rest := []) rfl rfl (Nat.le_of_ble_eq_true rfl) dL_law_1154 (fun r1154 I1154 L1154 hp1154 => ?_)
          obtain ⟨km, ⟨xr, rfl⟩, hk⟩ := J_copy hR hW hp1154
          refine v_st (st' := [.int xr]) rfl ?_
          refine v_aload_n X 2 rfl dL_law_1157 ?_
          refine v_aload_n X 0 rfl dL_law_1158 ?_
          refine v_iload_n X 3 rfl dL_law_1159 ?_
          refine v_iconst X (v := (nI 1)) dL_law_1160 (by decide) ?_
          refine v_iadd X dL_law_1161 ?_
          refine v_eqi (y := (nI (i + 1))) (nI_add _ _) ?_
          refine v_sld X hX0 hbl hbA (by omega) (by omega) dL_law_1162 ?_
          refine v_aload_n X 0 rfl dL_law_1163 ?_
          refine v_iload_n X 3 rfl dL_law_1164 ?_
          refine v_iconst X (v := (nI 2)) dL_law_1165 (by decide) ?_
          refine v_iadd X dL_law_1166 ?_
          refine v_eqi (y := (nI (i + 2))) (nI_add _ _) ?_
          refine v_sld X hX0 hbl hbA (by omega) (by omega) dL_law_1167 ?_
          refine v_aload_n X 0 rfl dL_law_1168 ?_
          refine v_iload_n X 3 rfl dL_law_1169 ?_
          refine v_iconst X (v := (nI 3)) dL_law_1170 (by decide) ?_
          refine v_iadd X dL_law_1171 ?_
          refine v_eqi (y := (nI (i + 3))) (nI_add _ _) ?_
          refine v_sld X hX0 hbl hbA (by omega) (by omega) dL_law_1172 ?_
          refine v_callV X (c_X6_copy _ _ hE _ _ h ((congrFun (km.1 30 0 (by decide)) 24).trans hW.2.2.1) hW.1 (xs (i + 1)) (xs (i + 2)) (xs (i + 3))) k_L_140 dl_30 (cef_30 _ _ _ _) rfl ⟨rfl, rfl, Nat.le_of_ble_eq_true rfl, Nat.le_of_ble_eq_true rfl⟩ (As := [.int (xs (i + 1)), .int (xs (i + 2)), .int (xs (i + 3))]) (rest := [.int xr]) rfl rfl (Nat.le_of_ble_eq_true rfl) dL_law_1173 (fun r1173 I1173 L1173 hp1173 => ?_)
          obtain ⟨er, hR2⟩ := hk _ _ _ hp1173
          subst er
          refine v_st (st' := [.int xr, .int xr]) rfl ?_
          refine v_icmp_eq X dL_law_1176 (tgt := 1204) (by decide) (fun h1176 => ?_) (fun h1176 => ?_)
          · refine v_iinc X [1, 2, 3, 0] 3 (nI (i + 5)) (lv' := [(0, .ref b), (1, .ref (eA (vE a) 0 0)), (2, .ref (eA (vE a) 30 0)), (3, .int (nI (i + 5)))]) rfl (nI_5 i) (by decide) rfl dL_law_1204 ?_
            refine v_goto X (tgt := 18) dL_law_1207 (by decide) ?_
            exact ih18 (i + 5) I1173 L1173 hms hi5 hi52 hR2
          · exact absurd rfl h1176
        · refine v_tableIn X dL_law_32 (by decide) (by decide) (off := 1149) rfl (tgt := 1181) (by decide) ?_
          refine v_aload_n X 1 rfl dL_law_1181 ?_
          refine v_aload_n X 0 rfl dL_law_1182 ?_
          refine v_iload_n X 3 rfl dL_law_1183 ?_
          refine v_iconst X (v := (nI 1)) dL_law_1184 (by decide) ?_
          refine v_iadd X dL_law_1185 ?_
          refine v_eqi (y := (nI (i + 1))) (nI_add _ _) ?_
          refine v_sld X hX0 hbl hbA (by omega) (by omega) dL_law_1186 ?_
          refine v_callV X (c_X5_status _ _ hE _ _  (xs (i + 1))) k_L_141 dl_0 (cef_0 _ _ _ _) rfl ⟨rfl, rfl, Nat.le_of_ble_eq_true rfl, Nat.le_of_ble_eq_true rfl⟩ (As := [.int (xs (i + 1))]) (rest := []) rfl rfl (Nat.le_of_ble_eq_true rfl) dL_law_1187 (fun r1187 I1187 L1187 hp1187 => ?_)
          obtain ⟨km, ⟨xr, rfl⟩, hk⟩ := J_status hR hp1187
          refine v_st (st' := [.int xr]) rfl ?_
          refine v_aload_n X 2 rfl dL_law_1190 ?_
          refine v_aload_n X 0 rfl dL_law_1191 ?_
          refine v_iload_n X 3 rfl dL_law_1192 ?_
          refine v_iconst X (v := (nI 1)) dL_law_1193 (by decide) ?_
          refine v_iadd X dL_law_1194 ?_
          refine v_eqi (y := (nI (i + 1))) (nI_add _ _) ?_
          refine v_sld X hX0 hbl hbA (by omega) (by omega) dL_law_1195 ?_
          refine v_callV X (c_X6_status _ _ hE _ _  (xs (i + 1))) k_L_144 dl_30 (cef_30 _ _ _ _) rfl ⟨rfl, rfl, Nat.le_of_ble_eq_true rfl, Nat.le_of_ble_eq_true rfl⟩ (As := [.int (xs (i + 1))]) (rest := [.int xr]) rfl rfl (Nat.le_of_ble_eq_true rfl) dL_law_1196 (fun r1196 I1196 L1196 hp1196 => ?_)
          obtain ⟨er, hR2⟩ := hk _ _ _ hp1196
          subst er
          refine v_st (st' := [.int xr, .int xr]) rfl ?_
          refine v_icmp_eq X dL_law_1199 (tgt := 1204) (by decide) (fun h1199 => ?_) (fun h1199 => ?_)
          · refine v_iinc X [1, 2, 3, 0] 3 (nI (i + 5)) (lv' := [(0, .ref b), (1, .ref (eA (vE a) 0 0)), (2, .ref (eA (vE a) 30 0)), (3, .int (nI (i + 5)))]) rfl (nI_5 i) (by decide) rfl dL_law_1204 ?_
            refine v_goto X (tgt := 18) dL_law_1207 (by decide) ?_
            exact ih18 (i + 5) I1196 L1196 hms hi5 hi52 hR2
          · exact absurd rfl h1199
        · refine v_tableOut X dL_law_32 (Or.inr (by decide)) (tgt := 1204) (by decide) ?_
          refine v_iinc X [1, 2, 3, 0] 3 (nI (i + 5)) (lv' := [(0, .ref b), (1, .ref (eA (vE a) 0 0)), (2, .ref (eA (vE a) 30 0)), (3, .int (nI (i + 5)))]) rfl (nI_5 i) (by decide) rfl dL_law_1204 ?_
          refine v_goto X (tgt := 18) dL_law_1207 (by decide) ?_
          exact ih18 (i + 5) I1 L1 hms hi5 hi52 hR
  exact loop18 _ 0 I L (Nat.lt_succ_self _) (Nat.zero_le _) (Nat.zero_le _) hR0
