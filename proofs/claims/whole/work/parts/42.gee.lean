/-! constructors: the kit's W over a world that grows -/
def G (a : VA) (A : Nat → Prop) (pc : Nat) (lv : List (Nat × Value)) (st : List Value) (ws : va_W) (nc ns : Nat) : Prop :=
  ∀ (H : Heap) (locs : List Loc) (ls : Array Slot), lv_has ls (vc a).maxLocals lv → va_P (vE a).1 vwCl ws H → va_D A ws → va_S A (vs a).heap H locs → W (vp a) (vl a) (ve a) (vR a) (vs a) (vm a) (vargs a) (vbelow a) (vmeth a) (vc a) H locs nc ns (vQ a) (F0 (vm a) pc ls st)
def NWA (U : State) : Prop := NWok U ∧ va_AO RX0 U ∧ va_AO RX3 U
theorem NWA.warm {s U : State} (hW : s.WarmedH U.vm) (h : NWA s) : NWA U := ⟨h.1.warm hW, va_AO.moved hW.alike h.2.1, va_AO.moved hW.alike h.2.2⟩
theorem NWA.same {u U : State} (hv : u.vm = U.vm) (h : NWA u) : NWA U := ⟨NWok.same hv h.1, va_AO.moved (hv ▸ Vm.Alike.refl u.vm) h.2.1, va_AO.moved (hv ▸ Vm.Alike.refl u.vm) h.2.2⟩
def GOk (a : VA) (A : Nat → Prop) (own : String) (cc : ByteArray) (rm : Room) (nL : Nat) : Prop :=
  (vp a).tables.exec = Jvm.exec ∧ (vc a).code = cc ∧ (vc a).maxLocals = nL ∧ (vs a).vm.findClass own = some (vm a).cls ∧ (∀ w ∈ WS, w.before (vargs a) (vs a) = true) ∧ NWA (vs a) ∧ va_K (vE a).1 vwCl (ve_tys (vE a)) (vs a) ∧ vR a = rm ∧ (∀ q, (vs a).heap.size ≤ q → A q)
section GV
variable {a : VA} {A : Nat → Prop} {own : String} {cc : ByteArray} {rm : Room} {nL : Nat} {pc : Nat} {lv : List (Nat × Value)} {st : List Value} {ws : va_W} {nc ns : Nat}
theorem g_dup (X : GOk a A own cc rm nL) {va : Value} (hd : decode cc pc = .ok (.dup, 1)) (hva : va.category = 1) (kk : G a A (pc + 1) lv (va :: va :: st) ws nc ns) : G a A pc lv (va :: st) ws nc ns := fun H locs ls hl hP hD hS => lv_dup X.1 X.2.1 hd hva (kk H locs ls hl hP hD hS)
theorem g_iconst (X : GOk a A own cc rm nL) {n : Int} {v : Int32} (hd : decode cc pc = .ok (.iconst n, 1)) (hv : Int32.ofInt n = v) (kk : G a A (pc + 1) lv (.int v :: st) ws nc ns) : G a A pc lv (st) ws nc ns := fun H locs ls hl hP hD hS => lv_iconst X.1 X.2.1 hd hv (kk H locs ls hl hP hD hS)
theorem g_bipush (X : GOk a A own cc rm nL) {n : Int} {v : Int32} (hd : decode cc pc = .ok (.bipush n, 2)) (hv : (Int8.ofInt n).toInt32 = v) (kk : G a A (pc + 2) lv (.int v :: st) ws nc ns) : G a A pc lv (st) ws nc ns := fun H locs ls hl hP hD hS => lv_bipush X.1 X.2.1 hd hv (kk H locs ls hl hP hD hS)
theorem g_sipush (X : GOk a A own cc rm nL) {n : Int} {v : Int32} (hd : decode cc pc = .ok (.sipush n, 3)) (hv : (Int16.ofInt n).toInt32 = v) (kk : G a A (pc + 3) lv (.int v :: st) ws nc ns) : G a A pc lv (st) ws nc ns := fun H locs ls hl hP hD hS => lv_sipush X.1 X.2.1 hd hv (kk H locs ls hl hP hD hS)
theorem g_icmp_ge (X : GOk a A own cc rm nL) {x y : Int32} {off : Int} {tgt : Nat} (hd : decode cc pc = .ok (.if_icmp .ge off, 3)) (ht : (pc : Int) + off = (tgt : Int)) (kt : y ≤ x → G a A tgt lv st ws nc ns) (kf : ¬ y ≤ x → G a A (pc + 3) lv st ws nc ns) : G a A pc lv (.int y :: .int x :: st) ws nc ns := fun H locs ls hl hP hD hS => lv_icmp_ge X.1 X.2.1 hd ht (fun h => kt h H locs ls hl hP hD hS) (fun h => kf h H locs ls hl hP hD hS)
theorem g_iload_n (X : GOk a A own cc rm nL) (q : Nat) {k : Fin 4} {x : Int32} (hk : lv[q]? = some ((k : Nat), .int x)) (hd : decode cc pc = .ok (.iload_n k, 1)) (kk : G a A (pc + 1) lv (.int x :: st) ws nc ns) : G a A pc lv st ws nc ns := fun H locs ls hl hP hD hS => lv_iload_n X.1 X.2.1 hd rfl (lv_at hl q hk) (kk H locs ls hl hP hD hS)
theorem g_aload_n (X : GOk a A own cc rm nL) (q : Nat) {k : Fin 4} {x : Nat} (hk : lv[q]? = some ((k : Nat), .ref x)) (hd : decode cc pc = .ok (.aload_n k, 1)) (kk : G a A (pc + 1) lv (.ref x :: st) ws nc ns) : G a A pc lv st ws nc ns := fun H locs ls hl hP hD hS => lv_aload_n X.1 X.2.1 hd rfl (lv_at hl q hk) (kk H locs ls hl hP hD hS)
theorem g_istore_n (X : GOk a A own cc rm nL) (ks : List Nat) {k : Fin 4} {x : Int32} {lv' : List (Nat × Value)} (hn : (k : Nat) < nL) (hl' : lv_pick (((k : Nat), Value.int x) :: lv.filter (fun q => !(q.1 == (k : Nat)) && !(q.1 + 1 == (k : Nat) && q.2.category == 2))) ks = lv') (hd : decode cc pc = .ok (.istore_n k, 1)) (kk : G a A (pc + 1) lv' st ws nc ns) : G a A pc lv (.int x :: st) ws nc ns := fun H locs ls hl hP hD hS => lv_istore_n X.1 X.2.1 hd rfl hl (by rw [X.2.2.1]; exact hn) rfl (fun ls' hl2 => kk H locs ls' (lv_sub hl2 ks hl') hP hD hS)
theorem g_astore_n (X : GOk a A own cc rm nL) (ks : List Nat) {k : Fin 4} {x : Nat} {lv' : List (Nat × Value)} (hn : (k : Nat) < nL) (hl' : lv_pick (((k : Nat), Value.ref x) :: lv.filter (fun q => !(q.1 == (k : Nat)) && !(q.1 + 1 == (k : Nat) && q.2.category == 2))) ks = lv') (hd : decode cc pc = .ok (.astore_n k, 1)) (kk : G a A (pc + 1) lv' st ws nc ns) : G a A pc lv (.ref x :: st) ws nc ns := fun H locs ls hl hP hD hS => lv_astore_n X.1 X.2.1 hd rfl hl (by rw [X.2.2.1]; exact hn) rfl (fun ls' hl2 => kk H locs ls' (lv_sub hl2 ks hl') hP hD hS)
theorem g_iinc (X : GOk a A own cc rm nL) (ks : List Nat) (q : Nat) {i : Nat} {n : Int} {x : Int32} (v : Int32) {lv' : List (Nat × Value)} (hk : lv[q]? = some (i, .int x)) (hv : x + Int32.ofInt n = v) (hn : i < nL) (hl' : lv_pick ((i, Value.int v) :: lv.filter (fun q => !(q.1 == i) && !(q.1 + 1 == i && q.2.category == 2))) ks = lv') (hd : decode cc pc = .ok (.iinc i n, 3)) (kk : G a A (pc + 3) lv' st ws nc ns) : G a A pc lv st ws nc ns := fun H locs ls hl hP hD hS => lv_iinc X.1 X.2.1 hd hl hk hv (by rw [X.2.2.1]; exact hn) rfl (fun ls' hl2 => kk H locs ls' (lv_sub hl2 ks hl') hP hD hS)
theorem g_goto (X : GOk a A own cc rm nL) {off : Int} {tgt : Nat} (hd : decode cc pc = .ok (.goto off, 3)) (ht : (pc : Int) + off = (tgt : Int)) (kk : G a A tgt lv st ws nc ns) : G a A pc lv st ws nc ns := fun H locs ls hl hP hD hS => lv_goto X.1 X.2.1 hd ht (kk H locs ls hl hP hD hS)
theorem g_st {st' : List Value} (h : st = st') (k : G a A pc lv st' ws nc ns) : G a A pc lv st ws nc ns := h ▸ k
theorem g_ws {ws' : va_W} (h : ws = ws') (k : G a A pc lv st ws' nc ns) : G a A pc lv st ws nc ns := h ▸ k
theorem g_cn {nc' ns' : Nat} (h1 : nc = nc') (h2 : ns = ns') (k : G a A pc lv st ws nc' ns') : G a A pc lv st ws nc ns := h1 ▸ h2 ▸ k
theorem g_sub (ks : List Nat) {lv' : List (Nat × Value)} (h : lv_pick lv ks = lv') (k : G a A pc lv' st ws nc ns) : G a A pc lv st ws nc ns := fun H locs ls hl hP hD hS => k H locs ls (lv_sub hl ks h) hP hD hS
theorem g_eqi {x y : Int32} (h : x = y) (k : G a A pc lv (.int y :: st) ws nc ns) : G a A pc lv (.int x :: st) ws nc ns := h ▸ k
theorem g_objInit (X : GOk a A own cc rm nL) {idx x : Nat} (h1 : Cond.methodLink own idx Lib.objectInit ∈ WS) (h2 : Cond.instanceMethod Lib.objectInit ∈ WS) (h3 : Cond.code Lib.objectInit ⟨#[0xb1]⟩ 1 none ∈ WS) (hf : 1 ≤ rm.frames) (hlo : 12 ≤ rm.locals) (hd : decode cc pc = .ok (.invokespecial idx, 3)) (kk : G a A (pc + 3) lv [] ws nc ns) : G a A pc lv [.ref x] ws nc ns := by
  intro H locs ls hl hP hD hS
  refine W.objInit X.1 X.2.1 X.2.2.2.1 (X.2.2.2.2.1 _ h1) (X.2.2.2.2.1 _ h2) (X.2.2.2.2.1 _ h3) rfl hl.1 rfl hd (by rw [X.2.2.2.2.2.2.2.1]; exact hf) (by rw [X.2.2.2.2.2.2.2.1]; exact hlo) ?_
  exact kk H locs ls hl hP hD hS
theorem g_newI (X : GOk a A own cc rm nL) (hw : Cond.arrayClass .int ∈ WS) {N : Nat} (hN : N < 2 ^ 20) (hcells : nc + 1 ≤ rm.cells) (hslots : ns + N ≤ rm.slots) (hd : decode cc pc = .ok (.newarray .int, 2)) (kk : ∀ q, G a A (pc + 2) lv (.ref q :: st) (ws ++ [(q, .inl (eC (vE a) 0, N, .inl (fun _ => 0)))]) (nc + 1) (ns + N)) : G a A pc lv (.int (nI N) :: st) ws nc ns := by
  intro H locs ls hl hP hD hS
  refine va_newa (atype := .int) X.1 X.2.1 (X.2.2.2.2.1 _ hw) rfl X.2.2.2.2.2.2.1 hP hD hS X.2.2.2.2.2.2.2.2 (N' := N) (a0 := (N, .inl (fun _ => 0))) (fun _ => rfl) (nI_pos (by omega)) (nI_clamp (by omega)) (by show N * 4 ≤ 536870912; omega) (by rw [X.2.2.2.2.2.2.2.1]; exact hcells) (by rw [X.2.2.2.2.2.2.2.1]; exact hslots) hd (fun q cA H1 hK1 hP1 hD1 hS1 => ?_)
  have e : cA = eC (vE a) 0 := Option.some.inj ((show (vs a).vm.findClass _ = some cA from (hK1.2 4 _ rfl).2).symm.trans (X.2.2.2.2.2.2.1.2 0 _ rfl).2)
  subst e
  exact kk q H1 locs ls hl hP1 hD1 hS1
theorem g_newJ (X : GOk a A own cc rm nL) (hw : Cond.arrayClass .long ∈ WS) {N : Nat} (hN : N < 2 ^ 20) (hcells : nc + 1 ≤ rm.cells) (hslots : ns + N ≤ rm.slots) (hd : decode cc pc = .ok (.newarray .long, 2)) (kk : ∀ q, G a A (pc + 2) lv (.ref q :: st) (ws ++ [(q, .inl (eC (vE a) 1, N, .inr (.inl (fun _ => 0))))]) (nc + 1) (ns + N)) : G a A pc lv (.int (nI N) :: st) ws nc ns := by
  intro H locs ls hl hP hD hS
  refine va_newa (atype := .long) X.1 X.2.1 (X.2.2.2.2.1 _ hw) rfl X.2.2.2.2.2.2.1 hP hD hS X.2.2.2.2.2.2.2.2 (N' := N) (a0 := (N, .inr (.inl (fun _ => 0)))) (fun _ => rfl) (nI_pos (by omega)) (nI_clamp (by omega)) (by show N * 8 ≤ 536870912; omega) (by rw [X.2.2.2.2.2.2.2.1]; exact hcells) (by rw [X.2.2.2.2.2.2.2.1]; exact hslots) hd (fun q cA H1 hK1 hP1 hD1 hS1 => ?_)
  have e : cA = eC (vE a) 1 := Option.some.inj ((show (vs a).vm.findClass _ = some cA from (hK1.2 4 _ rfl).2).symm.trans (X.2.2.2.2.2.2.1.2 1 _ rfl).2)
  subst e
  exact kk q H1 locs ls hl hP1 hD1 hS1
theorem g_anew (X : GOk a A own cc rm nL) {C : String} {index t0 : Nat} (ht : (ve_tys (vE a))[t0]? = some (eC (vE a) t0, .object C)) (hcl : Cond.classLink own index C ∈ WS) (hov : va_AO C (vs a)) {N : Nat} (hN : N < 2 ^ 20) (hcells : nc + 1 ≤ rm.cells) (hslots : ns + N ≤ rm.slots) (hd : decode cc pc = .ok (.anewarray index, 3)) (kk : ∀ q, G a A (pc + 3) lv (.ref q :: st) (ws ++ [(q, .inl (eC (vE a) t0, N, .inr (.inr (.inr (.inr (fun _ => none))))))]) (nc + 1) (ns + N)) : G a A pc lv (.int (nI N) :: st) ws nc ns := by
  intro H locs ls hl hP hD hS
  refine va_newq X.1 X.2.1 X.2.2.2.1 (X.2.2.2.2.1 _ hcl) hov X.2.2.2.2.2.2.1 hP hD hS X.2.2.2.2.2.2.2.2 (N' := N) (nI_pos (by omega)) (nI_clamp (by omega)) (by omega) (by rw [X.2.2.2.2.2.2.2.1]; exact hcells) (by rw [X.2.2.2.2.2.2.2.1]; exact hslots) hd (fun q cA H1 hK1 hP1 hD1 hS1 => ?_)
  obtain ⟨_, _, _, _, _, f1⟩ := (hK1.2 4 _ rfl).2
  obtain ⟨_, _, _, _, _, f2⟩ := (X.2.2.2.2.2.2.1.2 t0 _ ht).2
  have e : cA = eC (vE a) t0 := Option.some.inj (f1.symm.trans f2)
  subst e
  exact kk q H1 locs ls hl hP1 hD1 hS1
theorem g_new (X : GOk a A own cc rm nL) {C : String} {T : u_T} {N ci index : Nat} (hin : ∀ w ∈ u_ws C T N, w ∈ WS) (ty : Nat → FieldType) (hty : ∀ k, k < N → parseFieldDescriptor (T k).2.2.1 = some (ty k)) (hcl : Cond.classLink own index C ∈ WS) (hinst : Cond.instantiable C N ∈ WS) (hini : Cond.initialized C ∈ WS) (hc : vwCl[ci]? = some (C, T, N)) {fs : List Value} (hfs : ∀ j, j < N → defaultValue (ty j) = vp_V fs j) (hcells : nc + 1 ≤ rm.cells) (hslots : ns + N ≤ rm.slots) (hd : decode cc pc = .ok (.new index, 3)) (kk : ∀ q, G a A (pc + 3) lv (.ref q :: st) (ws ++ [(q, .inr (ci, fs))]) (nc + 1) (ns + N)) : G a A pc lv st ws nc ns := by
  intro H locs ls hl hP hD hS
  exact va_new X.1 X.2.1 X.2.2.2.2.1 hin ty hty X.2.2.2.1 (X.2.2.2.2.1 _ hcl) (X.2.2.2.2.1 _ hinst) (X.2.2.2.2.1 _ hini) X.2.2.2.2.2.2.1 hP hD hS X.2.2.2.2.2.2.2.2 hc hfs (by rw [X.2.2.2.2.2.2.2.1]; exact hcells) (by rw [X.2.2.2.2.2.2.2.1]; exact hslots) hd (fun q H1 hP1 hD1 hS1 => kk q H1 locs ls hl hP1 hD1 hS1)
theorem g_putF (X : GOk a A own cc rm nL) (hin2 : (vmeth a).name = "<init>") {C : String} {T : u_T} {N ci index x : Nat} (q0 slot : Nat) {fs : List Value} (he : ws[q0]? = some (x, .inr (ci, fs))) (hc : vwCl[ci]? = some (C, T, N)) (hin : ∀ w ∈ u_ws C T N, w ∈ WS) (ty0 : Nat → FieldType) (hty : ∀ k, k < N → parseFieldDescriptor (T k).2.2.1 = some (ty0 k)) (hnm : ∀ a, a < N → ∀ b, b < N → a ≠ b → (T a).2.1 ≠ (T b).2.1) (hk : slot < N) (hw : Cond.fieldLink own index (T slot).1 (T slot).2.1 (T slot).2.2.1 ∈ WS) (hfin : (T slot).2.2.2 = true) (hdecl : (T slot).1 = own) {ty : FieldType} (hpd : parseFieldDescriptor (T slot).2.2.1 = some ty) {v : Value} (hn : narrow ty v = v) (hfit : fits ty v = true) (hlen : slot < fs.length) (hd : decode cc pc = .ok (.putfield index, 3)) (kk : G a A (pc + 3) lv st (ws.set q0 (x, .inr (ci, fs.set slot v))) nc ns) : G a A pc lv (v :: .ref x :: st) ws nc ns := by
  intro H locs ls hl hP hD hS
  exact va_putF X.1 X.2.1 X.2.2.2.2.1 hin ty0 hty hnm X.2.2.2.1 X.2.2.2.2.2.2.1 hP hD hS q0 he hc slot hk (X.2.2.2.2.1 _ hw) (fun _ h => h) hfin hin2 hdecl hpd hn hfit hlen hd (fun H1 locs1 hP1 hD1 hS1 => kk H1 locs1 ls hl hP1 hD1 hS1)
theorem g_getf (X : GOk a A own cc rm nL) {C : String} {T : u_T} {N ci index x : Nat} (q0 slot : Nat) {fs : List Value} {v : Value} (he : ws[q0]? = some (x, .inr (ci, fs))) (hc : vwCl[ci]? = some (C, T, N)) (hin : ∀ w ∈ u_ws C T N, w ∈ WS) (hk : slot < N) (hw : Cond.fieldLink own index (T slot).1 (T slot).2.1 (T slot).2.2.1 ∈ WS) (hv : fs[slot]? = some v) (hd : decode cc pc = .ok (.getfield index, 3)) (kk : G a A (pc + 3) lv (v :: st) ws nc ns) : G a A pc lv (.ref x :: st) ws nc ns := by
  intro H locs ls hl hP hD hS
  exact va_get X.1 X.2.1 X.2.2.2.2.1 hin X.2.2.2.1 X.2.2.2.2.2.2.1 hP q0 he hc slot hk (X.2.2.2.2.1 _ hw) (fun _ h => h) hv hd (kk H locs ls hl hP hD hS)
theorem g_aast (X : GOk a A own cc rm nL) {C : String} {T : u_T} {N ci t0 x v n : Nat} (q0 : Nat) {f : Nat → Option Nat} {vs' : List Value} (ht : (ve_tys (vE a))[t0]? = some (eC (vE a) t0, .object C)) (ha : ws[q0]? = some (x, .inl (eC (vE a) t0, n, .inr (.inr (.inr (.inr f)))))) (hc : vwCl[ci]? = some (C, T, N)) (hv : (v, .inr (ci, vs')) ∈ ws) {i : Nat} (hi : i < n) (hn : n < 2 ^ 31) (hd : decode cc pc = .ok (.aastore, 1)) (kk : G a A (pc + 1) lv st (ws.set q0 (x, .inl (eC (vE a) t0, n, .inr (.inr (.inr (.inr (va_up f i (some v)))))))) nc ns) : G a A pc lv (.ref v :: .int (nI i) :: .ref x :: st) ws nc ns := by
  intro H locs ls hl hP hD hS
  obtain ⟨qk, hqk⟩ := List.getElem?_of_mem hv
  refine va_astq X.1 X.2.1 X.2.2.2.2.2.2.1 hP hD hS q0 t0 qk ci ha ht hqk hc (vp_in_nI hi hn) hd (fun H1 locs1 hP1 hD1 hS1 => ?_)
  rw [nI_clamp (by omega)] at hP1 hD1
  exact kk H1 locs1 ls hl hP1 hD1 hS1
end GV
/-! a constructor's contract: out of its own cell, and what it makes -/
def QN (E : VE) (A : Nat → Prop) (Sh : va_W → Prop) : Array Value → State → Outcome → State → Prop := va_Qv (fun ws1 : va_W => Sh ws1) (fun ws1 t => va_P E.1 vwCl ws1 t.heap ∧ va_D A ws1) A
def CtN (l : Launch) (E : VE) (y : MethodName) (b : ByteArray) (maxL : Nat) (rm : Room) (ci : Nat) (fs0 : List Value) (mc ms : Nat) (Sh : Nat → va_W → Prop) : Prop :=
  ∀ (h sz : Nat), Met l y (.code y b maxL none :: WS) rm (va_Pc [.ref h] (fun U => U.heap.size = sz ∧ va_P E.1 vwCl [(h, .inr (ci, fs0))] U.heap ∧ va_K E.1 vwCl (ve_tys E) U ∧ NWA U)) (QN E (va_A [(h, .inr (ci, fs0))] sz) (Sh h)) mc ms (va_A [(h, .inr (ci, fs0))] sz)
def GRet (a : VA) (A : Nat → Prop) (mc ms : Nat) (Sh : va_W → Prop) : Prop := (vmeth a).sig.returnType = none ∧ (vmeth a).locks = false ∧ (vmeth a).name = "<init>" ∧ vQ a = MQ (vbelow a) (QN (vE a) A Sh) (vargs a) (vs a) mc ms A
theorem ctn_of {l : Launch} {E : VE} {y : MethodName} {b : ByteArray} {maxL : Nat} {rm : Room} {ci : Nat} {fs0 : List Value} {mc ms : Nat} {Sh : Nat → va_W → Prop} (hy : plainName y.cls = true) (hyn : y.name = "<init>") (hlen : (lg_sl [Value.ref 0]).length ≤ maxL)
    (body : ∀ (a : VA) (A : Nat → Prop) (h : Nat), GOk a A y.cls b rm maxL → GRet a A mc ms (Sh h) → vl a = l → vE a = E → G a A 0 [(0, .ref h)] [] [(h, .inr (ci, fs0))] 0 0) : CtN l E y b maxL rm ci fs0 mc ms Sh := by
  intro h sz
  refine Met.ofW (cc := b) (maxL := maxL) (ret := none) hy rfl ?_
  intro p e s m as below meth c s₁ B hml hv
  obtain ⟨rfl, hsz, hP, hK, hN⟩ := hv
  have hts := atoms_spec (ws := Cond.code y b maxL none :: WS) B.pre
  have hown : s.vm.findClass y.cls = some m.cls := findClass_of_methodNamed B.named
  have hin : meth.name = "<init>" := by rw [(name_of_methodNamed B.named B.method).1]; exact hyn
  subst hsz
  have hD : va_D (va_A [(h, .inr (ci, fs0))] s.heap.size) [((h : Nat), (Sum.inr (ci, fs0) : va_E))] := by
    refine ⟨fun i j p q hp hq _ => ?_, fun k q hk => va_A.in hk⟩
    have h1 := (List.getElem?_eq_some_iff.mp hp).1
    have h2 := (List.getElem?_eq_some_iff.mp hq).1
    simp at h1 h2
    omega
  have hl := lv_entry [.ref h] (n := maxL) hlen
  rw [lg_entry_eq]
  refine body ((p, l, e, _, s, m, _), (below, meth, c), (E, 0, 0, _)) _ h ⟨B.exec, B.bytes, hml, hown, fun w h => hts w (List.mem_cons_of_mem _ h), hN, hK, rfl, fun q hq => Or.inr hq⟩ ⟨B.returns, B.notSynchronized, hin, rfl⟩ rfl rfl s.heap [] _ ?_ hP hD va_S.rf
  show lv_has _ c.maxLocals _
  rw [hml]
  exact hl
section GC
variable {a : VA} {A : Nat → Prop} {own : String} {cc : ByteArray} {rm : Room} {nL : Nat} {pc : Nat} {lv : List (Nat × Value)} {st : List Value} {ws : va_W} {nc ns : Nat}
theorem g_vret {mc ms : Nat} {Sh : va_W → Prop} (X : GOk a A own cc rm nL) (Y : GRet a A mc ms Sh) (hd : decode cc pc = .ok (.return_, 1)) (hs : Sh ws) (h1 : nc = mc) (h2 : ns = ms) : G a A pc lv [] ws nc ns := by
  subst h1; subst h2
  intro H locs ls hl hP hD hS
  rw [Y.2.2.2]
  exact W.vret X.1 X.2.1 Y.1 (fun t ht _ => ⟨⟨ws, rfl, hs, by rw [ht]; exact hP, hD⟩, hS.F ht⟩) hS.2.2 hd Y.2.1
theorem va_nd_range : ∀ n, va_nd (List.range n) = true := by
  intro n
  have key : ∀ l : List Nat, l.Nodup → va_nd l = true := by
    intro l
    induction l with
    | nil => intro _; rfl
    | cons x l ih =>
      intro h
      rw [List.nodup_cons] at h
      show (decide (x ∉ l) && va_nd l) = true
      rw [ih h.2, decide_eq_true h.1]
      rfl
  exact key _ List.nodup_range
theorem range_get {ws : va_W} {x : Nat × va_E} : (List.range ws.length).map (fun i => (ws ++ [x])[i]?) = ws.map some := by
  apply List.ext_getElem?
  intro i
  rw [List.getElem?_map, List.getElem?_map]
  by_cases h : i < ws.length
  · rw [List.getElem?_range h]
    simp only [Option.map_some]
    rw [List.getElem?_append_left h, List.getElem?_eq_getElem h]
    rfl
  · rw [List.getElem?_eq_none (by rw [List.length_range]; omega), List.getElem?_eq_none (by omega)]
    rfl
theorem ctn_blind {E : VE} {args : List Value} {sz : Nat} {w : va_W} : FrameBlind (va_Pc args (fun U => U.heap.size = sz ∧ va_P E.1 vwCl w U.heap ∧ va_K E.1 vwCl (ve_tys E) U ∧ NWA U)) := fun v U g mk q => by
  obtain ⟨q0, qs, qP, qK, qN⟩ := q
  exact ⟨q0, qs, qP, va_K.moved (u := U) (U := U.calling g mk v) (Vm.Alike.refl U.vm) qK, NWA.same (u := U) (U := U.calling g mk v) rfl qN⟩
def RmOkN (rmc : Room) (maxL : Nat) (rm : Room) (mc ms : Nat) : Prop := rmc.cells = mc ∧ rmc.slots = ms ∧ rmc.frames + 1 ≤ rm.frames ∧ 8 + (maxL + 11) + rmc.locals ≤ rm.locals
theorem g_run {rest st0 : List Value} {H : Heap} {locs : List Loc} {ls : Array Slot} {as : Array Value} {mc ms ci h : Nat} {fs0 : List Value} {Sh : Nat → va_W → Prop} (X : GOk a A own cc rm nL)
    (hr : va_Run (vp a) (vl a) (ve a) (vR a) (vs a) (vm a) (vargs a) (vbelow a) (vmeth a) (vc a) H locs nc ns mc ms (F0 (vm a) pc ls st0) rest (QN (vE a) (va_A [(h, .inr (ci, fs0))] H.size) (Sh h) as) (va_A [(h, .inr (ci, fs0))] H.size)) (hl : lv_has ls (vc a).maxLocals lv)
    (hP : va_P (vE a).1 vwCl (ws ++ [(h, .inr (ci, fs0))]) H) (hD : va_D A (ws ++ [(h, .inr (ci, fs0))])) (hS : va_S A (vs a).heap H locs)
    (kk : ∀ ws1, Sh h ws1 → G a A (pc + 3) lv rest (ws ++ ws1) (nc + mc) (ns + ms)) : W (vp a) (vl a) (ve a) (vR a) (vs a) (vm a) (vargs a) (vbelow a) (vmeth a) (vc a) H locs nc ns (vQ a) (F0 (vm a) pc ls st0) := by
  have hC : [ws.length].map (fun i => (ws ++ [(h, (Sum.inr (ci, fs0) : va_E))])[i]?) = [((h : Nat), (Sum.inr (ci, fs0) : va_E))].map some := by
    show [(ws ++ [(h, (Sum.inr (ci, fs0) : va_E))])[ws.length]?] = _
    rw [List.getElem?_append_right (Nat.le_refl _), Nat.sub_self]
    rfl
  have hFc := va_free (wc := [(h, .inr (ci, fs0))]) hD hS X.2.2.2.2.2.2.2.2 [ws.length] hC
  refine va_callv hr hS (fun q _ hq => hFc q hq) hFc (fun ws1 t H1 locs1 ht hvm hw hB hz1 hk1 hS1 => ?_)
  obtain ⟨hP1, hD1⟩ := hB
  rw [ht] at hP1
  obtain ⟨hP2, hD2⟩ := va_join (wr := ws) (w1 := ws1) hP hD [ws.length] (List.range ws.length) hC range_get (va_nd_range _) (fun i hi q => by
    have h1 := List.mem_range.mp hi
    have h2 := List.mem_singleton.mp q
    omega) hk1 hFc hP1 hD1
  exact kk ws1 hw H1 locs1 ls hl hP2 hD2 hS1
theorem g_callI {y : MethodName} {b : ByteArray} {maxL index : Nat} {rmc : Room} {mc ms ci h : Nat} {fs0 : List Value} {Sh : Nat → va_W → Prop} (X : GOk a A own cc rm nL) (hM : CtN (vl a) (vE a) y b maxL rmc ci fs0 mc ms Sh) (h1 : Cond.methodLink own index y ∈ WS) (h2 : Cond.initialized y.cls ∈ WS) (h3 : Cond.code y b maxL none ∈ WS) (h4 : y.cls ≠ "java/lang/invoke/MethodHandle" ∧ y.cls ≠ "java/lang/invoke/VarHandle" ∧ (parseMethodDescriptor y.desc).map (fun d => d.parameters.length) = some 0) (h5 : Cond.instanceMethod y ∈ WS) (h6 : y.name = "<init>") (hR : RmOkN rmc maxL rm mc ms) (hroom : (st.map fun v => v.category).sum ≤ 8) (hc : nc + mc ≤ rm.cells ∧ ns + ms ≤ rm.slots) (hd : decode cc pc = .ok (.invokespecial index, 3))
    (kk : ∀ ws1, Sh h ws1 → G a A (pc + 3) lv st (ws ++ ws1) (nc + mc) (ns + ms)) : G a A pc lv (.ref h :: st) (ws ++ [(h, .inr (ci, fs0))]) nc ns := by
  intro H locs ls hl hP hD hS
  have hPc : va_P (vE a).1 vwCl [(h, .inr (ci, fs0))] H := fun k q hk => by
    have hk1 := (List.getElem?_eq_some_iff.mp hk).1
    simp at hk1
    subst hk1
    cases hk
    exact hP ws.length _ (by rw [List.getElem?_append_right (Nat.le_refl _), Nat.sub_self]; rfl)
  exact g_run X (va_runI (As := []) (rest := st) ⟨X.1, X.2.1, X.2.2.1, X.2.2.2.1, X.2.2.2.2.1⟩ (hM h H.size) (cwI 0 X.2.2.2.2.1 (ws_call h3) rfl hR.1 hR.2.1 (X.2.2.2.2.1 _ h2) (X.2.2.2.2.1 _ h1) (X.2.2.2.2.1 _ h5) h6 h4 (by rw [X.2.2.2.2.2.2.2.1]; exact hR.2.2)) ⟨ctn_blind, fun U hU hW => ⟨rfl, by rw [hU], by rw [hU]; exact hPc, va_K.moved hW.alike X.2.2.2.2.2.2.1, X.2.2.2.2.2.1.warm hW⟩⟩ rfl rfl (by rw [← X.2.2.1]; exact hl.1) rfl (lv_room hroom) hd ⟨by rw [X.2.2.2.2.2.2.2.1]; exact hc.1, by rw [X.2.2.2.2.2.2.2.1]; exact hc.2⟩) hl hP hD hS kk
theorem g_callIN {y : MethodName} {b : ByteArray} {maxL index : Nat} {rmc : Room} {mc ms ci h : Nat} {fs0 : List Value} {Sh : Nat → va_W → Prop} {host : String} (X : GOk a A own cc rm nL) (hM : CtN (vl a) (vE a) y b maxL rmc ci fs0 mc ms Sh) (h1 : (own, index, y, host) ∈ nwM) (h2 : Cond.initialized y.cls ∈ WS) (h3 : Cond.code y b maxL none ∈ WS) (h4 : y.cls ≠ "java/lang/invoke/MethodHandle" ∧ y.cls ≠ "java/lang/invoke/VarHandle" ∧ (parseMethodDescriptor y.desc).map (fun d => d.parameters.length) = some 0) (h5 : Cond.instanceMethod y ∈ WS) (h6 : y.name = "<init>") (hR : RmOkN rmc maxL rm mc ms) (hroom : (st.map fun v => v.category).sum ≤ 8) (hc : nc + mc ≤ rm.cells ∧ ns + ms ≤ rm.slots) (hd : decode cc pc = .ok (.invokespecial index, 3))
    (kk : ∀ ws1, Sh h ws1 → G a A (pc + 3) lv st (ws ++ ws1) (nc + mc) (ns + ms)) : G a A pc lv (.ref h :: st) (ws ++ [(h, .inr (ci, fs0))]) nc ns := by
  intro H locs ls hl hP hD hS
  have hPc : va_P (vE a).1 vwCl [(h, .inr (ci, fs0))] H := fun k q hk => by
    have hk1 := (List.getElem?_eq_some_iff.mp hk).1
    simp at hk1
    subst hk1
    cases hk
    exact hP ws.length _ (by rw [List.getElem?_append_right (Nat.le_refl _), Nat.sub_self]; rfl)
  exact g_run X (va_runIN (host := host) (As := []) (rest := st) ⟨X.1, X.2.1, X.2.2.1, X.2.2.2.1, X.2.2.2.2.1⟩ (hM h H.size) ⟨va_cnB 0 X.2.2.2.2.1 (ws_call h3) rfl hR.1 hR.2.1 (X.2.2.2.2.2.1.1.2 _ h1) (X.2.2.2.2.1 _ h2) h4 (by rw [X.2.2.2.2.2.2.2.1]; exact hR.2.2), h6, X.2.2.2.2.1 _ h5⟩ ⟨ctn_blind, fun U hU hW => ⟨rfl, by rw [hU], by rw [hU]; exact hPc, va_K.moved hW.alike X.2.2.2.2.2.2.1, X.2.2.2.2.2.1.warm hW⟩⟩ rfl rfl (by rw [← X.2.2.1]; exact hl.1) rfl (lv_room hroom) hd ⟨by rw [X.2.2.2.2.2.2.2.1]; exact hc.1, by rw [X.2.2.2.2.2.2.2.1]; exact hc.2⟩) hl hP hD hS kk
end GC

