/-! ===== constructors: cells are made ===== -/
def zq_A (h0 sz : Nat) : Nat → Prop := fun q => q = h0 ∨ sz ≤ q
def zq_AO (U : State) : Prop := va_AO "WildBells$Sheet" U ∧ va_AO "java/lang/String" U
def zq_P (E : zE) (D : va_G) (tA : Nat → ClassId) (h0 ci : Nat) (fs : List Value) (sz : Nat) (U : State) : Prop :=
  U.heap.size = sz ∧ va_P D vwCl [(h0, .inr (ci, fs))] U.heap ∧ va_K D vwCl (z_tys tA) U ∧ z_nst U ∧ zq_AO U ∧ z_EX E (zq_A h0 sz) U U.heap
def zq_Q (E : zE) (D : va_G) (tA : Nat → ClassId) (h0 : Nat) (h : zH) (A : Nat → Prop) : Array Value → State → Outcome → State → Prop := fun _ st oc t => (oc = .returned none ∧ ∃ ad : Nat → Nat, ad 0 = h0 ∧ z_sa E ad ∧ va_P D vwCl (z_ws tA ad 0 h) t.heap ∧ va_D A (z_ws tA ad 0 h)) ∧ va_F A st t
def zq_rm (d k n : Nat) : Room := { frames := d, cells := k, slots := n, locals := 31 * d }
/-- A CONSTRUCTOR: over the object with these fields, it leaves the world h, whose first place is the object -/
def Kx (M : zM) (ci : Nat) (fs : List Value) (h : zH) (k n : Nat) : Prop := ∀ (l : Launch) (E : zE) (D : va_G) (tA : Nat → ClassId) (h0 sz : Nat), Met l M.1 (z_wd M) (zq_rm M.2.2.2.2 k n) (va_Pc [.ref h0] (zq_P E D tA h0 ci fs sz)) (zq_Q E D tA h0 h (zq_A h0 sz)) k n (zq_A h0 sz)
def zq_C (M : zM) (E : zE) (D : va_G) (tA : Nat → ClassId) (A : Nat → Prop) (p : Program) (s : State) (m : MethodId) (args : Array Value) (meth : Method) (c : Code) : Prop :=
  p.tables.exec = Jvm.exec ∧ c.code = M.2.1 ∧ (M.2.2.2.1 = none → meth.sig.returnType = none) ∧ c.maxLocals = M.2.2.1 ∧ s.vm.findClass M.1.cls = some m.cls ∧ (∀ w ∈ z_T, w.before args s = true) ∧ meth.locks = false ∧ va_K D vwCl (z_tys tA) s ∧ z_nst s ∧ (M.2.2.2.1 = none → meth.name = "<init>") ∧ (∀ q, s.heap.size ≤ q → A q) ∧ zq_AO s ∧ z_EX E A s s.heap
/-- a frame that makes cells: over these cells, with this much made, it comes to Q -/
def Cj (M : zM) (D : va_G) (A : Nat → Prop) (p : Program) (l : Launch) (e : Env) (rm : Room) (s : State) (m : MethodId) (args : Array Value) (below : List Frame) (meth : Method) (c : Code) (Q : State → Prop) (k n pc : Nat) (L : List (Nat × Value)) (S : List Value) (ws : va_W) : Prop :=
  ∀ (H : Heap) (locs : List Loc) (ls : Array Slot), lv_has ls M.2.2.1 L → va_P D vwCl ws H → va_D A ws → va_S A s.heap H locs → W p l e rm s m args below meth c H locs k n Q (F0 m pc ls S)
theorem zq_range (wr w2 : va_W) : (List.range wr.length).map (fun i => (wr ++ w2)[i]?) = wr.map some := by
  apply List.ext_getElem?
  intro i
  rw [List.getElem?_map, List.getElem?_map]
  by_cases hi : i < wr.length
  · rw [List.getElem?_range hi]
    show some ((wr ++ w2)[i]?) = (wr[i]?).map some
    rw [List.getElem?_append_left hi, List.getElem?_eq_getElem hi]
    rfl
  · rw [List.getElem?_eq_none (by rw [List.length_range]; omega), List.getElem?_eq_none (by omega)]
    rfl
theorem z_payT {args : Array Value} {s : State} (c6 : ∀ w ∈ z_T, w.before args s = true) {Y : zM} (hY : Cond.code Y.1 Y.2.1 Y.2.2.1 Y.2.2.2.1 ∈ z_T) : ∀ w ∈ z_wd Y, ∀ (a' : Array Value) (U : State), s.WarmedH U.vm → w.before a' U = true := by
  intro w hw a' U hW
  have hw2 : w ∈ z_T := by
    rcases List.mem_cons.mp hw with e | e
    · rw [e]; exact hY
    · exact e
  exact word_at hW (good_of_word (List.mem_filter.mp hw2).2) (c6 w hw2)
section KX
variable {M : zM} {E : zE} {D : va_G} {tA : Nat → ClassId} {A : Nat → Prop} {p : Program} {l : Launch} {e : Env} {rm : Room} {s : State} {m : MethodId} {args : Array Value} {below : List Frame} {meth : Method} {c : Code} {Q : State → Prop} {k n pc : Nat} {L : List (Nat × Value)} {S : List Value} {ws : va_W}
theorem cj_aload (C : zq_C M E D tA A p s m args meth c) {j : Fin 4} {i x : Nat} (q : Nat) (hd : decode M.2.1 pc = .ok (.aload_n j, 1)) (hi : (j : Nat) = i) (hL : L[q]? = some (i, .ref x)) (kk : Cj M D A p l e rm s m args below meth c Q k n (pc + 1) L (.ref x :: S) ws) : Cj M D A p l e rm s m args below meth c Q k n pc L S ws := fun H locs ls hl hP hD hS => lv_aload_n C.1 C.2.1 hd hi (lv_at hl q hL) (kk H locs ls hl hP hD hS)
theorem cj_iload (C : zq_C M E D tA A p s m args meth c) {j : Fin 4} {i : Nat} {x : Int32} (q : Nat) (hd : decode M.2.1 pc = .ok (.iload_n j, 1)) (hi : (j : Nat) = i) (hL : L[q]? = some (i, .int x)) (kk : Cj M D A p l e rm s m args below meth c Q k n (pc + 1) L (.int x :: S) ws) : Cj M D A p l e rm s m args below meth c Q k n pc L S ws := fun H locs ls hl hP hD hS => lv_iload_n C.1 C.2.1 hd hi (lv_at hl q hL) (kk H locs ls hl hP hD hS)
theorem cj_iconst (C : zq_C M E D tA A p s m args meth c) {i : Int} {v : Int32} (hd : decode M.2.1 pc = .ok (.iconst i, 1)) (hv : Int32.ofInt i = v) (kk : Cj M D A p l e rm s m args below meth c Q k n (pc + 1) L (.int v :: S) ws) : Cj M D A p l e rm s m args below meth c Q k n pc L S ws := fun H locs ls hl hP hD hS => lv_iconst C.1 C.2.1 hd hv (kk H locs ls hl hP hD hS)
theorem cj_bipush (C : zq_C M E D tA A p s m args meth c) {i : Int} {v : Int32} (hd : decode M.2.1 pc = .ok (.bipush i, 2)) (hv : (Int8.ofInt i).toInt32 = v) (kk : Cj M D A p l e rm s m args below meth c Q k n (pc + 2) L (.int v :: S) ws) : Cj M D A p l e rm s m args below meth c Q k n pc L S ws := fun H locs ls hl hP hD hS => lv_bipush C.1 C.2.1 hd hv (kk H locs ls hl hP hD hS)
theorem cj_sipush (C : zq_C M E D tA A p s m args meth c) {i : Int} {v : Int32} (hd : decode M.2.1 pc = .ok (.sipush i, 3)) (hv : (Int16.ofInt i).toInt32 = v) (kk : Cj M D A p l e rm s m args below meth c Q k n (pc + 3) L (.int v :: S) ws) : Cj M D A p l e rm s m args below meth c Q k n pc L S ws := fun H locs ls hl hP hD hS => lv_sipush C.1 C.2.1 hd hv (kk H locs ls hl hP hD hS)
theorem cj_dup (C : zq_C M E D tA A p s m args meth c) {a : Value} (hd : decode M.2.1 pc = .ok (.dup, 1)) (ha : a.category = 1) (kk : Cj M D A p l e rm s m args below meth c Q k n (pc + 1) L (a :: a :: S) ws) : Cj M D A p l e rm s m args below meth c Q k n pc L (a :: S) ws := fun H locs ls hl hP hD hS => lv_dup C.1 C.2.1 hd ha (kk H locs ls hl hP hD hS)
theorem cj_iadd (C : zq_C M E D tA A p s m args meth c) {x y v : Int32} (hd : decode M.2.1 pc = .ok (.iadd, 1)) (hv : x + y = v) (kk : Cj M D A p l e rm s m args below meth c Q k n (pc + 1) L (.int v :: S) ws) : Cj M D A p l e rm s m args below meth c Q k n pc L (.int y :: .int x :: S) ws := by
  subst hv
  exact fun H locs ls hl hP hD hS => lv_iadd C.1 C.2.1 hd (kk H locs ls hl hP hD hS)
theorem cj_istore (C : zq_C M E D tA A p s m args meth c) {j : Fin 4} {i : Nat} {x : Int32} {L' : List (Nat × Value)} (hd : decode M.2.1 pc = .ok (.istore_n j, 1)) (hi : (j : Nat) = i) (hm : i < M.2.2.1) (hL : (i, Value.int x) :: L.filter (fun q => !(q.1 == i) && !(q.1 + 1 == i && q.2.category == 2)) = L') (kk : Cj M D A p l e rm s m args below meth c Q k n (pc + 1) L' S ws) : Cj M D A p l e rm s m args below meth c Q k n pc L (.int x :: S) ws := fun H locs _ hl hP hD hS => lv_istore_n C.1 C.2.1 hd hi hl hm hL (fun ls hl2 => kk H locs ls hl2 hP hD hS)
theorem cj_iinc (C : zq_C M E D tA A p s m args meth c) {i : Nat} {y : Int} {x v : Int32} {L' : List (Nat × Value)} (q : Nat) (hd : decode M.2.1 pc = .ok (.iinc i y, 3)) (hk : L[q]? = some (i, .int x)) (hv : x + Int32.ofInt y = v) (hm : i < M.2.2.1) (hL : (i, Value.int v) :: L.filter (fun q => !(q.1 == i) && !(q.1 + 1 == i && q.2.category == 2)) = L') (kk : Cj M D A p l e rm s m args below meth c Q k n (pc + 3) L' S ws) : Cj M D A p l e rm s m args below meth c Q k n pc L S ws := fun H locs _ hl hP hD hS => lv_iinc C.1 C.2.1 hd hl hk hv hm hL (fun ls hl2 => kk H locs ls hl2 hP hD hS)
theorem cj_goto (C : zq_C M E D tA A p s m args meth c) {off : Int} {tgt : Nat} (hd : decode M.2.1 pc = .ok (.goto off, 3)) (ht : (pc : Int) + off = (tgt : Int)) (kk : Cj M D A p l e rm s m args below meth c Q k n tgt L S ws) : Cj M D A p l e rm s m args below meth c Q k n pc L S ws := fun H locs ls hl hP hD hS => lv_goto C.1 C.2.1 hd ht (kk H locs ls hl hP hD hS)
theorem cj_ge_t (C : zq_C M E D tA A p s m args meth c) {x y : Int32} {off : Int} {tgt : Nat} (hd : decode M.2.1 pc = .ok (.if_icmp .ge off, 3)) (ht : (pc : Int) + off = (tgt : Int)) (h : y ≤ x) (kk : Cj M D A p l e rm s m args below meth c Q k n tgt L S ws) : Cj M D A p l e rm s m args below meth c Q k n pc L (.int y :: .int x :: S) ws := fun H locs ls hl hP hD hS => lv_icmp_ge C.1 C.2.1 hd ht (fun _ => kk H locs ls hl hP hD hS) (fun q => absurd h q)
theorem cj_ge_f (C : zq_C M E D tA A p s m args meth c) {x y : Int32} {off : Int} {tgt : Nat} (hd : decode M.2.1 pc = .ok (.if_icmp .ge off, 3)) (ht : (pc : Int) + off = (tgt : Int)) (h : ¬ y ≤ x) (kk : Cj M D A p l e rm s m args below meth c Q k n (pc + 3) L S ws) : Cj M D A p l e rm s m args below meth c Q k n pc L (.int y :: .int x :: S) ws := fun H locs ls hl hP hD hS => lv_icmp_ge C.1 C.2.1 hd ht (fun q => absurd q h) (fun _ => kk H locs ls hl hP hD hS)
theorem cj_get (C : zq_C M E D tA A p s m args meth c) {idx ci j a : Nat} {fs : List Value} {v : Value} {ft : FieldType} {fin : Bool} (q : Nat) (hd : decode M.2.1 pc = .ok (.getfield idx, 3)) (hk : z_Lk M.1.cls idx ci j ft fin) (h0 : ws[q]? = some (a, .inr (ci, fs))) (hv : fs[j]? = some v) (kk : Cj M D A p l e rm s m args below meth c Q k n (pc + 3) L (v :: S) ws) : Cj M D A p l e rm s m args below meth c Q k n pc L (.ref a :: S) ws := by
  intro H locs ls hl hP hD hS
  obtain ⟨c1, c2, c3, c4, c5, c6, c7, c8, c9, c10⟩ := C
  obtain ⟨CC, T, N, ty, ⟨e1, e2, e3, e4⟩, hj, -, -, hlk⟩ := hk
  rcases hlk with hlk | ⟨host, hlk⟩
  · exact va_get (T := T) (ref := (T j).1) c1 c2 c6 e2 c5 c8 hP q h0 e1 j hj (c6 _ hlk) (fun _ h9 => h9) hv hd (kk H locs ls hl hP hD hS)
  · exact va_getN (T := T) (ref := (T j).1) (host := host) c1 c2 c6 e2 c5 c8 hP q h0 e1 j hj (va_Nw.use rfl (c9 _ hlk)) (fun _ h9 => h9) hv hd (kk H locs ls hl hP hD hS)
theorem cj_put (C : zq_C M E D tA A p s m args meth c) {idx ci j a : Nat} {fs : List Value} {v : Value} {ft : FieldType} {ws' : va_W} (q : Nat) (hd : decode M.2.1 pc = .ok (.putfield idx, 3)) (hk : z_Lk M.1.cls idx ci j ft false) (h0 : ws[q]? = some (a, .inr (ci, fs))) (hjl : j < fs.length) (hnw : narrow ft v = v) (hft : fits ft v = true) (hs : ws.set q (a, .inr (ci, fs.set j v)) = ws') (kk : Cj M D A p l e rm s m args below meth c Q k n (pc + 3) L S ws') : Cj M D A p l e rm s m args below meth c Q k n pc L (v :: .ref a :: S) ws := by
  intro H locs ls hl hP hD hS
  obtain ⟨c1, c2, c3, c4, c5, c6, c7, c8, c9, c10⟩ := C
  obtain ⟨CC, T, N, ty, ⟨e1, e2, e3, e4⟩, hj, hty, hfin, hlk⟩ := hk
  subst hs
  rcases hlk with hlk | ⟨host, hlk⟩
  · exact va_put (T := T) (ref := (T j).1) (ty := ft) c1 c2 c6 e2 ty e3 e4 c5 c8 hP hD hS q h0 e1 j hj (c6 _ hlk) (fun _ h9 => h9) hfin (by rw [e3 j hj, hty]) hnw hft hjl hd (fun H1 locs1 hP1 hD1 hS1 => kk H1 locs1 ls hl hP1 hD1 hS1)
  · exact va_putN (T := T) (ref := (T j).1) (host := host) (ty := ft) c1 c2 c6 e2 ty e3 e4 c5 c8 hP hD hS q h0 e1 j hj (va_Nw.use rfl (c9 _ hlk)) (fun _ h9 => h9) hfin (by rw [e3 j hj, hty]) hnw hft hjl hd (fun H1 locs1 hP1 hD1 hS1 => kk H1 locs1 ls hl hP1 hD1 hS1)
theorem cj_putF (C : zq_C M E D tA A p s m args meth c) {idx ci a N : Nat} {CC : String} {T : u_T} {ty : Nat → FieldType} {fs : List Value} {v : Value} {ws' : va_W} (j q : Nat) (hd : decode M.2.1 pc = .ok (.putfield idx, 3)) (hk : z_Kl ci CC T N ty) (hj : j < N) (hlk : Cond.fieldLink M.1.cls idx (T j).1 (T j).2.1 (T j).2.2.1 ∈ z_T) (hfin : (T j).2.2.2 = true) (hdecl : (T j).1 = M.1.cls) (h0 : ws[q]? = some (a, .inr (ci, fs))) (hjl : j < fs.length) (hnw : narrow (ty j) v = v) (hft : fits (ty j) v = true) (hs : ws.set q (a, .inr (ci, fs.set j v)) = ws') (kk : Cj M D A p l e rm s m args below meth c Q k n (pc + 3) L S ws') (hM0 : M.2.2.2.1 = none := by rfl) : Cj M D A p l e rm s m args below meth c Q k n pc L (v :: .ref a :: S) ws := by
  intro H locs ls hl hP hD hS
  obtain ⟨c1, c2, c3, c4, c5, c6, c7, c8, c9, c10, c11⟩ := C
  obtain ⟨e1, e2, e3, e4⟩ := hk
  subst hs
  exact va_putF (T := T) (ref := (T j).1) (ty := ty j) c1 c2 c6 e2 ty e3 e4 c5 c8 hP hD hS q h0 e1 j hj (c6 _ hlk) (fun _ h9 => h9) hfin (c10 hM0) hdecl (e3 j hj) hnw hft hjl hd (fun H1 locs1 hP1 hD1 hS1 => kk H1 locs1 ls hl hP1 hD1 hS1)
theorem cj_newa (C : zq_C M E D tA A p s m args meth c) {i : Int32} {N : Nat} (hd : decode M.2.1 pc = .ok (.newarray .int, 2)) (hk : Cond.arrayClass .int ∈ z_T) (hn : ¬ i < 0) (hN : i.toNatClampNeg = N) (hb : N * 4 ≤ 536870912) (h1 : k + 1 ≤ rm.cells) (h2 : n + N ≤ rm.slots) (kk : ∀ q : Nat, Cj M D A p l e rm s m args below meth c Q (k + 1) (n + N) (pc + 2) L (.ref q :: S) (ws ++ [(q, .inl (tA 0, N, .inl (fun _ => 0)))])) : Cj M D A p l e rm s m args below meth c Q k n pc L (.int i :: S) ws := by
  intro H locs ls hl hP hD hS
  obtain ⟨c1, c2, c3, c4, c5, c6, c7, c8, c9, c10, c11, c12⟩ := C
  refine va_newa (atype := .int) (a0 := (N, .inl (fun _ => 0))) c1 c2 (c6 _ hk) rfl c8 hP hD hS c11 (fun _ => rfl) hn hN hb h1 h2 hd (fun q cA H1 hK1 hP1 hD1 hS1 => ?_)
  have e1 : s.vm.findClass ("[" ++ FieldType.int.toString) = some cA := (hK1.2 3 (cA, .int) rfl).2
  have e2 : s.vm.findClass ("[" ++ FieldType.int.toString) = some (tA 0) := (c8.2 0 (tA 0, .int) rfl).2
  cases e1.symm.trans e2
  exact kk q H1 locs ls hl hP1 hD1 hS1
theorem cj_anew (C : zq_C M E D tA A p s m args meth c) {i : Int32} {N idx : Nat} (t : Nat) {CC : String} (hd : decode M.2.1 pc = .ok (.anewarray idx, 3)) (hk : Cond.classLink M.1.cls idx CC ∈ z_T) (hao : va_AO CC s) (ht : (z_tys tA)[t]? = some (tA t, .object CC)) (hn : ¬ i < 0) (hN : i.toNatClampNeg = N) (hb : N * 4 ≤ 536870912) (h1 : k + 1 ≤ rm.cells) (h2 : n + N ≤ rm.slots) (kk : ∀ q : Nat, Cj M D A p l e rm s m args below meth c Q (k + 1) (n + N) (pc + 3) L (.ref q :: S) (ws ++ [(q, .inl (tA t, N, .inr (.inr (.inr (.inr (fun _ => none))))))])) : Cj M D A p l e rm s m args below meth c Q k n pc L (.int i :: S) ws := by
  intro H locs ls hl hP hD hS
  obtain ⟨c1, c2, c3, c4, c5, c6, c7, c8, c9, c10, c11, c12⟩ := C
  refine va_newq c1 c2 c5 (c6 _ hk) hao c8 hP hD hS c11 hn hN hb h1 h2 hd (fun q cA H1 hK1 hP1 hD1 hS1 => ?_)
  obtain ⟨-, -, -, -, -, e1⟩ := (hK1.2 3 (cA, .object CC) rfl).2
  obtain ⟨-, -, -, -, -, e2⟩ := (c8.2 t (tA t, .object CC) ht).2
  cases e1.symm.trans e2
  exact kk q H1 locs ls hl hP1 hD1 hS1
theorem cj_iast (C : zq_C M E D tA A p s m args meth c) {a N : Nat} {f : Nat → Int32} {i x : Int32} {ws' : va_W} (q : Nat) (hd : decode M.2.1 pc = .ok (.iastore, 1)) (h0 : ws[q]? = some (a, .inl (tA 0, N, .inl f))) (hi : vp_in i N) (hs : ws.set q (a, .inl (tA 0, N, .inl (upd f i.toNatClampNeg x))) = ws') (kk : Cj M D A p l e rm s m args below meth c Q k n (pc + 1) L S ws') : Cj M D A p l e rm s m args below meth c Q k n pc L (.int x :: .int i :: .ref a :: S) ws := by
  intro H locs ls hl hP hD hS
  obtain ⟨c1, c2, c3, c4, c5, c6, c7, c8, c9, c10⟩ := C
  subst hs
  exact va_iast c1 c2 c8 hP hD hS q 0 h0 rfl hi hd (fun H1 locs1 hP1 hD1 hS1 => kk H1 locs1 ls hl hP1 hD1 hS1)
theorem cj_aast (C : zq_C M E D tA A p s m args meth c) {a N v ci : Nat} {vs : List Value} {r : vw_C} {f : Nat → Option Nat} {i : Int32} {ws' : va_W} (q t qk : Nat) (hd : decode M.2.1 pc = .ok (.aastore, 1)) (h0 : ws[q]? = some (a, .inl (tA t, N, .inr (.inr (.inr (.inr f)))))) (ht : (z_tys tA)[t]? = some (tA t, .object r.1)) (hv : ws[qk]? = some (v, .inr (ci, vs))) (hc : vwCl[ci]? = some r) (hi : vp_in i N) (hs : ws.set q (a, .inl (tA t, N, .inr (.inr (.inr (.inr (va_up f i.toNatClampNeg (some v))))))) = ws') (kk : Cj M D A p l e rm s m args below meth c Q k n (pc + 1) L S ws') : Cj M D A p l e rm s m args below meth c Q k n pc L (.ref v :: .int i :: .ref a :: S) ws := by
  intro H locs ls hl hP hD hS
  obtain ⟨c1, c2, c3, c4, c5, c6, c7, c8, c9, c10⟩ := C
  subst hs
  exact va_astq c1 c2 c8 hP hD hS q t qk ci h0 ht hv hc hi hd (fun H1 locs1 hP1 hD1 hS1 => kk H1 locs1 ls hl hP1 hD1 hS1)
theorem cj_aastS (C : zq_C M E D tA A p s m args meth c) {a N j : Nat} {f : Nat → Option Nat} {i : Int32} {ws' : va_W} (q : Nat) (hd : decode M.2.1 pc = .ok (.aastore, 1)) (h0 : ws[q]? = some (a, .inl (tA 2, N, .inr (.inr (.inr (.inr f)))))) (hj : j < 14) (hi : vp_in i N) (hs : ws.set q (a, .inl (tA 2, N, .inr (.inr (.inr (.inr (va_up f i.toNatClampNeg (some (E.1 j)))))))) = ws') (kk : Cj M D A p l e rm s m args below meth c Q k n (pc + 1) L S ws') : Cj M D A p l e rm s m args below meth c Q k n pc L (.ref (E.1 j) :: .int i :: .ref a :: S) ws := by
  intro H locs ls hl hP hD hS
  obtain ⟨c1, c2, c3, c4, c5, c6, c7, c8, c9, c10, c11, c12, c13⟩ := C
  subst hs
  exact vb_astq (C := "java/lang/String") c1 c2 c8 hP hD hS q 2 h0 rfl (vk_recv c13.1 hj hS) (vb_asgS (C := "java/lang/String")) hi hd (fun H1 locs1 hP1 hD1 hS1 => kk H1 locs1 ls hl hP1 hD1 hS1)
theorem cj_ldcS (C : zq_C M E D tA A p s m args meth c) {idx i : Nat} {tx : String} (hd : decode M.2.1 pc = .ok (.ldc idx, 2)) (hk : (M.1.cls, idx, tx, i) ∈ z_sx) (kk : Cj M D A p l e rm s m args below meth c Q k n (pc + 2) L (.ref (E.1 i) :: S) ws) : Cj M D A p l e rm s m args below meth c Q k n pc L S ws := by
  intro H locs ls hl hP hD hS
  obtain ⟨c1, c2, c3, c4, c5, c6, c7, c8, c9, c10, c11, c12, c13⟩ := C
  exact va_ldcS c1 c2 c5 (c13.2.1 _ hk) hd (kk H locs ls hl hP hD hS)
theorem cj_new (C : zq_C M E D tA A p s m args meth c) {idx ci N : Nat} {CC : String} {T : u_T} {ty : Nat → FieldType} {fs : List Value} (hd : decode M.2.1 pc = .ok (.new idx, 3)) (hk : z_Kl ci CC T N ty) (hcl : Cond.classLink M.1.cls idx CC ∈ z_T) (hin : Cond.instantiable CC N ∈ z_T) (hini : Cond.initialized CC ∈ z_T) (hfs : ∀ j, j < N → defaultValue (ty j) = vp_V fs j) (h1 : k + 1 ≤ rm.cells) (h2 : n + N ≤ rm.slots) (kk : ∀ q : Nat, Cj M D A p l e rm s m args below meth c Q (k + 1) (n + N) (pc + 3) L (.ref q :: S) (ws ++ [(q, .inr (ci, fs))])) : Cj M D A p l e rm s m args below meth c Q k n pc L S ws := by
  intro H locs ls hl hP hD hS
  obtain ⟨c1, c2, c3, c4, c5, c6, c7, c8, c9, c10, c11, c12⟩ := C
  obtain ⟨e1, e2, e3, e4⟩ := hk
  exact va_new (T := T) (N := N) c1 c2 c6 e2 ty e3 c5 (c6 _ hcl) (c6 _ hin) (c6 _ hini) c8 hP hD hS c11 e1 hfs h1 h2 hd (fun q H1 hP1 hD1 hS1 => kk q H1 locs ls hl hP1 hD1 hS1)
theorem cj_obj (C : zq_C M E D tA A p s m args meth c) {idx a : Nat} (hd : decode M.2.1 pc = .ok (.invokespecial idx, 3)) (hk : Cond.methodLink M.1.cls idx objectInit ∈ z_T) (hk2 : Cond.instanceMethod objectInit ∈ z_T ∧ Cond.code objectInit ⟨#[0xb1]⟩ 1 none ∈ z_T) (hf : 1 ≤ rm.frames) (hr : 31 ≤ rm.locals) (hS0 : (S.map fun v => v.category).sum ≤ 8) (kk : Cj M D A p l e rm s m args below meth c Q k n (pc + 3) L S ws) : Cj M D A p l e rm s m args below meth c Q k n pc L (.ref a :: S) ws := by
  intro H locs ls hl hP hD hS
  obtain ⟨c1, c2, c3, c4, c5, c6, c7, c8, c9, c10⟩ := C
  have hlr : 2 * (F0 m pc ls (.ref a :: S)).monitorRoom + (S.map fun v => v.category).sum ≤ 8 := lv_room hS0
  exact W.objInit c1 c2 c5 (c6 _ hk) (c6 _ hk2.1) (c6 _ hk2.2) rfl (by rw [c4]; exact hl.1) rfl hd hf (by omega) (kk H locs ls hl hP hD hS)
theorem cj_widen {k2 n2 : Nat} (h1 : k ≤ k2) (h2 : n ≤ n2) (kk : Cj M D A p l e rm s m args below meth c Q k2 n2 pc L S ws) : Cj M D A p l e rm s m args below meth c Q k n pc L S ws := fun H locs ls hl hP hD hS => W.widen h1 h2 (kk H locs ls hl hP hD hS)
/-- another constructor, on the newest cell -/
theorem cj_call (C : zq_C M E D tA A p s m args meth c) {Y : zM} {idx ci a k1 n1 : Nat} {fs : List Value} {h1 : zH} {wr : va_W} (hd : decode M.2.1 pc = .ok (.invokespecial idx, 3)) (hY : z_ok Y) (hYp : z_np Y 0) (hYr : Y.2.2.2.1 = none) (hYn : Y.1.name = "<init>") (hYi : Cond.instanceMethod Y.1 ∈ z_T) (hk : z_Lm M.1.cls idx Y) (hf : Y.2.2.2.2 + 1 ≤ rm.frames) (hlo : 31 * Y.2.2.2.2 + 31 ≤ rm.locals) (hS0 : (S.map fun v => v.category).sum ≤ 8) (hc1 : k + k1 ≤ rm.cells) (hc2 : n + n1 ≤ rm.slots) (hM : Kx Y ci fs h1 k1 n1)
    (hw : ws = wr ++ [(a, .inr (ci, fs))]) (hz : va_nd (List.range wr.length) = true) (kk : ∀ ad : Nat → Nat, ad 0 = a → Cj M D A p l e rm s m args below meth c Q (k + k1) (n + n1) (pc + 3) L S (wr ++ z_ws tA ad 0 h1)) : Cj M D A p l e rm s m args below meth c Q k n pc L (.ref a :: S) ws := by
  intro H locs ls hl hP hD hS
  obtain ⟨c1, c2, c3, c4, c5, c6, c7, c8, c9, c10, c11, c12, c13⟩ := id C
  obtain ⟨y1, y2, y3, y4, y5⟩ := hY
  subst hw
  have hlast : (wr ++ [(a, (Sum.inr (ci, fs) : va_E))])[wr.length]? = some (a, .inr (ci, fs)) := by simp
  have hAa : A a := hD.2 wr.length _ hlast
  have hPc : va_P D vwCl [(a, .inr (ci, fs))] H := hP.sub [wr.length] (by simp)
  have hFc : ∀ q, zq_A a H.size q → A q := by
    intro q hq
    rcases hq with rfl | hq
    · exact hAa
    · exact c11 q (Nat.le_trans hS.1 hq)
  have hlo2 : 8 + (Y.2.2.1 + 11) + (zq_rm Y.2.2.2.2 k1 n1).locals ≤ rm.locals := by
    show 8 + (Y.2.2.1 + 11) + 31 * Y.2.2.2.2 ≤ rm.locals
    omega
  have hlr : 2 * (F0 m pc ls (.ref a :: S)).monitorRoom + (S.map fun v => v.category).sum ≤ 8 := lv_room hS0
  have hcode : Cond.code Y.1 Y.2.1 Y.2.2.1 none ∈ z_wd Y := by rw [← hYr]; exact List.mem_cons_self
  have y1' : Cond.code Y.1 Y.2.1 Y.2.2.1 none ∈ z_T := by rw [← hYr]; exact y1
  have hpre : PreS s H (va_Pc [.ref a] (zq_P E D tA a ci fs H.size)) (.ref a :: []) := by
    refine ⟨fun a' U g mk q => ?_, fun U hU hW => ⟨rfl, by rw [hU], by rw [hU]; exact hPc, va_K.moved hW.alike c8, c9.pass hW, ⟨va_AO.moved hW.alike c12.1, va_AO.moved hW.alike c12.2⟩, z_EX.pass c13 hU hW (fun a h1 h2 => hS.2.1 a h1 h2) hFc⟩⟩
    obtain ⟨q0, q1, q2, q3, q4, q5, q6⟩ := q
    exact ⟨q0, q1, q2, va_K.moved (u := U) (U := U.calling g mk a') (Vm.Alike.refl U.vm) q3, q4.calling, ⟨va_AO.moved (u := U) (U := U.calling g mk a') (Vm.Alike.refl U.vm) q5.1, va_AO.moved (u := U) (U := U.calling g mk a') (Vm.Alike.refl U.vm) q5.2⟩, q6.calling⟩
  have fin : ∀ {T : Prop}, T → T := fun h => h
  have go : va_Run p l e rm s m args below meth c H locs k n k1 n1 (F0 m pc ls (.ref a :: S)) S (zq_Q E D tA a h1 (zq_A a H.size) #[.ref a]) (zq_A a H.size) := by
    rcases hk with hk | ⟨host, hk⟩
    · exact va_runI (b := a) (As := []) (rest := S) (g := F0 m pc ls (.ref a :: S)) ⟨c1, c2, c4, c5, c6⟩ (hM l E D tA a H.size) ⟨⟨rfl, rfl, hf, hlo2, z_payT c6 y1, hcode, c6 _ y1', c6 _ y2, y3, hYp, c6 _ hk⟩, hYn, c6 _ hYi⟩ hpre rfl rfl hl.1 rfl hlr hd ⟨hc1, hc2⟩
    · exact va_runIN (b := a) (As := []) (rest := S) (g := F0 m pc ls (.ref a :: S)) (host := host) ⟨c1, c2, c4, c5, c6⟩ (hM l E D tA a H.size) ⟨⟨⟨rfl, rfl, hf, hlo2, z_payT c6 y1, hcode⟩, c6 _ y1', c6 _ y2, y3, hYp, va_Nw.use rfl (c9 _ hk)⟩, hYn, c6 _ hYi⟩ hpre rfl rfl hl.1 rfl hlr hd ⟨hc1, hc2⟩
  intro T hT X
  obtain ⟨v, st₀, t, T', LL, g0, X', hL, e1, e2, ⟨⟨hv, ad, ha, hsa, hP1, hD1⟩, hz1, hk1⟩, st⟩ := go T hT X
  cases hv
  rw [g0] at hz1 hk1
  have hA2 : ∀ q, va_A [(a, (Sum.inr (ci, fs) : va_E))] H.size q ↔ zq_A a H.size q := by
    intro q
    constructor
    · rintro (⟨j, x, hx⟩ | hx)
      · cases j with
        | zero => cases hx; exact Or.inl rfl
        | succ j => simp at hx
      · exact Or.inr hx
    · rintro (rfl | hx)
      · exact Or.inl ⟨0, _, rfl⟩
      · exact Or.inr hx
  obtain ⟨hP2, hD2⟩ := va_join (A0 := A) (wr := wr) (wc := [(a, .inr (ci, fs))]) (w1 := z_ws tA ad 0 h1) (H1 := t.heap) hP hD [wr.length] (List.range wr.length) (by simp) (zq_range wr _) hz (fun i hi => by have := List.mem_range.mp hi; simp only [List.mem_singleton]; omega) (fun q h2 h3 => hk1 q h2 (fun z => h3 ((hA2 q).mpr z))) (fun q h2 => hFc q ((hA2 q).mp h2)) hP1 (hD1.weaken (fun _ q _ h => (hA2 q.1).mpr h))
  obtain ⟨t2, a1, b1⟩ := kk ad ha t.heap (locs ++ LL) ls hl hP2 hD2
    ⟨Nat.le_trans hS.1 hz1, fun q h2 h3 => by rw [hk1 q (Nat.lt_of_lt_of_le h2 hS.1) (fun z => h3 (hFc q z))]; exact hS.2.1 q h2 h3, fun q hq => by
      rcases List.mem_append.mp hq with h | h
      · exact hS.2.2 q h
      · exact hFc _ (hL q h)⟩ T' e1 X'
  exact ⟨t2, st t2 a1, b1⟩
theorem cj_ret (C : zq_C M E D tA A p s m args meth c) {h0 : Nat} {h : zH} (ad : Nat → Nat) (hd : decode M.2.1 pc = .ok (.return_, 1)) (ha : ad 0 = h0) (hsa : z_sa E ad) (hw : z_ws tA ad 0 h = ws) (hM0 : M.2.2.2.1 = none := by rfl) : Cj M D A p l e rm s m args below meth c (MQ below (zq_Q E D tA h0 h A) args s k n A) k n pc L [] ws := by
  intro H locs ls hl hP hD hS
  obtain ⟨c1, c2, c3, c4, c5, c6, c7, c8, c9, c10⟩ := C
  subst hw
  exact W.vret c1 c2 (c3 hM0) (fun t ht hW => ⟨⟨rfl, ad, ha, hsa, by rw [ht]; exact hP, hD⟩, hS.F ht⟩) hS.2.2 hd c7
end KX
/-- a constructor, out of the walk of its frame from its entry -/
theorem kx_of {M : zM} {ci k n : Nat} {fs : List Value} {h : zH} (hp : plainName M.1.cls = true) (hr : M.2.2.2.1 = none) (hn : 1 ≤ M.2.2.1) (hnm : M.1.name = "<init>")
    (kk : ∀ (l : Launch) (E : zE) (D : va_G) (tA : Nat → ClassId) (A : Nat → Prop) (p : Program) (e : Env) (s : State) (m : MethodId) (args : Array Value) (below : List Frame) (meth : Method) (c : Code) (h0 : Nat), zq_C M E D tA A p s m args meth c → Cj M D A p l e (zq_rm M.2.2.2.2 k n) s m args below meth c (MQ below (zq_Q E D tA h0 h A) args s k n A) 0 0 0 [(0, .ref h0)] [] [(h0, .inr (ci, fs))]) : Kx M ci fs h k n := by
  intro l E D tA h0 sz
  refine Met.ofW (cc := M.2.1) (maxL := M.2.2.1) (ret := M.2.2.2.1) hp rfl ?_
  intro p e s m args below meth c s₁ B hml hv
  obtain ⟨rfl, rfl, hP, hK, hN, hO, hE⟩ := hv
  have hts := atoms_spec (ws := z_wd M) B.pre
  have hown : s.vm.findClass M.1.cls = some m.cls := findClass_of_methodNamed B.named
  have hin : meth.name = "<init>" := ((name_of_methodNamed B.named B.method).1).trans hnm
  have hl := lv_entry [Value.ref h0] (n := M.2.2.1) hn
  rw [lg_entry_eq]
  refine kk l E D tA (zq_A h0 s.heap.size) p e s m _ below meth c h0 ⟨B.exec, B.bytes, fun _ => B.returns.trans hr, hml, hown, fun w hw => hts w (z_Tw hw), B.notSynchronized, hK, hN, fun _ => hin, fun q h => Or.inr h, hO, hE⟩ s.heap [] _ hl hP ⟨fun i j a b ha hb _ => ?_, fun i q hq => ?_⟩ va_S.rf
  · have h1 := (List.getElem?_eq_some_iff.mp ha).1
    have h2 := (List.getElem?_eq_some_iff.mp hb).1
    simp at h1 h2
    omega
  · cases i with
    | zero => cases hq; exact Or.inl rfl
    | succ i => simp at hq
