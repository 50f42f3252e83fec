/-! ===== the law's frame between its loop's rounds: two objects, apart ===== -/
set_option maxRecDepth 100000
theorem z_len_at : ∀ (h : zH) (i : Nat), i < h.length → ∃ x, z_at h i = some x := by
  intro h
  induction h with
  | nil => intro i hi; exact absurd hi (Nat.not_lt_zero _)
  | cons a r ih =>
    intro i hi
    cases i with
    | zero => exact ⟨a, rfl⟩
    | succ i => exact ih i (Nat.lt_of_succ_lt_succ hi)
theorem z_ws_len (tA : Nat → ClassId) (ad : Nat → Nat) : ∀ (h : zH) (k : Nat), (z_ws tA ad k h).length = h.length := by
  intro h
  induction h with
  | nil => intro k; rfl
  | cons a r ih => intro k; show (z_ws tA ad (k + 1) r).length + 1 = r.length + 1; rw [ih]
def zl_C (E : zE) (D : va_G) (tA : Nat → ClassId) (p : Program) (s : State) (m : MethodId) (meth : Method) (c : Code) (b L : Nat) (xs : Nat → Int32) : Prop :=
  p.tables.exec = Jvm.exec ∧ c.code = code ∧ meth.sig.returnType = ret ∧ c.maxLocals = 4 ∧ s.vm.findClass RL = some m.cls ∧ (∀ w ∈ z_T, w.before #[Value.ref b] s = true) ∧ meth.locks = false ∧ va_K D vwCl (z_tys tA) s ∧ z_nst s ∧ z_EX E (fun q => s.heap.size ≤ q) s s.heap ∧ va_X b L xs s s.heap ∧ b < s.heap.size
def zl_G (E : zE) (s : State) (adC adM : Nat → Nat) : Prop := (z_ap adC 38 ∧ z_sa E adC ∧ ∀ i, i < 38 → s.heap.size ≤ adC i) ∧ (z_ap adM 15 ∧ z_sa E adM ∧ ∀ i, i < 15 → s.heap.size ≤ adM i) ∧ ∀ i j, i < 38 → j < 15 → adC i ≠ adM j
def Lj (D : va_G) (tA : Nat → ClassId) (p : Program) (l : Launch) (e : Env) (s : State) (m : MethodId) (below : List Frame) (meth : Method) (c : Code) (b : Nat) (adC adM : Nat → Nat) (Q : State → Prop) (pc k0 : Nat) (S : List Value) (hC hM : zH) : Prop :=
  ∀ (H : Heap) (locs : List Loc) (ls : Array Slot), lv_has ls 4 [(3, .int (nI k0)), (2, .ref (adM 0)), (1, .ref (adC 0)), (0, .ref b)] → va_P D vwCl (z_ws tA adC 0 hC) H → va_P D vwCl (z_ws tA adM 0 hM) H → va_S (fun q => s.heap.size ≤ q) s.heap H locs →
    W p l e room_1 s m #[Value.ref b] below meth c H locs 53 2219 Q (F0 m pc ls S)
section LJ
variable {E : zE} {D : va_G} {tA : Nat → ClassId} {p : Program} {l : Launch} {e : Env} {s : State} {m : MethodId} {below : List Frame} {meth : Method} {c : Code} {b L : Nat} {xs : Nat → Int32} {adC adM : Nat → Nat} {Q : State → Prop} {pc k0 : Nat} {S : List Value} {hC hM : zH}
theorem lj_a1 (C : zl_C E D tA p s m meth c b L xs) (hd : decode code pc = .ok (.aload_n 1, 1)) (kk : Lj D tA p l e s m below meth c b adC adM Q (pc + 1) k0 (.ref (adC 0) :: S) hC hM) : Lj D tA p l e s m below meth c b adC adM Q pc k0 S hC hM := fun H locs ls hl h1 h2 hS => lv_aload_n C.1 C.2.1 hd rfl (lv_at hl 2 rfl) (kk H locs ls hl h1 h2 hS)
theorem lj_a2 (C : zl_C E D tA p s m meth c b L xs) (hd : decode code pc = .ok (.aload_n 2, 1)) (kk : Lj D tA p l e s m below meth c b adC adM Q (pc + 1) k0 (.ref (adM 0) :: S) hC hM) : Lj D tA p l e s m below meth c b adC adM Q pc k0 S hC hM := fun H locs ls hl h1 h2 hS => lv_aload_n C.1 C.2.1 hd rfl (lv_at hl 1 rfl) (kk H locs ls hl h1 h2 hS)
theorem lj_a0 (C : zl_C E D tA p s m meth c b L xs) (hd : decode code pc = .ok (.aload_n 0, 1)) (kk : Lj D tA p l e s m below meth c b adC adM Q (pc + 1) k0 (.ref b :: S) hC hM) : Lj D tA p l e s m below meth c b adC adM Q pc k0 S hC hM := fun H locs ls hl h1 h2 hS => lv_aload_n C.1 C.2.1 hd rfl (lv_at hl 3 rfl) (kk H locs ls hl h1 h2 hS)
theorem lj_i3 (C : zl_C E D tA p s m meth c b L xs) (hd : decode code pc = .ok (.iload_n 3, 1)) (kk : Lj D tA p l e s m below meth c b adC adM Q (pc + 1) k0 (.int (nI k0) :: S) hC hM) : Lj D tA p l e s m below meth c b adC adM Q pc k0 S hC hM := fun H locs ls hl h1 h2 hS => lv_iload_n C.1 C.2.1 hd rfl (lv_at hl 0 rfl) (kk H locs ls hl h1 h2 hS)
theorem lj_ic (C : zl_C E D tA p s m meth c b L xs) {i : Int} {v : Int32} (hd : decode code pc = .ok (.iconst i, 1)) (hv : Int32.ofInt i = v) (kk : Lj D tA p l e s m below meth c b adC adM Q (pc + 1) k0 (.int v :: S) hC hM) : Lj D tA p l e s m below meth c b adC adM Q pc k0 S hC hM := fun H locs ls hl h1 h2 hS => lv_iconst C.1 C.2.1 hd hv (kk H locs ls hl h1 h2 hS)
theorem lj_bp (C : zl_C E D tA p s m meth c b L xs) {i : Int} {v : Int32} (hd : decode code pc = .ok (.bipush i, 2)) (hv : (Int8.ofInt i).toInt32 = v) (kk : Lj D tA p l e s m below meth c b adC adM Q (pc + 2) k0 (.int v :: S) hC hM) : Lj D tA p l e s m below meth c b adC adM Q pc k0 S hC hM := fun H locs ls hl h1 h2 hS => lv_bipush C.1 C.2.1 hd hv (kk H locs ls hl h1 h2 hS)
theorem lj_isub (C : zl_C E D tA p s m meth c b L xs) {x y : Int32} (hd : decode code pc = .ok (.isub, 1)) (kk : Lj D tA p l e s m below meth c b adC adM Q (pc + 1) k0 (.int (x - y) :: S) hC hM) : Lj D tA p l e s m below meth c b adC adM Q pc k0 (.int y :: .int x :: S) hC hM := fun H locs ls hl h1 h2 hS => lv_isub C.1 C.2.1 hd (kk H locs ls hl h1 h2 hS)
theorem lj_iand (C : zl_C E D tA p s m meth c b L xs) {x y : Int32} (hd : decode code pc = .ok (.iand, 1)) (kk : Lj D tA p l e s m below meth c b adC adM Q (pc + 1) k0 (.int (x &&& y) :: S) hC hM) : Lj D tA p l e s m below meth c b adC adM Q pc k0 (.int y :: .int x :: S) hC hM := fun H locs ls hl h1 h2 hS => lv_iand C.1 C.2.1 hd (kk H locs ls hl h1 h2 hS)
theorem lj_iadd (C : zl_C E D tA p s m meth c b L xs) {x y v : Int32} (hd : decode code pc = .ok (.iadd, 1)) (hv : x + y = v) (kk : Lj D tA p l e s m below meth c b adC adM Q (pc + 1) k0 (.int v :: S) hC hM) : Lj D tA p l e s m below meth c b adC adM Q pc k0 (.int y :: .int x :: S) hC hM := by
  subst hv
  exact fun H locs ls hl h1 h2 hS => lv_iadd C.1 C.2.1 hd (kk H locs ls hl h1 h2 hS)
theorem lj_iald (C : zl_C E D tA p s m meth c b L xs) {k : Nat} (hk : k < L) (hL : L ≤ 3072) (hd : decode code pc = .ok (.iaload, 1)) (kk : Lj D tA p l e s m below meth c b adC adM Q (pc + 1) k0 (.int (xs k) :: S) hC hM) : Lj D tA p l e s m below meth c b adC adM Q pc k0 (.int (nI k) :: .ref b :: S) hC hM := fun H locs ls hl h1 h2 hS => va_sld C.1 C.2.1 C.2.2.2.2.2.2.2.2.2.2.1 C.2.2.2.2.2.2.2.2.2.2.2 (Nat.not_le.mpr C.2.2.2.2.2.2.2.2.2.2.2) hS (vp_in_nI hk (by omega)) hd (by rw [nI_clamp (n := k) (by omega)]; exact kk H locs ls hl h1 h2 hS)
theorem lj_len (C : zl_C E D tA p s m meth c b L xs) (hd : decode code pc = .ok (.arraylength, 1)) (kk : Lj D tA p l e s m below meth c b adC adM Q (pc + 1) k0 (.int (nI L) :: S) hC hM) : Lj D tA p l e s m below meth c b adC adM Q pc k0 (.ref b :: S) hC hM := fun H locs ls hl h1 h2 hS => va_slen C.1 C.2.1 C.2.2.2.2.2.2.2.2.2.2.1 C.2.2.2.2.2.2.2.2.2.2.2 (Nat.not_le.mpr C.2.2.2.2.2.2.2.2.2.2.2) hS hd (kk H locs ls hl h1 h2 hS)
/-- an argument out of the script -/
theorem lj_arg (C : zl_C E D tA p s m meth c b L xs) {k : Nat} (hk : k0 + k < L) (hL : L ≤ 3072) (hd0 : decode code pc = .ok (.aload_n 0, 1)) (hd1 : decode code (pc + 1) = .ok (.iload_n 3, 1)) (hd2 : decode code (pc + 2) = .ok (.iconst (k : Int), 1)) (hd3 : decode code (pc + 3) = .ok (.iadd, 1)) (hd4 : decode code (pc + 4) = .ok (.iaload, 1)) (hv : Int32.ofInt (k : Int) = nI k) (kk : Lj D tA p l e s m below meth c b adC adM Q (pc + 5) k0 (.int (xs (k0 + k)) :: S) hC hM) : Lj D tA p l e s m below meth c b adC adM Q pc k0 S hC hM :=
  lj_a0 C hd0 (lj_i3 C hd1 (lj_ic C hd2 hv (lj_iadd C (v := nI (k0 + k)) hd3 (nI_add k0 k) (lj_iald C hk hL hd4 kk))))
theorem lj_eq (C : zl_C E D tA p s m meth c b L xs) {x : Int32} {off : Int} {tgt : Nat} (hd : decode code pc = .ok (.if_icmp .eq off, 3)) (ht : (pc : Int) + off = (tgt : Int)) (kk : Lj D tA p l e s m below meth c b adC adM Q tgt k0 S hC hM) : Lj D tA p l e s m below meth c b adC adM Q pc k0 (.int x :: .int x :: S) hC hM := fun H locs ls hl h1 h2 hS => lv_icmp_eq C.1 C.2.1 hd ht (fun _ => kk H locs ls hl h1 h2 hS) (fun q => absurd rfl q)
theorem lj_eq0 (C : zl_C E D tA p s m meth c b L xs) {off : Int} {tgt : Nat} (hd : decode code pc = .ok (.ifCond .eq off, 3)) (ht : (pc : Int) + off = (tgt : Int)) (kk : Lj D tA p l e s m below meth c b adC adM Q tgt k0 S hC hM) : Lj D tA p l e s m below meth c b adC adM Q pc k0 (.int 0 :: S) hC hM := fun H locs ls hl h1 h2 hS => lv_if_eq C.1 C.2.1 hd ht (fun _ => kk H locs ls hl h1 h2 hS) (fun q => absurd rfl q)
theorem lg_cmp_s (x : Int64) : lg_cmp x x = 0 := by simp [lg_cmp]
theorem lj_lcmp (C : zl_C E D tA p s m meth c b L xs) {x : Int64} (hd : decode code pc = .ok (.lcmp, 1)) (kk : Lj D tA p l e s m below meth c b adC adM Q (pc + 1) k0 (.int 0 :: S) hC hM) : Lj D tA p l e s m below meth c b adC adM Q pc k0 (.long x :: .long x :: S) hC hM := fun H locs ls hl h1 h2 hS => W.lcmp C.1 C.2.1 hd (by rw [lg_cmp_s]; exact kk H locs ls hl h1 h2 hS)
theorem lj_gt (C : zl_C E D tA p s m meth c b L xs) {x y : Int32} {off : Int} {tgt : Nat} (hd : decode code pc = .ok (.if_icmp .gt off, 3)) (ht : (pc : Int) + off = (tgt : Int)) (kt : y < x → Lj D tA p l e s m below meth c b adC adM Q tgt k0 S hC hM) (kf : ¬ y < x → Lj D tA p l e s m below meth c b adC adM Q (pc + 3) k0 S hC hM) : Lj D tA p l e s m below meth c b adC adM Q pc k0 (.int y :: .int x :: S) hC hM := fun H locs ls hl h1 h2 hS => lv_icmp_gt C.1 C.2.1 hd ht (fun q => kt q H locs ls hl h1 h2 hS) (fun q => kf q H locs ls hl h1 h2 hS)
theorem lj_goto (C : zl_C E D tA p s m meth c b L xs) {off : Int} {tgt : Nat} (hd : decode code pc = .ok (.goto off, 3)) (ht : (pc : Int) + off = (tgt : Int)) (kk : Lj D tA p l e s m below meth c b adC adM Q tgt k0 S hC hM) : Lj D tA p l e s m below meth c b adC adM Q pc k0 S hC hM := fun H locs ls hl h1 h2 hS => lv_goto C.1 C.2.1 hd ht (kk H locs ls hl h1 h2 hS)
theorem lj_inc (C : zl_C E D tA p s m meth c b L xs) (hd : decode code pc = .ok (.iinc 3 6, 3)) (kk : Lj D tA p l e s m below meth c b adC adM Q (pc + 3) (k0 + 6) S hC hM) : Lj D tA p l e s m below meth c b adC adM Q pc k0 S hC hM := fun H locs _ hl h1 h2 hS => lv_iinc (k := 0) (v := nI (k0 + 6)) C.1 C.2.1 hd hl rfl (by rw [show Int32.ofInt 6 = nI 6 by decide]; exact nI_add k0 6) (by decide) rfl (fun ls hl2 => kk H locs ls hl2 h1 h2 hS)
theorem lj_tin (C : zl_C E D tA p s m meth c b L xs) {dflt lo hi : Int} {offs : Array Int} {len : Nat} {x : Int32} {off : Int} {tgt : Nat} (hd : decode code pc = .ok (.tableswitch dflt lo hi offs, len)) (h1 : ¬ x.toInt < lo) (h2 : ¬ hi < x.toInt) (ho : offs[(x.toInt - lo).toNat]? = some off) (ht : (pc : Int) + off = (tgt : Int)) (kk : Lj D tA p l e s m below meth c b adC adM Q tgt k0 S hC hM) : Lj D tA p l e s m below meth c b adC adM Q pc k0 (.int x :: S) hC hM := fun H locs ls hl g1 g2 hS => lv_tableIn C.1 C.2.1 hd h1 h2 ho ht (kk H locs ls hl g1 g2 hS)
theorem lj_tout (C : zl_C E D tA p s m meth c b L xs) {dflt lo hi : Int} {offs : Array Int} {len : Nat} {x : Int32} {tgt : Nat} (hd : decode code pc = .ok (.tableswitch dflt lo hi offs, len)) (hq : x.toInt < lo ∨ hi < x.toInt) (ht : (pc : Int) + dflt = (tgt : Int)) (kk : Lj D tA p l e s m below meth c b adC adM Q tgt k0 S hC hM) : Lj D tA p l e s m below meth c b adC adM Q pc k0 (.int x :: S) hC hM := fun H locs ls hl g1 g2 hS => lv_tableOut C.1 C.2.1 hd hq ht (kk H locs ls hl g1 g2 hS)
/-- a call on one of the two -/
theorem lj_run (C : zl_C E D tA p s m meth c b L xs) {Y : zM} {idx ci : Nat} {as fs : List Value} {v : Value} {h h1 h' : zH} {ad ad' : Nat → Nat} {H : Heap} {locs : List Loc} {ls : Array Slot} (hd : decode code pc = .ok (.invokevirtual idx, 3)) (hY : z_okV Y ci as.length) (hk : Cond.methodLink RL idx Y.1 ∈ z_T) (hdep : Y.2.2.2.2 ≤ 12) (h0 : z_at h 0 = some (.inr (ci, fs))) (hr : (S.map fun v => v.category).sum ≤ 8) (hM : Mx Y (.ref 0 :: as) h (some v) h1) (hv : ∀ ad, z_g ad v = v) (has : ∀ ad, as.map (z_g ad) = as)
    (hap : z_ap ad h.length) (hsa : z_sa E ad) (hA : ∀ i, i < h.length → s.heap.size ≤ ad i) (hne : ∀ i j, i < h.length → j < h'.length → ad i ≠ ad' j) (hl : ls.size = 4) (hP : va_P D vwCl (z_ws tA ad 0 h) H) (hP' : va_P D vwCl (z_ws tA ad' 0 h') H) (hS : va_S (fun q => s.heap.size ≤ q) s.heap H locs)
    (kk : ∀ (H1 : Heap) (locs1 : List Loc), va_P D vwCl (z_ws tA ad 0 h1) H1 → va_P D vwCl (z_ws tA ad' 0 h') H1 → va_S (fun q => s.heap.size ≤ q) s.heap H1 locs1 → W p l e room_1 s m #[Value.ref b] below meth c H1 locs1 53 2219 Q (F0 m (pc + 3) ls (v :: S))) : W p l e room_1 s m #[Value.ref b] below meth c H locs 53 2219 Q (F0 m pc ls (as.reverse ++ .ref (ad 0) :: S)) := by
  obtain ⟨hlen, hM⟩ := hM
  obtain ⟨c1, c2, c3, c4, c5, c6, c7, c8, c9, c10, c11, c12⟩ := id C
  obtain ⟨⟨y1, y2, y3, y4, y5⟩, y6, y7, y8, TT, NN, y9⟩ := hY
  have hrm : (z_rm Y.2.2.2.2).frames + 1 ≤ room_1.frames := by show Y.2.2.2.2 + 1 ≤ 13; omega
  have hlo : 8 + (Y.2.2.1 + 11) + (z_rm Y.2.2.2.2).locals ≤ room_1.locals := by
    show 8 + (Y.2.2.1 + 11) + 31 * Y.2.2.2.2 ≤ 492
    omega
  have hcats : 2 * (F0 m pc ls (as.reverse ++ .ref (ad 0) :: S)).monitorRoom + (S.map fun v => v.category).sum ≤ 8 := lv_room hr
  have hrec := va_recv c8 hP y9 (z_ws0 h0)
  have hB : ∀ q, z_A ad h.length H.size q → s.heap.size ≤ q := fun q hq => by
    rcases hq with ⟨k, hk1, rfl⟩ | hq
    · exact hA k hk1
    · exact Nat.le_trans hS.1 hq
  have hPc : FrameBlind (va_Pc (.ref (ad 0) :: as) (z_Wd E D tA ad h H.size)) ∧ ∀ U : State, U.heap = H → s.WarmedH U.vm → va_Pc (.ref (ad 0) :: as) (z_Wd E D tA ad h H.size) (Value.ref (ad 0) :: as).toArray U := by
    refine ⟨fun a U g mk q => ?_, fun U hU hW => ⟨rfl, by rw [hU], by rw [hU]; exact hP, va_K.moved hW.alike c8, c9.pass hW, z_EX.pass c10 hU hW (fun a h1 h2 => hS.2.1 a h1 h2) hB⟩⟩
    obtain ⟨q0, q1, q2, q3, q4, q5⟩ := q
    exact ⟨q0, q1, q2, va_K.moved (u := U) (U := U.calling g mk a) (Vm.Alike.refl U.vm) q3, q4.calling, q5.calling⟩
  have hMM := hM l E D tA ad H.size hap hsa
  rw [show (Value.ref 0 :: as).map (z_g ad) = .ref (ad 0) :: as by rw [List.map_cons, has]; rfl] at hMM
  have hrun : va_Run p l e room_1 s m #[Value.ref b] below meth c H locs 53 2219 0 0 (F0 m pc ls (as.reverse ++ .ref (ad 0) :: S)) S (z_Q D tA ad (some v) h1 (z_A ad h.length H.size) (Value.ref (ad 0) :: as).toArray) (z_A ad h.length H.size) := va_runV (n := as.length) (C := Y.1.cls) (b := ad 0) (As := as) (rest := S) (g := F0 m pc ls (as.reverse ++ .ref (ad 0) :: S)) ⟨c1, c2, c4, c5, c6⟩ hMM ⟨⟨rfl, rfl, hrm, hlo, z_payT c6 y1, List.mem_cons_self, c6 _ y1, c6 _ y2, y3, y6, c6 _ hk⟩, c6 _ y7, c6 _ y8⟩ ⟨hPc.1, hrec, hPc.2⟩ rfl rfl hl rfl hcats hd ⟨(Nat.le_of_ble_eq_true rfl : 53 + 0 ≤ room_1.cells), (Nat.le_of_ble_eq_true rfl : 2219 + 0 ≤ room_1.slots)⟩
  intro T hT X
  obtain ⟨u, st₀, t, T', LL, g0, X', hL, e1, e2, ⟨⟨hu, hP1⟩, hz, hkeep⟩, st⟩ := hrun T hT X
  cases hu
  rw [g0] at hz hkeep
  have hP2 : va_P D vwCl (z_ws tA ad' 0 h') t.heap := hP'.kept (fun k x hx => by
    obtain ⟨a1, a2⟩ := z_ws_mem tA ad' h' 0 k x hx
    rw [Nat.zero_add] at a2
    refine hkeep x.1 ((hP' k x hx).lt) (fun hq => ?_)
    rcases hq with ⟨i, hi, hi2⟩ | hq
    · exact hne i k hi a1 (by rw [hi2, a2])
    · exact absurd ((hP' k x hx).lt) (Nat.not_lt.mpr hq))
  obtain ⟨t2, a1, b1⟩ := kk t.heap (locs ++ LL) hP1 hP2
    ⟨Nat.le_trans hS.1 hz, fun q h1 h2 => by rw [hkeep q (Nat.lt_of_lt_of_le h1 hS.1) (fun z => h2 (hB q z))]; exact hS.2.1 q h1 h2, fun q hq => by
      rcases List.mem_append.mp hq with h | h
      · exact hS.2.2 q h
      · exact hB _ (hL q h)⟩ T' e1 X'
  have e3 : Option.map (z_g ad) (some v) = some v := congrArg some (hv ad)
  rw [e3] at st
  exact ⟨t2, st t2 a1, b1⟩
theorem lj_callC (C : zl_C E D tA p s m meth c b L xs) (X : zl_G E s adC adM) {Y : zM} {idx ci : Nat} {as fs : List Value} {v : Value} {h1 : zH} {S0 : List Value} (hd : decode code pc = .ok (.invokevirtual idx, 3)) (hY : z_okV Y ci as.length) (hk : Cond.methodLink RL idx Y.1 ∈ z_T) (hdep : Y.2.2.2.2 ≤ 12) (hr : (S.map fun v => v.category).sum ≤ 8) (hv : ∀ ad, z_g ad v = v) (has : ∀ ad, as.map (z_g ad) = as) (hM2 : Mx Y (.ref 0 :: as) hC (some v) h1) (e0 : S0 = as.reverse ++ .ref (adC 0) :: S) (h0 : z_at hC 0 = some (.inr (ci, fs))) (hn : hC.length = 38) (hn2 : hM.length = 15) (kk : Lj D tA p l e s m below meth c b adC adM Q (pc + 3) k0 (v :: S) h1 hM) : Lj D tA p l e s m below meth c b adC adM Q pc k0 S0 hC hM := by
  subst e0
  intro H locs ls hl g1 g2 hS
  exact lj_run C hd hY hk hdep h0 hr hM2 hv has (by rw [hn]; exact X.1.1) X.1.2.1 (by rw [hn]; exact X.1.2.2) (by rw [hn, hn2]; exact X.2.2) hl.1 g1 g2 hS (fun H1 locs1 q1 q2 q3 => kk H1 locs1 ls hl q1 q2 q3)
theorem lj_callM (C : zl_C E D tA p s m meth c b L xs) (X : zl_G E s adC adM) {Y : zM} {idx ci : Nat} {as fs : List Value} {v : Value} {h1 : zH} {S0 : List Value} (hd : decode code pc = .ok (.invokevirtual idx, 3)) (hY : z_okV Y ci as.length) (hk : Cond.methodLink RL idx Y.1 ∈ z_T) (hdep : Y.2.2.2.2 ≤ 12) (hr : (S.map fun v => v.category).sum ≤ 8) (hv : ∀ ad, z_g ad v = v) (has : ∀ ad, as.map (z_g ad) = as) (hM2 : Mx Y (.ref 0 :: as) hM (some v) h1) (e0 : S0 = as.reverse ++ .ref (adM 0) :: S) (h0 : z_at hM 0 = some (.inr (ci, fs))) (hn : hM.length = 15) (hn2 : hC.length = 38) (kk : Lj D tA p l e s m below meth c b adC adM Q (pc + 3) k0 (v :: S) hC h1) : Lj D tA p l e s m below meth c b adC adM Q pc k0 S0 hC hM := by
  subst e0
  intro H locs ls hl g1 g2 hS
  exact lj_run C hd hY hk hdep h0 hr hM2 hv has (by rw [hn]; exact X.2.1.1) X.2.1.2.1 (by rw [hn]; exact X.2.1.2.2) (by rw [hn, hn2]; exact fun i j hi hj q => X.2.2 j i hj hi q.symm) hl.1 g2 g1 hS (fun H1 locs1 q1 q2 q3 => kk H1 locs1 ls hl q2 q1 q3)
theorem lj_end (C : zl_C E D tA p s m meth c b L xs) (hd0 : decode code pc = .ok (.iconst 1, 1)) (hd1 : decode code (pc + 1) = .ok (.ireturn, 1)) : Lj D tA p l e s m below meth c b adC adM (lw_Z below #[Value.ref b] s) pc k0 [] hC hM := by
  refine lj_ic C hd0 (v := 1) (by decide) ?_
  intro H locs ls hl h1 h2 hS
  exact W.widen (Nat.le_of_ble_eq_true rfl) (Nat.le_of_ble_eq_true rfl) (va_forget hS.2.2 (lw_ret C.1 C.2.1 C.2.2.1 C.2.2.2.2.2.2.1 hd1))
end LJ
