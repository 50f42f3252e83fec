/-! ===== abstract worlds: cells by places; a reference is a place; 'ad' gives each place its address ===== -/
abbrev zM : Type := MethodName × ByteArray × Nat × Option FieldType × Nat
abbrev zC : Type := (Nat × vp_A) ⊕ (Nat × List Value)
abbrev zH : Type := List zC
def z_T : List Cond := lw_tbl.filter goodWord
def z_isN (w : Cond) : Bool := match w with
  | .fieldLinkNest _ _ _ _ _ _ => true
  | .methodLinkNest _ _ _ _ => true
  | _ => false
def z_N : List Cond := lw_tbl.filter z_isN
def z_wd (M : zM) : List Cond := .code M.1 M.2.1 M.2.2.1 M.2.2.2.1 :: z_T
def z_rm (d : Nat) : Room := { frames := d, cells := 0, slots := 0, locals := 31 * d }
def z_g (ad : Nat → Nat) (v : Value) : Value := match v with
  | .ref k => .ref (ad k)
  | v => v
def z_ga (ad : Nat → Nat) (x : vp_A) : vp_A := match x with
  | (n, .inr (.inr (.inr (.inr f)))) => (n, .inr (.inr (.inr (.inr (fun i => (f i).map ad)))))
  | x => x
def z_c (tA : Nat → ClassId) (ad : Nat → Nat) (c : zC) : va_E := match c with
  | .inl (t, x) => .inl (tA t, z_ga ad x)
  | .inr (i, fs) => .inr (i, fs.map (z_g ad))
def z_ws (tA : Nat → ClassId) (ad : Nat → Nat) : Nat → zH → va_W
  | _, [] => []
  | k, c :: r => (ad k, z_c tA ad c) :: z_ws tA ad (k + 1) r
def z_at : zH → Nat → Option zC
  | [], _ => none
  | c :: _, 0 => some c
  | _ :: r, k + 1 => z_at r k
def z_set : zH → Nat → zC → zH
  | [], _, _ => []
  | _ :: r, 0, x => x :: r
  | c :: r, k + 1, x => c :: z_set r k x
theorem z_ws_at (tA : Nat → ClassId) (ad : Nat → Nat) : ∀ (h : zH) (k i : Nat) (c : zC), z_at h i = some c → (z_ws tA ad k h)[i]? = some (ad (k + i), z_c tA ad c) := by
  intro h
  induction h with
  | nil => intro k i c e; cases e
  | cons a r ih =>
    intro k i c e
    cases i with
    | zero => cases e; rfl
    | succ i =>
      have := ih (k + 1) i c e
      show (z_ws tA ad (k + 1) r)[i]? = _
      rw [this, show k + 1 + i = k + (i + 1) by omega]
theorem z_ws_set (tA : Nat → ClassId) (ad : Nat → Nat) : ∀ (h : zH) (k i : Nat) (x : zC), (z_ws tA ad k h).set i (ad (k + i), z_c tA ad x) = z_ws tA ad k (z_set h i x) := by
  intro h
  induction h with
  | nil => intro k i x; rfl
  | cons a r ih =>
    intro k i x
    cases i with
    | zero => rfl
    | succ i =>
      have := ih (k + 1) i x
      show (ad k, z_c tA ad a) :: (z_ws tA ad (k + 1) r).set i (ad (k + (i + 1)), z_c tA ad x) = _
      rw [show k + (i + 1) = k + 1 + i by omega, this]
      rfl
theorem z_set_len : ∀ (h : zH) (i : Nat) (x : zC), (z_set h i x).length = h.length := by
  intro h
  induction h with
  | nil => intro i x; rfl
  | cons a r ih =>
    intro i x
    cases i with
    | zero => rfl
    | succ i => show (z_set r i x).length + 1 = r.length + 1; rw [ih]
theorem z_ws_mem (tA : Nat → ClassId) (ad : Nat → Nat) : ∀ (h : zH) (k i : Nat) (q : Nat × va_E), (z_ws tA ad k h)[i]? = some q → i < h.length ∧ q.1 = ad (k + i) := by
  intro h
  induction h with
  | nil => intro k i q e; simp [z_ws] at e
  | cons a r ih =>
    intro k i q e
    cases i with
    | zero =>
      have e2 : some (ad k, z_c tA ad a) = some q := e
      cases e2
      exact ⟨Nat.succ_pos _, rfl⟩
    | succ i =>
      obtain ⟨h1, h2⟩ := ih (k + 1) i q e
      exact ⟨Nat.succ_lt_succ h1, by rw [h2, show k + 1 + i = k + (i + 1) by omega]⟩
/-- the places' addresses are apart -/
def z_ap (ad : Nat → Nat) (n : Nat) : Prop := ∀ i j, i < n → j < n → ad i = ad j → i = j
/-- what a method may change -/
def z_A (ad : Nat → Nat) (n sz : Nat) : Nat → Prop := fun q => (∃ k, k < n ∧ ad k = q) ∨ sz ≤ q
theorem z_D {ad : Nat → Nat} {n : Nat} (h : z_ap ad n) (tA : Nat → ClassId) (sz : Nat) (r : zH) (hr : r.length = n) : va_D (z_A ad n sz) (z_ws tA ad 0 r) := by
  refine ⟨fun i j p q hp hq e => ?_, fun k q hq => ?_⟩
  · obtain ⟨h1, h2⟩ := z_ws_mem tA ad r 0 i p hp
    obtain ⟨h3, h4⟩ := z_ws_mem tA ad r 0 j q hq
    rw [Nat.zero_add] at h2 h4
    exact h i j (by omega) (by omega) (by rw [← h2, ← h4, e])
  · obtain ⟨h1, h2⟩ := z_ws_mem tA ad r 0 k q hq
    rw [Nat.zero_add] at h2
    exact Or.inl ⟨k, by omega, h2.symm⟩
theorem z_cat (ad : Nat → Nat) (v : Value) : (z_g ad v).category = v.category := by cases v <;> rfl
theorem z_cats (ad : Nat → Nat) (S : List Value) : ((S.map (z_g ad)).map fun v => v.category).sum = (S.map fun v => v.category).sum := by
  induction S with
  | nil => rfl
  | cons v S ih => simp only [List.map_cons, List.sum_cons, ih, z_cat]
/-! locals: a list by their numbers; none: not known -/
def z_L (ad : Nat → Nat) : Nat → List (Option Value) → List (Nat × Value)
  | _, [] => []
  | i, some v :: L => (i, z_g ad v) :: z_L ad (i + 1) L
  | i, none :: L => z_L ad (i + 1) L
def z_nt : List (Option Value) → Nat → Option (Option Value)
  | [], _ => none
  | a :: _, 0 => some a
  | _ :: L, k + 1 => z_nt L k
def z_st : List (Option Value) → Nat → Option Value → List (Option Value)
  | [], _, _ => []
  | _ :: L, 0, x => x :: L
  | a :: L, k + 1, x => a :: z_st L k x
/-- the local ahead of place k is no long -/
def z_no2 : List (Option Value) → Nat → Bool
  | [], _ => true
  | _, 0 => true
  | some v :: _, 1 => v.category == 1
  | none :: _, 1 => true
  | _ :: L, k + 2 => z_no2 L (k + 1)
theorem z_L_in (ad : Nat → Nat) : ∀ (L : List (Option Value)) (k i : Nat) (v : Value), z_nt L i = some (some v) → (k + i, z_g ad v) ∈ z_L ad k L := by
  intro L
  induction L with
  | nil => intro k i v e; cases e
  | cons a L ih =>
    intro k i v e
    cases i with
    | zero =>
      have e2 : some a = some (some v) := e
      cases e2
      exact List.mem_cons_self
    | succ i =>
      have := ih (k + 1) i v e
      rw [show k + 1 + i = k + (i + 1) by omega] at this
      cases a with
      | none => exact this
      | some x => exact List.mem_cons_of_mem _ this
theorem z_L_out (ad : Nat → Nat) : ∀ (L : List (Option Value)) (k : Nat) (q : Nat × Value), q ∈ z_L ad k L → ∃ i v, z_nt L i = some (some v) ∧ q = (k + i, z_g ad v) := by
  intro L
  induction L with
  | nil => intro k q h; cases h
  | cons a L ih =>
    intro k q h
    have go : q ∈ z_L ad (k + 1) L → ∃ i v, z_nt (a :: L) i = some (some v) ∧ q = (k + i, z_g ad v) := by
      intro h
      obtain ⟨i, v, h1, h2⟩ := ih (k + 1) q h
      exact ⟨i + 1, v, h1, by rw [h2, show k + 1 + i = k + (i + 1) by omega]⟩
    cases a with
    | none => exact go h
    | some x =>
      rcases List.mem_cons.mp h with h | h
      · exact ⟨0, x, rfl, h⟩
      · exact go h
theorem z_nt_st : ∀ (L : List (Option Value)) (i j : Nat) (x : Option Value) (v : Value), z_nt (z_st L i x) j = some (some v) → (j = i ∧ x = some v) ∨ (j ≠ i ∧ z_nt L j = some (some v)) := by
  intro L
  induction L with
  | nil => intro i j x v e; cases e
  | cons a L ih =>
    intro i j x v e
    cases i with
    | zero =>
      cases j with
      | zero => have e2 : some x = some (some v) := e; cases e2; exact Or.inl ⟨rfl, rfl⟩
      | succ j => exact Or.inr ⟨by omega, e⟩
    | succ i =>
      cases j with
      | zero => exact Or.inr ⟨by omega, e⟩
      | succ j =>
        rcases ih i j x v e with ⟨h1, h2⟩ | ⟨h1, h2⟩
        · exact Or.inl ⟨by omega, h2⟩
        · exact Or.inr ⟨by omega, h2⟩
theorem z_no2_spec : ∀ (L : List (Option Value)) (j : Nat) (v : Value), z_no2 L (j + 1) = true → z_nt L j = some (some v) → v.category = 1 := by
  intro L
  induction L with
  | nil => intro j v _ e; cases e
  | cons a L ih =>
    intro j v h e
    cases j with
    | zero =>
      have e2 : some a = some (some v) := e
      cases e2
      exact eq_of_beq h
    | succ j => exact ih j v (by cases a <;> exact h) e
/-- storing a value of one slot -/
theorem z_store {ls' : Array Slot} {nL i : Nat} {v : Value} {ad : Nat → Nat} {L : List (Option Value)} (hc : v.category = 1) (hn : z_no2 L i = true)
    (h : lv_has ls' nL ((i, z_g ad v) :: (z_L ad 0 L).filter (fun q => !(q.1 == i) && !(q.1 + 1 == i && q.2.category == 2)))) : lv_has ls' nL (z_L ad 0 (z_st L i (some v))) := by
  refine ⟨h.1, h.2.1, fun q hq => ?_⟩
  obtain ⟨j, u, h1, h2⟩ := z_L_out ad _ 0 q hq
  rw [Nat.zero_add] at h2
  subst h2
  rcases z_nt_st L i j (some v) u h1 with ⟨e1, e2⟩ | ⟨e1, e2⟩
  · cases e2; subst e1
    exact h.2.2 _ List.mem_cons_self
  · refine h.2.2 _ (List.mem_cons_of_mem _ (List.mem_filter.mpr ⟨by have := z_L_in ad L 0 j u e2; rwa [Nat.zero_add] at this, ?_⟩))
    have hb : (j == i) = false := by simp [e1]
    by_cases hj : j + 1 = i
    · subst hj
      have := z_no2_spec L j u hn e2
      simp [z_cat, this]
    · have hb2 : (j + 1 == i) = false := by simp [hj]
      simp [hb, hb2]
/-- storing a value of two slots -/
theorem z_store2 {ls' : Array Slot} {nL i : Nat} {v : Value} {ad : Nat → Nat} {L : List (Option Value)} (hn : z_no2 L i = true)
    (h : lv_has ls' nL ((i, z_g ad v) :: (z_L ad 0 L).filter (fun q => !(q.1 == i) && (!(q.1 == i + 1) && !(q.1 + 1 == i && q.2.category == 2))))) : lv_has ls' nL (z_L ad 0 (z_st (z_st L i (some v)) (i + 1) none)) := by
  refine ⟨h.1, h.2.1, fun q hq => ?_⟩
  obtain ⟨j, u, h1, h2⟩ := z_L_out ad _ 0 q hq
  rw [Nat.zero_add] at h2
  subst h2
  rcases z_nt_st _ (i + 1) j none u h1 with ⟨e1, e3⟩ | ⟨e0, e3⟩
  · cases e3
  · rcases z_nt_st L i j (some v) u e3 with ⟨e1, e2⟩ | ⟨e1, e2⟩
    · cases e2; subst e1
      exact h.2.2 _ List.mem_cons_self
    · refine h.2.2 _ (List.mem_cons_of_mem _ (List.mem_filter.mpr ⟨by have := z_L_in ad L 0 j u e2; rwa [Nat.zero_add] at this, ?_⟩))
      have hb : (j == i) = false := by simp [e1]
      have hb1 : (j == i + 1) = false := by simp [e0]
      by_cases hj : j + 1 = i
      · subst hj
        have := z_no2_spec L j u hn e2
        simp [z_cat, this] <;> omega
      · have hb2 : (j + 1 == i) = false := by simp [hj]
        simp [hb, hb1, hb2]
/-! what nobody writes: the String constants, the table KIND_ABOVE -/
def z_sx : List (String × Nat × String × Nat) := [("WildBells$Tape", 86, "herd", 1), ("WildBells$Tape", 88, "lone", 2), ("WildBells$Tape", 90, "tenor", 3), ("WildBells$Tape", 92, "eldest", 4), ("WildBells$Tape", 94, "tame", 5), ("WildBells$Tape", 96, "young", 6), ("WildBells$Tape", 98, "bell", 0), ("WildBells$Tape", 105, "at", 11), ("WildBells$Tape", 111, "note", 12), ("WildBells$Tape", 113, "weight", 13), ("WildBells$Tape", 58, "net", 7), ("WildBells$Tape", 67, "thick", 8), ("WildBells$Tape", 72, "hunter", 9), ("WildBells$Tape", 77, "fear", 10), ("WildBellsModel", 36, "bell", 0), ("WildBellsModel", 38, "herd", 1), ("WildBellsModel", 40, "lone", 2), ("WildBellsModel", 42, "tenor", 3), ("WildBellsModel", 44, "eldest", 4), ("WildBellsModel", 46, "tame", 5), ("WildBellsModel", 48, "young", 6), ("WildBellsModel", 307, "at", 11), ("WildBellsModel", 314, "note", 12), ("WildBellsModel", 316, "weight", 13), ("WildBellsModel", 322, "net", 7), ("WildBellsModel", 324, "thick", 8), ("WildBellsModel", 326, "hunter", 9), ("WildBellsModel", 328, "fear", 10)]
def z_len : List Nat := [4, 4, 4, 5, 6, 4, 5, 3, 5, 6, 4, 2, 4, 6]
def z_byt : List (List Int32) := [[98, 101, 108, 108], [104, 101, 114, 100], [108, 111, 110, 101], [116, 101, 110, 111, 114], [101, 108, 100, 101, 115, 116], [116, 97, 109, 101], [121, 111, 117, 110, 103], [110, 101, 116], [116, 104, 105, 99, 107], [104, 117, 110, 116, 101, 114], [102, 101, 97, 114], [97, 116], [110, 111, 116, 101], [119, 101, 105, 103, 104, 116]]
def z_ka : List Int32 := [-1, 0, 0, 2, 3, 0, 1]
/-- adK, adV: addresses of the texts and of their bytes; tK: of KIND_ABOVE -/
abbrev zE : Type := (Nat → Nat) × (Nat → Nat) × Nat
def z_EX (E : zE) (A : Nat → Prop) (U : State) (H : Heap) : Prop :=
  vk_S 14 z_len z_byt E.1 E.2.1 A U H ∧ (∀ r ∈ z_sx, vk_R r.1 r.2.1 r.2.2.1 (E.1 r.2.2.2) U) ∧ va_Z "WildBells" "KIND_ABOVE" "[I" (.ref E.2.2) A U H ∧ va_T .int E.2.2 7 (fun j => .int (z_ka.getD j 0)) A U H ∧ va_Z "java/lang/String" "COMPACT_STRINGS" "Z" (.int 1) A U H ∧ va_Zq "jdk/internal/util/Preconditions" "SIOOBE_FORMATTER" "Ljava/util/function/BiFunction;" A U H
theorem z_EX.calling {E : zE} {A : Nat → Prop} {U : State} {g : JFrame} {mk : MethodId} {a : Array Value} (h : z_EX E A U U.heap) : z_EX E A (U.calling g mk a) (U.calling g mk a).heap := by
  obtain ⟨h1, h2, h3, h4, h5, h6⟩ := h
  have hv : U.vm.Alike (U.calling g mk a).vm := Vm.Alike.refl U.vm
  exact ⟨h1.moved hv, fun r hr => (h2 r hr).same rfl, h3.moved hv, h4.moved hv, h5.moved hv, h6.moved hv⟩
theorem z_EX.pass {E : zE} {A B : Nat → Prop} {s U : State} {H : Heap} (h : z_EX E A s s.heap) (hU : U.heap = H) (hW : s.WarmedH U.vm) (hq : ∀ a : Nat, a < s.heap.size → ¬ A a → H[a]? = s.heap[a]?) (hAB : ∀ q, B q → A q) : z_EX E B U U.heap := by
  obtain ⟨h1, h2, h3, h4, h5, h6⟩ := h
  subst hU
  exact ⟨((h1.moved hW.alike).kept hq).narrow hAB, fun r hr => (h2 r hr).warm hW, ((h3.moved hW.alike).kept hq).narrow hAB, ((h4.moved hW.alike).kept hq).narrow hAB, ((h5.moved hW.alike).kept hq).narrow hAB, ((h6.moved hW.alike).kept hq).narrow hAB⟩
/-! links to private members of nest mates -/
def z_nst (U : State) : Prop := ∀ w ∈ z_N, va_Nw w U
theorem z_nst.calling {U : State} {g : JFrame} {mk : MethodId} {a : Array Value} (h : z_nst U) : z_nst (U.calling g mk a) := by
  intro w hw
  have hk : w.onTables = true := by
    have := (List.mem_filter.mp hw).2
    cases w <;> first | rfl | (simp [z_isN] at this)
  exact va_Nw.same (u := U) hk rfl (h w hw)
theorem z_nst.pass {s U : State} (h : z_nst s) (hW : s.WarmedH U.vm) : z_nst U := by
  intro w hw
  have h1 := h w hw
  have := (List.mem_filter.mp hw).2
  cases w <;> first | exact va_Nw.warmF hW h1 | exact va_Nw.warmM hW h1 | (simp [z_isN] at this)
/-- the classes of the arrays -/
def z_tys (tA : Nat → ClassId) : List (ClassId × FieldType) := [(tA 0, .int), (tA 1, .object "WildBells$Sheet"), (tA 2, .object "java/lang/String")]
/-- the world at a method's start -/
def z_Wd (E : zE) (D : va_G) (tA : Nat → ClassId) (ad : Nat → Nat) (h : zH) (sz : Nat) (U : State) : Prop :=
  U.heap.size = sz ∧ va_P D vwCl (z_ws tA ad 0 h) U.heap ∧ va_K D vwCl (z_tys tA) U ∧ z_nst U ∧ z_EX E (z_A ad h.length sz) U U.heap
def z_Q (D : va_G) (tA : Nat → ClassId) (ad : Nat → Nat) (rv : Option Value) (h : zH) (A : Nat → Prop) : Array Value → State → Outcome → State → Prop := fun _ st oc t => (oc = .returned (rv.map (z_g ad)) ∧ va_P D vwCl (z_ws tA ad 0 h) t.heap) ∧ va_F A st t
/-- the places of the texts (1000 ..), of their bytes (3000 ..), of KIND_ABOVE (2000) -/
def z_sa (E : zE) (ad : Nat → Nat) : Prop := (∀ i, i < 14 → ad (1000 + i) = E.1 i ∧ ad (3000 + i) = E.2.1 i) ∧ ad 2000 = E.2.2
/-- A METHOD: with these arguments, over the world h, it answers rv and leaves the world h2 -/
def Mx (M : zM) (as : List Value) (h : zH) (rv : Option Value) (h2 : zH) : Prop :=
  h2.length = h.length ∧ ∀ (l : Launch) (E : zE) (D : va_G) (tA : Nat → ClassId) (ad : Nat → Nat) (sz : Nat), z_ap ad h.length → z_sa E ad →
    Met l M.1 (z_wd M) (z_rm M.2.2.2.2) (va_Pc (as.map (z_g ad)) (z_Wd E D tA ad h sz)) (z_Q D tA ad rv h2 (z_A ad h.length sz)) 0 0 (z_A ad h.length sz)
/-- what a frame has around it -/
def z_Cx (M : zM) (n : Nat) (E : zE) (D : va_G) (tA : Nat → ClassId) (ad : Nat → Nat) (p : Program) (s : State) (m : MethodId) (args : Array Value) (meth : Method) (c : Code) : Prop :=
  p.tables.exec = Jvm.exec ∧ c.code = M.2.1 ∧ meth.sig.returnType = M.2.2.2.1 ∧ c.maxLocals = M.2.2.1 ∧ s.vm.findClass M.1.cls = some m.cls ∧ (∀ w ∈ z_wd M, w.before args s = true) ∧ meth.locks = false ∧ va_K D vwCl (z_tys tA) s ∧ z_nst s ∧ z_EX E (z_A ad n s.heap.size) s s.heap ∧ z_ap ad n ∧ z_sa E ad
/-- A FRAME: at pc with locals L, stack S, over the world h, the method comes to its end with 'out' -/
def Fx (M : zM) (out : Option Value × zH) (pc : Nat) (L : List (Option Value)) (S : List Value) (h : zH) : Prop :=
  h.length = out.2.length ∧ ∀ (E : zE) (D : va_G) (tA : Nat → ClassId) (ad : Nat → Nat) (p : Program) (l : Launch) (e : Env) (s : State) (m : MethodId) (args : Array Value) (below : List Frame) (meth : Method) (c : Code), z_Cx M h.length E D tA ad p s m args meth c →
    ∀ (H : Heap) (locs : List Loc) (ls : Array Slot), lv_has ls M.2.2.1 (z_L ad 0 L) → va_P D vwCl (z_ws tA ad 0 h) H → va_S (z_A ad h.length s.heap.size) s.heap H locs →
      W p l e (z_rm M.2.2.2.2) s m args below meth c H locs 0 0 (MQ below (z_Q D tA ad out.1 out.2 (z_A ad h.length s.heap.size)) args s 0 0 (z_A ad h.length s.heap.size)) (F0 m pc ls (S.map (z_g ad)))
section FX
variable {M : zM} {out : Option Value × zH} {pc : Nat} {L : List (Option Value)} {S : List Value} {h : zH}

theorem fx_iadd {x y : Int32} (hd : decode M.2.1 pc = .ok (.iadd, 1)) (k : Fx M out (pc + 1) L (.int (x + y) :: S) h) : Fx M out pc L (.int y :: .int x :: S) h := ⟨k.1, fun E D tA ad p l e s m args below meth c C H locs ls hl hP hS => lv_iadd C.1 C.2.1 hd (k.2 E D tA ad p l e s m args below meth c C H locs ls hl hP hS)⟩
theorem fx_isub {x y : Int32} (hd : decode M.2.1 pc = .ok (.isub, 1)) (k : Fx M out (pc + 1) L (.int (x - y) :: S) h) : Fx M out pc L (.int y :: .int x :: S) h := ⟨k.1, fun E D tA ad p l e s m args below meth c C H locs ls hl hP hS => lv_isub C.1 C.2.1 hd (k.2 E D tA ad p l e s m args below meth c C H locs ls hl hP hS)⟩
theorem fx_imul {x y : Int32} (hd : decode M.2.1 pc = .ok (.imul, 1)) (k : Fx M out (pc + 1) L (.int (x * y) :: S) h) : Fx M out pc L (.int y :: .int x :: S) h := ⟨k.1, fun E D tA ad p l e s m args below meth c C H locs ls hl hP hS => lv_imul C.1 C.2.1 hd (k.2 E D tA ad p l e s m args below meth c C H locs ls hl hP hS)⟩
theorem fx_iand {x y : Int32} (hd : decode M.2.1 pc = .ok (.iand, 1)) (k : Fx M out (pc + 1) L (.int (x &&& y) :: S) h) : Fx M out pc L (.int y :: .int x :: S) h := ⟨k.1, fun E D tA ad p l e s m args below meth c C H locs ls hl hP hS => lv_iand C.1 C.2.1 hd (k.2 E D tA ad p l e s m args below meth c C H locs ls hl hP hS)⟩
theorem fx_ior {x y : Int32} (hd : decode M.2.1 pc = .ok (.ior, 1)) (k : Fx M out (pc + 1) L (.int (x ||| y) :: S) h) : Fx M out pc L (.int y :: .int x :: S) h := ⟨k.1, fun E D tA ad p l e s m args below meth c C H locs ls hl hP hS => lv_ior C.1 C.2.1 hd (k.2 E D tA ad p l e s m args below meth c C H locs ls hl hP hS)⟩
theorem fx_ixor {x y : Int32} (hd : decode M.2.1 pc = .ok (.ixor, 1)) (k : Fx M out (pc + 1) L (.int (x ^^^ y) :: S) h) : Fx M out pc L (.int y :: .int x :: S) h := ⟨k.1, fun E D tA ad p l e s m args below meth c C H locs ls hl hP hS => lv_ixor C.1 C.2.1 hd (k.2 E D tA ad p l e s m args below meth c C H locs ls hl hP hS)⟩
theorem fx_ishl {x y : Int32} (hd : decode M.2.1 pc = .ok (.ishl, 1)) (k : Fx M out (pc + 1) L (.int (x <<< (y &&& 31)) :: S) h) : Fx M out pc L (.int y :: .int x :: S) h := ⟨k.1, fun E D tA ad p l e s m args below meth c C H locs ls hl hP hS => lv_ishl C.1 C.2.1 hd (k.2 E D tA ad p l e s m args below meth c C H locs ls hl hP hS)⟩
theorem fx_ishr {x y : Int32} (hd : decode M.2.1 pc = .ok (.ishr, 1)) (k : Fx M out (pc + 1) L (.int (x >>> (y &&& 31)) :: S) h) : Fx M out pc L (.int y :: .int x :: S) h := ⟨k.1, fun E D tA ad p l e s m args below meth c C H locs ls hl hP hS => lv_ishr C.1 C.2.1 hd (k.2 E D tA ad p l e s m args below meth c C H locs ls hl hP hS)⟩
theorem fx_iushr {x y : Int32} (hd : decode M.2.1 pc = .ok (.iushr, 1)) (k : Fx M out (pc + 1) L (.int ((x.toUInt32 >>> (y.toUInt32 &&& Int32.toUInt32 31)).toInt32) :: S) h) : Fx M out pc L (.int y :: .int x :: S) h := ⟨k.1, fun E D tA ad p l e s m args below meth c C H locs ls hl hP hS => lv_iushr C.1 C.2.1 hd rfl (k.2 E D tA ad p l e s m args below meth c C H locs ls hl hP hS)⟩
theorem fx_idiv {x y : Int32} (hd : decode M.2.1 pc = .ok (.idiv, 1)) (hne : ¬ y = 0) (k : Fx M out (pc + 1) L (.int (x / y) :: S) h) : Fx M out pc L (.int y :: .int x :: S) h := ⟨k.1, fun E D tA ad p l e s m args below meth c C H locs ls hl hP hS => lv_idiv C.1 C.2.1 hd hne (k.2 E D tA ad p l e s m args below meth c C H locs ls hl hP hS)⟩
theorem fx_irem {x y : Int32} (hd : decode M.2.1 pc = .ok (.irem, 1)) (hne : ¬ y = 0) (k : Fx M out (pc + 1) L (.int (x - x / y * y) :: S) h) : Fx M out pc L (.int y :: .int x :: S) h := ⟨k.1, fun E D tA ad p l e s m args below meth c C H locs ls hl hP hS => lv_irem C.1 C.2.1 hd hne (k.2 E D tA ad p l e s m args below meth c C H locs ls hl hP hS)⟩
theorem fx_ineg {x : Int32} (hd : decode M.2.1 pc = .ok (.ineg, 1)) (k : Fx M out (pc + 1) L (.int (-x) :: S) h) : Fx M out pc L (.int x :: S) h := ⟨k.1, fun E D tA ad p l e s m args below meth c C H locs ls hl hP hS => lv_ineg C.1 C.2.1 hd (k.2 E D tA ad p l e s m args below meth c C H locs ls hl hP hS)⟩
theorem fx_ladd {x y : Int64} (hd : decode M.2.1 pc = .ok (.ladd, 1)) (k : Fx M out (pc + 1) L (.long (x + y) :: S) h) : Fx M out pc L (.long y :: .long x :: S) h := ⟨k.1, fun E D tA ad p l e s m args below meth c C H locs ls hl hP hS => lv_ladd C.1 C.2.1 hd (k.2 E D tA ad p l e s m args below meth c C H locs ls hl hP hS)⟩
theorem fx_lsub {x y : Int64} (hd : decode M.2.1 pc = .ok (.lsub, 1)) (k : Fx M out (pc + 1) L (.long (x - y) :: S) h) : Fx M out pc L (.long y :: .long x :: S) h := ⟨k.1, fun E D tA ad p l e s m args below meth c C H locs ls hl hP hS => lv_lsub C.1 C.2.1 hd (k.2 E D tA ad p l e s m args below meth c C H locs ls hl hP hS)⟩
theorem fx_lmul {x y : Int64} (hd : decode M.2.1 pc = .ok (.lmul, 1)) (k : Fx M out (pc + 1) L (.long (x * y) :: S) h) : Fx M out pc L (.long y :: .long x :: S) h := ⟨k.1, fun E D tA ad p l e s m args below meth c C H locs ls hl hP hS => lv_lmul C.1 C.2.1 hd (k.2 E D tA ad p l e s m args below meth c C H locs ls hl hP hS)⟩
theorem fx_land {x y : Int64} (hd : decode M.2.1 pc = .ok (.land, 1)) (k : Fx M out (pc + 1) L (.long (x &&& y) :: S) h) : Fx M out pc L (.long y :: .long x :: S) h := ⟨k.1, fun E D tA ad p l e s m args below meth c C H locs ls hl hP hS => lv_land C.1 C.2.1 hd (k.2 E D tA ad p l e s m args below meth c C H locs ls hl hP hS)⟩
theorem fx_lor {x y : Int64} (hd : decode M.2.1 pc = .ok (.lor, 1)) (k : Fx M out (pc + 1) L (.long (x ||| y) :: S) h) : Fx M out pc L (.long y :: .long x :: S) h := ⟨k.1, fun E D tA ad p l e s m args below meth c C H locs ls hl hP hS => lv_lor C.1 C.2.1 hd (k.2 E D tA ad p l e s m args below meth c C H locs ls hl hP hS)⟩
theorem fx_lxor {x y : Int64} (hd : decode M.2.1 pc = .ok (.lxor, 1)) (k : Fx M out (pc + 1) L (.long (x ^^^ y) :: S) h) : Fx M out pc L (.long y :: .long x :: S) h := ⟨k.1, fun E D tA ad p l e s m args below meth c C H locs ls hl hP hS => lv_lxor C.1 C.2.1 hd (k.2 E D tA ad p l e s m args below meth c C H locs ls hl hP hS)⟩
theorem fx_lshl {x : Int64} {y : Int32} (hd : decode M.2.1 pc = .ok (.lshl, 1)) (k : Fx M out (pc + 1) L (.long (x <<< (y.toInt64 &&& 63)) :: S) h) : Fx M out pc L (.int y :: .long x :: S) h := ⟨k.1, fun E D tA ad p l e s m args below meth c C H locs ls hl hP hS => lv_lshl C.1 C.2.1 hd rfl (k.2 E D tA ad p l e s m args below meth c C H locs ls hl hP hS)⟩
theorem fx_lushr {x : Int64} {y : Int32} (hd : decode M.2.1 pc = .ok (.lushr, 1)) (k : Fx M out (pc + 1) L (.long ((x.toUInt64 >>> (y.toInt64.toUInt64 &&& Int64.toUInt64 63)).toInt64) :: S) h) : Fx M out pc L (.int y :: .long x :: S) h := ⟨k.1, fun E D tA ad p l e s m args below meth c C H locs ls hl hP hS => lv_lushr C.1 C.2.1 hd rfl (k.2 E D tA ad p l e s m args below meth c C H locs ls hl hP hS)⟩
theorem fx_lcmp {x y : Int64} (hd : decode M.2.1 pc = .ok (.lcmp, 1)) (k : Fx M out (pc + 1) L (.int (lg_cmp x y) :: S) h) : Fx M out pc L (.long y :: .long x :: S) h := ⟨k.1, fun E D tA ad p l e s m args below meth c C H locs ls hl hP hS => W.lcmp C.1 C.2.1 hd (k.2 E D tA ad p l e s m args below meth c C H locs ls hl hP hS)⟩
theorem fx_i2l {x : Int32} (hd : decode M.2.1 pc = .ok (.i2l, 1)) (k : Fx M out (pc + 1) L (.long x.toInt64 :: S) h) : Fx M out pc L (.int x :: S) h := ⟨k.1, fun E D tA ad p l e s m args below meth c C H locs ls hl hP hS => lv_i2l C.1 C.2.1 hd rfl (k.2 E D tA ad p l e s m args below meth c C H locs ls hl hP hS)⟩
theorem fx_l2i {x : Int64} (hd : decode M.2.1 pc = .ok (.l2i, 1)) (k : Fx M out (pc + 1) L (.int x.toInt32 :: S) h) : Fx M out pc L (.long x :: S) h := ⟨k.1, fun E D tA ad p l e s m args below meth c C H locs ls hl hP hS => lv_l2i C.1 C.2.1 hd rfl (k.2 E D tA ad p l e s m args below meth c C H locs ls hl hP hS)⟩
theorem fx_i2b {x : Int32} (hd : decode M.2.1 pc = .ok (.i2b, 1)) (k : Fx M out (pc + 1) L (.int x.toInt8.toInt32 :: S) h) : Fx M out pc L (.int x :: S) h := ⟨k.1, fun E D tA ad p l e s m args below meth c C H locs ls hl hP hS => lv_i2b C.1 C.2.1 hd rfl (k.2 E D tA ad p l e s m args below meth c C H locs ls hl hP hS)⟩
theorem fx_i2s {x : Int32} (hd : decode M.2.1 pc = .ok (.i2s, 1)) (k : Fx M out (pc + 1) L (.int x.toInt16.toInt32 :: S) h) : Fx M out pc L (.int x :: S) h := ⟨k.1, fun E D tA ad p l e s m args below meth c C H locs ls hl hP hS => lv_i2s C.1 C.2.1 hd rfl (k.2 E D tA ad p l e s m args below meth c C H locs ls hl hP hS)⟩
theorem fx_i2c {x : Int32} (hd : decode M.2.1 pc = .ok (.i2c, 1)) (k : Fx M out (pc + 1) L (.int (x.toUInt32 % 65536).toInt32 :: S) h) : Fx M out pc L (.int x :: S) h := ⟨k.1, fun E D tA ad p l e s m args below meth c C H locs ls hl hP hS => lv_i2c C.1 C.2.1 hd rfl (k.2 E D tA ad p l e s m args below meth c C H locs ls hl hP hS)⟩
theorem fx_iconst {n : Int} {v : Int32} (hd : decode M.2.1 pc = .ok (.iconst n, 1)) (hv : Int32.ofInt n = v) (k : Fx M out (pc + 1) L (.int v :: S) h) : Fx M out pc L (S) h := ⟨k.1, fun E D tA ad p l e s m args below meth c C H locs ls hl hP hS => lv_iconst C.1 C.2.1 hd hv (k.2 E D tA ad p l e s m args below meth c C H locs ls hl hP hS)⟩
theorem fx_bipush {n : Int} {v : Int32} (hd : decode M.2.1 pc = .ok (.bipush n, 2)) (hv : (Int8.ofInt n).toInt32 = v) (k : Fx M out (pc + 2) L (.int v :: S) h) : Fx M out pc L (S) h := ⟨k.1, fun E D tA ad p l e s m args below meth c C H locs ls hl hP hS => lv_bipush C.1 C.2.1 hd hv (k.2 E D tA ad p l e s m args below meth c C H locs ls hl hP hS)⟩
theorem fx_sipush {n : Int} {v : Int32} (hd : decode M.2.1 pc = .ok (.sipush n, 3)) (hv : (Int16.ofInt n).toInt32 = v) (k : Fx M out (pc + 3) L (.int v :: S) h) : Fx M out pc L (S) h := ⟨k.1, fun E D tA ad p l e s m args below meth c C H locs ls hl hP hS => lv_sipush C.1 C.2.1 hd hv (k.2 E D tA ad p l e s m args below meth c C H locs ls hl hP hS)⟩
theorem fx_lconst {n : Fin 2} {v : Int64} (hd : decode M.2.1 pc = .ok (.lconst n, 1)) (hv : Int64.ofNat (n : Nat) = v) (k : Fx M out (pc + 1) L (.long v :: S) h) : Fx M out pc L (S) h := ⟨k.1, fun E D tA ad p l e s m args below meth c C H locs ls hl hP hS => lv_lconst C.1 C.2.1 hd hv (k.2 E D tA ad p l e s m args below meth c C H locs ls hl hP hS)⟩
theorem fx_dup {a : Value} (hd : decode M.2.1 pc = .ok (.dup, 1)) (ha : a.category = 1) (k : Fx M out (pc + 1) L (a :: a :: S) h) : Fx M out pc L (a :: S) h := ⟨k.1, fun E D tA ad p l e s m args below meth c C H locs ls hl hP hS => lv_dup C.1 C.2.1 hd ((z_cat ad a).trans ha) (k.2 E D tA ad p l e s m args below meth c C H locs ls hl hP hS)⟩
theorem fx_pop {a : Value} (hd : decode M.2.1 pc = .ok (.pop, 1)) (ha : a.category = 1) (k : Fx M out (pc + 1) L (S) h) : Fx M out pc L (a :: S) h := ⟨k.1, fun E D tA ad p l e s m args below meth c C H locs ls hl hP hS => lv_pop C.1 C.2.1 hd ((z_cat ad a).trans ha) (k.2 E D tA ad p l e s m args below meth c C H locs ls hl hP hS)⟩
theorem fx_dup2 {a b : Value} (hd : decode M.2.1 pc = .ok (.dup2, 1)) (ha : a.category = 1) (hb : b.category = 1) (k : Fx M out (pc + 1) L (a :: b :: a :: b :: S) h) : Fx M out pc L (a :: b :: S) h := ⟨k.1, fun E D tA ad p l e s m args below meth c C H locs ls hl hP hS => lv_dup2_11 C.1 C.2.1 hd ((z_cat ad a).trans ha) ((z_cat ad b).trans hb) (k.2 E D tA ad p l e s m args below meth c C H locs ls hl hP hS)⟩
theorem fx_iload_n {j : Fin 4} {i : Nat} {x : Int32} (hd : decode M.2.1 pc = .ok (.iload_n j, 1)) (hi : (j : Nat) = i) (hL : z_nt L i = some (some (.int x))) (k : Fx M out (pc + 1) L (.int x :: S) h) : Fx M out pc L (S) h := ⟨k.1, fun E D tA ad p l e s m args below meth c C H locs ls hl hP hS => lv_iload_n C.1 C.2.1 hd hi (hl.2.2 (i, .int x) (by have := z_L_in ad L 0 i _ hL; rwa [Nat.zero_add] at this)) (k.2 E D tA ad p l e s m args below meth c C H locs ls hl hP hS)⟩
theorem fx_iload {i : Nat} {x : Int32} (hd : decode M.2.1 pc = .ok (.iload i, 2)) (hL : z_nt L i = some (some (.int x))) (k : Fx M out (pc + 2) L (.int x :: S) h) : Fx M out pc L (S) h := ⟨k.1, fun E D tA ad p l e s m args below meth c C H locs ls hl hP hS => lv_iload C.1 C.2.1 hd (hl.2.2 (i, .int x) (by have := z_L_in ad L 0 i _ hL; rwa [Nat.zero_add] at this)) (k.2 E D tA ad p l e s m args below meth c C H locs ls hl hP hS)⟩
theorem fx_lload_n {j : Fin 4} {i : Nat} {x : Int64} (hd : decode M.2.1 pc = .ok (.lload_n j, 1)) (hi : (j : Nat) = i) (hL : z_nt L i = some (some (.long x))) (k : Fx M out (pc + 1) L (.long x :: S) h) : Fx M out pc L (S) h := ⟨k.1, fun E D tA ad p l e s m args below meth c C H locs ls hl hP hS => lv_lload_n C.1 C.2.1 hd hi (hl.2.2 (i, .long x) (by have := z_L_in ad L 0 i _ hL; rwa [Nat.zero_add] at this)) (k.2 E D tA ad p l e s m args below meth c C H locs ls hl hP hS)⟩
theorem fx_lload {i : Nat} {x : Int64} (hd : decode M.2.1 pc = .ok (.lload i, 2)) (hL : z_nt L i = some (some (.long x))) (k : Fx M out (pc + 2) L (.long x :: S) h) : Fx M out pc L (S) h := ⟨k.1, fun E D tA ad p l e s m args below meth c C H locs ls hl hP hS => lv_lload C.1 C.2.1 hd (hl.2.2 (i, .long x) (by have := z_L_in ad L 0 i _ hL; rwa [Nat.zero_add] at this)) (k.2 E D tA ad p l e s m args below meth c C H locs ls hl hP hS)⟩
theorem fx_aload_n {j : Fin 4} {i : Nat} {x : Nat} (hd : decode M.2.1 pc = .ok (.aload_n j, 1)) (hi : (j : Nat) = i) (hL : z_nt L i = some (some (.ref x))) (k : Fx M out (pc + 1) L (.ref x :: S) h) : Fx M out pc L (S) h := ⟨k.1, fun E D tA ad p l e s m args below meth c C H locs ls hl hP hS => lv_aload_n C.1 C.2.1 hd hi (hl.2.2 (i, .ref (ad x)) (by have := z_L_in ad L 0 i _ hL; rwa [Nat.zero_add] at this)) (k.2 E D tA ad p l e s m args below meth c C H locs ls hl hP hS)⟩
theorem fx_aload {i : Nat} {x : Nat} (hd : decode M.2.1 pc = .ok (.aload i, 2)) (hL : z_nt L i = some (some (.ref x))) (k : Fx M out (pc + 2) L (.ref x :: S) h) : Fx M out pc L (S) h := ⟨k.1, fun E D tA ad p l e s m args below meth c C H locs ls hl hP hS => lv_aload C.1 C.2.1 hd (hl.2.2 (i, .ref (ad x)) (by have := z_L_in ad L 0 i _ hL; rwa [Nat.zero_add] at this)) (k.2 E D tA ad p l e s m args below meth c C H locs ls hl hP hS)⟩
theorem fx_istore_n {j : Fin 4} {i : Nat} {x : Int32} {L' : List (Option Value)} (hd : decode M.2.1 pc = .ok (.istore_n j, 1)) (hi : (j : Nat) = i) (hL : z_st L i (some (.int x)) = L') (hn : z_no2 L i = true) (hm : i < M.2.2.1) (k : Fx M out (pc + 1) L' S h) : Fx M out pc L (.int x :: S) h := ⟨k.1, fun E D tA ad p l e s m args below meth c C H locs ls hl hP hS => lv_istore_n C.1 C.2.1 hd hi hl hm rfl (fun ls hl2 => k.2 E D tA ad p l e s m args below meth c C H locs ls (by rw [← hL]; exact z_store (v := .int x) rfl hn hl2) hP hS)⟩
theorem fx_istore {i : Nat} {x : Int32} {L' : List (Option Value)} (hd : decode M.2.1 pc = .ok (.istore i, 2)) (hL : z_st L i (some (.int x)) = L') (hn : z_no2 L i = true) (hm : i < M.2.2.1) (k : Fx M out (pc + 2) L' S h) : Fx M out pc L (.int x :: S) h := ⟨k.1, fun E D tA ad p l e s m args below meth c C H locs ls hl hP hS => lv_istore C.1 C.2.1 hd hl hm rfl (fun ls hl2 => k.2 E D tA ad p l e s m args below meth c C H locs ls (by rw [← hL]; exact z_store (v := .int x) rfl hn hl2) hP hS)⟩
theorem fx_astore_n {j : Fin 4} {i : Nat} {x : Nat} {L' : List (Option Value)} (hd : decode M.2.1 pc = .ok (.astore_n j, 1)) (hi : (j : Nat) = i) (hL : z_st L i (some (.ref x)) = L') (hn : z_no2 L i = true) (hm : i < M.2.2.1) (k : Fx M out (pc + 1) L' S h) : Fx M out pc L (.ref x :: S) h := ⟨k.1, fun E D tA ad p l e s m args below meth c C H locs ls hl hP hS => lv_astore_n C.1 C.2.1 hd hi hl hm rfl (fun ls hl2 => k.2 E D tA ad p l e s m args below meth c C H locs ls (by rw [← hL]; exact z_store (v := .ref x) rfl hn hl2) hP hS)⟩
theorem fx_astore {i : Nat} {x : Nat} {L' : List (Option Value)} (hd : decode M.2.1 pc = .ok (.astore i, 2)) (hL : z_st L i (some (.ref x)) = L') (hn : z_no2 L i = true) (hm : i < M.2.2.1) (k : Fx M out (pc + 2) L' S h) : Fx M out pc L (.ref x :: S) h := ⟨k.1, fun E D tA ad p l e s m args below meth c C H locs ls hl hP hS => lv_astore C.1 C.2.1 hd hl hm rfl (fun ls hl2 => k.2 E D tA ad p l e s m args below meth c C H locs ls (by rw [← hL]; exact z_store (v := .ref x) rfl hn hl2) hP hS)⟩
theorem fx_lstore_n {j : Fin 4} {i : Nat} {x : Int64} {L' : List (Option Value)} (hd : decode M.2.1 pc = .ok (.lstore_n j, 1)) (hi : (j : Nat) = i) (hL : z_st (z_st L i (some (.long x))) (i + 1) none = L') (hn : z_no2 L i = true) (hm : i + 1 < M.2.2.1) (k : Fx M out (pc + 1) L' S h) : Fx M out pc L (.long x :: S) h := ⟨k.1, fun E D tA ad p l e s m args below meth c C H locs ls hl hP hS => lv_lstore_n C.1 C.2.1 hd hi hl hm rfl (fun ls hl2 => k.2 E D tA ad p l e s m args below meth c C H locs ls (by rw [← hL]; exact z_store2 (v := .long x) hn hl2) hP hS)⟩
theorem fx_lstore {i : Nat} {x : Int64} {L' : List (Option Value)} (hd : decode M.2.1 pc = .ok (.lstore i, 2)) (hL : z_st (z_st L i (some (.long x))) (i + 1) none = L') (hn : z_no2 L i = true) (hm : i + 1 < M.2.2.1) (k : Fx M out (pc + 2) L' S h) : Fx M out pc L (.long x :: S) h := ⟨k.1, fun E D tA ad p l e s m args below meth c C H locs ls hl hP hS => lv_lstore C.1 C.2.1 hd hl hm rfl (fun ls hl2 => k.2 E D tA ad p l e s m args below meth c C H locs ls (by rw [← hL]; exact z_store2 (v := .long x) hn hl2) hP hS)⟩
theorem z_L_get (ad : Nat → Nat) {L : List (Option Value)} {i : Nat} {v : Value} (hL : z_nt L i = some (some v)) : ∃ q : Nat, (z_L ad 0 L)[q]? = some (i, z_g ad v) := by
  have := z_L_in ad L 0 i v hL
  rw [Nat.zero_add] at this
  exact List.getElem?_of_mem this
theorem fx_iinc {i : Nat} {n : Int} {x v : Int32} {L' : List (Option Value)} (hd : decode M.2.1 pc = .ok (.iinc i n, 3)) (hL : z_nt L i = some (some (.int x))) (hv : x + Int32.ofInt n = v) (hL2 : z_st L i (some (.int v)) = L') (hn : z_no2 L i = true) (hm : i < M.2.2.1) (k : Fx M out (pc + 3) L' S h) : Fx M out pc L S h := ⟨k.1, fun E D tA ad p l e s m args below meth c C H locs ls hl hP hS => by
  obtain ⟨q, hq⟩ := z_L_get ad hL
  exact lv_iinc C.1 C.2.1 hd hl hq hv hm rfl (fun ls hl2 => k.2 E D tA ad p l e s m args below meth c C H locs ls (by rw [← hL2]; exact z_store (v := .int v) rfl hn hl2) hP hS)⟩
theorem fx_if_eq {x : Int32} {off : Int} {tgt : Nat} (hd : decode M.2.1 pc = .ok (.ifCond .eq off, 3)) (ht : (pc : Int) + off = (tgt : Int)) (hn : h.length = out.2.length) (kt : x = 0 → Fx M out tgt L S h) (kf : ¬ (x = 0) → Fx M out (pc + 3) L S h) : Fx M out pc L (.int x :: S) h := ⟨hn, fun E D tA ad p l e s m args below meth c C H locs ls hl hP hS => lv_if_eq C.1 C.2.1 hd ht (fun q => (kt q).2 E D tA ad p l e s m args below meth c C H locs ls hl hP hS) (fun q => (kf q).2 E D tA ad p l e s m args below meth c C H locs ls hl hP hS)⟩
theorem fx_icmp_eq {x y : Int32} {off : Int} {tgt : Nat} (hd : decode M.2.1 pc = .ok (.if_icmp .eq off, 3)) (ht : (pc : Int) + off = (tgt : Int)) (hn : h.length = out.2.length) (kt : x = y → Fx M out tgt L S h) (kf : ¬ (x = y) → Fx M out (pc + 3) L S h) : Fx M out pc L (.int y :: .int x :: S) h := ⟨hn, fun E D tA ad p l e s m args below meth c C H locs ls hl hP hS => lv_icmp_eq C.1 C.2.1 hd ht (fun q => (kt q).2 E D tA ad p l e s m args below meth c C H locs ls hl hP hS) (fun q => (kf q).2 E D tA ad p l e s m args below meth c C H locs ls hl hP hS)⟩
theorem fx_if_ne {x : Int32} {off : Int} {tgt : Nat} (hd : decode M.2.1 pc = .ok (.ifCond .ne off, 3)) (ht : (pc : Int) + off = (tgt : Int)) (hn : h.length = out.2.length) (kt : ¬ x = 0 → Fx M out tgt L S h) (kf : x = 0 → Fx M out (pc + 3) L S h) : Fx M out pc L (.int x :: S) h := ⟨hn, fun E D tA ad p l e s m args below meth c C H locs ls hl hP hS => lv_if_ne C.1 C.2.1 hd ht (fun q => (kt q).2 E D tA ad p l e s m args below meth c C H locs ls hl hP hS) (fun q => (kf q).2 E D tA ad p l e s m args below meth c C H locs ls hl hP hS)⟩
theorem fx_icmp_ne {x y : Int32} {off : Int} {tgt : Nat} (hd : decode M.2.1 pc = .ok (.if_icmp .ne off, 3)) (ht : (pc : Int) + off = (tgt : Int)) (hn : h.length = out.2.length) (kt : ¬ x = y → Fx M out tgt L S h) (kf : x = y → Fx M out (pc + 3) L S h) : Fx M out pc L (.int y :: .int x :: S) h := ⟨hn, fun E D tA ad p l e s m args below meth c C H locs ls hl hP hS => lv_icmp_ne C.1 C.2.1 hd ht (fun q => (kt q).2 E D tA ad p l e s m args below meth c C H locs ls hl hP hS) (fun q => (kf q).2 E D tA ad p l e s m args below meth c C H locs ls hl hP hS)⟩
theorem fx_if_lt {x : Int32} {off : Int} {tgt : Nat} (hd : decode M.2.1 pc = .ok (.ifCond .lt off, 3)) (ht : (pc : Int) + off = (tgt : Int)) (hn : h.length = out.2.length) (kt : x < 0 → Fx M out tgt L S h) (kf : ¬ (x < 0) → Fx M out (pc + 3) L S h) : Fx M out pc L (.int x :: S) h := ⟨hn, fun E D tA ad p l e s m args below meth c C H locs ls hl hP hS => lv_if_lt C.1 C.2.1 hd ht (fun q => (kt q).2 E D tA ad p l e s m args below meth c C H locs ls hl hP hS) (fun q => (kf q).2 E D tA ad p l e s m args below meth c C H locs ls hl hP hS)⟩
theorem fx_icmp_lt {x y : Int32} {off : Int} {tgt : Nat} (hd : decode M.2.1 pc = .ok (.if_icmp .lt off, 3)) (ht : (pc : Int) + off = (tgt : Int)) (hn : h.length = out.2.length) (kt : x < y → Fx M out tgt L S h) (kf : ¬ (x < y) → Fx M out (pc + 3) L S h) : Fx M out pc L (.int y :: .int x :: S) h := ⟨hn, fun E D tA ad p l e s m args below meth c C H locs ls hl hP hS => lv_icmp_lt C.1 C.2.1 hd ht (fun q => (kt q).2 E D tA ad p l e s m args below meth c C H locs ls hl hP hS) (fun q => (kf q).2 E D tA ad p l e s m args below meth c C H locs ls hl hP hS)⟩
theorem fx_if_ge {x : Int32} {off : Int} {tgt : Nat} (hd : decode M.2.1 pc = .ok (.ifCond .ge off, 3)) (ht : (pc : Int) + off = (tgt : Int)) (hn : h.length = out.2.length) (kt : 0 ≤ x → Fx M out tgt L S h) (kf : ¬ (0 ≤ x) → Fx M out (pc + 3) L S h) : Fx M out pc L (.int x :: S) h := ⟨hn, fun E D tA ad p l e s m args below meth c C H locs ls hl hP hS => lv_if_ge C.1 C.2.1 hd ht (fun q => (kt q).2 E D tA ad p l e s m args below meth c C H locs ls hl hP hS) (fun q => (kf q).2 E D tA ad p l e s m args below meth c C H locs ls hl hP hS)⟩
theorem fx_icmp_ge {x y : Int32} {off : Int} {tgt : Nat} (hd : decode M.2.1 pc = .ok (.if_icmp .ge off, 3)) (ht : (pc : Int) + off = (tgt : Int)) (hn : h.length = out.2.length) (kt : y ≤ x → Fx M out tgt L S h) (kf : ¬ (y ≤ x) → Fx M out (pc + 3) L S h) : Fx M out pc L (.int y :: .int x :: S) h := ⟨hn, fun E D tA ad p l e s m args below meth c C H locs ls hl hP hS => lv_icmp_ge C.1 C.2.1 hd ht (fun q => (kt q).2 E D tA ad p l e s m args below meth c C H locs ls hl hP hS) (fun q => (kf q).2 E D tA ad p l e s m args below meth c C H locs ls hl hP hS)⟩
theorem fx_if_gt {x : Int32} {off : Int} {tgt : Nat} (hd : decode M.2.1 pc = .ok (.ifCond .gt off, 3)) (ht : (pc : Int) + off = (tgt : Int)) (hn : h.length = out.2.length) (kt : 0 < x → Fx M out tgt L S h) (kf : ¬ (0 < x) → Fx M out (pc + 3) L S h) : Fx M out pc L (.int x :: S) h := ⟨hn, fun E D tA ad p l e s m args below meth c C H locs ls hl hP hS => lv_if_gt C.1 C.2.1 hd ht (fun q => (kt q).2 E D tA ad p l e s m args below meth c C H locs ls hl hP hS) (fun q => (kf q).2 E D tA ad p l e s m args below meth c C H locs ls hl hP hS)⟩
theorem fx_icmp_gt {x y : Int32} {off : Int} {tgt : Nat} (hd : decode M.2.1 pc = .ok (.if_icmp .gt off, 3)) (ht : (pc : Int) + off = (tgt : Int)) (hn : h.length = out.2.length) (kt : y < x → Fx M out tgt L S h) (kf : ¬ (y < x) → Fx M out (pc + 3) L S h) : Fx M out pc L (.int y :: .int x :: S) h := ⟨hn, fun E D tA ad p l e s m args below meth c C H locs ls hl hP hS => lv_icmp_gt C.1 C.2.1 hd ht (fun q => (kt q).2 E D tA ad p l e s m args below meth c C H locs ls hl hP hS) (fun q => (kf q).2 E D tA ad p l e s m args below meth c C H locs ls hl hP hS)⟩
theorem fx_if_le {x : Int32} {off : Int} {tgt : Nat} (hd : decode M.2.1 pc = .ok (.ifCond .le off, 3)) (ht : (pc : Int) + off = (tgt : Int)) (hn : h.length = out.2.length) (kt : x ≤ 0 → Fx M out tgt L S h) (kf : ¬ (x ≤ 0) → Fx M out (pc + 3) L S h) : Fx M out pc L (.int x :: S) h := ⟨hn, fun E D tA ad p l e s m args below meth c C H locs ls hl hP hS => lv_if_le C.1 C.2.1 hd ht (fun q => (kt q).2 E D tA ad p l e s m args below meth c C H locs ls hl hP hS) (fun q => (kf q).2 E D tA ad p l e s m args below meth c C H locs ls hl hP hS)⟩
theorem fx_icmp_le {x y : Int32} {off : Int} {tgt : Nat} (hd : decode M.2.1 pc = .ok (.if_icmp .le off, 3)) (ht : (pc : Int) + off = (tgt : Int)) (hn : h.length = out.2.length) (kt : x ≤ y → Fx M out tgt L S h) (kf : ¬ (x ≤ y) → Fx M out (pc + 3) L S h) : Fx M out pc L (.int y :: .int x :: S) h := ⟨hn, fun E D tA ad p l e s m args below meth c C H locs ls hl hP hS => lv_icmp_le C.1 C.2.1 hd ht (fun q => (kt q).2 E D tA ad p l e s m args below meth c C H locs ls hl hP hS) (fun q => (kf q).2 E D tA ad p l e s m args below meth c C H locs ls hl hP hS)⟩
theorem fx_goto {off : Int} {tgt : Nat} (hd : decode M.2.1 pc = .ok (.goto off, 3)) (ht : (pc : Int) + off = (tgt : Int)) (k : Fx M out tgt L S h) : Fx M out pc L S h := ⟨k.1, fun E D tA ad p l e s m args below meth c C H locs ls hl hP hS => lv_goto C.1 C.2.1 hd ht (k.2 E D tA ad p l e s m args below meth c C H locs ls hl hP hS)⟩
theorem fx_tableIn {dflt lo hi : Int} {offs : Array Int} {len : Nat} {x : Int32} {off : Int} {tgt : Nat} (hd : decode M.2.1 pc = .ok (.tableswitch dflt lo hi offs, len)) (h1 : ¬ x.toInt < lo) (h2 : ¬ hi < x.toInt) (ho : offs[(x.toInt - lo).toNat]? = some off) (ht : (pc : Int) + off = (tgt : Int)) (k : Fx M out tgt L S h) : Fx M out pc L (.int x :: S) h := ⟨k.1, fun E D tA ad p l e s m args below meth c C H locs ls hl hP hS => lv_tableIn C.1 C.2.1 hd h1 h2 ho ht (k.2 E D tA ad p l e s m args below meth c C H locs ls hl hP hS)⟩
theorem fx_tableOut {dflt lo hi : Int} {offs : Array Int} {len : Nat} {x : Int32} {tgt : Nat} (hd : decode M.2.1 pc = .ok (.tableswitch dflt lo hi offs, len)) (hq : x.toInt < lo ∨ hi < x.toInt) (ht : (pc : Int) + dflt = (tgt : Int)) (k : Fx M out tgt L S h) : Fx M out pc L (.int x :: S) h := ⟨k.1, fun E D tA ad p l e s m args below meth c C H locs ls hl hP hS => lv_tableOut C.1 C.2.1 hd hq ht (k.2 E D tA ad p l e s m args below meth c C H locs ls hl hP hS)⟩
theorem fx_lookup {dflt : Int} {ps : Array (Int × Int)} {len : Nat} {x : Int32} {off : Int} {tgt : Nat} (hd : decode M.2.1 pc = .ok (.lookupswitch dflt ps, len)) (hp : (ps.toList.zip (ps.toList.drop 1)).all (fun (a, next) => a.1 < next.1) = true) (ho : Op.lookupswitch.offset ps.toList dflt x.toInt = off) (ht : (pc : Int) + off = (tgt : Int)) (k : Fx M out tgt L S h) : Fx M out pc L (.int x :: S) h := ⟨k.1, fun E D tA ad p l e s m args below meth c C H locs ls hl hP hS => lv_lookup C.1 C.2.1 hd hp ho ht (k.2 E D tA ad p l e s m args below meth c C H locs ls hl hP hS)⟩
end FX
/-! ===== links, and rows over the heap ===== -/
theorem z_in {w : Cond} (h : w ∈ lw_tbl) (g : goodWord w = true) : w ∈ z_T := List.mem_filter.mpr ⟨h, g⟩
theorem z_inN {w : Cond} (h : w ∈ lw_tbl) (g : z_isN w = true) : w ∈ z_N := List.mem_filter.mpr ⟨h, g⟩
theorem z_Tw {M : zM} {w : Cond} (h : w ∈ z_T) : w ∈ z_wd M := List.mem_cons_of_mem _ h
/-- a class of ours: its fields in order, their types -/
def z_Kl (ci : Nat) (C : String) (T : u_T) (N : Nat) (ty : Nat → FieldType) : Prop :=
  vwCl[ci]? = some (C, T, N) ∧ (∀ w ∈ u_ws C T N, w ∈ z_T) ∧ (∀ k, k < N → parseFieldDescriptor (T k).2.2.1 = some (ty k)) ∧ (∀ a, a < N → ∀ b, b < N → a ≠ b → (T a).2.1 ≠ (T b).2.1)
/-- entry idx of a class's pool is field j of class ci, of this type -/
def z_Lk (own : String) (idx ci j : Nat) (ft : FieldType) (fin : Bool) : Prop := ∃ C T N ty, z_Kl ci C T N ty ∧ j < N ∧ ty j = ft ∧ (T j).2.2.2 = fin ∧
  (Cond.fieldLink own idx (T j).1 (T j).2.1 (T j).2.2.1 ∈ z_T ∨ ∃ host, Cond.fieldLinkNest own idx (T j).1 (T j).2.1 (T j).2.2.1 host ∈ z_N)
theorem z_ws0 {tA : Nat → ClassId} {ad : Nat → Nat} {h : zH} {q : Nat} {c : zC} (h0 : z_at h q = some c) : (z_ws tA ad 0 h)[q]? = some (ad q, z_c tA ad c) := by
  have := z_ws_at tA ad h 0 q c h0
  rwa [Nat.zero_add] at this
theorem z_ws0s {tA : Nat → ClassId} {ad : Nat → Nat} {h h' : zH} {q : Nat} {c : zC} (hs : z_set h q c = h') : (z_ws tA ad 0 h).set q (ad q, z_c tA ad c) = z_ws tA ad 0 h' := by
  have := z_ws_set tA ad h 0 q c
  rw [Nat.zero_add] at this
  rw [this, hs]
section FH
variable {M : zM} {out : Option Value × zH} {pc : Nat} {L : List (Option Value)} {S : List Value} {h : zH}
theorem fx_get {idx ci j q : Nat} {fs : List Value} {v : Value} {ft : FieldType} {fin : Bool} (hd : decode M.2.1 pc = .ok (.getfield idx, 3)) (hk : z_Lk M.1.cls idx ci j ft fin) (h0 : z_at h q = some (.inr (ci, fs))) (hv : fs[j]? = some v)
    (k : Fx M out (pc + 3) L (v :: S) h) : Fx M out pc L (.ref q :: S) h := by
  refine ⟨k.1, fun E D tA ad p l e s m args below meth c C H locs ls hl hP hS => ?_⟩
  obtain ⟨c1, c2, c3, c4, c5, c6, c7, c8, c9, c10, c11, c12⟩ := id C
  obtain ⟨CC, T, N, ty, ⟨e1, e2, e3, e4⟩, hj, -, -, hlk⟩ := hk
  have he := z_ws0 (tA := tA) (ad := ad) h0
  have hv' : (fs.map (z_g ad))[j]? = some (z_g ad v) := by rw [List.getElem?_map, hv]; rfl
  rcases hlk with hlk | ⟨host, hlk⟩
  · exact va_get (T := T) (ref := (T j).1) c1 c2 c6 (fun w hw => z_Tw (e2 w hw)) c5 c8 hP q he e1 j hj (c6 _ (z_Tw hlk)) (fun _ h9 => h9) hv' hd (k.2 E D tA ad p l e s m args below meth c C H locs ls hl hP hS)
  · exact va_getN (T := T) (ref := (T j).1) (host := host) c1 c2 c6 (fun w hw => z_Tw (e2 w hw)) c5 c8 hP q he e1 j hj (va_Nw.use rfl (c9 _ hlk)) (fun _ h9 => h9) hv' hd (k.2 E D tA ad p l e s m args below meth c C H locs ls hl hP hS)
theorem fx_put {idx ci j q : Nat} {fs : List Value} {v : Value} {ft : FieldType} {h' : zH} (hd : decode M.2.1 pc = .ok (.putfield idx, 3)) (hk : z_Lk M.1.cls idx ci j ft false) (h0 : z_at h q = some (.inr (ci, fs))) (hjl : j < fs.length) (hg : ∀ ad, z_g ad v = v) (hnw : narrow ft v = v) (hft : fits ft v = true)
    (hs : z_set h q (.inr (ci, fs.set j v)) = h') (k : Fx M out (pc + 3) L S h') : Fx M out pc L (v :: .ref q :: S) h := by
  have hlen : h'.length = h.length := by rw [← hs, z_set_len]
  refine ⟨by rw [← hlen]; exact k.1, fun E D tA ad p l e s m args below meth c C H locs ls hl hP hS => ?_⟩
  obtain ⟨c1, c2, c3, c4, c5, c6, c7, c8, c9, c10, c11, c12⟩ := id C
  obtain ⟨CC, T, N, ty, ⟨e1, e2, e3, e4⟩, hj, hty, hfin, hlk⟩ := hk
  have he := z_ws0 (tA := tA) (ad := ad) h0
  have hD := z_D c11 tA s.heap.size h rfl
  have hmap : (fs.map (z_g ad)).set j v = (fs.set j v).map (z_g ad) := by rw [List.map_set, hg ad]
  have hws : (z_ws tA ad 0 h).set q (ad q, .inr (ci, (fs.map (z_g ad)).set j v)) = z_ws tA ad 0 h' := by rw [hmap]; exact z_ws0s hs
  have kk : ∀ (H1 : Heap) (locs1 : List Loc), va_P D vwCl ((z_ws tA ad 0 h).set q (ad q, .inr (ci, (fs.map (z_g ad)).set j v))) H1 → va_D (z_A ad h.length s.heap.size) ((z_ws tA ad 0 h).set q (ad q, .inr (ci, (fs.map (z_g ad)).set j v))) → va_S (z_A ad h.length s.heap.size) s.heap H1 locs1 → W p l e (z_rm M.2.2.2.2) s m args below meth c H1 locs1 0 0 (MQ below (z_Q D tA ad out.1 out.2 (z_A ad h.length s.heap.size)) args s 0 0 (z_A ad h.length s.heap.size)) (F0 m (pc + 3) ls (S.map (z_g ad))) := by
    intro H1 locs1 hP1 hD1 hS1
    rw [hws] at hP1
    have := k.2 E D tA ad p l e s m args below meth c (by rw [hlen]; exact C) H1 locs1 ls hl hP1 (by rw [hlen]; exact hS1)
    rw [hlen] at this
    exact this
  show W p l e (z_rm M.2.2.2.2) s m args below meth c H locs 0 0 _ (F0 m pc ls (z_g ad v :: .ref (ad q) :: S.map (z_g ad)))
  rw [hg ad]
  rcases hlk with hlk | ⟨host, hlk⟩
  · exact va_put (T := T) (ref := (T j).1) (ty := ft) c1 c2 c6 (fun w hw => z_Tw (e2 w hw)) ty e3 e4 c5 c8 hP hD hS q he e1 j hj (c6 _ (z_Tw hlk)) (fun _ h9 => h9) hfin (by rw [e3 j hj, hty]) hnw hft (by rw [List.length_map]; exact hjl) hd kk
  · exact va_putN (T := T) (ref := (T j).1) (host := host) (ty := ft) c1 c2 c6 (fun w hw => z_Tw (e2 w hw)) ty e3 e4 c5 c8 hP hD hS q he e1 j hj (va_Nw.use rfl (c9 _ hlk)) (fun _ h9 => h9) hfin (by rw [e3 j hj, hty]) hnw hft (by rw [List.length_map]; exact hjl) hd kk
theorem fx_iald {q n : Nat} {f : Nat → Int32} {i : Int32} (hd : decode M.2.1 pc = .ok (.iaload, 1)) (h0 : z_at h q = some (.inl (0, n, .inl f))) (hi : vp_in i n) (k : Fx M out (pc + 1) L (.int (f i.toNatClampNeg) :: S) h) : Fx M out pc L (.int i :: .ref q :: S) h := by
  refine ⟨k.1, fun E D tA ad p l e s m args below meth c C H locs ls hl hP hS => ?_⟩
  obtain ⟨c1, c2, c3, c4, c5, c6, c7, c8, c9, c10, c11, c12⟩ := id C
  exact va_iald c1 c2 c8 hP q 0 (z_ws0 h0) rfl hi hd (k.2 E D tA ad p l e s m args below meth c C H locs ls hl hP hS)
theorem fx_iast {q n : Nat} {f : Nat → Int32} {i x : Int32} {h' : zH} (hd : decode M.2.1 pc = .ok (.iastore, 1)) (h0 : z_at h q = some (.inl (0, n, .inl f))) (hi : vp_in i n) (hs : z_set h q (.inl (0, n, .inl (upd f i.toNatClampNeg x))) = h') (k : Fx M out (pc + 1) L S h') : Fx M out pc L (.int x :: .int i :: .ref q :: S) h := by
  have hlen : h'.length = h.length := by rw [← hs, z_set_len]
  refine ⟨by rw [← hlen]; exact k.1, fun E D tA ad p l e s m args below meth c C H locs ls hl hP hS => ?_⟩
  obtain ⟨c1, c2, c3, c4, c5, c6, c7, c8, c9, c10, c11, c12⟩ := id C
  have hD := z_D c11 tA s.heap.size h rfl
  have hws : (z_ws tA ad 0 h).set q (ad q, .inl (tA 0, n, .inl (upd f i.toNatClampNeg x))) = z_ws tA ad 0 h' := z_ws0s hs
  refine va_iast c1 c2 c8 hP hD hS q 0 (z_ws0 h0) rfl hi hd (fun H1 locs1 hP1 hD1 hS1 => ?_)
  rw [hws] at hP1
  have := k.2 E D tA ad p l e s m args below meth c (by rw [hlen]; exact C) H1 locs1 ls hl hP1 (by rw [hlen]; exact hS1)
  rw [hlen] at this
  exact this
theorem fx_alen {q t : Nat} {x : vp_A} {v : Int32} (hd : decode M.2.1 pc = .ok (.arraylength, 1)) (h0 : z_at h q = some (.inl (t, x))) (ht : t < 3) (hv : Int32.ofNat x.1 = v) (k : Fx M out (pc + 1) L (.int v :: S) h) : Fx M out pc L (.ref q :: S) h := by
  refine ⟨k.1, fun E D tA ad p l e s m args below meth c C H locs ls hl hP hS => ?_⟩
  obtain ⟨c1, c2, c3, c4, c5, c6, c7, c8, c9, c10, c11, c12⟩ := id C
  have hn : (z_ga ad x).1 = x.1 := by
    obtain ⟨n, a | a | a | a | a⟩ := x <;> rfl
  obtain ⟨ty, hty⟩ : ∃ ty, (z_tys tA)[t]? = some (tA t, ty) := by
    match t, ht with
    | 0, _ => exact ⟨_, rfl⟩
    | 1, _ => exact ⟨_, rfl⟩
    | 2, _ => exact ⟨_, rfl⟩
  exact va_alen c1 c2 c8 hP q t (z_ws0 h0) hty (by rw [hn]; exact hv) hd (k.2 E D tA ad p l e s m args below meth c C H locs ls hl hP hS)
theorem fx_aald {q t n b : Nat} {f : Nat → Option Nat} {i : Int32} (hd : decode M.2.1 pc = .ok (.aaload, 1)) (h0 : z_at h q = some (.inl (t, n, .inr (.inr (.inr (.inr f)))))) (ht : t = 1 ∨ t = 2) (hi : vp_in i n) (hb : f i.toNatClampNeg = some b) (k : Fx M out (pc + 1) L (.ref b :: S) h) : Fx M out pc L (.int i :: .ref q :: S) h := by
  refine ⟨k.1, fun E D tA ad p l e s m args below meth c C H locs ls hl hP hS => ?_⟩
  obtain ⟨c1, c2, c3, c4, c5, c6, c7, c8, c9, c10, c11, c12⟩ := id C
  obtain ⟨CC, hty⟩ : ∃ CC, (z_tys tA)[t]? = some (tA t, .object CC) := by
    rcases ht with rfl | rfl
    · exact ⟨_, rfl⟩
    · exact ⟨_, rfl⟩
  have := va_aldq (i := i) (p := p) (l := l) (e := e) (R := z_rm M.2.2.2.2) (s := s) (m := m) (args := args) (below := below) (meth := meth) (c := c) (H := H) (locs := locs) (cells := 0) (slots := 0) (pc := pc) (ls := ls) (rest := S.map (z_g ad)) (Q := MQ below (z_Q D tA ad out.1 out.2 (z_A ad h.length s.heap.size)) args s 0 0 (z_A ad h.length s.heap.size)) c1 c2 c8 hP q t (z_ws0 h0) hty hi hd
  refine this ?_
  show W p l e _ s m args below meth c H locs 0 0 _ (F0 m (pc + 1) ls (va_rf ((f i.toNatClampNeg).map ad) :: S.map (z_g ad)))
  rw [hb]
  exact k.2 E D tA ad p l e s m args below meth c C H locs ls hl hP hS
theorem fx_ldc {idx : Nat} {v : Int32} (hd : decode M.2.1 pc = .ok (.ldc idx, 2)) (hk : Cond.constant M.1.cls idx v ∈ z_T) (k : Fx M out (pc + 2) L (.int v :: S) h) : Fx M out pc L S h :=
  ⟨k.1, fun E D tA ad p l e s m args below meth c C H locs ls hl hP hS => lv_ldc C.1 C.2.1 C.2.2.2.2.1 (C.2.2.2.2.2.1 _ (z_Tw hk)) hd (k.2 E D tA ad p l e s m args below meth c C H locs ls hl hP hS)⟩
theorem fx_ldcw {idx : Nat} {v : Int32} (hd : decode M.2.1 pc = .ok (.ldc_w idx, 3)) (hk : Cond.constant M.1.cls idx v ∈ z_T) (k : Fx M out (pc + 3) L (.int v :: S) h) : Fx M out pc L S h :=
  ⟨k.1, fun E D tA ad p l e s m args below meth c C H locs ls hl hP hS => lv_ldcw C.1 C.2.1 C.2.2.2.2.1 (C.2.2.2.2.2.1 _ (z_Tw hk)) hd (k.2 E D tA ad p l e s m args below meth c C H locs ls hl hP hS)⟩
theorem fx_ldc2 {idx : Nat} {v : Int64} (hd : decode M.2.1 pc = .ok (.ldc2_w idx, 3)) (hk : Cond.constantLong M.1.cls idx v ∈ z_T) (k : Fx M out (pc + 3) L (.long v :: S) h) : Fx M out pc L S h :=
  ⟨k.1, fun E D tA ad p l e s m args below meth c C H locs ls hl hP hS => lv_ldc2 C.1 C.2.1 C.2.2.2.2.1 (C.2.2.2.2.2.1 _ (z_Tw hk)) hd (k.2 E D tA ad p l e s m args below meth c C H locs ls hl hP hS)⟩
theorem fx_copy {idx q0 q1 n0 n1 : Nat} {f g : Nat → Int32} {sp dp n : Int32} {h' : zH} (hd : decode M.2.1 pc = .ok (.invokestatic idx, 3)) (hk : Cond.methodLink M.1.cls idx arraycopyName ∈ z_T) (hk2 : Cond.native arraycopyName ∈ z_T ∧ Cond.static arraycopyName ∈ z_T ∧ Cond.initialized "java/lang/System" ∈ z_T) (hdep : 1 ≤ M.2.2.2.2)
    (h0 : z_at h q0 = some (.inl (0, n0, .inl f))) (h1 : z_at h q1 = some (.inl (0, n1, .inl g))) (g1 : ¬ sp < 0) (g2 : ¬ dp < 0) (g3 : ¬ n < 0) (g4 : sp.toNatClampNeg + n.toNatClampNeg ≤ n0) (g5 : dp.toNatClampNeg + n.toNatClampNeg ≤ n1) (hr : (S.map fun v => v.category).sum ≤ 8)
    (hs : z_set h q1 (.inl (0, n1, .inl (va_cpy f g sp.toNatClampNeg dp.toNatClampNeg n.toNatClampNeg))) = h') (k : Fx M out (pc + 3) L S h') : Fx M out pc L (.int n :: .int dp :: .ref q1 :: .int sp :: .ref q0 :: S) h := by
  have hlen : h'.length = h.length := by rw [← hs, z_set_len]
  refine ⟨by rw [← hlen]; exact k.1, fun E D tA ad p l e s m args below meth c C H locs ls hl hP hS => ?_⟩
  obtain ⟨c1, c2, c3, c4, c5, c6, c7, c8, c9, c10, c11, c12⟩ := id C
  have hD := z_D c11 tA s.heap.size h rfl
  have hws : (z_ws tA ad 0 h).set q1 (ad q1, .inl (tA 0, n1, .inl (va_cpy f g sp.toNatClampNeg dp.toNatClampNeg n.toNatClampNeg))) = z_ws tA ad 0 h' := z_ws0s hs
  have hroom : (((S.map (z_g ad)).map fun v => v.category).sum + (nativeFrameWords "java/lang/System" "arraycopy" 5 + 11)) ≤ (z_rm M.2.2.2.2).locals := by
    rw [z_cats]
    have e : nativeFrameWords "java/lang/System" "arraycopy" 5 ≤ 12 := by decide +kernel
    show _ ≤ 31 * M.2.2.2.2
    omega
  refine va_copyi c1 c2 (by rw [c4]; exact hl.1.symm) c5 (c6 _ (z_Tw hk)) (c6 _ (z_Tw hk2.1)) (c6 _ (z_Tw hk2.2.1)) (c6 _ (z_Tw hk2.2.2)) c8 hP hD hS q0 q1 0 0 (z_ws0 h0) (z_ws0 h1) (ty := .int) rfl rfl rfl g1 g2 g3 g4 g5 (fun _ _ => rfl) hdep hroom hd (fun H1 locs1 hP1 hD1 hS1 => ?_)
  rw [hws] at hP1
  have := k.2 E D tA ad p l e s m args below meth c (by rw [hlen]; exact C) H1 locs1 ls hl hP1 (by rw [hlen]; exact hS1)
  rw [hlen] at this
  exact this
/-! ===== calls ===== -/
/-- what a call of a method needs of the tables -/
def z_ok (Y : zM) : Prop := Cond.code Y.1 Y.2.1 Y.2.2.1 Y.2.2.2.1 ∈ z_T ∧ Cond.initialized Y.1.cls ∈ z_T ∧ (Y.1.cls ≠ "java/lang/invoke/MethodHandle" ∧ Y.1.cls ≠ "java/lang/invoke/VarHandle") ∧ Y.2.2.1 ≤ 12 ∧ plainName Y.1.cls = true
def z_np (Y : zM) (n : Nat) : Prop := ∀ sig, parseMethodDescriptor Y.1.desc = some sig → n = sig.parameters.length
def z_Lm (own : String) (idx : Nat) (Y : zM) : Prop := Cond.methodLink own idx Y.1 ∈ z_T ∨ ∃ host, Cond.methodLinkNest own idx Y.1 host ∈ z_N
def z_okV (Y : zM) (ci n : Nat) : Prop := z_ok Y ∧ z_np Y n ∧ Cond.instanceMethod Y.1 ∈ z_T ∧ Cond.selects Y.1.cls Y.1 Y.1 ∈ z_T ∧ ∃ T N, vwCl[ci]? = some (Y.1.cls, T, N)
def z_okS (Y : zM) (n : Nat) : Prop := z_ok Y ∧ z_np Y n ∧ Cond.static Y.1 ∈ z_T
theorem z_pay {M : zM} {args : Array Value} {s : State} (c6 : ∀ w ∈ z_wd M, w.before args s = true) {Y : zM} (hY : Cond.code Y.1 Y.2.1 Y.2.2.1 Y.2.2.2.1 ∈ z_T) : ∀ w ∈ z_wd Y, ∀ (a' : Array Value) (U : State), s.WarmedH U.vm → w.before a' U = true := by
  intro w hw a' U hW
  have hw2 : w ∈ z_T := by
    rcases List.mem_cons.mp hw with e | e
    · rw [e]; exact hY
    · exact e
  exact word_at hW (good_of_word (List.mem_filter.mp hw2).2) (c6 w (z_Tw hw2))
theorem z_Pcx {M : zM} {E : zE} {D : va_G} {tA : Nat → ClassId} {ad : Nat → Nat} {p : Program} {s : State} {m : MethodId} {args : Array Value} {meth : Method} {c : Code} (C : z_Cx M h.length E D tA ad p s m args meth c) {H : Heap} {locs : List Loc} (hP : va_P D vwCl (z_ws tA ad 0 h) H) (hS : va_S (z_A ad h.length s.heap.size) s.heap H locs) (as : List Value) :
    FrameBlind (va_Pc as (z_Wd E D tA ad h H.size)) ∧ ∀ U : State, U.heap = H → s.WarmedH U.vm → va_Pc as (z_Wd E D tA ad h H.size) as.toArray U := by
  obtain ⟨c1, c2, c3, c4, c5, c6, c7, c8, c9, c10, c11, c12⟩ := C
  refine ⟨fun a U g mk q => ?_, fun U hU hW => ⟨rfl, by rw [hU], by rw [hU]; exact hP, va_K.moved hW.alike c8, c9.pass hW, ?_⟩⟩
  · obtain ⟨q0, q1, q2, q3, q4, q5⟩ := q
    exact ⟨q0, q1, q2, va_K.moved (u := U) (U := U.calling g mk a) (Vm.Alike.refl U.vm) q3, q4.calling, q5.calling⟩
  · refine z_EX.pass c10 hU hW (fun a h1 h2 => hS.2.1 a h1 h2) (fun q hq => ?_)
    rcases hq with hq | hq
    · exact Or.inl hq
    · exact Or.inr (Nat.le_trans hS.1 hq)
/-- behind a call -/
theorem z_run {p : Program} {l : Launch} {e : Env} {R : Room} {s : State} {m : MethodId} {args : Array Value} {below : List Frame} {meth : Method} {c : Code} {H : Heap} {locs : List Loc} {Q : State → Prop} {ls : Array Slot} {st0 rest : List Value} {D : va_G} {tA : Nat → ClassId} {ad : Nat → Nat} {n : Nat} {rv : Option Value} {h1 : zH} {a : Array Value}
    (hr : va_Run p l e R s m args below meth c H locs 0 0 0 0 (F0 m pc ls st0) rest (z_Q D tA ad rv h1 (z_A ad n H.size) a) (z_A ad n H.size)) (hS : va_S (z_A ad n s.heap.size) s.heap H locs)
    (kk : ∀ (H1 : Heap) (locs1 : List Loc), va_P D vwCl (z_ws tA ad 0 h1) H1 → va_S (z_A ad n s.heap.size) s.heap H1 locs1 → W p l e R s m args below meth c H1 locs1 0 0 Q (F0 m (pc + 3) ls ((rv.map (z_g ad)).toList ++ rest))) : W p l e R s m args below meth c H locs 0 0 Q (F0 m pc ls st0) := by
  have hA : ∀ q, z_A ad n H.size q → z_A ad n s.heap.size q := fun q hq => by
    rcases hq with hq | hq
    · exact Or.inl hq
    · exact Or.inr (Nat.le_trans hS.1 hq)
  intro T hT X
  obtain ⟨v, st₀, t, T', LL, h0, X', hL, e1, e2, ⟨⟨hv, hb⟩, hz, hk⟩, st⟩ := hr T hT X
  cases hv
  rw [h0] at hz hk
  obtain ⟨t2, a1, b1⟩ := kk T'.heap (locs ++ LL) (by rw [e1]; exact hb)
    ⟨Nat.le_trans hS.1 (by rw [e1]; exact hz), fun q h1 h2 => by rw [e1, hk q (Nat.lt_of_lt_of_le h1 hS.1) (fun z => h2 (hA q z))]; exact hS.2.1 q h1 h2, fun q hq => by
      rcases List.mem_append.mp hq with h | h
      · exact hS.2.2 q h
      · exact hA _ (hL q h)⟩ T' rfl X'
  exact ⟨t2, st t2 a1, b1⟩
theorem fx_callS {Y : zM} {idx : Nat} {as : List Value} {rv : Option Value} {h1 : zH} {S0 S1 : List Value} (hd : decode M.2.1 pc = .ok (.invokestatic idx, 3)) (hY : z_okS Y as.length) (hk : z_Lm M.1.cls idx Y) (hdep : Y.2.2.2.2 + 1 ≤ M.2.2.2.2) (hr : (S.map fun v => v.category).sum ≤ 8) (hM : Mx Y as h rv h1)
    (e0 : S0 = as.reverse ++ S) (e1 : S1 = rv.toList ++ S) (k : Fx M out (pc + 3) L S1 h1) : Fx M out pc L S0 h := by
  subst e0; subst e1
  obtain ⟨hlen, hM⟩ := hM
  refine ⟨by rw [← hlen]; exact k.1, fun E D tA ad p l e s m args below meth c C H locs ls hl hP hS => ?_⟩
  obtain ⟨c1, c2, c3, c4, c5, c6, c7, c8, c9, c10, c11, c12⟩ := id C
  obtain ⟨⟨y1, y2, y3, y4, y5⟩, y6, y7⟩ := hY
  have hrm : (z_rm Y.2.2.2.2).frames + 1 ≤ (z_rm M.2.2.2.2).frames := hdep
  have hlo : 8 + (Y.2.2.1 + 11) + (z_rm Y.2.2.2.2).locals ≤ (z_rm M.2.2.2.2).locals := by
    show 8 + (Y.2.2.1 + 11) + 31 * Y.2.2.2.2 ≤ 31 * M.2.2.2.2
    omega
  have hst : (as.reverse ++ S).map (z_g ad) = (as.map (z_g ad)).reverse ++ S.map (z_g ad) := by rw [List.map_append, List.map_reverse]
  have hcats : 2 * (F0 m pc ls ((as.reverse ++ S).map (z_g ad))).monitorRoom + ((S.map (z_g ad)).map fun v => v.category).sum ≤ 8 := lv_room (by rw [z_cats]; exact hr)
  have hlenA : (as.map (z_g ad)).length = as.length := List.length_map _
  have kk : ∀ (H1 : Heap) (locs1 : List Loc), va_P D vwCl (z_ws tA ad 0 h1) H1 → va_S (z_A ad h.length s.heap.size) s.heap H1 locs1 → W p l e (z_rm M.2.2.2.2) s m args below meth c H1 locs1 0 0 (MQ below (z_Q D tA ad out.1 out.2 (z_A ad h.length s.heap.size)) args s 0 0 (z_A ad h.length s.heap.size)) (F0 m (pc + 3) ls ((rv.map (z_g ad)).toList ++ S.map (z_g ad))) := by
    intro H1 locs1 hP1 hS1
    have := k.2 E D tA ad p l e s m args below meth c (by rw [hlen]; exact C) H1 locs1 ls hl hP1 (by rw [hlen]; exact hS1)
    rw [hlen] at this
    have e2 : (rv.toList ++ S).map (z_g ad) = (rv.map (z_g ad)).toList ++ S.map (z_g ad) := by cases rv <;> rfl
    rw [e2] at this
    exact this
  rcases hk with hk | ⟨host, hk⟩
  · refine z_run (va_runS (n := as.length) (As := as.map (z_g ad)) (rest := S.map (z_g ad)) ⟨c1, c2, c4, c5, c6⟩ (hM l E D tA ad H.size c11 c12) ⟨⟨rfl, rfl, hrm, hlo, z_pay c6 y1, List.mem_cons_self, c6 _ (z_Tw y1), c6 _ (z_Tw y2), y3, y6, c6 _ (z_Tw hk)⟩, c6 _ (z_Tw y7)⟩ (z_Pcx C hP hS _) rfl hlenA hl.1 hst hcats hd ⟨Nat.zero_le _, Nat.zero_le _⟩) hS kk
  · refine z_run (va_runSN (n := as.length) (host := host) (As := as.map (z_g ad)) (rest := S.map (z_g ad)) ⟨c1, c2, c4, c5, c6⟩ (hM l E D tA ad H.size c11 c12) ⟨⟨⟨rfl, rfl, hrm, hlo, z_pay c6 y1, List.mem_cons_self⟩, c6 _ (z_Tw y1), c6 _ (z_Tw y2), y3, y6, va_Nw.use rfl (c9 _ hk)⟩, c6 _ (z_Tw y7), trivial⟩ (z_Pcx C hP hS _) rfl hlenA hl.1 hst hcats hd ⟨Nat.zero_le _, Nat.zero_le _⟩) hS kk
theorem fx_callV {Y : zM} {idx q ci : Nat} {as fs : List Value} {rv : Option Value} {h1 : zH} {S0 S1 : List Value} (hd : decode M.2.1 pc = .ok (.invokevirtual idx, 3)) (hY : z_okV Y ci as.length) (hk : z_Lm M.1.cls idx Y) (hdep : Y.2.2.2.2 + 1 ≤ M.2.2.2.2) (h0 : z_at h q = some (.inr (ci, fs))) (hr : (S.map fun v => v.category).sum ≤ 8) (hM : Mx Y (.ref q :: as) h rv h1)
    (e0 : S0 = as.reverse ++ .ref q :: S) (e1 : S1 = rv.toList ++ S) (k : Fx M out (pc + 3) L S1 h1) : Fx M out pc L S0 h := by
  subst e0; subst e1
  obtain ⟨hlen, hM⟩ := hM
  refine ⟨by rw [← hlen]; exact k.1, fun E D tA ad p l e s m args below meth c C H locs ls hl hP hS => ?_⟩
  obtain ⟨c1, c2, c3, c4, c5, c6, c7, c8, c9, c10, c11, c12⟩ := id C
  obtain ⟨⟨y1, y2, y3, y4, y5⟩, y6, y7, y8, TT, NN, y9⟩ := hY
  have hrm : (z_rm Y.2.2.2.2).frames + 1 ≤ (z_rm M.2.2.2.2).frames := hdep
  have hlo : 8 + (Y.2.2.1 + 11) + (z_rm Y.2.2.2.2).locals ≤ (z_rm M.2.2.2.2).locals := by
    show 8 + (Y.2.2.1 + 11) + 31 * Y.2.2.2.2 ≤ 31 * M.2.2.2.2
    omega
  have hst : (as.reverse ++ .ref q :: S).map (z_g ad) = (as.map (z_g ad)).reverse ++ .ref (ad q) :: S.map (z_g ad) := by rw [List.map_append, List.map_reverse]; rfl
  have hcats : 2 * (F0 m pc ls ((as.reverse ++ .ref q :: S).map (z_g ad))).monitorRoom + ((S.map (z_g ad)).map fun v => v.category).sum ≤ 8 := lv_room (by rw [z_cats]; exact hr)
  have hlenA : (as.map (z_g ad)).length = as.length := List.length_map _
  have hrec := va_recv c8 hP y9 (z_ws0 h0)
  have kk : ∀ (H1 : Heap) (locs1 : List Loc), va_P D vwCl (z_ws tA ad 0 h1) H1 → va_S (z_A ad h.length s.heap.size) s.heap H1 locs1 → W p l e (z_rm M.2.2.2.2) s m args below meth c H1 locs1 0 0 (MQ below (z_Q D tA ad out.1 out.2 (z_A ad h.length s.heap.size)) args s 0 0 (z_A ad h.length s.heap.size)) (F0 m (pc + 3) ls ((rv.map (z_g ad)).toList ++ S.map (z_g ad))) := by
    intro H1 locs1 hP1 hS1
    have := k.2 E D tA ad p l e s m args below meth c (by rw [hlen]; exact C) H1 locs1 ls hl hP1 (by rw [hlen]; exact hS1)
    rw [hlen] at this
    have e2 : (rv.toList ++ S).map (z_g ad) = (rv.map (z_g ad)).toList ++ S.map (z_g ad) := by cases rv <;> rfl
    rw [e2] at this
    exact this
  have hPc := z_Pcx C hP hS ((Value.ref q :: as).map (z_g ad))
  rcases hk with hk | ⟨host, hk⟩
  · refine z_run (va_runV (n := as.length) (C := Y.1.cls) (b := ad q) (As := as.map (z_g ad)) (rest := S.map (z_g ad)) ⟨c1, c2, c4, c5, c6⟩ (hM l E D tA ad H.size c11 c12) ⟨⟨rfl, rfl, hrm, hlo, z_pay c6 y1, List.mem_cons_self, c6 _ (z_Tw y1), c6 _ (z_Tw y2), y3, y6, c6 _ (z_Tw hk)⟩, c6 _ (z_Tw y7), c6 _ (z_Tw y8)⟩ ⟨hPc.1, hrec, hPc.2⟩ rfl hlenA hl.1 hst hcats hd ⟨Nat.zero_le _, Nat.zero_le _⟩) hS kk
  · refine z_run (va_runVN (n := as.length) (host := host) (C := Y.1.cls) (b := ad q) (As := as.map (z_g ad)) (rest := S.map (z_g ad)) ⟨c1, c2, c4, c5, c6⟩ (hM l E D tA ad H.size c11 c12) ⟨⟨⟨rfl, rfl, hrm, hlo, z_pay c6 y1, List.mem_cons_self⟩, c6 _ (z_Tw y1), c6 _ (z_Tw y2), y3, y6, va_Nw.use rfl (c9 _ hk)⟩, c6 _ (z_Tw y7), c6 _ (z_Tw y8)⟩ ⟨hPc.1, hrec, hPc.2⟩ rfl hlenA hl.1 hst hcats hd ⟨Nat.zero_le _, Nat.zero_le _⟩) hS kk
/-! ===== what nobody writes ===== -/
theorem fx_ldcS {idx i : Nat} {tx : String} (hd : decode M.2.1 pc = .ok (.ldc idx, 2)) (hk : (M.1.cls, idx, tx, i) ∈ z_sx) (hi : i < 14) (k : Fx M out (pc + 2) L (.ref (1000 + i) :: S) h) : Fx M out pc L S h := by
  refine ⟨k.1, fun E D tA ad p l e s m args below meth c C H locs ls hl hP hS => ?_⟩
  obtain ⟨c1, c2, c3, c4, c5, c6, c7, c8, c9, c10, c11, c12⟩ := id C
  have hR := c10.2.1 _ hk
  have := k.2 E D tA ad p l e s m args below meth c C H locs ls hl hP hS
  rw [show (Value.ref (1000 + i) :: S).map (z_g ad) = Value.ref (ad (1000 + i)) :: S.map (z_g ad) from rfl, (c12.1 i hi).1] at this
  exact va_ldcS c1 c2 c5 hR hd this
theorem fx_ldcSw {idx i : Nat} {tx : String} (hd : decode M.2.1 pc = .ok (.ldc_w idx, 3)) (hk : (M.1.cls, idx, tx, i) ∈ z_sx) (hi : i < 14) (k : Fx M out (pc + 3) L (.ref (1000 + i) :: S) h) : Fx M out pc L S h := by
  refine ⟨k.1, fun E D tA ad p l e s m args below meth c C H locs ls hl hP hS => ?_⟩
  obtain ⟨c1, c2, c3, c4, c5, c6, c7, c8, c9, c10, c11, c12⟩ := id C
  have hR := c10.2.1 _ hk
  have := k.2 E D tA ad p l e s m args below meth c C H locs ls hl hP hS
  rw [show (Value.ref (1000 + i) :: S).map (z_g ad) = Value.ref (ad (1000 + i)) :: S.map (z_g ad) from rfl, (c12.1 i hi).1] at this
  intro T hT X
  obtain ⟨t, a1, b1⟩ := this T hT X
  exact ⟨t, X.ldcStringW c1 c5 (text := tx) (a := E.1 i) hR.1 hR.2 (g := F0 m pc ls (S.map (z_g ad))) rfl (by rw [c2]; exact hd) t a1, b1⟩
/-- KIND_ABOVE -/
theorem fx_getsK {idx : Nat} (hd : decode M.2.1 pc = .ok (.getstatic idx, 3)) (hk : Cond.fieldLink M.1.cls idx "WildBells" "KIND_ABOVE" "[I" ∈ z_T) (k : Fx M out (pc + 3) L (.ref 2000 :: S) h) : Fx M out pc L S h := by
  refine ⟨k.1, fun E D tA ad p l e s m args below meth c C H locs ls hl hP hS => ?_⟩
  obtain ⟨c1, c2, c3, c4, c5, c6, c7, c8, c9, c10, c11, c12⟩ := id C
  have := k.2 E D tA ad p l e s m args below meth c C H locs ls hl hP hS
  rw [show (Value.ref 2000 :: S).map (z_g ad) = Value.ref (ad 2000) :: S.map (z_g ad) from rfl, c12.2] at this
  exact va_gets c1 c2 c10.2.2.1 hS c5 (c6 _ (z_Tw hk)) (fun _ h9 => h9) hd this
theorem fx_taldK {i v : Int32} (hd : decode M.2.1 pc = .ok (.iaload, 1)) (hi : vp_in i 7) (hv : z_ka.getD i.toNatClampNeg 0 = v) (k : Fx M out (pc + 1) L (.int v :: S) h) : Fx M out pc L (.int i :: .ref 2000 :: S) h := by
  refine ⟨k.1, fun E D tA ad p l e s m args below meth c C H locs ls hl hP hS => ?_⟩
  obtain ⟨c1, c2, c3, c4, c5, c6, c7, c8, c9, c10, c11, c12⟩ := id C
  have := va_ti (i := i) (v := .int v) c1 c2 c10.2.2.2.1 hS hi (by rw [hv]) hd (k.2 E D tA ad p l e s m args below meth c C H locs ls hl hP hS)
  rw [← c12.2] at this
  exact this
/-- fields of a text -/
theorem fx_getsv {idx i : Nat} (hd : decode M.2.1 pc = .ok (.getfield idx, 3)) (hk : Cond.fieldLink M.1.cls idx "java/lang/String" "value" "[B" ∈ z_T) (hi : i < 14) (k : Fx M out (pc + 3) L (.ref (3000 + i) :: S) h) : Fx M out pc L (.ref (1000 + i) :: S) h := by
  refine ⟨k.1, fun E D tA ad p l e s m args below meth c C H locs ls hl hP hS => ?_⟩
  obtain ⟨c1, c2, c3, c4, c5, c6, c7, c8, c9, c10, c11, c12⟩ := id C
  have := k.2 E D tA ad p l e s m args below meth c C H locs ls hl hP hS
  rw [show (Value.ref (3000 + i) :: S).map (z_g ad) = Value.ref (ad (3000 + i)) :: S.map (z_g ad) from rfl, (c12.1 i hi).2] at this
  rw [show (Value.ref (1000 + i) :: S).map (z_g ad) = Value.ref (ad (1000 + i)) :: S.map (z_g ad) from rfl, (c12.1 i hi).1]
  exact vk_getf c1 c2 (c10.1.1 i hi).2.2.1 hS c5 (c6 _ (z_Tw hk)) (fun _ h9 => h9) hd this
theorem fx_getsc {idx i : Nat} (hd : decode M.2.1 pc = .ok (.getfield idx, 3)) (hk : Cond.fieldLink M.1.cls idx "java/lang/String" "coder" "B" ∈ z_T) (hi : i < 14) (k : Fx M out (pc + 3) L (.int 0 :: S) h) : Fx M out pc L (.ref (1000 + i) :: S) h := by
  refine ⟨k.1, fun E D tA ad p l e s m args below meth c C H locs ls hl hP hS => ?_⟩
  obtain ⟨c1, c2, c3, c4, c5, c6, c7, c8, c9, c10, c11, c12⟩ := id C
  rw [show (Value.ref (1000 + i) :: S).map (z_g ad) = Value.ref (ad (1000 + i)) :: S.map (z_g ad) from rfl, (c12.1 i hi).1]
  exact vk_getf c1 c2 (c10.1.1 i hi).2.1 hS c5 (c6 _ (z_Tw hk)) (fun _ h9 => h9) hd (k.2 E D tA ad p l e s m args below meth c C H locs ls hl hP hS)
/-- COMPACT_STRINGS -/
theorem fx_getsC {idx : Nat} (hd : decode M.2.1 pc = .ok (.getstatic idx, 3)) (hk : Cond.fieldLink M.1.cls idx "java/lang/String" "COMPACT_STRINGS" "Z" ∈ z_T) (k : Fx M out (pc + 3) L (.int 1 :: S) h) : Fx M out pc L S h := by
  refine ⟨k.1, fun E D tA ad p l e s m args below meth c C H locs ls hl hP hS => ?_⟩
  obtain ⟨c1, c2, c3, c4, c5, c6, c7, c8, c9, c10, c11, c12⟩ := id C
  exact va_gets c1 c2 c10.2.2.2.2.1 hS c5 (c6 _ (z_Tw hk)) (fun _ h9 => h9) hd (k.2 E D tA ad p l e s m args below meth c C H locs ls hl hP hS)
/-- bytes of a text -/
theorem fx_slen {i : Nat} {v : Int32} (hd : decode M.2.1 pc = .ok (.arraylength, 1)) (hi : i < 14) (hv : Int32.ofNat (z_len.getD i 0) = v) (k : Fx M out (pc + 1) L (.int v :: S) h) : Fx M out pc L (.ref (3000 + i) :: S) h := by
  refine ⟨k.1, fun E D tA ad p l e s m args below meth c C H locs ls hl hP hS => ?_⟩
  obtain ⟨c1, c2, c3, c4, c5, c6, c7, c8, c9, c10, c11, c12⟩ := id C
  rw [show (Value.ref (3000 + i) :: S).map (z_g ad) = Value.ref (ad (3000 + i)) :: S.map (z_g ad) from rfl, (c12.1 i hi).2]
  exact va_tlen c1 c2 (c10.1.1 i hi).2.2.2 hS hv hd (k.2 E D tA ad p l e s m args below meth c C H locs ls hl hP hS)
theorem fx_sald {i : Nat} {j v : Int32} (hd : decode M.2.1 pc = .ok (.baload, 1)) (hi : i < 14) (hj : vp_in j (z_len.getD i 0)) (hv : (z_byt.getD i []).getD j.toNatClampNeg 0 = v) (k : Fx M out (pc + 1) L (.int v :: S) h) : Fx M out pc L (.int j :: .ref (3000 + i) :: S) h := by
  refine ⟨k.1, fun E D tA ad p l e s m args below meth c C H locs ls hl hP hS => ?_⟩
  obtain ⟨c1, c2, c3, c4, c5, c6, c7, c8, c9, c10, c11, c12⟩ := id C
  have := va_tb (i := j) (v := .int v) c1 c2 (c10.1.1 i hi).2.2.2 hS hj (by rw [hv]) hd (k.2 E D tA ad p l e s m args below meth c C H locs ls hl hP hS)
  rw [← (c12.1 i hi).2] at this
  exact this
/-- a call on a text -/
theorem fx_callT {Y : zM} {idx i : Nat} {as : List Value} {rv : Option Value} {h1 : zH} {S0 S1 : List Value} (hd : decode M.2.1 pc = .ok (.invokevirtual idx, 3)) (hY : z_ok Y) (hYn : z_np Y as.length) (hYi : Cond.instanceMethod Y.1 ∈ z_T) (hYs : Cond.selects Y.1.cls Y.1 Y.1 ∈ z_T) (hYc : Y.1.cls = "java/lang/String") (hk : Cond.methodLink M.1.cls idx Y.1 ∈ z_T) (hdep : Y.2.2.2.2 + 1 ≤ M.2.2.2.2) (hi : i < 14) (hr : (S.map fun v => v.category).sum ≤ 8) (hM : Mx Y (.ref (1000 + i) :: as) h rv h1)
    (e0 : S0 = as.reverse ++ .ref (1000 + i) :: S) (e1 : S1 = rv.toList ++ S) (k : Fx M out (pc + 3) L S1 h1) : Fx M out pc L S0 h := by
  subst e0; subst e1
  obtain ⟨hlen, hM⟩ := hM
  refine ⟨by rw [← hlen]; exact k.1, fun E D tA ad p l e s m args below meth c C H locs ls hl hP hS => ?_⟩
  obtain ⟨c1, c2, c3, c4, c5, c6, c7, c8, c9, c10, c11, c12⟩ := id C
  obtain ⟨y1, y2, y3, y4, y5⟩ := hY
  have hrm : (z_rm Y.2.2.2.2).frames + 1 ≤ (z_rm M.2.2.2.2).frames := hdep
  have hlo : 8 + (Y.2.2.1 + 11) + (z_rm Y.2.2.2.2).locals ≤ (z_rm M.2.2.2.2).locals := by
    show 8 + (Y.2.2.1 + 11) + 31 * Y.2.2.2.2 ≤ 31 * M.2.2.2.2
    omega
  have hst : (as.reverse ++ .ref (1000 + i) :: S).map (z_g ad) = (as.map (z_g ad)).reverse ++ .ref (ad (1000 + i)) :: S.map (z_g ad) := by rw [List.map_append, List.map_reverse]; rfl
  have hcats : 2 * (F0 m pc ls ((as.reverse ++ .ref (1000 + i) :: S).map (z_g ad))).monitorRoom + ((S.map (z_g ad)).map fun v => v.category).sum ≤ 8 := lv_room (by rw [z_cats]; exact hr)
  have hlenA : (as.map (z_g ad)).length = as.length := List.length_map _
  have hrec := vk_recv c10.1 hi hS
  rw [← (c12.1 i hi).1, ← hYc] at hrec
  have kk : ∀ (H1 : Heap) (locs1 : List Loc), va_P D vwCl (z_ws tA ad 0 h1) H1 → va_S (z_A ad h.length s.heap.size) s.heap H1 locs1 → W p l e (z_rm M.2.2.2.2) s m args below meth c H1 locs1 0 0 (MQ below (z_Q D tA ad out.1 out.2 (z_A ad h.length s.heap.size)) args s 0 0 (z_A ad h.length s.heap.size)) (F0 m (pc + 3) ls ((rv.map (z_g ad)).toList ++ S.map (z_g ad))) := by
    intro H1 locs1 hP1 hS1
    have := k.2 E D tA ad p l e s m args below meth c (by rw [hlen]; exact C) H1 locs1 ls hl hP1 (by rw [hlen]; exact hS1)
    rw [hlen] at this
    have e2 : (rv.toList ++ S).map (z_g ad) = (rv.map (z_g ad)).toList ++ S.map (z_g ad) := by cases rv <;> rfl
    rw [e2] at this
    exact this
  have hPc := z_Pcx C hP hS ((Value.ref (1000 + i) :: as).map (z_g ad))
  refine z_run (va_runV (n := as.length) (C := Y.1.cls) (b := ad (1000 + i)) (As := as.map (z_g ad)) (rest := S.map (z_g ad)) ⟨c1, c2, c4, c5, c6⟩ (hM l E D tA ad H.size c11 c12) ⟨⟨rfl, rfl, hrm, hlo, z_pay c6 y1, List.mem_cons_self, c6 _ (z_Tw y1), c6 _ (z_Tw y2), y3, hYn, c6 _ (z_Tw hk)⟩, c6 _ (z_Tw hYi), c6 _ (z_Tw hYs)⟩ ⟨hPc.1, hrec, hPc.2⟩ rfl hlenA hl.1 hst hcats hd ⟨Nat.zero_le _, Nat.zero_le _⟩) hS kk
/-! ===== ends, and a method out of its frame ===== -/
theorem fx_iret {v : Int32} {rt : FieldType} (hd : decode M.2.1 pc = .ok (.ireturn, 1)) (hrt : M.2.2.2.1 = some rt) (hn : narrow rt (.int v) = .int v) : Fx M (some (.int v), h) pc L [.int v] h := by
  refine ⟨rfl, fun E D tA ad p l e s m args below meth c C H locs ls hl hP hS => ?_⟩
  obtain ⟨c1, c2, c3, c4, c5, c6, c7, c8, c9, c10, c11, c12⟩ := id C
  exact W.zret (v := v) (ty := rt) c1 c2 (by rw [c3, hrt]) hn (fun t ht hW => ⟨⟨rfl, by rw [ht]; exact hP⟩, hS.F ht⟩) hS.2.2 hd c7
theorem fx_lret {v : Int64} (hd : decode M.2.1 pc = .ok (.lreturn, 1)) (hrt : M.2.2.2.1 = some .long) : Fx M (some (.long v), h) pc L [.long v] h := by
  refine ⟨rfl, fun E D tA ad p l e s m args below meth c C H locs ls hl hP hS => ?_⟩
  obtain ⟨c1, c2, c3, c4, c5, c6, c7, c8, c9, c10, c11, c12⟩ := id C
  exact W.lret (v := v) c1 c2 (by rw [c3, hrt]) (fun t ht hW => ⟨⟨rfl, by rw [ht]; exact hP⟩, hS.F ht⟩) hS.2.2 hd c7
theorem fx_aret {q : Nat} {rt : FieldType} (hd : decode M.2.1 pc = .ok (.areturn, 1)) (hrt : M.2.2.2.1 = some rt) (hr : (∃ n, rt = .object n) ∨ ∃ t, rt = .array t) : Fx M (some (.ref q), h) pc L [.ref q] h := by
  refine ⟨rfl, fun E D tA ad p l e s m args below meth c C H locs ls hl hP hS => ?_⟩
  obtain ⟨c1, c2, c3, c4, c5, c6, c7, c8, c9, c10, c11, c12⟩ := id C
  exact W.aret (v := .ref (ad q)) c1 c2 (by rw [c3, hrt]) hr (Or.inr ⟨_, rfl⟩) (fun t ht hW => ⟨⟨rfl, by rw [ht]; exact hP⟩, hS.F ht⟩) hS.2.2 hd c7
theorem fx_vret (hd : decode M.2.1 pc = .ok (.return_, 1)) (hrt : M.2.2.2.1 = none) : Fx M (none, h) pc L [] h := by
  refine ⟨rfl, fun E D tA ad p l e s m args below meth c C H locs ls hl hP hS => ?_⟩
  obtain ⟨c1, c2, c3, c4, c5, c6, c7, c8, c9, c10, c11, c12⟩ := id C
  exact W.vret c1 c2 (by rw [c3, hrt]) (fun t ht hW => ⟨⟨rfl, by rw [ht]; exact hP⟩, hS.F ht⟩) hS.2.2 hd c7
/-- the same frame, said otherwise -/
theorem fx_eq {L' : List (Option Value)} {S' : List Value} {h' : zH} (k : Fx M out pc L' S' h') (e1 : L = L') (e2 : S = S') (e3 : h = h') : Fx M out pc L S h := by subst e1; subst e2; subst e3; exact k
/-- a method, out of the walk of its frame from its entry -/
theorem mx_of {as : List Value} {rv : Option Value} {h2 : zH} (hp : plainName M.1.cls = true) (hL : ∀ ad, z_L ad 0 L = lv_args 0 (as.map (z_g ad))) (hn : ∀ ad, (lg_sl (as.map (z_g ad))).length ≤ M.2.2.1) (k : Fx M (rv, h2) 0 L [] h) : Mx M as h rv h2 := by
  refine ⟨k.1.symm, fun l E D tA ad sz hap hsa => ?_⟩
  refine Met.ofW (cc := M.2.1) (maxL := M.2.2.1) (ret := M.2.2.2.1) hp rfl ?_
  intro p e s m args below meth c s₁ B hml hv
  obtain ⟨rfl, rfl, hP, hK, hN, hE⟩ := hv
  have hts := atoms_spec (ws := z_wd M) B.pre
  have hown : s.vm.findClass M.1.cls = some m.cls := findClass_of_methodNamed B.named
  have hl := lv_entry (as.map (z_g ad)) (hn ad)
  rw [lg_entry_eq]
  exact k.2 E D tA ad p l e s m _ below meth c ⟨B.exec, B.bytes, B.returns, hml, hown, hts, B.notSynchronized, hK, hN, hE, hap, hsa⟩ s.heap [] _ (by rw [hL ad]; exact hl) hP va_S.rf
end FH

