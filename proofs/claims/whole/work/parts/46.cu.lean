/-! ===== the class: sheets and what is asked of them ===== -/
set_option maxRecDepth 100000
def jea (a : Nat → Int32) : Nat → Bool
  | 0 => true
  | k + 1 => jea a k && jwi (a (2 * k)) (nI 0) (nI 63)
def jsl (a : Nat → Int32) (w c : Int32) : Nat → Bool
  | 0 => true
  | k + 1 => jsl a w c k && decide (jloud w c (a (2 * k)) = a (2 * k + 1))
theorem jea_1 (a : Nat → Int32) (k : Nat) : jea a (k + 1) = (jea a k && jwi (a (2 * k)) (nI 0) (nI 63)) := rfl
theorem jsl_1 (a : Nat → Int32) (w c : Int32) (k : Nat) : jsl a w c (k + 1) = (jsl a w c k && decide (jloud w c (a (2 * k)) = a (2 * k + 1))) := rfl
theorem jea_f {a : Nat → Int32} {k : Nat} (h : jea a k = false) : ∀ d, jea a (k + d) = false := by
  intro d
  induction d with
  | zero => exact h
  | succ d ih => rw [← Nat.add_assoc, jea_1, ih, Bool.false_and]
theorem jsl_f {a : Nat → Int32} {w c : Int32} {k : Nat} (h : jsl a w c k = false) : ∀ d, jsl a w c (k + d) = false := by
  intro d
  induction d with
  | zero => exact h
  | succ d ih => rw [← Nat.add_assoc, jsl_1, ih, Bool.false_and]
theorem jea_e {a a' : Nat → Int32} {s : Nat} (h : ∀ i, i < 40 → a i = a' (40 * s + i)) : ∀ k, k ≤ 20 → jea a k = jears a' s k := by
  intro k
  induction k with
  | zero => intro _; rfl
  | succ k ih =>
    intro hk
    have e1 : jears a' s (k + 1) = (jears a' s k && jwi (a' (40 * s + 2 * k)) (nI 0) (nI 63)) := rfl
    rw [jea_1, e1, ih (by omega), h (2 * k) (by omega)]
theorem jsl_e {a a' : Nat → Int32} {s : Nat} {w c : Int32} (h : ∀ i, i < 40 → a i = a' (40 * s + i)) : ∀ k, k ≤ 20 → jsl a w c k = jso a' s w c k := by
  intro k
  induction k with
  | zero => intro _; rfl
  | succ k ih =>
    intro hk
    have e1 : jso a' s w c (k + 1) = (jso a' s w c k && decide (jloud w c (a' (40 * s + 2 * k)) = a' (40 * s + 2 * k + 1))) := rfl
    rw [jsl_1, e1, ih (by omega), h (2 * k) (by omega), h (2 * k + 1) (by omega), Nat.add_assoc]
def jstd (st : Nat → Bool) : Nat → Nat
  | 0 => 0
  | c + 1 => jstd st c ||| (if st c = true then 2 ^ c else 0)
theorem jstd_1 (st : Nat → Bool) (c : Nat) : jstd st (c + 1) = jstd st c ||| (if st c = true then 2 ^ c else 0) := rfl
theorem jstd_b (st : Nat → Bool) (k : Nat) : ∀ c, (jstd st c).testBit k = (decide (k < c) && st k) := by
  intro c
  induction c with
  | zero => rw [decide_eq_false (Nat.not_lt_zero k), Bool.false_and]; exact Nat.zero_testBit k
  | succ c ih =>
    rw [jstd_1, Nat.testBit_or, ih]
    by_cases q : st c = true
    · rw [if_pos q, Nat.testBit_two_pow]
      by_cases e : c = k
      · subst e; rw [q, decide_eq_true (show c = c from rfl), decide_eq_true (Nat.lt_succ_self c)]; simp
      · rw [decide_eq_false e, Bool.or_false, decide_eq_decide.mpr (show k < c ↔ k < c + 1 by omega)]
    · rw [if_neg q, Nat.zero_testBit, Bool.or_false]
      by_cases e : c = k
      · subst e; rw [jbt_f' q, Bool.and_false, Bool.and_false]
      · rw [decide_eq_decide.mpr (show k < c ↔ k < c + 1 by omega)]
theorem jstd_lt (st : Nat → Bool) : ∀ c, jstd st c < 2 ^ c := by
  intro c
  induction c with
  | zero => exact Nat.one_pos
  | succ c ih =>
    rw [jstd_1]
    refine Nat.or_lt_two_pow (Nat.lt_of_lt_of_le ih (Nat.pow_le_pow_right (by decide) (Nat.le_succ c))) ?_
    by_cases q : st c = true
    · rw [if_pos q]; exact Nat.pow_lt_pow_right (by decide) (Nat.lt_succ_self c)
    · rw [if_neg q]; exact Nat.two_pow_pos _
theorem jstd_64 (st : Nat → Bool) {c : Nat} (hc : c ≤ 64) : jstd st c < 2 ^ 64 := Nat.lt_of_lt_of_le (jstd_lt st c) (Nat.pow_le_pow_right (by decide) hc)
theorem jstd_p (st : Nat → Bool) : jpop 64 (jstd st 64) = jcnS st 64 := by
  have H : ∀ k, k ≤ 64 → jcb (jstd st 64) k = jcnS st k := by
    intro k
    induction k with
    | zero => intro _; rfl
    | succ k ih =>
      intro hk
      have e : jcnS st (k + 1) = jcnS st k + (if st k = true then 1 else 0) := rfl
      rw [e, jcb_1, ih (by omega), jstd_b, decide_eq_true (show k < 64 by omega), Bool.true_and]
  rw [← jcb_p, H 64 (Nat.le_refl _)]
theorem jhf_c {f m : Int32} {z : Nat} (hz : z ≤ 40) : (f < 0 → ¬ (¬ f < 0 ∧ ¬ m < 0 ∧ f.toNatClampNeg + m.toNatClampNeg ≤ z)) ∧ (m < 0 → ¬ (¬ f < 0 ∧ ¬ m < 0 ∧ f.toNatClampNeg + m.toNatClampNeg ≤ z)) ∧ (¬ f < 0 → nI z < f → ¬ (¬ f < 0 ∧ ¬ m < 0 ∧ f.toNatClampNeg + m.toNatClampNeg ≤ z)) ∧ (¬ f < 0 → ¬ m < 0 → ¬ nI z < f → (nI z - f < m ↔ ¬ (¬ f < 0 ∧ ¬ m < 0 ∧ f.toNatClampNeg + m.toNatClampNeg ≤ z))) := by
  refine ⟨fun h q => q.1 h, fun h q => q.2.1 h, fun h1 h2 q => ?_, fun h1 h2 h3 => ?_⟩
  · obtain ⟨a, ha, rfl⟩ := nI_of h1
    have := (nI_ltI (by omega) ha).mp h2
    rw [nI_clamp ha] at q
    omega
  · obtain ⟨a, ha, rfl⟩ := nI_of h1
    obtain ⟨b, hb, rfl⟩ := nI_of h2
    have h4 : a ≤ z := by
      refine Nat.le_of_not_lt (fun q => h3 (nI_lt q ha))
    rw [pk_sub h4, nI_ltI (by omega) hb, nI_clamp ha, nI_clamp hb]
    constructor
    · intro q q2; omega
    · intro q
      refine Nat.lt_of_not_le (fun q2 => q ⟨h1, h2, by omega⟩)
def jsf (o : Option Nat) : Int32 := match o with
  | some k => nI k
  | none => (-1)
theorem jlk_j {G : Nat → Nat → Int32} {j : Nat} (hj : j ≤ 3) : jlk G (nI j) = if G 11 j = 0 then some 5 else none := by
  unfold jlk
  rw [jwi_n hj (by decide), if_pos rfl, nI_clamp (by omega)]
theorem jlo_0 {G : Nat → Nat → Int32} {s w : Int32} (h : jwi s (nI 0) (nI 3) = false) : jlo G s w = some 0 := by
  have e : jlk G s = some 0 := by unfold jlk; rw [h]; rfl
  unfold jlo
  rw [e]
theorem jlo_5 {G : Nat → Nat → Int32} {j : Nat} {w : Int32} (hj : j ≤ 3) (h : G 11 j = 0) : jlo G (nI j) w = some 5 := by
  unfold jlo
  rw [jlk_j hj, if_pos h]
theorem jlo_j {G : Nat → Nat → Int32} {j : Nat} {w : Int32} (hj : j ≤ 3) (h : ¬ G 11 j = 0) : jlo G (nI j) w = if jwi w (nI 1) (nI 99) = true then (if jears (G 13) j (jsz G j / 2) = true then none else some 4) else some 0 := by
  unfold jlo
  rw [jlk_j hj, if_neg h, nI_clamp (by omega)]
theorem rC_se {j : Nat} (hj : j < 4) : rC_s (nI j).toNatClampNeg = some (28 + 2 * j) := by rw [nI_clamp (by omega)]; exact if_pos hj
theorem zqj {j : Nat} (hj : j < 4) : zq (28 + 2 * j) := by unfold zq; omega
section
variable {F : Nat → Nat → Int32} {N : Nat → Nat → Int64} {G : Nat → Nat → Int32} {q : Nat} {z : Nat}
theorem eX0_isMissing (hq : zq q) : Mx mX0_isMissing [.ref q] (rC F N G) (some (.int (jB (decide (F q 0 = 0))))) (rC F N G) := by
  refine mx_of (L := [some (.ref q)]) (by decide) (fun _ => rfl) (fun _ => Nat.le_of_ble_eq_true rfl) ?_
  refine fx_aload_n dX0_isMissing_0 rfl rfl ?_
  refine fx_get dX0_isMissing_1 kX0_15 (a0 hq) rfl ?_
  refine fx_if_ne (tgt := 11) dX0_isMissing_4 (by decide) rfl (fun hc4 => ?_) (fun hc4 => ?_)
  · refine fx_iconst (v := nI 0) dX0_isMissing_11 (by decide) ?_
    exact fx_ireq dX0_isMissing_12 rfl (jB_n _) (by first | (rw [decide_eq_false hc4]; rfl) | (rw [decide_eq_true hc4]; rfl)) rfl
  · refine fx_iconst (v := nI 1) dX0_isMissing_7 (by decide) ?_
    refine fx_goto (tgt := 12) dX0_isMissing_8 (by decide) ?_
    exact fx_ireq dX0_isMissing_12 rfl (jB_n _) (by first | (rw [decide_eq_false hc4]; rfl) | (rw [decide_eq_true hc4]; rfl)) rfl
theorem eX0_hasFrom {f m : Int32} (hq : zq q) (h1 : F q 1 = nI z) (hz : z ≤ 40) : Mx mX0_hasFrom [.ref q, .int f, .int m] (rC F N G) (some (.int (jB (decide (¬ f < 0 ∧ ¬ m < 0 ∧ f.toNatClampNeg + m.toNatClampNeg ≤ z))))) (rC F N G) := by
  refine mx_of (L := [some (.ref q), some (.int f), some (.int m)]) (by decide) (fun _ => rfl) (fun _ => Nat.le_of_ble_eq_true rfl) ?_
  obtain ⟨j1, j2, j3, j4⟩ := jhf_c (f := f) (m := m) hz
  refine fx_iload_n dX0_hasFrom_0 rfl rfl ?_
  refine fx_if_lt (tgt := 30) dX0_hasFrom_1 (by decide) rfl (fun hc1 => ?_) (fun hc1 => ?_)
  · refine fx_iconst (v := nI 0) dX0_hasFrom_30 (by decide) ?_
    exact fx_ireq dX0_hasFrom_31 rfl (jB_n _) (by first | (rw [decide_eq_false (j1 hc1)]; rfl) | (rw [decide_eq_false (j2 hc5)]; rfl) | (rw [decide_eq_false (j3 hc1 hc13)]; rfl) | (rw [decide_eq_false ((j4 hc1 hc5 hc13).mp hc23)]; rfl) | (rw [decide_eq_true (Decidable.byContradiction (fun w => hc23 ((j4 hc1 hc5 hc13).mpr w)))]; rfl)) rfl
  · refine fx_iload_n dX0_hasFrom_4 rfl rfl ?_
    refine fx_if_lt (tgt := 30) dX0_hasFrom_5 (by decide) rfl (fun hc5 => ?_) (fun hc5 => ?_)
    · refine fx_iconst (v := nI 0) dX0_hasFrom_30 (by decide) ?_
      exact fx_ireq dX0_hasFrom_31 rfl (jB_n _) (by first | (rw [decide_eq_false (j1 hc1)]; rfl) | (rw [decide_eq_false (j2 hc5)]; rfl) | (rw [decide_eq_false (j3 hc1 hc13)]; rfl) | (rw [decide_eq_false ((j4 hc1 hc5 hc13).mp hc23)]; rfl) | (rw [decide_eq_true (Decidable.byContradiction (fun w => hc23 ((j4 hc1 hc5 hc13).mpr w)))]; rfl)) rfl
    · refine fx_iload_n dX0_hasFrom_8 rfl rfl ?_
      refine fx_aload_n dX0_hasFrom_9 rfl rfl ?_
      refine fx_get dX0_hasFrom_10 kX0_19 (a0 hq) rfl ?_
      rw [h1]
      refine fx_icmp_gt (tgt := 30) dX0_hasFrom_13 (by decide) rfl (fun hc13 => ?_) (fun hc13 => ?_)
      · refine fx_iconst (v := nI 0) dX0_hasFrom_30 (by decide) ?_
        exact fx_ireq dX0_hasFrom_31 rfl (jB_n _) (by first | (rw [decide_eq_false (j1 hc1)]; rfl) | (rw [decide_eq_false (j2 hc5)]; rfl) | (rw [decide_eq_false (j3 hc1 hc13)]; rfl) | (rw [decide_eq_false ((j4 hc1 hc5 hc13).mp hc23)]; rfl) | (rw [decide_eq_true (Decidable.byContradiction (fun w => hc23 ((j4 hc1 hc5 hc13).mpr w)))]; rfl)) rfl
      · refine fx_iload_n dX0_hasFrom_16 rfl rfl ?_
        refine fx_aload_n dX0_hasFrom_17 rfl rfl ?_
        refine fx_get dX0_hasFrom_18 kX0_19 (a0 hq) rfl ?_
        rw [h1]
        refine fx_iload_n dX0_hasFrom_21 rfl rfl ?_
        refine fx_isub dX0_hasFrom_22 ?_
        refine fx_icmp_gt (tgt := 30) dX0_hasFrom_23 (by decide) rfl (fun hc23 => ?_) (fun hc23 => ?_)
        · refine fx_iconst (v := nI 0) dX0_hasFrom_30 (by decide) ?_
          exact fx_ireq dX0_hasFrom_31 rfl (jB_n _) (by first | (rw [decide_eq_false (j1 hc1)]; rfl) | (rw [decide_eq_false (j2 hc5)]; rfl) | (rw [decide_eq_false (j3 hc1 hc13)]; rfl) | (rw [decide_eq_false ((j4 hc1 hc5 hc13).mp hc23)]; rfl) | (rw [decide_eq_true (Decidable.byContradiction (fun w => hc23 ((j4 hc1 hc5 hc13).mpr w)))]; rfl)) rfl
        · refine fx_iconst (v := nI 1) dX0_hasFrom_26 (by decide) ?_
          refine fx_goto (tgt := 31) dX0_hasFrom_27 (by decide) ?_
          exact fx_ireq dX0_hasFrom_31 rfl (jB_n _) (by first | (rw [decide_eq_false (j1 hc1)]; rfl) | (rw [decide_eq_false (j2 hc5)]; rfl) | (rw [decide_eq_false (j3 hc1 hc13)]; rfl) | (rw [decide_eq_false ((j4 hc1 hc5 hc13).mp hc23)]; rfl) | (rw [decide_eq_true (Decidable.byContradiction (fun w => hc23 ((j4 hc1 hc5 hc13).mpr w)))]; rfl)) rfl
theorem eX0_earsAreCells (hq : zq q) (h1 : F q 1 = nI z) (hz : z ≤ 40) : Mx mX0_earsAreCells [.ref q] (rC F N G) (some (.int (jB (jea (G (q + 1)) (z / 2))))) (rC F N G) := by
  refine mx_of (L := [some (.ref q), none]) (by decide) (fun _ => rfl) (fun _ => Nat.le_of_ble_eq_true rfl) ?_
  have H : ∀ (m k : Nat), k + m = z / 2 → jea (G (q + 1)) k = true → Fx mX0_earsAreCells (some (.int (jB (jea (G (q + 1)) (z / 2)))), rC F N G) 2 [some (.ref q), some (.int (nI (2 * k)))] [] (rC F N G) := by
    intro m
    induction m with
    | zero =>
      intro k hk ht
      have hk' : z / 2 = k := by omega
      rw [hk', ht]
      refine fx_iload_n dX0_earsAreCells_2 rfl rfl ?_
      refine fx_iconst (v := nI 1) dX0_earsAreCells_3 (by decide) ?_
      refine fx_iadd dX0_earsAreCells_4 ?_
      rw [nI_add]
      refine fx_aload_n dX0_earsAreCells_5 rfl rfl ?_
      refine fx_get dX0_earsAreCells_6 kX0_19 (a0 hq) rfl ?_
      rw [h1]
      refine fx_icmp_ge (tgt := 32) dX0_earsAreCells_9 (by decide) rfl (fun hc9 => ?_) (fun hc9 => ?_)
      · refine fx_iconst (v := nI 1) dX0_earsAreCells_32 (by decide) ?_
        exact fx_ireq dX0_earsAreCells_33 rfl rfl rfl rfl
      · exact absurd (nI_le (by omega) (by omega)) hc9
    | succ m ih =>
      intro k hk ht
      cases hj : jwi (G (q + 1) (2 * k)) (nI 0) (nI 63)
      · have e := jea_f (show jea (G (q + 1)) (k + 1) = false by rw [jea_1, hj, Bool.and_false]) m
        rw [show k + 1 + m = z / 2 by omega] at e
        rw [e]
        refine fx_iload_n dX0_earsAreCells_2 rfl rfl ?_
        refine fx_iconst (v := nI 1) dX0_earsAreCells_3 (by decide) ?_
        refine fx_iadd dX0_earsAreCells_4 ?_
        rw [nI_add]
        refine fx_aload_n dX0_earsAreCells_5 rfl rfl ?_
        refine fx_get dX0_earsAreCells_6 kX0_19 (a0 hq) rfl ?_
        rw [h1]
        refine fx_icmp_ge (tgt := 32) dX0_earsAreCells_9 (by decide) rfl (fun hc9 => ?_) (fun hc9 => ?_)
        · exact absurd hc9 (nI_ge (by omega) (by omega))
        · refine fx_aload_n dX0_earsAreCells_12 rfl rfl ?_
          refine fx_get dX0_earsAreCells_13 kX0_9 (a0 hq) rfl ?_
          refine fx_iload_n dX0_earsAreCells_16 rfl rfl ?_
          refine fx_iald dX0_earsAreCells_17 (a0_1 hq) (vp_in_nI (by omega) (by decide)) ?_
          rw [nI_clamp (by omega)]
          refine fx_callSv dX0_earsAreCells_18 sX3_isCell lX0_22 (by decide) (Nat.le_of_ble_eq_true rfl) eX3_isCell rfl ?_
          rw [hj]
          refine fx_if_ne (tgt := 26) dX0_earsAreCells_21 (by decide) rfl (fun hc21 => ?_) (fun hc21 => ?_)
          · exact absurd rfl hc21
          · refine fx_iconst (v := nI 0) dX0_earsAreCells_24 (by decide) ?_
            exact fx_ireq dX0_earsAreCells_25 rfl rfl rfl rfl
      · have ih1 := ih (k + 1) (by omega) (by rw [jea_1, ht, hj]; rfl)
        refine fx_iload_n dX0_earsAreCells_2 rfl rfl ?_
        refine fx_iconst (v := nI 1) dX0_earsAreCells_3 (by decide) ?_
        refine fx_iadd dX0_earsAreCells_4 ?_
        rw [nI_add]
        refine fx_aload_n dX0_earsAreCells_5 rfl rfl ?_
        refine fx_get dX0_earsAreCells_6 kX0_19 (a0 hq) rfl ?_
        rw [h1]
        refine fx_icmp_ge (tgt := 32) dX0_earsAreCells_9 (by decide) rfl (fun hc9 => ?_) (fun hc9 => ?_)
        · exact absurd hc9 (nI_ge (by omega) (by omega))
        · refine fx_aload_n dX0_earsAreCells_12 rfl rfl ?_
          refine fx_get dX0_earsAreCells_13 kX0_9 (a0 hq) rfl ?_
          refine fx_iload_n dX0_earsAreCells_16 rfl rfl ?_
          refine fx_iald dX0_earsAreCells_17 (a0_1 hq) (vp_in_nI (by omega) (by decide)) ?_
          rw [nI_clamp (by omega)]
          refine fx_callSv dX0_earsAreCells_18 sX3_isCell lX0_22 (by decide) (Nat.le_of_ble_eq_true rfl) eX3_isCell rfl ?_
          rw [hj]
          refine fx_if_ne (tgt := 26) dX0_earsAreCells_21 (by decide) rfl (fun hc21 => ?_) (fun hc21 => ?_)
          · refine fs_iinc_1 (w := nI 2) dX0_earsAreCells_26 (by decide) rfl (by decide) ?_
            refine fx_goto (tgt := 2) dX0_earsAreCells_29 (by decide) ?_
            rw [nI_add]
            exact ih1
          · exact absurd hc21 (by decide)
  refine fx_iconst (v := nI 0) dX0_earsAreCells_0 (by decide) ?_
  refine fs_istore_n_1 dX0_earsAreCells_1 rfl (by decide) ?_
  exact H (z / 2) 0 (by omega) rfl
theorem eX0_tellsLoud {w c : Int32} (hq : zq q) (h1 : F q 1 = nI z) (hz : z ≤ 40) : Mx mX0_tellsLoud [.ref q, .int w, .int c] (rC F N G) (some (.int (jB (jsl (G (q + 1)) w c (z / 2))))) (rC F N G) := by
  refine mx_of (L := [some (.ref q), some (.int w), some (.int c), none]) (by decide) (fun _ => rfl) (fun _ => Nat.le_of_ble_eq_true rfl) ?_
  have H : ∀ (m k : Nat), k + m = z / 2 → jsl (G (q + 1)) w c k = true → Fx mX0_tellsLoud (some (.int (jB (jsl (G (q + 1)) w c (z / 2)))), rC F N G) 2 [some (.ref q), some (.int w), some (.int c), some (.int (nI (2 * k)))] [] (rC F N G) := by
    intro m
    induction m with
    | zero =>
      intro k hk ht
      have hk' : z / 2 = k := by omega
      rw [hk', ht]
      refine fx_iload_n dX0_tellsLoud_2 rfl rfl ?_
      refine fx_iconst (v := nI 1) dX0_tellsLoud_3 (by decide) ?_
      refine fx_iadd dX0_tellsLoud_4 ?_
      rw [nI_add]
      refine fx_aload_n dX0_tellsLoud_5 rfl rfl ?_
      refine fx_get dX0_tellsLoud_6 kX0_19 (a0 hq) rfl ?_
      rw [h1]
      refine fx_icmp_ge (tgt := 45) dX0_tellsLoud_9 (by decide) rfl (fun hc9 => ?_) (fun hc9 => ?_)
      · refine fx_iconst (v := nI 1) dX0_tellsLoud_45 (by decide) ?_
        exact fx_ireq dX0_tellsLoud_46 rfl rfl rfl rfl
      · exact absurd (nI_le (by omega) (by omega)) hc9
    | succ m ih =>
      intro k hk ht
      by_cases hj : jloud w c (G (q + 1) (2 * k)) = G (q + 1) (2 * k + 1)
      · have ih1 := ih (k + 1) (by omega) (by rw [jsl_1, ht, decide_eq_true hj]; rfl)
        refine fx_iload_n dX0_tellsLoud_2 rfl rfl ?_
        refine fx_iconst (v := nI 1) dX0_tellsLoud_3 (by decide) ?_
        refine fx_iadd dX0_tellsLoud_4 ?_
        rw [nI_add]
        refine fx_aload_n dX0_tellsLoud_5 rfl rfl ?_
        refine fx_get dX0_tellsLoud_6 kX0_19 (a0 hq) rfl ?_
        rw [h1]
        refine fx_icmp_ge (tgt := 45) dX0_tellsLoud_9 (by decide) rfl (fun hc9 => ?_) (fun hc9 => ?_)
        · exact absurd hc9 (nI_ge (by omega) (by omega))
        · refine fx_iload_n dX0_tellsLoud_12 rfl rfl ?_
          refine fx_iload_n dX0_tellsLoud_13 rfl rfl ?_
          refine fx_aload_n dX0_tellsLoud_14 rfl rfl ?_
          refine fx_get dX0_tellsLoud_15 kX0_9 (a0 hq) rfl ?_
          refine fx_iload_n dX0_tellsLoud_18 rfl rfl ?_
          refine fx_iald dX0_tellsLoud_19 (a0_1 hq) (vp_in_nI (by omega) (by decide)) ?_
          rw [nI_clamp (by omega)]
          refine fx_callSv dX0_tellsLoud_20 sX3_apart lX0_26 (by decide) (Nat.le_of_ble_eq_true rfl) eX3_apart rfl ?_
          refine fx_callSv dX0_tellsLoud_23 sX3_loudness lX0_30 (by decide) (Nat.le_of_ble_eq_true rfl) eX3_loudness rfl ?_
          refine fx_aload_n dX0_tellsLoud_26 rfl rfl ?_
          refine fx_get dX0_tellsLoud_27 kX0_9 (a0 hq) rfl ?_
          refine fx_iload_n dX0_tellsLoud_30 rfl rfl ?_
          refine fx_iconst (v := nI 1) dX0_tellsLoud_31 (by decide) ?_
          refine fx_iadd dX0_tellsLoud_32 ?_
          rw [nI_add]
          refine fx_iald dX0_tellsLoud_33 (a0_1 hq) (vp_in_nI (by omega) (by decide)) ?_
          rw [nI_clamp (by omega)]
          refine fx_icmp_eq (tgt := 39) dX0_tellsLoud_34 (by decide) rfl (fun hc34 => ?_) (fun hc34 => ?_)
          · refine fs_iinc_3 (w := nI 2) dX0_tellsLoud_39 (by decide) rfl (by decide) ?_
            refine fx_goto (tgt := 2) dX0_tellsLoud_42 (by decide) ?_
            rw [nI_add]
            exact ih1
          · exact absurd hj hc34
      · have e := jsl_f (show jsl (G (q + 1)) w c (k + 1) = false by rw [jsl_1, decide_eq_false hj, Bool.and_false]) m
        rw [show k + 1 + m = z / 2 by omega] at e
        rw [e]
        refine fx_iload_n dX0_tellsLoud_2 rfl rfl ?_
        refine fx_iconst (v := nI 1) dX0_tellsLoud_3 (by decide) ?_
        refine fx_iadd dX0_tellsLoud_4 ?_
        rw [nI_add]
        refine fx_aload_n dX0_tellsLoud_5 rfl rfl ?_
        refine fx_get dX0_tellsLoud_6 kX0_19 (a0 hq) rfl ?_
        rw [h1]
        refine fx_icmp_ge (tgt := 45) dX0_tellsLoud_9 (by decide) rfl (fun hc9 => ?_) (fun hc9 => ?_)
        · exact absurd hc9 (nI_ge (by omega) (by omega))
        · refine fx_iload_n dX0_tellsLoud_12 rfl rfl ?_
          refine fx_iload_n dX0_tellsLoud_13 rfl rfl ?_
          refine fx_aload_n dX0_tellsLoud_14 rfl rfl ?_
          refine fx_get dX0_tellsLoud_15 kX0_9 (a0 hq) rfl ?_
          refine fx_iload_n dX0_tellsLoud_18 rfl rfl ?_
          refine fx_iald dX0_tellsLoud_19 (a0_1 hq) (vp_in_nI (by omega) (by decide)) ?_
          rw [nI_clamp (by omega)]
          refine fx_callSv dX0_tellsLoud_20 sX3_apart lX0_26 (by decide) (Nat.le_of_ble_eq_true rfl) eX3_apart rfl ?_
          refine fx_callSv dX0_tellsLoud_23 sX3_loudness lX0_30 (by decide) (Nat.le_of_ble_eq_true rfl) eX3_loudness rfl ?_
          refine fx_aload_n dX0_tellsLoud_26 rfl rfl ?_
          refine fx_get dX0_tellsLoud_27 kX0_9 (a0 hq) rfl ?_
          refine fx_iload_n dX0_tellsLoud_30 rfl rfl ?_
          refine fx_iconst (v := nI 1) dX0_tellsLoud_31 (by decide) ?_
          refine fx_iadd dX0_tellsLoud_32 ?_
          rw [nI_add]
          refine fx_iald dX0_tellsLoud_33 (a0_1 hq) (vp_in_nI (by omega) (by decide)) ?_
          rw [nI_clamp (by omega)]
          refine fx_icmp_eq (tgt := 39) dX0_tellsLoud_34 (by decide) rfl (fun hc34 => ?_) (fun hc34 => ?_)
          · exact absurd hc34 hj
          · refine fx_iconst (v := nI 0) dX0_tellsLoud_37 (by decide) ?_
            exact fx_ireq dX0_tellsLoud_38 rfl rfl rfl rfl
  refine fx_iconst (v := nI 0) dX0_tellsLoud_0 (by decide) ?_
  refine fs_istore_n_3 dX0_tellsLoud_1 rfl (by decide) ?_
  exact H (z / 2) 0 (by omega) rfl
theorem eX0_put {i : Nat} {v : Int32} (hq : zq q) (hi : i < 40) : Mx mX0_put [.ref q, .int (nI i), .int v] (rC F N G) none (rC F N (ga G (q + 1) (upd (G (q + 1)) i (jcut v (F q 0))))) := by
  refine mx_of (L := [some (.ref q), some (.int (nI i)), some (.int v)]) (by decide) (fun _ => rfl) (fun _ => Nat.le_of_ble_eq_true rfl) ?_
  have j8 : F q 0 = nI 8 → jcut v (F q 0) = v.toInt8.toInt32 := fun h => if_pos h
  have j16 : ¬ F q 0 = nI 8 → F q 0 = nI 16 → jcut v (F q 0) = v.toInt16.toInt32 := fun h h2 => by unfold jcut; rw [if_neg h, if_pos h2]
  have j0 : ¬ F q 0 = nI 8 → ¬ F q 0 = nI 16 → jcut v (F q 0) = v := fun h h2 => by unfold jcut; rw [if_neg h, if_neg h2]
  refine fx_aload_n dX0_put_0 rfl rfl ?_
  refine fx_get dX0_put_1 kX0_15 (a0 hq) rfl ?_
  refine fx_bipush (v := nI 8) dX0_put_4 (by decide) ?_
  refine fx_icmp_ne (tgt := 20) dX0_put_6 (by decide) rC_l (fun hc6 => ?_) (fun hc6 => ?_)
  · refine fx_aload_n dX0_put_20 rfl rfl ?_
    refine fx_get dX0_put_21 kX0_15 (a0 hq) rfl ?_
    refine fx_bipush (v := nI 16) dX0_put_24 (by decide) ?_
    refine fx_icmp_ne (tgt := 40) dX0_put_26 (by decide) rC_l (fun hc26 => ?_) (fun hc26 => ?_)
    · refine fx_aload_n dX0_put_40 rfl rfl ?_
      refine fx_get dX0_put_41 kX0_9 (a0 hq) rfl ?_
      refine fx_iload_n dX0_put_44 rfl rfl ?_
      refine fx_iload_n dX0_put_45 rfl rfl ?_
      refine fx_iast dX0_put_46 (a0_1 hq) (vp_in_nI hi (by decide)) (w0_1 hq) ?_
      exact fx_vreq dX0_put_47 rfl (by first | (rw [nI_clamp (by omega), j8 hc6]) | (rw [nI_clamp (by omega), j16 hc6 hc26]) | (rw [nI_clamp (by omega), j0 hc6 hc26]))
    · refine fx_aload_n dX0_put_29 rfl rfl ?_
      refine fx_get dX0_put_30 kX0_9 (a0 hq) rfl ?_
      refine fx_iload_n dX0_put_33 rfl rfl ?_
      refine fx_iload_n dX0_put_34 rfl rfl ?_
      refine fx_i2s dX0_put_35 ?_
      refine fx_iast dX0_put_36 (a0_1 hq) (vp_in_nI hi (by decide)) (w0_1 hq) ?_
      refine fx_goto (tgt := 47) dX0_put_37 (by decide) ?_
      exact fx_vreq dX0_put_47 rfl (by first | (rw [nI_clamp (by omega), j8 hc6]) | (rw [nI_clamp (by omega), j16 hc6 hc26]) | (rw [nI_clamp (by omega), j0 hc6 hc26]))
  · refine fx_aload_n dX0_put_9 rfl rfl ?_
    refine fx_get dX0_put_10 kX0_9 (a0 hq) rfl ?_
    refine fx_iload_n dX0_put_13 rfl rfl ?_
    refine fx_iload_n dX0_put_14 rfl rfl ?_
    refine fx_i2b dX0_put_15 ?_
    refine fx_iast dX0_put_16 (a0_1 hq) (vp_in_nI hi (by decide)) (w0_1 hq) ?_
    refine fx_goto (tgt := 47) dX0_put_17 (by decide) ?_
    exact fx_vreq dX0_put_47 rfl (by first | (rw [nI_clamp (by omega), j8 hc6]) | (rw [nI_clamp (by omega), j16 hc6 hc26]) | (rw [nI_clamp (by omega), j0 hc6 hc26]))
theorem eX0_begin {b m : Int32} (hq : zq q) : Mx mX0_begin [.ref q, .int b, .int m] (rC F N G) none (rC (f2 (f2 F q 0 b) q 1 (if b = 0 then nI 0 else m)) N (ga G (q + 1) (jfill (fun _ => nI 0) (G (q + 1)) 40))) := by
  refine mx_of (L := [some (.ref q), some (.int b), some (.int m), none]) (by decide) (fun _ => rfl) (fun _ => Nat.le_of_ble_eq_true rfl) ?_
  generalize hF : f2 (f2 F q 0 b) q 1 (if b = 0 then nI 0 else m) = F2
  have hw := hq
  have H : ∀ (k i : Nat), i + k = 40 → Fx mX0_begin (none, rC F2 N (ga G (q + 1) (jfill (fun _ => nI 0) (G (q + 1)) 40))) 20 [some (.ref q), some (.int b), some (.int m), some (.int (nI i))] [] (rC F2 N (ga G (q + 1) (jfill (fun _ => nI 0) (G (q + 1)) i))) := by
    intro k
    induction k with
    | zero =>
      intro i hi
      have hi' : i = 40 := by omega
      subst hi'
      refine fx_iload_n dX0_begin_20 rfl rfl ?_
      refine fx_bipush (v := nI 40) dX0_begin_21 (by decide) ?_
      refine fx_icmp_ge (tgt := 39) dX0_begin_23 (by decide) rC_l (fun hc23 => ?_) (fun hc23 => ?_)
      · exact fx_vreq dX0_begin_39 rfl rfl
      · exact absurd (Int32.le_refl _) hc23
    | succ k ih =>
      intro i hi
      have ih1 := ih (i + 1) (by omega)
      rw [← jfill_s (fun _ => nI 0) (G (q + 1)) i] at ih1
      refine fx_iload_n dX0_begin_20 rfl rfl ?_
      refine fx_bipush (v := nI 40) dX0_begin_21 (by decide) ?_
      refine fx_icmp_ge (tgt := 39) dX0_begin_23 (by decide) rC_l (fun hc23 => ?_) (fun hc23 => ?_)
      · exact absurd hc23 (nI_ge (by omega) (by omega))
      · refine fx_aload_n dX0_begin_26 rfl rfl ?_
        refine fx_get dX0_begin_27 kX0_9 (a0 hq) rfl ?_
        refine fx_iload_n dX0_begin_30 rfl rfl ?_
        refine fx_iconst (v := nI 0) dX0_begin_31 (by decide) ?_
        refine fx_iast dX0_begin_32 (a0_1 hq) (vp_in_nI (by omega) (by decide)) (w0_1 hq) ?_
        rw [nI_clamp (by omega), ga_s, ga_ga]
        refine fs_iinc_3 (w := nI 1) dX0_begin_33 (by decide) rfl (by decide) ?_
        refine fx_goto (tgt := 20) dX0_begin_36 (by decide) ?_
        rw [nI_add]
        exact ih1
  have H0 := H 40 0 (by omega)
  rw [show jfill (fun _ => nI 0) (G (q + 1)) 0 = G (q + 1) from rfl, ga_id] at H0
  by_cases hb : b = 0
  · rw [if_pos hb] at hF
    refine fx_aload_n dX0_begin_0 rfl rfl ?_
    refine fx_iload_n dX0_begin_1 rfl rfl ?_
    refine fx_put dX0_begin_2 kX0_15 (a0 hq) (Nat.le_of_ble_eq_true rfl) (fun _ => rfl) rfl rfl (u0_0 hw) ?_
    refine fx_aload_n dX0_begin_5 rfl rfl ?_
    refine fx_iload_n dX0_begin_6 rfl rfl ?_
    refine fx_if_ne (tgt := 14) dX0_begin_7 (by decide) rC_l (fun hc7 => ?_) (fun hc7 => ?_)
    · exact absurd hb hc7
    · refine fx_iconst (v := nI 0) dX0_begin_10 (by decide) ?_
      refine fx_goto (tgt := 15) dX0_begin_11 (by decide) ?_
      refine fx_put dX0_begin_15 kX0_19 (a0 hq) (Nat.le_of_ble_eq_true rfl) (fun _ => rfl) rfl rfl (u0_1 hw) ?_
      refine fx_iconst (v := nI 0) dX0_begin_18 (by decide) ?_
      refine fs_istore_n_3 dX0_begin_19 rfl (by decide) ?_
      rw [hF]
      exact H0
  · rw [if_neg hb] at hF
    refine fx_aload_n dX0_begin_0 rfl rfl ?_
    refine fx_iload_n dX0_begin_1 rfl rfl ?_
    refine fx_put dX0_begin_2 kX0_15 (a0 hq) (Nat.le_of_ble_eq_true rfl) (fun _ => rfl) rfl rfl (u0_0 hw) ?_
    refine fx_aload_n dX0_begin_5 rfl rfl ?_
    refine fx_iload_n dX0_begin_6 rfl rfl ?_
    refine fx_if_ne (tgt := 14) dX0_begin_7 (by decide) rC_l (fun hc7 => ?_) (fun hc7 => ?_)
    · refine fx_iload_n dX0_begin_14 rfl rfl ?_
      refine fx_put dX0_begin_15 kX0_19 (a0 hq) (Nat.le_of_ble_eq_true rfl) (fun _ => rfl) rfl rfl (u0_1 hw) ?_
      refine fx_iconst (v := nI 0) dX0_begin_18 (by decide) ?_
      refine fs_istore_n_3 dX0_begin_19 rfl (by decide) ?_
      rw [hF]
      exact H0
    · exact absurd hc7 hb
theorem eX3_standingCells {w : Nat} {st : Nat → Bool} (hq : zq q) (h1 : F q 1 = nI z) (hz : z ≤ 40) (hst : ∀ c, jsl (G (q + 1)) (nI w) (nI c) (z / 2) = st c) : Mx mX3_standingCells [.ref q, .int (nI w)] (rC F N G) (some (.long (lN (jstd st 64)))) (rC F N G) := by
  refine mx_of (L := [some (.ref q), some (.int (nI w)), none, none, none]) (by decide) (fun _ => rfl) (fun _ => Nat.le_of_ble_eq_true rfl) ?_
  have H : ∀ (k c : Nat), c + k = 64 → Fx mX3_standingCells (some (.long (lN (jstd st 64))), rC F N G) 5 [some (.ref q), some (.int (nI w)), some (.long (lN (jstd st c))), none, some (.int (nI c))] [] (rC F N G) := by
    intro k
    induction k with
    | zero =>
      intro c hc
      have hc' : c = 64 := by omega
      subst hc'
      refine fx_iload dX3_standingCells_5 rfl ?_
      refine fx_bipush (v := nI 64) dX3_standingCells_7 (by decide) ?_
      refine fx_icmp_ge (tgt := 35) dX3_standingCells_9 (by decide) rfl (fun hc9 => ?_) (fun hc9 => ?_)
      · refine fx_lload_n dX3_standingCells_35 rfl rfl ?_
        exact fx_lreq dX3_standingCells_36 rfl rfl rfl
      · exact absurd (Int32.le_refl _) hc9
    | succ k ih =>
      intro c hc
      have ih1 := ih (c + 1) (by omega)
      have eT := eX0_tellsLoud (F := F) (N := N) (G := G) (w := nI w) (c := nI c) hq h1 hz
      rw [hst c] at eT
      have e1 := jstd_1 st c
      rw [e1] at ih1
      cases hs : st c
      · rw [hs] at eT ih1
        rw [if_neg (by decide), Nat.or_zero] at ih1
        refine fx_iload dX3_standingCells_5 rfl ?_
        refine fx_bipush (v := nI 64) dX3_standingCells_7 (by decide) ?_
        refine fx_icmp_ge (tgt := 35) dX3_standingCells_9 (by decide) rfl (fun hc9 => ?_) (fun hc9 => ?_)
        · exact absurd hc9 (nI_ge (by omega) (by omega))
        · refine fx_aload_n dX3_standingCells_12 rfl rfl ?_
          refine fx_iload_n dX3_standingCells_13 rfl rfl ?_
          refine fx_iload dX3_standingCells_14 rfl ?_
          refine fx_callVv dX3_standingCells_16 vX0_tellsLoud lX3_189 (by decide) (a0 hq) (Nat.le_of_ble_eq_true rfl) eT rfl ?_
          refine fx_if_eq (tgt := 29) dX3_standingCells_19 (by decide) rfl (fun hc19 => ?_) (fun hc19 => ?_)
          · refine fs_iinc_4 (w := nI 1) dX3_standingCells_29 (by decide) rfl (by decide) ?_
            refine fx_goto (tgt := 5) dX3_standingCells_32 (by decide) ?_
            rw [nI_add]
            exact ih1
          · exact absurd rfl hc19
      · rw [hs] at eT ih1
        rw [if_pos rfl] at ih1
        refine fx_iload dX3_standingCells_5 rfl ?_
        refine fx_bipush (v := nI 64) dX3_standingCells_7 (by decide) ?_
        refine fx_icmp_ge (tgt := 35) dX3_standingCells_9 (by decide) rfl (fun hc9 => ?_) (fun hc9 => ?_)
        · exact absurd hc9 (nI_ge (by omega) (by omega))
        · refine fx_aload_n dX3_standingCells_12 rfl rfl ?_
          refine fx_iload_n dX3_standingCells_13 rfl rfl ?_
          refine fx_iload dX3_standingCells_14 rfl ?_
          refine fx_callVv dX3_standingCells_16 vX0_tellsLoud lX3_189 (by decide) (a0 hq) (Nat.le_of_ble_eq_true rfl) eT rfl ?_
          refine fx_if_eq (tgt := 29) dX3_standingCells_19 (by decide) rfl (fun hc19 => ?_) (fun hc19 => ?_)
          · exact absurd hc19 (by decide)
          · refine fx_lload_n dX3_standingCells_22 rfl rfl ?_
            refine fx_lconst (v := 1) dX3_standingCells_23 (by decide) ?_
            refine fx_iload dX3_standingCells_24 rfl ?_
            refine fx_lshl dX3_standingCells_26 ?_
            rw [jl1, wb_shl 1 (by omega), Nat.one_mul]
            refine fx_lor dX3_standingCells_27 ?_
            rw [wb_or (jstd_64 st (by omega)) (Nat.pow_lt_pow_right (by decide) (by omega))]
            refine fs_lstore_n_2 dX3_standingCells_28 rfl (by decide) ?_
            refine fs_iinc_4 (w := nI 1) dX3_standingCells_29 (by decide) rfl (by decide) ?_
            refine fx_goto (tgt := 5) dX3_standingCells_32 (by decide) ?_
            rw [nI_add]
            exact ih1
  have H0 := H 64 0 (by omega)
  refine fx_lconst (v := 0) dX3_standingCells_0 (by decide) ?_
  refine fs_lstore_n_2 dX3_standingCells_1 rfl (by decide) ?_
  refine fx_iconst (v := nI 0) dX3_standingCells_2 (by decide) ?_
  refine fs_istore_4 dX3_standingCells_3 rfl (by decide) ?_
  exact H0
end
section
variable {F4 : Nat → Int32} {G4 : Nat → Nat → Int32} {F : Nat → Nat → Int32} {N : Nat → Nat → Int64} {G : Nat → Nat → Int32}
theorem jR_sh (r : jRr F4 G4 F G) {j : Nat} (hj : j < 4) : F (28 + 2 * j) 0 = G4 11 j ∧ F (28 + 2 * j) 1 = nI (jsz G4 j) ∧ jsz G4 j ≤ 40 ∧ ∀ i, i < 40 → G (28 + 2 * j + 1) i = G4 13 (40 * j + i) := by
  obtain ⟨-, -, -, d1, d2⟩ := r
  obtain ⟨e1, e2⟩ := jsz_e d1 hj
  obtain ⟨a1, a2, a3⟩ := d2 j hj
  exact ⟨a1, by rw [a2, e1], e2, a3⟩
theorem eX3_soundFault {s w : Int32} (r : jRr F4 G4 F G) : Mx mX3_soundFault [.ref 0, .int s, .int w] (rC F N G) (some (.int (jsf (jlo G4 s w)))) (rC F N G) := by
  refine mx_of (L := [some (.ref 0), some (.int s), some (.int w)]) (by decide) (fun _ => rfl) (fun _ => Nat.le_of_ble_eq_true rfl) ?_
  by_cases hs : jwi s (nI 0) (nI 3) = false
  · rw [jlo_0 hs]
    refine fx_iload_n dX3_soundFault_0 rfl rfl ?_
    refine fx_callSv dX3_soundFault_1 sX3_isSheet lX3_237 (by decide) (Nat.le_of_ble_eq_true rfl) eX3_isSheet rfl ?_
    refine fx_if_ne (tgt := 9) dX3_soundFault_4 (by decide) rfl (fun hc4 => ?_) (fun hc4 => ?_)
    · exact jtf hs (nI_ne0' hc4)
    · refine fx_iconst (v := nI 0) dX3_soundFault_7 (by decide) ?_
      exact fx_ireq dX3_soundFault_8 rfl rfl rfl rfl
  · obtain ⟨j, hj, rfl⟩ := jwi_of (k := 3) (by decide) (jbt_t hs)
    have hj4 : j < 4 := by omega
    obtain ⟨e1, e2, e3, e4⟩ := jR_sh r hj4
    have hq := zqj hj4
    by_cases h0 : G4 11 j = 0
    · rw [jlo_5 hj h0]
      refine fx_iload_n dX3_soundFault_0 rfl rfl ?_
      refine fx_callSv dX3_soundFault_1 sX3_isSheet lX3_237 (by decide) (Nat.le_of_ble_eq_true rfl) eX3_isSheet rfl ?_
      refine fx_if_ne (tgt := 9) dX3_soundFault_4 (by decide) rfl (fun hc4 => ?_) (fun hc4 => ?_)
      · refine fx_aload_n dX3_soundFault_9 rfl rfl ?_
        refine fx_get dX3_soundFault_10 kX3_35 rfl rfl ?_
        refine fx_iload_n dX3_soundFault_13 rfl rfl ?_
        refine fx_aald dX3_soundFault_14 rfl (Or.inl rfl) (vp_in_nI (by omega) (by decide)) (rC_se (by omega)) ?_
        refine fx_callVv dX3_soundFault_15 vX0_isMissing lX3_245 (by decide) (a0 hq) (Nat.le_of_ble_eq_true rfl) (eX0_isMissing hq) rfl ?_
        rw [e1, decide_eq_true h0]
        refine fx_if_eq (tgt := 23) dX3_soundFault_18 (by decide) rfl (fun hc18 => ?_) (fun hc18 => ?_)
        · exact absurd hc18 (by decide)
        · refine fx_iconst (v := nI 5) dX3_soundFault_21 (by decide) ?_
          exact fx_ireq dX3_soundFault_22 rfl rfl rfl rfl
      · exact absurd (nI_eq0' hc4) hs
    · rw [jlo_j hj h0]
      cases hw : jwi w (nI 1) (nI 99)
      · rw [if_neg (by decide)]
        refine fx_iload_n dX3_soundFault_0 rfl rfl ?_
        refine fx_callSv dX3_soundFault_1 sX3_isSheet lX3_237 (by decide) (Nat.le_of_ble_eq_true rfl) eX3_isSheet rfl ?_
        refine fx_if_ne (tgt := 9) dX3_soundFault_4 (by decide) rfl (fun hc4 => ?_) (fun hc4 => ?_)
        · refine fx_aload_n dX3_soundFault_9 rfl rfl ?_
          refine fx_get dX3_soundFault_10 kX3_35 rfl rfl ?_
          refine fx_iload_n dX3_soundFault_13 rfl rfl ?_
          refine fx_aald dX3_soundFault_14 rfl (Or.inl rfl) (vp_in_nI (by omega) (by decide)) (rC_se (by omega)) ?_
          refine fx_callVv dX3_soundFault_15 vX0_isMissing lX3_245 (by decide) (a0 hq) (Nat.le_of_ble_eq_true rfl) (eX0_isMissing hq) rfl ?_
          rw [e1, decide_eq_false h0]
          refine fx_if_eq (tgt := 23) dX3_soundFault_18 (by decide) rfl (fun hc18 => ?_) (fun hc18 => ?_)
          · refine fx_iload_n dX3_soundFault_23 rfl rfl ?_
            refine fx_callSv dX3_soundFault_24 sX3_isWeight lX3_279 (by decide) (Nat.le_of_ble_eq_true rfl) eX3_isWeight rfl ?_
            rw [hw]
            refine fx_if_ne (tgt := 32) dX3_soundFault_27 (by decide) rfl (fun hc27 => ?_) (fun hc27 => ?_)
            · exact absurd rfl hc27
            · refine fx_iconst (v := nI 0) dX3_soundFault_30 (by decide) ?_
              exact fx_ireq dX3_soundFault_31 rfl rfl rfl rfl
          · exact absurd rfl hc18
        · exact absurd (nI_eq0' hc4) hs
      · have eE := eX0_earsAreCells (F := F) (N := N) (G := G) hq e2 e3
        rw [jea_e e4 _ (by omega)] at eE
        rw [if_pos rfl]
        cases hb : jears (G4 13) j (jsz G4 j / 2)
        · rw [if_neg (by decide)]
          rw [hb] at eE
          refine fx_iload_n dX3_soundFault_0 rfl rfl ?_
          refine fx_callSv dX3_soundFault_1 sX3_isSheet lX3_237 (by decide) (Nat.le_of_ble_eq_true rfl) eX3_isSheet rfl ?_
          refine fx_if_ne (tgt := 9) dX3_soundFault_4 (by decide) rfl (fun hc4 => ?_) (fun hc4 => ?_)
          · refine fx_aload_n dX3_soundFault_9 rfl rfl ?_
            refine fx_get dX3_soundFault_10 kX3_35 rfl rfl ?_
            refine fx_iload_n dX3_soundFault_13 rfl rfl ?_
            refine fx_aald dX3_soundFault_14 rfl (Or.inl rfl) (vp_in_nI (by omega) (by decide)) (rC_se (by omega)) ?_
            refine fx_callVv dX3_soundFault_15 vX0_isMissing lX3_245 (by decide) (a0 hq) (Nat.le_of_ble_eq_true rfl) (eX0_isMissing hq) rfl ?_
            rw [e1, decide_eq_false h0]
            refine fx_if_eq (tgt := 23) dX3_soundFault_18 (by decide) rfl (fun hc18 => ?_) (fun hc18 => ?_)
            · refine fx_iload_n dX3_soundFault_23 rfl rfl ?_
              refine fx_callSv dX3_soundFault_24 sX3_isWeight lX3_279 (by decide) (Nat.le_of_ble_eq_true rfl) eX3_isWeight rfl ?_
              rw [hw]
              refine fx_if_ne (tgt := 32) dX3_soundFault_27 (by decide) rfl (fun hc27 => ?_) (fun hc27 => ?_)
              · refine fx_aload_n dX3_soundFault_32 rfl rfl ?_
                refine fx_get dX3_soundFault_33 kX3_35 rfl rfl ?_
                refine fx_iload_n dX3_soundFault_36 rfl rfl ?_
                refine fx_aald dX3_soundFault_37 rfl (Or.inl rfl) (vp_in_nI (by omega) (by decide)) (rC_se (by omega)) ?_
                refine fx_callVv dX3_soundFault_38 vX0_earsAreCells lX3_282 (by decide) (a0 hq) (Nat.le_of_ble_eq_true rfl) eE rfl ?_
                refine fx_if_eq (tgt := 48) dX3_soundFault_41 (by decide) rfl (fun hc41 => ?_) (fun hc41 => ?_)
                · refine fx_iconst (v := nI 4) dX3_soundFault_48 (by decide) ?_
                  exact fx_ireq dX3_soundFault_49 rfl rfl rfl rfl
                · exact absurd rfl hc41
              · exact absurd hc27 (by decide)
            · exact absurd rfl hc18
          · exact absurd (nI_eq0' hc4) hs
        · rw [if_pos rfl]
          rw [hb] at eE
          refine fx_iload_n dX3_soundFault_0 rfl rfl ?_
          refine fx_callSv dX3_soundFault_1 sX3_isSheet lX3_237 (by decide) (Nat.le_of_ble_eq_true rfl) eX3_isSheet rfl ?_
          refine fx_if_ne (tgt := 9) dX3_soundFault_4 (by decide) rfl (fun hc4 => ?_) (fun hc4 => ?_)
          · refine fx_aload_n dX3_soundFault_9 rfl rfl ?_
            refine fx_get dX3_soundFault_10 kX3_35 rfl rfl ?_
            refine fx_iload_n dX3_soundFault_13 rfl rfl ?_
            refine fx_aald dX3_soundFault_14 rfl (Or.inl rfl) (vp_in_nI (by omega) (by decide)) (rC_se (by omega)) ?_
            refine fx_callVv dX3_soundFault_15 vX0_isMissing lX3_245 (by decide) (a0 hq) (Nat.le_of_ble_eq_true rfl) (eX0_isMissing hq) rfl ?_
            rw [e1, decide_eq_false h0]
            refine fx_if_eq (tgt := 23) dX3_soundFault_18 (by decide) rfl (fun hc18 => ?_) (fun hc18 => ?_)
            · refine fx_iload_n dX3_soundFault_23 rfl rfl ?_
              refine fx_callSv dX3_soundFault_24 sX3_isWeight lX3_279 (by decide) (Nat.le_of_ble_eq_true rfl) eX3_isWeight rfl ?_
              rw [hw]
              refine fx_if_ne (tgt := 32) dX3_soundFault_27 (by decide) rfl (fun hc27 => ?_) (fun hc27 => ?_)
              · refine fx_aload_n dX3_soundFault_32 rfl rfl ?_
                refine fx_get dX3_soundFault_33 kX3_35 rfl rfl ?_
                refine fx_iload_n dX3_soundFault_36 rfl rfl ?_
                refine fx_aald dX3_soundFault_37 rfl (Or.inl rfl) (vp_in_nI (by omega) (by decide)) (rC_se (by omega)) ?_
                refine fx_callVv dX3_soundFault_38 vX0_earsAreCells lX3_282 (by decide) (a0 hq) (Nat.le_of_ble_eq_true rfl) eE rfl ?_
                refine fx_if_eq (tgt := 48) dX3_soundFault_41 (by decide) rfl (fun hc41 => ?_) (fun hc41 => ?_)
                · exact absurd hc41 (by decide)
                · refine fx_iconst (v := (-1)) dX3_soundFault_44 (by decide) ?_
                  refine fx_goto (tgt := 49) dX3_soundFault_45 (by decide) ?_
                  exact fx_ireq dX3_soundFault_49 rfl rfl rfl rfl
              · exact absurd hc27 (by decide)
            · exact absurd rfl hc18
          · exact absurd (nI_eq0' hc4) hs
end
