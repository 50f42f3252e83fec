/-! ===== the class: rings ===== -/
set_option maxRecDepth 100000
theorem jcb_or {y t : Nat} (h : y.testBit t = false) : ∀ k, jcb (y ||| 2 ^ t) k = jcb y k + (if t < k then 1 else 0) := by
  intro k
  induction k with
  | zero => rfl
  | succ k ih =>
    rw [jcb_1, jcb_1, ih, Nat.testBit_or, Nat.testBit_two_pow]
    by_cases e : t = k
    · subst e
      rw [h, if_neg (Nat.lt_irrefl _), if_pos (Nat.lt_succ_self _)]
      simp
    · rw [decide_eq_false e, Bool.or_false]
      by_cases q : t < k
      · rw [if_pos q, if_pos (show t < k + 1 by omega)]; omega
      · rw [if_neg q, if_neg (show ¬ t < k + 1 by omega)]; omega
theorem jcb_hi {x n : Nat} (hx : x < 2 ^ n) : ∀ k, jcb x (n + k) = jcb x n := by
  intro k
  induction k with
  | zero => rfl
  | succ k ih =>
    rw [← Nat.add_assoc, jcb_1, ih, Nat.testBit_lt_two_pow (Nat.lt_of_lt_of_le hx (Nat.pow_le_pow_right (by decide) (Nat.le_add_right n k))), if_neg (by decide), Nat.add_zero]
theorem jand_tb (y t : Nat) : y &&& 2 ^ t = 0 ↔ y.testBit t = false := by
  constructor
  · intro h
    have := congrArg (fun z => z.testBit t) h
    simp only [Nat.testBit_and, Nat.testBit_two_pow, Nat.zero_testBit, decide_true, Bool.and_true] at this
    exact this
  · intro h
    apply Nat.eq_of_testBit_eq
    intro i
    rw [Nat.testBit_and, Nat.testBit_two_pow, Nat.zero_testBit]
    by_cases e : t = i
    · subst e; rw [h, Bool.false_and]
    · rw [decide_eq_false e, Bool.and_false]
theorem jsb_1 (x k : Nat) : jsb x (k + 1) = if x.testBit k = true then (nI k, (jsb x k).2 && (decide ((jsb x k).1 < 0) || decide (nI k - (jsb x k).1 < nI 3))) else jsb x k := rfl
/-- notes without a gap: the longest run is all of them -/
theorem jrun_i (x : Nat) : ∀ k, k ≤ 12 → (jcl x k).2.1 ≤ (jcl x k).1 ∧ (jcl x k).1 ≤ jcb x k ∧ ((jcl x k).2.1 = 0 → jcb x k = 0) ∧ (jsb x k).1 = (if (jcl x k).2.1 = 0 then (-1) else nI (jcl x k).2.2) ∧ ((jsb x k).2 = true ↔ (jcl x k).2.1 = jcb x k) ∧ ((jcl x k).1 = jcb x k → (jcl x k).2.1 = jcb x k) := by
  intro k
  induction k with
  | zero => intro _; exact ⟨Nat.le_refl _, Nat.le_refl _, fun _ => rfl, rfl, ⟨fun _ => rfl, fun _ => rfl⟩, fun _ => rfl⟩
  | succ k ih =>
    intro hk
    obtain ⟨i1, i2, i3, i4, i5, i6⟩ := ih (by omega)
    obtain ⟨b1, b2, b3⟩ := jcl_b x k
    rw [jcl_1, jcb_1, jsb_1]
    by_cases hb : x.testBit k = true
    · rw [if_pos hb, if_pos hb, if_pos hb]
      by_cases hc : 0 < (jcl x k).2.1 ∧ k ≤ (jcl x k).2.2 + 2
      · have e : (jsb x k).1 = nI (jcl x k).2.2 := by rw [i4, if_neg (by omega)]
        have l := b3 hc.1
        rw [if_pos hc, e, decide_eq_false (nI_pos (by omega)), decide_eq_true ((j3' k (by omega) _ l).mpr hc.2), Bool.or_true, Bool.and_true]
        refine ⟨Nat.le_max_right _ _, Nat.max_le.mpr ⟨by omega, by omega⟩, fun z => absurd z (Nat.succ_ne_zero _), by rw [if_neg (Nat.succ_ne_zero _)], ?_, ?_⟩
        · rw [i5]; exact ⟨fun z => by show _ + 1 = _ + 1; omega, fun z => by have z' : (jcl x k).2.1 + 1 = jcb x k + 1 := z; omega⟩
        · intro z
          have z' : max (jcl x k).1 ((jcl x k).2.1 + 1) = jcb x k + 1 := z
          show (jcl x k).2.1 + 1 = _
          omega
      · rw [if_neg hc]
        by_cases h0 : (jcl x k).2.1 = 0
        · have p0 := i3 h0
          have e : (jsb x k).1 = (-1) := by rw [i4, if_pos h0]
          have ok : (jsb x k).2 = true := i5.mpr (by rw [h0, p0])
          rw [e, ok, p0]
          refine ⟨Nat.le_max_right _ _, Nat.max_le.mpr ⟨by omega, Nat.le_refl _⟩, fun z => absurd z (by show ¬ 1 = 0; decide), by rw [if_neg (by show ¬ 1 = 0; decide)], ⟨fun _ => rfl, fun _ => by show (true && (decide ((-1 : Int32) < 0) || decide (nI k - (-1) < nI 3))) = true; rw [decide_eq_true (show (-1 : Int32) < 0 by decide)]; rfl⟩, fun _ => rfl⟩
        · have e : (jsb x k).1 = nI (jcl x k).2.2 := by rw [i4, if_neg h0]
          have l := b3 (by omega)
          rw [e, decide_eq_false (nI_pos (by omega)), decide_eq_false (fun z => hc ⟨by omega, (j3' k (by omega) _ l).mp z⟩), Bool.or_false, Bool.and_false]
          have p0 : ¬ jcb x k = 0 := by omega
          refine ⟨Nat.le_max_right _ _, Nat.max_le.mpr ⟨by omega, by omega⟩, fun z => absurd z (by show ¬ 1 = 0; decide), by rw [if_neg (by show ¬ 1 = 0; decide)], ⟨fun z => absurd (show false = true from z) (by decide), fun z => ?_⟩, fun z => ?_⟩
          · have z' : 1 = jcb x k + 1 := z
            omega
          · have z' : max (jcl x k).1 1 = jcb x k + 1 := z
            omega
    · rw [if_neg hb, if_neg hb, if_neg hb]
      exact ⟨i1, i2, i3, i4, i5, i6⟩
theorem jstep_e (x : Nat) : jstep x = decide ((jcl x 12).1 = jcb x 12) := by
  obtain ⟨i1, i2, i3, i4, i5, i6⟩ := jrun_i x 12 (Nat.le_refl _)
  unfold jstep
  cases h : (jsb x 12).2
  · symm; apply decide_eq_false; intro z; rw [i5.mpr (i6 z)] at h; exact absurd h (by decide)
  · symm; apply decide_eq_true; have := i5.mp h; omega
theorem jar_pop {V : Nat → Int32} {n : Nat} (hV : jW V n) (x : Nat) : ∀ b, b ≤ n → jar V x b = true → jcb (jnt V x b) 12 = jcb x b := by
  intro b
  induction b with
  | zero => intro _ _; exact (show jcb 0 12 = 0 by decide)
  | succ b ih =>
    intro hb h
    have e1 : jnt V x (b + 1) = jnt V x b ||| jnb V x b := rfl
    have e2 : jar V x (b + 1) = (jar V x b && decide (jnt V x b &&& jnb V x b = 0)) := rfl
    rw [e2, Bool.and_eq_true, decide_eq_true_eq] at h
    rw [e1, jcb_1 x b, ← ih (by omega) h.1]
    by_cases hbit : x.testBit b = true
    · have e3 : jnb V x b = 2 ^ jnote V b := if_pos hbit
      rw [if_pos hbit, e3, jcb_or ((jand_tb _ _).mp (by rw [← e3]; exact h.2)), if_pos (jnote_lt hV (show b < n by omega)).1]
    · have e3 : jnb V x b = 0 := if_neg hbit
      rw [if_neg hbit, e3, Nat.or_zero, Nat.add_zero]
theorem jar_f {V : Nat → Int32} {x b : Nat} (h : jar V x b = false) : ∀ k, jar V x (b + k) = false := by
  intro k
  induction k with
  | zero => exact h
  | succ k ih =>
    have e2 : jar V x (b + k + 1) = (jar V x (b + k) && decide (jnt V x (b + k) &&& jnb V x (b + k) = 0)) := rfl
    rw [← Nat.add_assoc, e2, ih, Bool.false_and]
section
variable {F : Nat → Nat → Int32} {N : Nat → Nat → Int64} {G : Nat → Nat → Int32} {w : Nat} {V : Nat → Int32} {n : Nat} {h0 : Int32} {t : Nat}
theorem eX2_notesThere (hw : zw w) (hI : jI F N G w V n h0 t) (hV : jW V n) : Mx mX2_notesThere [.ref w] (rC F N G) (some (.int (nI (jno V n)))) (rC F N G) := by
  refine mx_of (L := [some (.ref w), none, none]) (by decide) (fun _ => rfl) (fun _ => Nat.le_of_ble_eq_true rfl) ?_
  have hn8 := hV.2.1
  have H : ∀ (k b : Nat), b + k = n → Fx mX2_notesThere (some (.int (nI (jno V n))), rC F N G) 4 [some (.ref w), some (.int (nI (jno V b))), some (.int (nI b))] [] (rC F N G) := by
    intro k
    induction k with
    | zero =>
      intro b hb
      have hb' : b = n := by omega
      subst hb'
      refine fx_iload_n dX2_notesThere_4 rfl rfl ?_
      refine fx_aload_n dX2_notesThere_5 rfl rfl ?_
      refine fx_get dX2_notesThere_6 kX2_47 (a2 hw) rfl ?_
      rw [jI_5 hI]
      refine fx_icmp_ge (tgt := 29) dX2_notesThere_9 (by decide) rfl (fun hc9 => ?_) (fun hc9 => ?_)
      · refine fx_iload_n dX2_notesThere_29 rfl rfl ?_
        exact fx_ireq dX2_notesThere_30 rfl rfl rfl rfl
      · exact absurd (Int32.le_refl _) hc9
    | succ k ih =>
      intro b hb
      obtain ⟨ht, et⟩ := jnote_lt hV (show b < n by omega)
      have ih1 := ih (b + 1) (by omega)
      have e1 : jno V (b + 1) = jno V b ||| 2 ^ jnote V b := rfl
      rw [e1] at ih1
      refine fx_iload_n dX2_notesThere_4 rfl rfl ?_
      refine fx_aload_n dX2_notesThere_5 rfl rfl ?_
      refine fx_get dX2_notesThere_6 kX2_47 (a2 hw) rfl ?_
      rw [jI_5 hI]
      refine fx_icmp_ge (tgt := 29) dX2_notesThere_9 (by decide) rfl (fun hc9 => ?_) (fun hc9 => ?_)
      · exact absurd hc9 (nI_ge (by omega) (by omega))
      · refine fx_iload_n dX2_notesThere_12 rfl rfl ?_
        refine fx_iconst (v := nI 1) dX2_notesThere_13 (by decide) ?_
        refine fx_aload_n dX2_notesThere_14 rfl rfl ?_
        refine fx_get dX2_notesThere_15 kX2_24 (a2 hw) rfl ?_
        refine fx_iload_n dX2_notesThere_18 rfl rfl ?_
        refine fx_iald dX2_notesThere_19 (a2_5 hw) (vp_in_nI (by omega) (by decide)) ?_
        rw [nI_clamp (by omega), jI_a5 hI, jbf_e (by omega), et]
        refine fx_ishl dX2_notesThere_20 ?_
        rw [nI_shl1 _ (by omega)]
        refine fx_ior dX2_notesThere_21 ?_
        rw [nI_or]
        refine fs_istore_n_1 dX2_notesThere_22 rfl (by decide) ?_
        refine fs_iinc_2 (w := nI 1) dX2_notesThere_23 (by decide) rfl (by decide) ?_
        refine fx_goto (tgt := 4) dX2_notesThere_26 (by decide) ?_
        rw [nI_add]
        exact ih1
  refine fx_iconst (v := nI 0) dX2_notesThere_0 (by decide) ?_
  refine fs_istore_n_1 dX2_notesThere_1 rfl (by decide) ?_
  refine fx_iconst (v := nI 0) dX2_notesThere_2 (by decide) ?_
  refine fs_istore_n_2 dX2_notesThere_3 rfl (by decide) ?_
  exact H n 0 (by omega)
theorem eX2_isRing {x : Nat} (hw : zw w) (hI : jI F N G w V n h0 t) (hV : jW V n) (hx : x < 2 ^ n) : Mx mX2_isRing [.ref w, .int (nI x)] (rC F N G) (some (.int (jB (jring V n x)))) (rC F N G) := by
  refine mx_of (L := [some (.ref w), some (.int (nI x)), none, none]) (by decide) (fun _ => rfl) (fun _ => Nat.le_of_ble_eq_true rfl) ?_
  have hn8 := hV.2.1
  obtain ⟨hp1, hp2⟩ := jpow8 hn8
  have H : ∀ (k b : Nat), b + k = n → jar V x b = true → Fx mX2_isRing (some (.int (jB (jring V n x))), rC F N G) 4 [some (.ref w), some (.int (nI x)), some (.int (nI (jnt V x b))), some (.int (nI b))] [] (rC F N G) := by
    intro k
    induction k with
    | zero =>
      intro b hb ha
      have hb' : b = n := by omega
      subst hb'
      have hlt := jnt_lt hV x b (Nat.le_refl b)
      have hb1 := (jcl_b (jnt V x b) 12).1
      have hb2 := jp_le x (by omega)
      have e : jring V b x = decide (nI (jcl (jnt V x b) 12).1 = nI (jp x)) := by
        unfold jring
        rw [ha, Bool.true_and, jstep_e, jar_pop hV x b (Nat.le_refl b) ha, ← jcb_hi hx (8 - b), show b + (8 - b) = 8 by omega, jcb_p]
        have hb3 : jpop 8 x ≤ 8 := hb2
        exact decide_eq_decide.mpr (nI_eq (a := (jcl (jnt V x b) 12).1) (b := jpop 8 x) (by omega) (by omega)).symm
      rw [e]
      refine fx_iload_n dX2_isRing_4 rfl rfl ?_
      refine fx_aload_n dX2_isRing_5 rfl rfl ?_
      refine fx_get dX2_isRing_6 kX2_47 (a2 hw) rfl ?_
      rw [jI_5 hI]
      refine fx_icmp_ge (tgt := 54) dX2_isRing_9 (by decide) rfl (fun hc9 => ?_) (fun hc9 => ?_)
      · refine fx_iload_n dX2_isRing_54 rfl rfl ?_
        refine fx_callSv dX2_isRing_55 sX3_longestRun lX2_121 (by decide) (Nat.le_of_ble_eq_true rfl) (eX3_longestRun (by omega)) rfl ?_
        refine fx_iload_n dX2_isRing_58 rfl rfl ?_
        refine fx_callSv dX2_isRing_59 sJ6_bitCount_0f7a4 lX2_124 (by decide) (Nat.le_of_ble_eq_true rfl) (eJ6_bitCount_0f7a4 (by omega)) rfl ?_
        refine fx_icmp_ne (tgt := 69) dX2_isRing_62 (by decide) rfl (fun hc62 => ?_) (fun hc62 => ?_)
        · refine fx_iconst (v := nI 0) dX2_isRing_69 (by decide) ?_
          exact fx_ireq dX2_isRing_70 rfl (jB_n _) (by first | (rw [decide_eq_true hc62]; rfl) | (rw [decide_eq_false hc62]; rfl)) rfl
        · refine fx_iconst (v := nI 1) dX2_isRing_65 (by decide) ?_
          refine fx_goto (tgt := 70) dX2_isRing_66 (by decide) ?_
          exact fx_ireq dX2_isRing_70 rfl (jB_n _) (by first | (rw [decide_eq_true hc62]; rfl) | (rw [decide_eq_false hc62]; rfl)) rfl
      · exact absurd (Int32.le_refl _) hc9
    | succ k ih =>
      intro b hb ha
      obtain ⟨ht, et⟩ := jnote_lt hV (show b < n by omega)
      have hlt := jnt_lt hV x b (by omega)
      have ih1 := ih (b + 1) (by omega)
      have e1 : jnt V x (b + 1) = jnt V x b ||| jnb V x b := rfl
      have e2 : jar V x (b + 1) = (jar V x b && decide (jnt V x b &&& jnb V x b = 0)) := rfl
      rw [e1] at ih1
      cases hbit : x.testBit b
      · have e3 : jnb V x b = 0 := by unfold jnb; rw [hbit]; exact if_neg (by decide)
        rw [e3, Nat.or_zero] at ih1
        have ih2 := ih1 (by rw [e2, ha, e3, Nat.and_zero]; rfl)
        refine fx_iload_n dX2_isRing_4 rfl rfl ?_
        refine fx_aload_n dX2_isRing_5 rfl rfl ?_
        refine fx_get dX2_isRing_6 kX2_47 (a2 hw) rfl ?_
        rw [jI_5 hI]
        refine fx_icmp_ge (tgt := 54) dX2_isRing_9 (by decide) rfl (fun hc9 => ?_) (fun hc9 => ?_)
        · exact absurd hc9 (nI_ge (by omega) (by omega))
        · refine fx_iload_n dX2_isRing_12 rfl rfl ?_
          refine fx_i2l dX2_isRing_13 ?_
          rw [nI_l (by omega)]
          refine fx_iload_n dX2_isRing_14 rfl rfl ?_
          refine fx_callSv dX2_isRing_15 sX3_holds lX2_62 (by decide) (Nat.le_of_ble_eq_true rfl) (eX3_holds (by omega) (by omega)) rfl ?_
          rw [hbit]
          refine fx_if_eq (tgt := 48) dX2_isRing_18 (by decide) rfl (fun hc18 => ?_) (fun hc18 => ?_)
          · refine fs_iinc_3 (w := nI 1) dX2_isRing_48 (by decide) rfl (by decide) ?_
            refine fx_goto (tgt := 4) dX2_isRing_51 (by decide) ?_
            rw [nI_add]
            exact ih2
          · exact absurd rfl hc18
      · have e3 : jnb V x b = 2 ^ jnote V b := by unfold jnb; rw [hbit]; exact if_pos rfl
        rw [e3] at ih1 e2
        cases hd : (jnt V x b).testBit (jnote V b)
        · have ih2 := ih1 (by rw [e2, ha, decide_eq_true ((jand_tb _ _).mpr hd)]; rfl)
          refine fx_iload_n dX2_isRing_4 rfl rfl ?_
          refine fx_aload_n dX2_isRing_5 rfl rfl ?_
          refine fx_get dX2_isRing_6 kX2_47 (a2 hw) rfl ?_
          rw [jI_5 hI]
          refine fx_icmp_ge (tgt := 54) dX2_isRing_9 (by decide) rfl (fun hc9 => ?_) (fun hc9 => ?_)
          · exact absurd hc9 (nI_ge (by omega) (by omega))
          · refine fx_iload_n dX2_isRing_12 rfl rfl ?_
            refine fx_i2l dX2_isRing_13 ?_
            rw [nI_l (by omega)]
            refine fx_iload_n dX2_isRing_14 rfl rfl ?_
            refine fx_callSv dX2_isRing_15 sX3_holds lX2_62 (by decide) (Nat.le_of_ble_eq_true rfl) (eX3_holds (by omega) (by omega)) rfl ?_
            rw [hbit]
            refine fx_if_eq (tgt := 48) dX2_isRing_18 (by decide) rfl (fun hc18 => ?_) (fun hc18 => ?_)
            · exact absurd hc18 (by decide)
            · refine fx_iload_n dX2_isRing_21 rfl rfl ?_
              refine fx_i2l dX2_isRing_22 ?_
              rw [nI_l (by omega)]
              refine fx_aload_n dX2_isRing_23 rfl rfl ?_
              refine fx_get dX2_isRing_24 kX2_24 (a2 hw) rfl ?_
              refine fx_iload_n dX2_isRing_27 rfl rfl ?_
              refine fx_iald dX2_isRing_28 (a2_5 hw) (vp_in_nI (by omega) (by decide)) ?_
              rw [nI_clamp (by omega), jI_a5 hI, jbf_e (by omega), et]
              refine fx_callSv dX2_isRing_29 sX3_holds lX2_62 (by decide) (Nat.le_of_ble_eq_true rfl) (eX3_holds (by omega) (by omega)) rfl ?_
              rw [hd]
              refine fx_if_eq (tgt := 37) dX2_isRing_32 (by decide) rfl (fun hc32 => ?_) (fun hc32 => ?_)
              · refine fx_iload_n dX2_isRing_37 rfl rfl ?_
                refine fx_iconst (v := nI 1) dX2_isRing_38 (by decide) ?_
                refine fx_aload_n dX2_isRing_39 rfl rfl ?_
                refine fx_get dX2_isRing_40 kX2_24 (a2 hw) rfl ?_
                refine fx_iload_n dX2_isRing_43 rfl rfl ?_
                refine fx_iald dX2_isRing_44 (a2_5 hw) (vp_in_nI (by omega) (by decide)) ?_
                rw [nI_clamp (by omega), jI_a5 hI, jbf_e (by omega), et]
                refine fx_ishl dX2_isRing_45 ?_
                rw [nI_shl1 _ (by omega)]
                refine fx_ior dX2_isRing_46 ?_
                rw [nI_or]
                refine fs_istore_n_2 dX2_isRing_47 rfl (by decide) ?_
                refine fs_iinc_3 (w := nI 1) dX2_isRing_48 (by decide) rfl (by decide) ?_
                refine fx_goto (tgt := 4) dX2_isRing_51 (by decide) ?_
                rw [nI_add]
                exact ih2
              · exact absurd rfl hc32
        · have er : jring V n x = false := by
            have := jar_f (V := V) (x := x) (b := b + 1) (by rw [e2, ha, decide_eq_false (fun z => by rw [(jand_tb _ _).mp z] at hd; exact absurd hd (by decide))]; rfl) (n - (b + 1))
            rw [show b + 1 + (n - (b + 1)) = n by omega] at this
            unfold jring
            rw [this]; rfl
          rw [er]
          refine fx_iload_n dX2_isRing_4 rfl rfl ?_
          refine fx_aload_n dX2_isRing_5 rfl rfl ?_
          refine fx_get dX2_isRing_6 kX2_47 (a2 hw) rfl ?_
          rw [jI_5 hI]
          refine fx_icmp_ge (tgt := 54) dX2_isRing_9 (by decide) rfl (fun hc9 => ?_) (fun hc9 => ?_)
          · exact absurd hc9 (nI_ge (by omega) (by omega))
          · refine fx_iload_n dX2_isRing_12 rfl rfl ?_
            refine fx_i2l dX2_isRing_13 ?_
            rw [nI_l (by omega)]
            refine fx_iload_n dX2_isRing_14 rfl rfl ?_
            refine fx_callSv dX2_isRing_15 sX3_holds lX2_62 (by decide) (Nat.le_of_ble_eq_true rfl) (eX3_holds (by omega) (by omega)) rfl ?_
            rw [hbit]
            refine fx_if_eq (tgt := 48) dX2_isRing_18 (by decide) rfl (fun hc18 => ?_) (fun hc18 => ?_)
            · exact absurd hc18 (by decide)
            · refine fx_iload_n dX2_isRing_21 rfl rfl ?_
              refine fx_i2l dX2_isRing_22 ?_
              rw [nI_l (by omega)]
              refine fx_aload_n dX2_isRing_23 rfl rfl ?_
              refine fx_get dX2_isRing_24 kX2_24 (a2 hw) rfl ?_
              refine fx_iload_n dX2_isRing_27 rfl rfl ?_
              refine fx_iald dX2_isRing_28 (a2_5 hw) (vp_in_nI (by omega) (by decide)) ?_
              rw [nI_clamp (by omega), jI_a5 hI, jbf_e (by omega), et]
              refine fx_callSv dX2_isRing_29 sX3_holds lX2_62 (by decide) (Nat.le_of_ble_eq_true rfl) (eX3_holds (by omega) (by omega)) rfl ?_
              rw [hd]
              refine fx_if_eq (tgt := 37) dX2_isRing_32 (by decide) rfl (fun hc32 => ?_) (fun hc32 => ?_)
              · exact absurd hc32 (by decide)
              · refine fx_iconst (v := nI 0) dX2_isRing_35 (by decide) ?_
                exact fx_ireq dX2_isRing_36 rfl rfl rfl rfl
  refine fx_iconst (v := nI 0) dX2_isRing_0 (by decide) ?_
  refine fs_istore_n_2 dX2_isRing_1 rfl (by decide) ?_
  refine fx_iconst (v := nI 0) dX2_isRing_2 (by decide) ?_
  refine fs_istore_n_3 dX2_isRing_3 rfl (by decide) ?_
  exact H n 0 (by omega) rfl
theorem eX2_greatestRing (hw : zw w) (hI : jI F N G w V n h0 t) (hV : jW V n) : Mx mX2_greatestRing [.ref w] (rC F N G) (some (.int (nI (jgr V n (2 ^ n))))) (rC F N G) := by
  refine mx_of (L := [some (.ref w), none, none]) (by decide) (fun _ => rfl) (fun _ => Nat.le_of_ble_eq_true rfl) ?_
  have hn8 := hV.2.1
  obtain ⟨hp1, hp2⟩ := jpow8 hn8
  have H : ∀ (k s : Nat), s + k = 2 ^ n → 1 ≤ s → Fx mX2_greatestRing (some (.int (nI (jgr V n (2 ^ n)))), rC F N G) 4 [some (.ref w), some (.int (nI (jgr V n s))), some (.int (nI s))] [] (rC F N G) := by
    intro k
    induction k with
    | zero =>
      intro s hs h1
      have hs' : s = 2 ^ n := by omega
      subst hs'
      refine fx_iload_n dX2_greatestRing_4 rfl rfl ?_
      refine fx_iconst (v := nI 1) dX2_greatestRing_5 (by decide) ?_
      refine fx_aload_n dX2_greatestRing_6 rfl rfl ?_
      refine fx_get dX2_greatestRing_7 kX2_47 (a2 hw) rfl ?_
      rw [jI_5 hI]
      refine fx_ishl dX2_greatestRing_10 ?_
      rw [nI_shl1 n (by omega)]
      refine fx_icmp_ge (tgt := 41) dX2_greatestRing_11 (by decide) rfl (fun hc11 => ?_) (fun hc11 => ?_)
      · refine fx_iload_n dX2_greatestRing_41 rfl rfl ?_
        exact fx_ireq dX2_greatestRing_42 rfl rfl rfl rfl
      · exact absurd (Int32.le_refl _) hc11
    | succ k ih =>
      intro s hs h1
      have hle := jgr_lt V n s
      have ih1 := ih (s + 1) (by omega) (by omega)
      have e1 : jgr V n (s + 1) = if jp (jgr V n s) < jp s ∧ jring V n s = true then s else jgr V n s := by show (if s = 0 then _ else _) = _; rw [if_neg (by omega)]
      have hb1 := jp_le s (by omega)
      have hb2 := jp_le (jgr V n s) (by omega)
      rw [e1] at ih1
      refine fx_iload_n dX2_greatestRing_4 rfl rfl ?_
      refine fx_iconst (v := nI 1) dX2_greatestRing_5 (by decide) ?_
      refine fx_aload_n dX2_greatestRing_6 rfl rfl ?_
      refine fx_get dX2_greatestRing_7 kX2_47 (a2 hw) rfl ?_
      rw [jI_5 hI]
      refine fx_ishl dX2_greatestRing_10 ?_
      rw [nI_shl1 n (by omega)]
      refine fx_icmp_ge (tgt := 41) dX2_greatestRing_11 (by decide) rfl (fun hc11 => ?_) (fun hc11 => ?_)
      · exact absurd hc11 (nI_ge (by omega) (by omega))
      · refine fx_iload_n dX2_greatestRing_14 rfl rfl ?_
        refine fx_callSv dX2_greatestRing_15 sJ6_bitCount_0f7a4 lX2_124 (by decide) (Nat.le_of_ble_eq_true rfl) (eJ6_bitCount_0f7a4 (by omega)) rfl ?_
        refine fx_iload_n dX2_greatestRing_18 rfl rfl ?_
        refine fx_callSv dX2_greatestRing_19 sJ6_bitCount_0f7a4 lX2_124 (by decide) (Nat.le_of_ble_eq_true rfl) (eJ6_bitCount_0f7a4 (by omega)) rfl ?_
        refine fx_icmp_le (tgt := 35) dX2_greatestRing_22 (by decide) rfl (fun hc22 => ?_) (fun hc22 => ?_)
        · refine fs_iinc_2 (w := nI 1) dX2_greatestRing_35 (by decide) rfl (by decide) ?_
          refine fx_goto (tgt := 4) dX2_greatestRing_38 (by decide) ?_
          rw [nI_add]
          first | (rw [if_pos ⟨(nI_ltI (by omega) (by omega)).mp (Int32.not_le.mp hc22), nI_ne0' hc30⟩] at ih1; exact ih1) | (rw [if_neg (fun q => by rw [nI_eq0' hc30] at q; exact absurd q.2 (by decide))] at ih1; exact ih1) | (rw [if_neg (fun q => absurd ((nI_leI (by omega) (by omega)).mp hc22) (by omega))] at ih1; exact ih1)
        · refine fx_aload_n dX2_greatestRing_25 rfl rfl ?_
          refine fx_iload_n dX2_greatestRing_26 rfl rfl ?_
          refine fx_callVv dX2_greatestRing_27 vX2_isRing lX2_129 (by decide) (a2 hw) (Nat.le_of_ble_eq_true rfl) (eX2_isRing hw hI hV (by omega)) rfl ?_
          refine fx_if_eq (tgt := 35) dX2_greatestRing_30 (by decide) rfl (fun hc30 => ?_) (fun hc30 => ?_)
          · refine fs_iinc_2 (w := nI 1) dX2_greatestRing_35 (by decide) rfl (by decide) ?_
            refine fx_goto (tgt := 4) dX2_greatestRing_38 (by decide) ?_
            rw [nI_add]
            first | (rw [if_pos ⟨(nI_ltI (by omega) (by omega)).mp (Int32.not_le.mp hc22), nI_ne0' hc30⟩] at ih1; exact ih1) | (rw [if_neg (fun q => by rw [nI_eq0' hc30] at q; exact absurd q.2 (by decide))] at ih1; exact ih1) | (rw [if_neg (fun q => absurd ((nI_leI (by omega) (by omega)).mp hc22) (by omega))] at ih1; exact ih1)
          · refine fx_iload_n dX2_greatestRing_33 rfl rfl ?_
            refine fs_istore_n_1 dX2_greatestRing_34 rfl (by decide) ?_
            refine fs_iinc_2 (w := nI 1) dX2_greatestRing_35 (by decide) rfl (by decide) ?_
            refine fx_goto (tgt := 4) dX2_greatestRing_38 (by decide) ?_
            rw [nI_add]
            first | (rw [if_pos ⟨(nI_ltI (by omega) (by omega)).mp (Int32.not_le.mp hc22), nI_ne0' hc30⟩] at ih1; exact ih1) | (rw [if_neg (fun q => by rw [nI_eq0' hc30] at q; exact absurd q.2 (by decide))] at ih1; exact ih1) | (rw [if_neg (fun q => absurd ((nI_leI (by omega) (by omega)).mp hc22) (by omega))] at ih1; exact ih1)
  have H0 := H (2 ^ n - 1) 1 (by omega) (by omega)
  refine fx_iconst (v := nI 0) dX2_greatestRing_0 (by decide) ?_
  refine fs_istore_n_1 dX2_greatestRing_1 rfl (by decide) ?_
  refine fx_iconst (v := nI 1) dX2_greatestRing_2 (by decide) ?_
  refine fs_istore_n_2 dX2_greatestRing_3 rfl (by decide) ?_
  exact H0
end
