/-! ===== the class: runs of notes, counts of bits, stocks ===== -/
set_option maxRecDepth 100000
/-- longest, the run that goes on, the last note -/
def jcl (x : Nat) : Nat → Nat × Nat × Nat
  | 0 => (0, 0, 0)
  | k + 1 => if x.testBit k = true then (max (jcl x k).1 (if 0 < (jcl x k).2.1 ∧ k ≤ (jcl x k).2.2 + 2 then (jcl x k).2.1 + 1 else 1), (if 0 < (jcl x k).2.1 ∧ k ≤ (jcl x k).2.2 + 2 then (jcl x k).2.1 + 1 else 1), k) else jcl x k
theorem jcl_1 (x k : Nat) : jcl x (k + 1) = if x.testBit k = true then (max (jcl x k).1 (if 0 < (jcl x k).2.1 ∧ k ≤ (jcl x k).2.2 + 2 then (jcl x k).2.1 + 1 else 1), (if 0 < (jcl x k).2.1 ∧ k ≤ (jcl x k).2.2 + 2 then (jcl x k).2.1 + 1 else 1), k) else jcl x k := rfl
theorem jcl_b (x : Nat) : ∀ k, (jcl x k).1 ≤ k ∧ (jcl x k).2.1 ≤ k ∧ (0 < (jcl x k).2.1 → (jcl x k).2.2 < k) := by
  intro k
  induction k with
  | zero => exact ⟨Nat.le_refl _, Nat.le_refl _, fun h => absurd h (Nat.lt_irrefl _)⟩
  | succ k ih =>
    obtain ⟨i1, i2, i3⟩ := ih
    rw [jcl_1]
    by_cases hb : x.testBit k = true
    · rw [if_pos hb]
      by_cases hc : 0 < (jcl x k).2.1 ∧ k ≤ (jcl x k).2.2 + 2
      · rw [if_pos hc]; exact ⟨Nat.max_le.mpr ⟨by omega, by omega⟩, by show _ + 1 ≤ _; omega, fun _ => Nat.lt_succ_self k⟩
      · rw [if_neg hc]; exact ⟨Nat.max_le.mpr ⟨by omega, by omega⟩, by show 1 ≤ _; omega, fun _ => Nat.lt_succ_self k⟩
    · rw [if_neg hb]; exact ⟨by omega, by omega, fun h => by have := i3 h; omega⟩
def jcx (x k : Nat) (d : Int32) : Int32 := if (jcl x k).2.1 = 0 then d else nI (jcl x k).2.2
theorem j3 : ∀ k, k < 12 → ¬ nI k - (-3) < nI 3 := by decide +kernel
theorem j3' : ∀ k, k < 12 → ∀ l, l < k → (nI k - nI l < nI 3 ↔ k ≤ l + 2) := by decide +kernel
theorem jcl_lg (x : Nat) : ∀ k, k ≤ 12 → jlg x k = (nI (jcl x k).1, nI (jcl x k).2.1, jcx x k (-3)) := by
  intro k
  induction k with
  | zero => intro _; rfl
  | succ k ih =>
    intro hk
    have ih1 := ih (by omega)
    obtain ⟨i1, i2, i3⟩ := jcl_b x k
    have e1 : jlg x (k + 1) = if x.testBit k = true then (jmax (jlg x k).1 (if nI k - (jlg x k).2.2 < nI 3 then (jlg x k).2.1 + nI 1 else nI 1), (if nI k - (jlg x k).2.2 < nI 3 then (jlg x k).2.1 + nI 1 else nI 1), nI k) else jlg x k := rfl
    rw [e1]
    unfold jcx
    rw [jcl_1]
    by_cases hb : x.testBit k = true
    · rw [if_pos hb, if_pos hb, ih1]
      show (jmax (nI (jcl x k).1) (if nI k - jcx x k (-3) < nI 3 then nI (jcl x k).2.1 + nI 1 else nI 1), (if nI k - jcx x k (-3) < nI 3 then nI (jcl x k).2.1 + nI 1 else nI 1), nI k) = _
      have key : (nI k - jcx x k (-3) < nI 3) ↔ (0 < (jcl x k).2.1 ∧ k ≤ (jcl x k).2.2 + 2) := by
        unfold jcx
        by_cases h0 : (jcl x k).2.1 = 0
        · rw [if_pos h0]
          exact ⟨fun q => absurd q (j3 k (by omega)), fun q => by omega⟩
        · rw [if_neg h0, j3' k (by omega) _ (i3 (by omega))]
          exact ⟨fun q => ⟨by omega, q⟩, fun q => q.2⟩
      have e2 : (if nI k - jcx x k (-3) < nI 3 then nI (jcl x k).2.1 + nI 1 else nI 1) = nI (if 0 < (jcl x k).2.1 ∧ k ≤ (jcl x k).2.2 + 2 then (jcl x k).2.1 + 1 else 1) := by
        by_cases h : 0 < (jcl x k).2.1 ∧ k ≤ (jcl x k).2.2 + 2
        · rw [if_pos h, if_pos (key.mpr h), nI_add]
        · rw [if_neg h, if_neg (fun q => h (key.mp q))]
      have hr : (if 0 < (jcl x k).2.1 ∧ k ≤ (jcl x k).2.2 + 2 then (jcl x k).2.1 + 1 else 1) ≤ k + 1 ∧ ¬ (if 0 < (jcl x k).2.1 ∧ k ≤ (jcl x k).2.2 + 2 then (jcl x k).2.1 + 1 else 1) = 0 := by
        by_cases h : 0 < (jcl x k).2.1 ∧ k ≤ (jcl x k).2.2 + 2
        · rw [if_pos h]; omega
        · rw [if_neg h]; omega
      rw [e2, jmax_n (by omega) (by omega), if_neg hr.2]
    · rw [if_neg hb, if_neg hb, ih1]
      rfl
theorem eX3_longestRun {x : Nat} {h : zH} (hx : x < 2 ^ 31) : Mx mX3_longestRun [.int (nI x)] h (some (.int (nI (jcl x 12).1))) h := by
  refine mx_of (L := [some (.int (nI x)), none, none, none, none]) (by decide) (fun _ => rfl) (fun _ => Nat.le_of_ble_eq_true rfl) ?_
  have H : ∀ (k i : Nat), i + k = 12 → Fx mX3_longestRun (some (.int (nI (jcl x 12).1)), h) 9 [some (.int (nI x)), some (.int (nI (jcl x i).1)), some (.int (nI (jcl x i).2.1)), some (.int (jcx x i (-1))), some (.int (nI i))] [] h := by
    intro k
    induction k with
    | zero =>
      intro i hi
      have hi' : i = 12 := by omega
      subst hi'
      refine fx_iload dX3_longestRun_9 rfl ?_
      refine fx_bipush (v := nI 12) dX3_longestRun_11 (by decide) ?_
      refine fx_icmp_ge (tgt := 61) dX3_longestRun_13 (by decide) rfl (fun hc13 => ?_) (fun hc13 => ?_)
      · refine fx_iload_n dX3_longestRun_61 rfl rfl ?_
        exact fx_ireq dX3_longestRun_62 rfl rfl rfl rfl
      · exact absurd (Int32.le_refl _) hc13
    | succ k ih =>
      intro i hi
      have ih1 := ih (i + 1) (by omega)
      obtain ⟨i1, i2, i3⟩ := jcl_b x i
      have e1 := jcl_1 x i
      unfold jcx at ih1 ⊢
      rw [e1] at ih1
      cases hb : x.testBit i
      · rw [hb, if_neg (by decide)] at ih1
        refine fx_iload dX3_longestRun_9 rfl ?_
        refine fx_bipush (v := nI 12) dX3_longestRun_11 (by decide) ?_
        refine fx_icmp_ge (tgt := 61) dX3_longestRun_13 (by decide) rfl (fun hc13 => ?_) (fun hc13 => ?_)
        · exact absurd hc13 (nI_ge (by omega) (by omega))
        · refine fx_iload_n dX3_longestRun_16 rfl rfl ?_
          refine fx_i2l dX3_longestRun_17 ?_
          refine fx_iload dX3_longestRun_18 rfl ?_
          rw [nI_l hx]
          refine fx_callSv dX3_longestRun_20 sX3_holds lX3_168 (by decide) (Nat.le_of_ble_eq_true rfl) (eX3_holds (by omega) (by omega)) rfl ?_
          rw [hb]
          refine fx_if_eq (tgt := 55) dX3_longestRun_23 (by decide) rfl (fun hc23 => ?_) (fun hc23 => ?_)
          · refine fs_iinc_4 (w := nI 1) dX3_longestRun_55 (by decide) rfl (by decide) ?_
            refine fx_goto (tgt := 9) dX3_longestRun_58 (by decide) ?_
            rw [nI_add]
            exact ih1
          · exact absurd rfl hc23
      · rw [hb, if_pos rfl] at ih1
        by_cases hc : 0 < (jcl x i).2.1 ∧ i ≤ (jcl x i).2.2 + 2
        · have hl := i3 hc.1
          rw [if_pos hc, if_neg (by show ¬ _ + 1 = 0; omega)] at ih1
          rw [if_neg (by omega)]
          refine fx_iload dX3_longestRun_9 rfl ?_
          refine fx_bipush (v := nI 12) dX3_longestRun_11 (by decide) ?_
          refine fx_icmp_ge (tgt := 61) dX3_longestRun_13 (by decide) rfl (fun hc13 => ?_) (fun hc13 => ?_)
          · exact absurd hc13 (nI_ge (by omega) (by omega))
          · refine fx_iload_n dX3_longestRun_16 rfl rfl ?_
            refine fx_i2l dX3_longestRun_17 ?_
            refine fx_iload dX3_longestRun_18 rfl ?_
            rw [nI_l hx]
            refine fx_callSv dX3_longestRun_20 sX3_holds lX3_168 (by decide) (Nat.le_of_ble_eq_true rfl) (eX3_holds (by omega) (by omega)) rfl ?_
            rw [hb]
            refine fx_if_eq (tgt := 55) dX3_longestRun_23 (by decide) rfl (fun hc23 => ?_) (fun hc23 => ?_)
            · exact absurd hc23 (by decide)
            · refine fx_iload_n dX3_longestRun_26 rfl rfl ?_
              refine fx_if_le (tgt := 44) dX3_longestRun_27 (by decide) rfl (fun hc27 => ?_) (fun hc27 => ?_)
              · exact absurd hc27 (nI_nle hc.1 (by omega))
              · refine fx_iload dX3_longestRun_30 rfl ?_
                refine fx_iload_n dX3_longestRun_32 rfl rfl ?_
                refine fx_isub dX3_longestRun_33 ?_
                rw [pk_sub (by omega)]
                refine fx_iconst (v := nI 2) dX3_longestRun_34 (by decide) ?_
                refine fx_icmp_gt (tgt := 44) dX3_longestRun_35 (by decide) rfl (fun hc35 => ?_) (fun hc35 => ?_)
                · exact absurd hc35 (nI_nlt (by omega) (by omega))
                · refine fx_iload_n dX3_longestRun_38 rfl rfl ?_
                  refine fx_iconst (v := nI 1) dX3_longestRun_39 (by decide) ?_
                  refine fx_iadd dX3_longestRun_40 ?_
                  rw [nI_add]
                  refine fx_goto (tgt := 45) dX3_longestRun_41 (by decide) ?_
                  refine fs_istore_n_2 dX3_longestRun_45 rfl (by decide) ?_
                  refine fx_iload dX3_longestRun_46 rfl ?_
                  refine fs_istore_n_3 dX3_longestRun_48 rfl (by decide) ?_
                  refine fx_iload_n dX3_longestRun_49 rfl rfl ?_
                  refine fx_iload_n dX3_longestRun_50 rfl rfl ?_
                  refine fx_max dX3_longestRun_51 lX3_285 (by decide) (Nat.le_of_ble_eq_true rfl) ?_
                  rw [jmax_n (by omega) (by omega)]
                  refine fs_istore_n_1 dX3_longestRun_54 rfl (by decide) ?_
                  refine fs_iinc_4 (w := nI 1) dX3_longestRun_55 (by decide) rfl (by decide) ?_
                  refine fx_goto (tgt := 9) dX3_longestRun_58 (by decide) ?_
                  rw [nI_add]
                  exact ih1
        · rw [if_neg hc, if_neg (show ¬ 1 = 0 by decide)] at ih1
          by_cases h0 : (jcl x i).2.1 = 0
          · rw [h0, if_pos rfl]
            refine fx_iload dX3_longestRun_9 rfl ?_
            refine fx_bipush (v := nI 12) dX3_longestRun_11 (by decide) ?_
            refine fx_icmp_ge (tgt := 61) dX3_longestRun_13 (by decide) rfl (fun hc13 => ?_) (fun hc13 => ?_)
            · exact absurd hc13 (nI_ge (by omega) (by omega))
            · refine fx_iload_n dX3_longestRun_16 rfl rfl ?_
              refine fx_i2l dX3_longestRun_17 ?_
              refine fx_iload dX3_longestRun_18 rfl ?_
              rw [nI_l hx]
              refine fx_callSv dX3_longestRun_20 sX3_holds lX3_168 (by decide) (Nat.le_of_ble_eq_true rfl) (eX3_holds (by omega) (by omega)) rfl ?_
              rw [hb]
              refine fx_if_eq (tgt := 55) dX3_longestRun_23 (by decide) rfl (fun hc23 => ?_) (fun hc23 => ?_)
              · exact absurd hc23 (by decide)
              · refine fx_iload_n dX3_longestRun_26 rfl rfl ?_
                refine fx_if_le (tgt := 44) dX3_longestRun_27 (by decide) rfl (fun hc27 => ?_) (fun hc27 => ?_)
                · refine fx_iconst (v := nI 1) dX3_longestRun_44 (by decide) ?_
                  refine fs_istore_n_2 dX3_longestRun_45 rfl (by decide) ?_
                  refine fx_iload dX3_longestRun_46 rfl ?_
                  refine fs_istore_n_3 dX3_longestRun_48 rfl (by decide) ?_
                  refine fx_iload_n dX3_longestRun_49 rfl rfl ?_
                  refine fx_iload_n dX3_longestRun_50 rfl rfl ?_
                  refine fx_max dX3_longestRun_51 lX3_285 (by decide) (Nat.le_of_ble_eq_true rfl) ?_
                  rw [jmax_n (by omega) (by omega)]
                  refine fs_istore_n_1 dX3_longestRun_54 rfl (by decide) ?_
                  refine fs_iinc_4 (w := nI 1) dX3_longestRun_55 (by decide) rfl (by decide) ?_
                  refine fx_goto (tgt := 9) dX3_longestRun_58 (by decide) ?_
                  rw [nI_add]
                  exact ih1
                · exact absurd (by decide) hc27
          · have hl := i3 (by omega)
            rw [if_neg h0]
            refine fx_iload dX3_longestRun_9 rfl ?_
            refine fx_bipush (v := nI 12) dX3_longestRun_11 (by decide) ?_
            refine fx_icmp_ge (tgt := 61) dX3_longestRun_13 (by decide) rfl (fun hc13 => ?_) (fun hc13 => ?_)
            · exact absurd hc13 (nI_ge (by omega) (by omega))
            · refine fx_iload_n dX3_longestRun_16 rfl rfl ?_
              refine fx_i2l dX3_longestRun_17 ?_
              refine fx_iload dX3_longestRun_18 rfl ?_
              rw [nI_l hx]
              refine fx_callSv dX3_longestRun_20 sX3_holds lX3_168 (by decide) (Nat.le_of_ble_eq_true rfl) (eX3_holds (by omega) (by omega)) rfl ?_
              rw [hb]
              refine fx_if_eq (tgt := 55) dX3_longestRun_23 (by decide) rfl (fun hc23 => ?_) (fun hc23 => ?_)
              · exact absurd hc23 (by decide)
              · refine fx_iload_n dX3_longestRun_26 rfl rfl ?_
                refine fx_if_le (tgt := 44) dX3_longestRun_27 (by decide) rfl (fun hc27 => ?_) (fun hc27 => ?_)
                · exact absurd hc27 (nI_nle (by omega) (by omega))
                · refine fx_iload dX3_longestRun_30 rfl ?_
                  refine fx_iload_n dX3_longestRun_32 rfl rfl ?_
                  refine fx_isub dX3_longestRun_33 ?_
                  rw [pk_sub (by omega)]
                  refine fx_iconst (v := nI 2) dX3_longestRun_34 (by decide) ?_
                  refine fx_icmp_gt (tgt := 44) dX3_longestRun_35 (by decide) rfl (fun hc35 => ?_) (fun hc35 => ?_)
                  · refine fx_iconst (v := nI 1) dX3_longestRun_44 (by decide) ?_
                    refine fs_istore_n_2 dX3_longestRun_45 rfl (by decide) ?_
                    refine fx_iload dX3_longestRun_46 rfl ?_
                    refine fs_istore_n_3 dX3_longestRun_48 rfl (by decide) ?_
                    refine fx_iload_n dX3_longestRun_49 rfl rfl ?_
                    refine fx_iload_n dX3_longestRun_50 rfl rfl ?_
                    refine fx_max dX3_longestRun_51 lX3_285 (by decide) (Nat.le_of_ble_eq_true rfl) ?_
                    rw [jmax_n (by omega) (by omega)]
                    refine fs_istore_n_1 dX3_longestRun_54 rfl (by decide) ?_
                    refine fs_iinc_4 (w := nI 1) dX3_longestRun_55 (by decide) rfl (by decide) ?_
                    refine fx_goto (tgt := 9) dX3_longestRun_58 (by decide) ?_
                    rw [nI_add]
                    exact ih1
                  · exact absurd (nI_lt (by omega) (by omega)) hc35
  refine fx_iconst (v := nI 0) dX3_longestRun_0 (by decide) ?_
  refine fs_istore_n_1 dX3_longestRun_1 rfl (by decide) ?_
  refine fx_iconst (v := nI 0) dX3_longestRun_2 (by decide) ?_
  refine fs_istore_n_2 dX3_longestRun_3 rfl (by decide) ?_
  refine fx_iconst (v := (-1)) dX3_longestRun_4 (by decide) ?_
  refine fs_istore_n_3 dX3_longestRun_5 rfl (by decide) ?_
  refine fx_iconst (v := nI 0) dX3_longestRun_6 (by decide) ?_
  refine fs_istore_4 dX3_longestRun_7 rfl (by decide) ?_
  exact H 12 0 (by omega)
theorem eX3_stockBehind {m c y : Nat} {h : zH} (hm : m ≤ 9999) (hc : c ≤ 999) (hy : y ≤ 99) : Mx mX3_stockBehind [.int (nI m), .int (nI c), .int (nI y)] h (some (.int (nI (jstk m c y)))) h := by
  refine mx_of (L := [some (.int (nI m)), some (.int (nI c)), some (.int (nI y)), none, none]) (by decide) (fun _ => rfl) (fun _ => Nat.le_of_ble_eq_true rfl) ?_
  have H : ∀ (k i : Nat), i + k = y → Fx mX3_stockBehind (some (.int (nI (jstk m c y))), h) 5 [some (.int (nI m)), some (.int (nI c)), some (.int (nI y)), some (.int (nI (jstk m c i))), some (.int (nI i))] [] h := by
    intro k
    induction k with
    | zero =>
      intro i hi
      have hi' : i = y := by omega
      subst hi'
      refine fx_iload dX3_stockBehind_5 rfl ?_
      refine fx_iload_n dX3_stockBehind_7 rfl rfl ?_
      refine fx_icmp_ge (tgt := 38) dX3_stockBehind_8 (by decide) rfl (fun hc8 => ?_) (fun hc8 => ?_)
      · refine fx_iload_n dX3_stockBehind_38 rfl rfl ?_
        exact fx_ireq dX3_stockBehind_39 rfl rfl rfl rfl
      · exact absurd (Int32.le_refl _) hc8
    | succ k ih =>
      intro i hi
      have ih1 := ih (i + 1) (by omega)
      have hle := jstk_le (c := c) hm i
      have e1 : jstk m c (i + 1) = min 9999 ((jstk m c i - min c (jstk m c i)) + (jstk m c i - min c (jstk m c i)) / 10) := rfl
      rw [e1] at ih1
      refine fx_iload dX3_stockBehind_5 rfl ?_
      refine fx_iload_n dX3_stockBehind_7 rfl rfl ?_
      refine fx_icmp_ge (tgt := 38) dX3_stockBehind_8 (by decide) rfl (fun hc8 => ?_) (fun hc8 => ?_)
      · exact absurd hc8 (nI_ge (by omega) (by omega))
      · refine fx_iload_n dX3_stockBehind_11 rfl rfl ?_
        refine fx_iload_n dX3_stockBehind_12 rfl rfl ?_
        refine fx_iload_n dX3_stockBehind_13 rfl rfl ?_
        refine fx_min dX3_stockBehind_14 lX3_290 (by decide) (Nat.le_of_ble_eq_true rfl) ?_
        rw [jmin_n (by omega) (by omega)]
        refine fx_isub dX3_stockBehind_17 ?_
        rw [pk_sub (Nat.min_le_right _ _)]
        refine fs_istore_n_3 dX3_stockBehind_18 rfl (by decide) ?_
        refine fx_iload_n dX3_stockBehind_19 rfl rfl ?_
        refine fx_iload_n dX3_stockBehind_20 rfl rfl ?_
        refine fx_bipush (v := nI 10) dX3_stockBehind_21 (by decide) ?_
        refine fx_idiv dX3_stockBehind_23 (by decide) ?_
        rw [pk_div (by omega) (by decide) (by decide)]
        refine fx_iadd dX3_stockBehind_24 ?_
        rw [nI_add]
        refine fx_sipush (v := nI 9999) dX3_stockBehind_25 (by decide) ?_
        refine fx_min dX3_stockBehind_28 lX3_290 (by decide) (Nat.le_of_ble_eq_true rfl) ?_
        rw [jmin_n (by omega) (by omega), Nat.min_comm _ 9999]
        refine fs_istore_n_3 dX3_stockBehind_31 rfl (by decide) ?_
        refine fs_iinc_4 (w := nI 1) dX3_stockBehind_32 (by decide) rfl (by decide) ?_
        refine fx_goto (tgt := 5) dX3_stockBehind_35 (by decide) ?_
        rw [nI_add]
        exact ih1
  refine fx_iload_n dX3_stockBehind_0 rfl rfl ?_
  refine fs_istore_n_3 dX3_stockBehind_1 rfl (by decide) ?_
  refine fx_iconst (v := nI 0) dX3_stockBehind_2 (by decide) ?_
  refine fs_istore_4 dX3_stockBehind_3 rfl (by decide) ?_
  exact H y 0 (by omega)
/-- the count of bits that Integer.bitCount makes -/
def jbc (x : Int32) : Int32 :=
  let x1 := x - ((x.toUInt32 >>> ((nI 1).toUInt32 &&& Int32.toUInt32 31)).toInt32 &&& 1431655765)
  let x2 := (x1 &&& 858993459) + ((x1.toUInt32 >>> ((nI 2).toUInt32 &&& Int32.toUInt32 31)).toInt32 &&& 858993459)
  let x3 := (x2 + (x2.toUInt32 >>> ((nI 4).toUInt32 &&& Int32.toUInt32 31)).toInt32) &&& 252645135
  let x4 := x3 + (x3.toUInt32 >>> ((nI 8).toUInt32 &&& Int32.toUInt32 31)).toInt32
  let x5 := x4 + (x4.toUInt32 >>> ((nI 16).toUInt32 &&& Int32.toUInt32 31)).toInt32
  x5 &&& nI 63
theorem jbc_e : ∀ x, x < 256 → jbc (nI x) = nI (jp x) := by decide +kernel
theorem eJ6_bitCount_0f7a4 {x : Nat} {h : zH} (hx : x < 256) : Mx mJ6_bitCount_0f7a4 [.int (nI x)] h (some (.int (nI (jp x)))) h := by
  refine mx_of (L := [some (.int (nI x))]) (by decide) (fun _ => rfl) (fun _ => Nat.le_of_ble_eq_true rfl) ?_
  refine fx_iload_n dJ6_bitCount_0f7a4_0 rfl rfl ?_
  refine fx_iload_n dJ6_bitCount_0f7a4_1 rfl rfl ?_
  refine fx_iconst (v := nI 1) dJ6_bitCount_0f7a4_2 (by decide) ?_
  refine fx_iushr dJ6_bitCount_0f7a4_3 ?_
  refine fx_ldcw dJ6_bitCount_0f7a4_4 qJ6_265 ?_
  refine fx_iand dJ6_bitCount_0f7a4_7 ?_
  refine fx_isub dJ6_bitCount_0f7a4_8 ?_
  refine fs_istore_n_0 dJ6_bitCount_0f7a4_9 rfl (by decide) ?_
  refine fx_iload_n dJ6_bitCount_0f7a4_10 rfl rfl ?_
  refine fx_ldcw dJ6_bitCount_0f7a4_11 qJ6_266 ?_
  refine fx_iand dJ6_bitCount_0f7a4_14 ?_
  refine fx_iload_n dJ6_bitCount_0f7a4_15 rfl rfl ?_
  refine fx_iconst (v := nI 2) dJ6_bitCount_0f7a4_16 (by decide) ?_
  refine fx_iushr dJ6_bitCount_0f7a4_17 ?_
  refine fx_ldcw dJ6_bitCount_0f7a4_18 qJ6_266 ?_
  refine fx_iand dJ6_bitCount_0f7a4_21 ?_
  refine fx_iadd dJ6_bitCount_0f7a4_22 ?_
  refine fs_istore_n_0 dJ6_bitCount_0f7a4_23 rfl (by decide) ?_
  refine fx_iload_n dJ6_bitCount_0f7a4_24 rfl rfl ?_
  refine fx_iload_n dJ6_bitCount_0f7a4_25 rfl rfl ?_
  refine fx_iconst (v := nI 4) dJ6_bitCount_0f7a4_26 (by decide) ?_
  refine fx_iushr dJ6_bitCount_0f7a4_27 ?_
  refine fx_iadd dJ6_bitCount_0f7a4_28 ?_
  refine fx_ldcw dJ6_bitCount_0f7a4_29 qJ6_267 ?_
  refine fx_iand dJ6_bitCount_0f7a4_32 ?_
  refine fs_istore_n_0 dJ6_bitCount_0f7a4_33 rfl (by decide) ?_
  refine fx_iload_n dJ6_bitCount_0f7a4_34 rfl rfl ?_
  refine fx_iload_n dJ6_bitCount_0f7a4_35 rfl rfl ?_
  refine fx_bipush (v := nI 8) dJ6_bitCount_0f7a4_36 (by decide) ?_
  refine fx_iushr dJ6_bitCount_0f7a4_38 ?_
  refine fx_iadd dJ6_bitCount_0f7a4_39 ?_
  refine fs_istore_n_0 dJ6_bitCount_0f7a4_40 rfl (by decide) ?_
  refine fx_iload_n dJ6_bitCount_0f7a4_41 rfl rfl ?_
  refine fx_iload_n dJ6_bitCount_0f7a4_42 rfl rfl ?_
  refine fx_bipush (v := nI 16) dJ6_bitCount_0f7a4_43 (by decide) ?_
  refine fx_iushr dJ6_bitCount_0f7a4_45 ?_
  refine fx_iadd dJ6_bitCount_0f7a4_46 ?_
  refine fs_istore_n_0 dJ6_bitCount_0f7a4_47 rfl (by decide) ?_
  refine fx_iload_n dJ6_bitCount_0f7a4_48 rfl rfl ?_
  refine fx_bipush (v := nI 63) dJ6_bitCount_0f7a4_49 (by decide) ?_
  refine fx_iand dJ6_bitCount_0f7a4_51 ?_
  exact fx_ireq dJ6_bitCount_0f7a4_52 rfl rfl (jbc_e x hx) rfl
