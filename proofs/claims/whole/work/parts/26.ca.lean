/-! ===== the class: leaves ===== -/
set_option maxRecDepth 100000
theorem jwi_neg {v : Int32} {k : Nat} (h : v < 0) : jwi v (nI 0) (nI k) = false := jwi_lo (by rw [nI_0]; exact h)
theorem jwi_ge {v : Int32} {k : Nat} (hk : k + 1 < 2 ^ 31) (h : nI (k + 1) ≤ v) : jwi v (nI 0) (nI k) = false := jwi_hi (by
  rw [Int32.lt_iff_toInt_lt, nI_toInt (by omega)]
  rw [Int32.le_iff_toInt_le, nI_toInt hk] at h
  omega)
theorem jwi_yes {v : Int32} {k : Nat} (hk : k + 1 < 2 ^ 31) (h : ¬ v < 0) (h2 : ¬ nI (k + 1) ≤ v) : jwi v (nI 0) (nI k) = true := jwi_in (by rw [nI_0]; exact h) (by
  rw [Int32.lt_iff_toInt_lt, nI_toInt (by omega)]
  rw [Int32.le_iff_toInt_le, nI_toInt hk] at h2
  omega)
theorem eX3_isCell {v : Int32} {h : zH} : Mx mX3_isCell [.int v] h (some (.int (jB (jwi v (nI 0) (nI 63))))) h := by
  refine mx_of (L := [some (.int v)]) (by decide) (fun _ => rfl) (fun _ => Nat.le_of_ble_eq_true rfl) ?_
  refine fx_iload_n dX3_isCell_0 rfl rfl ?_
  refine fx_if_lt (tgt := 14) dX3_isCell_1 (by decide) rfl (fun hc1 => ?_) (fun hc1 => ?_)
  · refine fx_iconst (v := nI 0) dX3_isCell_14 (by decide) ?_
    exact fx_ireq dX3_isCell_15 rfl (jB_n _) (by first | (rw [jwi_neg hc1]; rfl) | (rw [jwi_ge (by decide) hc7]; rfl) | (rw [jwi_yes (by decide) hc1 hc7]; rfl)) rfl
  · refine fx_iload_n dX3_isCell_4 rfl rfl ?_
    refine fx_bipush (v := nI 64) dX3_isCell_5 (by decide) ?_
    refine fx_icmp_ge (tgt := 14) dX3_isCell_7 (by decide) rfl (fun hc7 => ?_) (fun hc7 => ?_)
    · refine fx_iconst (v := nI 0) dX3_isCell_14 (by decide) ?_
      exact fx_ireq dX3_isCell_15 rfl (jB_n _) (by first | (rw [jwi_neg hc1]; rfl) | (rw [jwi_ge (by decide) hc7]; rfl) | (rw [jwi_yes (by decide) hc1 hc7]; rfl)) rfl
    · refine fx_iconst (v := nI 1) dX3_isCell_10 (by decide) ?_
      refine fx_goto (tgt := 15) dX3_isCell_11 (by decide) ?_
      exact fx_ireq dX3_isCell_15 rfl (jB_n _) (by first | (rw [jwi_neg hc1]; rfl) | (rw [jwi_ge (by decide) hc7]; rfl) | (rw [jwi_yes (by decide) hc1 hc7]; rfl)) rfl
theorem eX3_isHunter {v : Int32} {h : zH} : Mx mX3_isHunter [.int v] h (some (.int (jB (jwi v (nI 0) (nI 3))))) h := by
  refine mx_of (L := [some (.int v)]) (by decide) (fun _ => rfl) (fun _ => Nat.le_of_ble_eq_true rfl) ?_
  refine fx_iload_n dX3_isHunter_0 rfl rfl ?_
  refine fx_if_lt (tgt := 13) dX3_isHunter_1 (by decide) rfl (fun hc1 => ?_) (fun hc1 => ?_)
  · refine fx_iconst (v := nI 0) dX3_isHunter_13 (by decide) ?_
    exact fx_ireq dX3_isHunter_14 rfl (jB_n _) (by first | (rw [jwi_neg hc1]; rfl) | (rw [jwi_ge (by decide) hc6]; rfl) | (rw [jwi_yes (by decide) hc1 hc6]; rfl)) rfl
  · refine fx_iload_n dX3_isHunter_4 rfl rfl ?_
    refine fx_iconst (v := nI 4) dX3_isHunter_5 (by decide) ?_
    refine fx_icmp_ge (tgt := 13) dX3_isHunter_6 (by decide) rfl (fun hc6 => ?_) (fun hc6 => ?_)
    · refine fx_iconst (v := nI 0) dX3_isHunter_13 (by decide) ?_
      exact fx_ireq dX3_isHunter_14 rfl (jB_n _) (by first | (rw [jwi_neg hc1]; rfl) | (rw [jwi_ge (by decide) hc6]; rfl) | (rw [jwi_yes (by decide) hc1 hc6]; rfl)) rfl
    · refine fx_iconst (v := nI 1) dX3_isHunter_9 (by decide) ?_
      refine fx_goto (tgt := 14) dX3_isHunter_10 (by decide) ?_
      exact fx_ireq dX3_isHunter_14 rfl (jB_n _) (by first | (rw [jwi_neg hc1]; rfl) | (rw [jwi_ge (by decide) hc6]; rfl) | (rw [jwi_yes (by decide) hc1 hc6]; rfl)) rfl
theorem eX3_isKind {v : Int32} {h : zH} : Mx mX3_isKind [.int v] h (some (.int (jB (jwi v (nI 0) (nI 6))))) h := by
  refine mx_of (L := [some (.int v)]) (by decide) (fun _ => rfl) (fun _ => Nat.le_of_ble_eq_true rfl) ?_
  refine fx_iload_n dX3_isKind_0 rfl rfl ?_
  refine fx_if_lt (tgt := 14) dX3_isKind_1 (by decide) rfl (fun hc1 => ?_) (fun hc1 => ?_)
  · refine fx_iconst (v := nI 0) dX3_isKind_14 (by decide) ?_
    exact fx_ireq dX3_isKind_15 rfl (jB_n _) (by first | (rw [jwi_neg hc1]; rfl) | (rw [jwi_ge (by decide) hc7]; rfl) | (rw [jwi_yes (by decide) hc1 hc7]; rfl)) rfl
  · refine fx_iload_n dX3_isKind_4 rfl rfl ?_
    refine fx_bipush (v := nI 7) dX3_isKind_5 (by decide) ?_
    refine fx_icmp_ge (tgt := 14) dX3_isKind_7 (by decide) rfl (fun hc7 => ?_) (fun hc7 => ?_)
    · refine fx_iconst (v := nI 0) dX3_isKind_14 (by decide) ?_
      exact fx_ireq dX3_isKind_15 rfl (jB_n _) (by first | (rw [jwi_neg hc1]; rfl) | (rw [jwi_ge (by decide) hc7]; rfl) | (rw [jwi_yes (by decide) hc1 hc7]; rfl)) rfl
    · refine fx_iconst (v := nI 1) dX3_isKind_10 (by decide) ?_
      refine fx_goto (tgt := 15) dX3_isKind_11 (by decide) ?_
      exact fx_ireq dX3_isKind_15 rfl (jB_n _) (by first | (rw [jwi_neg hc1]; rfl) | (rw [jwi_ge (by decide) hc7]; rfl) | (rw [jwi_yes (by decide) hc1 hc7]; rfl)) rfl
theorem eX3_isNote {v : Int32} {h : zH} : Mx mX3_isNote [.int v] h (some (.int (jB (jwi v (nI 0) (nI 11))))) h := by
  refine mx_of (L := [some (.int v)]) (by decide) (fun _ => rfl) (fun _ => Nat.le_of_ble_eq_true rfl) ?_
  refine fx_iload_n dX3_isNote_0 rfl rfl ?_
  refine fx_if_lt (tgt := 14) dX3_isNote_1 (by decide) rfl (fun hc1 => ?_) (fun hc1 => ?_)
  · refine fx_iconst (v := nI 0) dX3_isNote_14 (by decide) ?_
    exact fx_ireq dX3_isNote_15 rfl (jB_n _) (by first | (rw [jwi_neg hc1]; rfl) | (rw [jwi_ge (by decide) hc7]; rfl) | (rw [jwi_yes (by decide) hc1 hc7]; rfl)) rfl
  · refine fx_iload_n dX3_isNote_4 rfl rfl ?_
    refine fx_bipush (v := nI 12) dX3_isNote_5 (by decide) ?_
    refine fx_icmp_ge (tgt := 14) dX3_isNote_7 (by decide) rfl (fun hc7 => ?_) (fun hc7 => ?_)
    · refine fx_iconst (v := nI 0) dX3_isNote_14 (by decide) ?_
      exact fx_ireq dX3_isNote_15 rfl (jB_n _) (by first | (rw [jwi_neg hc1]; rfl) | (rw [jwi_ge (by decide) hc7]; rfl) | (rw [jwi_yes (by decide) hc1 hc7]; rfl)) rfl
    · refine fx_iconst (v := nI 1) dX3_isNote_10 (by decide) ?_
      refine fx_goto (tgt := 15) dX3_isNote_11 (by decide) ?_
      exact fx_ireq dX3_isNote_15 rfl (jB_n _) (by first | (rw [jwi_neg hc1]; rfl) | (rw [jwi_ge (by decide) hc7]; rfl) | (rw [jwi_yes (by decide) hc1 hc7]; rfl)) rfl
theorem eX3_isSpot {v : Int32} {h : zH} : Mx mX3_isSpot [.int v] h (some (.int (jB (jwi v (nI 0) (nI 9))))) h := by
  refine mx_of (L := [some (.int v)]) (by decide) (fun _ => rfl) (fun _ => Nat.le_of_ble_eq_true rfl) ?_
  refine fx_iload_n dX3_isSpot_0 rfl rfl ?_
  refine fx_if_lt (tgt := 14) dX3_isSpot_1 (by decide) rfl (fun hc1 => ?_) (fun hc1 => ?_)
  · refine fx_iconst (v := nI 0) dX3_isSpot_14 (by decide) ?_
    exact fx_ireq dX3_isSpot_15 rfl (jB_n _) (by first | (rw [jwi_neg hc1]; rfl) | (rw [jwi_ge (by decide) hc7]; rfl) | (rw [jwi_yes (by decide) hc1 hc7]; rfl)) rfl
  · refine fx_iload_n dX3_isSpot_4 rfl rfl ?_
    refine fx_bipush (v := nI 10) dX3_isSpot_5 (by decide) ?_
    refine fx_icmp_ge (tgt := 14) dX3_isSpot_7 (by decide) rfl (fun hc7 => ?_) (fun hc7 => ?_)
    · refine fx_iconst (v := nI 0) dX3_isSpot_14 (by decide) ?_
      exact fx_ireq dX3_isSpot_15 rfl (jB_n _) (by first | (rw [jwi_neg hc1]; rfl) | (rw [jwi_ge (by decide) hc7]; rfl) | (rw [jwi_yes (by decide) hc1 hc7]; rfl)) rfl
    · refine fx_iconst (v := nI 1) dX3_isSpot_10 (by decide) ?_
      refine fx_goto (tgt := 15) dX3_isSpot_11 (by decide) ?_
      exact fx_ireq dX3_isSpot_15 rfl (jB_n _) (by first | (rw [jwi_neg hc1]; rfl) | (rw [jwi_ge (by decide) hc7]; rfl) | (rw [jwi_yes (by decide) hc1 hc7]; rfl)) rfl
theorem eX3_isSheet {v : Int32} {h : zH} : Mx mX3_isSheet [.int v] h (some (.int (jB (jwi v (nI 0) (nI 3))))) h := by
  refine mx_of (L := [some (.int v)]) (by decide) (fun _ => rfl) (fun _ => Nat.le_of_ble_eq_true rfl) ?_
  refine fx_iload_n dX3_isSheet_0 rfl rfl ?_
  refine fx_if_lt (tgt := 13) dX3_isSheet_1 (by decide) rfl (fun hc1 => ?_) (fun hc1 => ?_)
  · refine fx_iconst (v := nI 0) dX3_isSheet_13 (by decide) ?_
    exact fx_ireq dX3_isSheet_14 rfl (jB_n _) (by first | (rw [jwi_neg hc1]; rfl) | (rw [jwi_ge (by decide) hc6]; rfl) | (rw [jwi_yes (by decide) hc1 hc6]; rfl)) rfl
  · refine fx_iload_n dX3_isSheet_4 rfl rfl ?_
    refine fx_iconst (v := nI 4) dX3_isSheet_5 (by decide) ?_
    refine fx_icmp_ge (tgt := 13) dX3_isSheet_6 (by decide) rfl (fun hc6 => ?_) (fun hc6 => ?_)
    · refine fx_iconst (v := nI 0) dX3_isSheet_13 (by decide) ?_
      exact fx_ireq dX3_isSheet_14 rfl (jB_n _) (by first | (rw [jwi_neg hc1]; rfl) | (rw [jwi_ge (by decide) hc6]; rfl) | (rw [jwi_yes (by decide) hc1 hc6]; rfl)) rfl
    · refine fx_iconst (v := nI 1) dX3_isSheet_9 (by decide) ?_
      refine fx_goto (tgt := 14) dX3_isSheet_10 (by decide) ?_
      exact fx_ireq dX3_isSheet_14 rfl (jB_n _) (by first | (rw [jwi_neg hc1]; rfl) | (rw [jwi_ge (by decide) hc6]; rfl) | (rw [jwi_yes (by decide) hc1 hc6]; rfl)) rfl
theorem eX3_isWeight {v : Int32} {h : zH} : Mx mX3_isWeight [.int v] h (some (.int (jB (jwi v (nI 1) (nI 99))))) h := by
  refine mx_of (L := [some (.int v)]) (by decide) (fun _ => rfl) (fun _ => Nat.le_of_ble_eq_true rfl) ?_
  refine fx_iload_n dX3_isWeight_0 rfl rfl ?_
  refine fx_iconst (v := nI 1) dX3_isWeight_1 (by decide) ?_
  refine fx_icmp_lt (tgt := 15) dX3_isWeight_2 (by decide) rfl (fun hc2 => ?_) (fun hc2 => ?_)
  · refine fx_iconst (v := nI 0) dX3_isWeight_15 (by decide) ?_
    exact fx_ireq dX3_isWeight_16 rfl (jB_n _) (by first | (rw [jwi_lo hc2]; rfl) | (rw [jwi_hi hc8]; rfl) | (rw [jwi_in hc2 hc8]; rfl)) rfl
  · refine fx_iload_n dX3_isWeight_5 rfl rfl ?_
    refine fx_bipush (v := nI 99) dX3_isWeight_6 (by decide) ?_
    refine fx_icmp_gt (tgt := 15) dX3_isWeight_8 (by decide) rfl (fun hc8 => ?_) (fun hc8 => ?_)
    · refine fx_iconst (v := nI 0) dX3_isWeight_15 (by decide) ?_
      exact fx_ireq dX3_isWeight_16 rfl (jB_n _) (by first | (rw [jwi_lo hc2]; rfl) | (rw [jwi_hi hc8]; rfl) | (rw [jwi_in hc2 hc8]; rfl)) rfl
    · refine fx_iconst (v := nI 1) dX3_isWeight_11 (by decide) ?_
      refine fx_goto (tgt := 16) dX3_isWeight_12 (by decide) ?_
      exact fx_ireq dX3_isWeight_16 rfl (jB_n _) (by first | (rw [jwi_lo hc2]; rfl) | (rw [jwi_hi hc8]; rfl) | (rw [jwi_in hc2 hc8]; rfl)) rfl
theorem eX3_isStock {v : Int32} {h : zH} : Mx mX3_isStock [.int v] h (some (.int (jB (jwi v (nI 0) (nI 9999))))) h := by
  refine mx_of (L := [some (.int v)]) (by decide) (fun _ => rfl) (fun _ => Nat.le_of_ble_eq_true rfl) ?_
  refine fx_iload_n dX3_isStock_0 rfl rfl ?_
  refine fx_if_lt (tgt := 15) dX3_isStock_1 (by decide) rfl (fun hc1 => ?_) (fun hc1 => ?_)
  · refine fx_iconst (v := nI 0) dX3_isStock_15 (by decide) ?_
    exact fx_ireq dX3_isStock_16 rfl (jB_n _) (by first | (rw [jwi_neg hc1]; rfl) | (rw [jwi_hi hc8]; rfl) | (rw [jwi_in (by rw [nI_0]; exact hc1) hc8]; rfl)) rfl
  · refine fx_iload_n dX3_isStock_4 rfl rfl ?_
    refine fx_sipush (v := nI 9999) dX3_isStock_5 (by decide) ?_
    refine fx_icmp_gt (tgt := 15) dX3_isStock_8 (by decide) rfl (fun hc8 => ?_) (fun hc8 => ?_)
    · refine fx_iconst (v := nI 0) dX3_isStock_15 (by decide) ?_
      exact fx_ireq dX3_isStock_16 rfl (jB_n _) (by first | (rw [jwi_neg hc1]; rfl) | (rw [jwi_hi hc8]; rfl) | (rw [jwi_in (by rw [nI_0]; exact hc1) hc8]; rfl)) rfl
    · refine fx_iconst (v := nI 1) dX3_isStock_11 (by decide) ?_
      refine fx_goto (tgt := 16) dX3_isStock_12 (by decide) ?_
      exact fx_ireq dX3_isStock_16 rfl (jB_n _) (by first | (rw [jwi_neg hc1]; rfl) | (rw [jwi_hi hc8]; rfl) | (rw [jwi_in (by rw [nI_0]; exact hc1) hc8]; rfl)) rfl
theorem eX3_isTrait {v : Int32} {h : zH} : Mx mX3_isTrait [.int v] h (some (.int (jB (jwi v (nI 0) (nI 4))))) h := by
  refine mx_of (L := [some (.int v)]) (by decide) (fun _ => rfl) (fun _ => Nat.le_of_ble_eq_true rfl) ?_
  refine fx_iload_n dX3_isTrait_0 rfl rfl ?_
  refine fx_if_lt (tgt := 13) dX3_isTrait_1 (by decide) rfl (fun hc1 => ?_) (fun hc1 => ?_)
  · refine fx_iconst (v := nI 0) dX3_isTrait_13 (by decide) ?_
    exact fx_ireq dX3_isTrait_14 rfl (jB_n _) (by first | (rw [jwi_neg hc1]; rfl) | (rw [jwi_hi hc6]; rfl) | (rw [jwi_in (by rw [nI_0]; exact hc1) hc6]; rfl)) rfl
  · refine fx_iload_n dX3_isTrait_4 rfl rfl ?_
    refine fx_iconst (v := nI 4) dX3_isTrait_5 (by decide) ?_
    refine fx_icmp_gt (tgt := 13) dX3_isTrait_6 (by decide) rfl (fun hc6 => ?_) (fun hc6 => ?_)
    · refine fx_iconst (v := nI 0) dX3_isTrait_13 (by decide) ?_
      exact fx_ireq dX3_isTrait_14 rfl (jB_n _) (by first | (rw [jwi_neg hc1]; rfl) | (rw [jwi_hi hc6]; rfl) | (rw [jwi_in (by rw [nI_0]; exact hc1) hc6]; rfl)) rfl
    · refine fx_iconst (v := nI 1) dX3_isTrait_9 (by decide) ?_
      refine fx_goto (tgt := 14) dX3_isTrait_10 (by decide) ?_
      exact fx_ireq dX3_isTrait_14 rfl (jB_n _) (by first | (rw [jwi_neg hc1]; rfl) | (rw [jwi_hi hc6]; rfl) | (rw [jwi_in (by rw [nI_0]; exact hc1) hc6]; rfl)) rfl
theorem jwi_01 {v : Int32} (h : v = 0 ∨ v = nI 1) : jwi v (nI 0) (nI 1) = true := by rcases h with rfl | rfl <;> decide
theorem jwi_n01 {v : Int32} (h : ¬ v = 0) (h2 : ¬ v = nI 1) : jwi v (nI 0) (nI 1) = false := by
  cases e : jwi v (nI 0) (nI 1)
  · rfl
  · obtain ⟨j, hj, rfl⟩ := jwi_of (k := 1) (by decide) e
    rcases (show j = 0 ∨ j = 1 by omega) with rfl | rfl
    · exact absurd nI_0 h
    · exact absurd rfl h2
theorem eX3_suits {j : Nat} {v : Int32} {h : zH} (hj : j ≤ 4) : Mx mX3_suits [.int (nI j), .int v] h (some (.int (jB (jmb j v)))) h := by
  refine mx_of (L := [some (.int (nI j)), some (.int v)]) (by decide) (fun _ => rfl) (fun _ => Nat.le_of_ble_eq_true rfl) ?_
  have T : ∀ t : Nat, Fx mX3_suits (some (.int (jB (jmb j v))), h) t [some (.int (nI j)), some (.int v)] [] h → (t = 32 ∧ j = 0 ∨ t = 37 ∧ j = 1 ∨ t = 42 ∧ j = 2 ∨ t = 47 ∧ j = 3) → Fx mX3_suits (some (.int (jB (jmb j v))), h) 0 [some (.int (nI j)), some (.int v)] [] h := by
    intro t k ht
    refine fx_iload_n dX3_suits_0 rfl rfl ?_
    rcases ht with ⟨rfl, rfl⟩ | ⟨rfl, rfl⟩ | ⟨rfl, rfl⟩ | ⟨rfl, rfl⟩ <;> exact fx_tableIn dX3_suits_1 (by decide) (by decide) rfl (by decide) k
  rcases (show j = 0 ∨ j = 1 ∨ j = 2 ∨ j = 3 ∨ j = 4 by omega) with rfl | rfl | rfl | rfl | rfl
  · refine T 32 ?_ (by omega)
    refine fx_iload_n dX3_suits_32 rfl rfl ?_
    refine fx_callSv dX3_suits_33 sX3_isKind lX3_81 (by decide) (Nat.le_of_ble_eq_true rfl) eX3_isKind rfl ?_
    exact fx_ireq dX3_suits_36 rfl (jB_n _) rfl rfl
  · refine T 37 ?_ (by omega)
    refine fx_iload_n dX3_suits_37 rfl rfl ?_
    refine fx_callSv dX3_suits_38 sX3_isCell lX3_47 (by decide) (Nat.le_of_ble_eq_true rfl) eX3_isCell rfl ?_
    exact fx_ireq dX3_suits_41 rfl (jB_n _) rfl rfl
  · refine T 42 ?_ (by omega)
    refine fx_iload_n dX3_suits_42 rfl rfl ?_
    refine fx_callSv dX3_suits_43 sX3_isNote lX3_266 (by decide) (Nat.le_of_ble_eq_true rfl) eX3_isNote rfl ?_
    exact fx_ireq dX3_suits_46 rfl (jB_n _) rfl rfl
  · refine T 47 ?_ (by omega)
    refine fx_iload_n dX3_suits_47 rfl rfl ?_
    refine fx_callSv dX3_suits_48 sX3_isWeight lX3_279 (by decide) (Nat.le_of_ble_eq_true rfl) eX3_isWeight rfl ?_
    exact fx_ireq dX3_suits_51 rfl (jB_n _) rfl rfl
  · refine fx_iload_n dX3_suits_0 rfl rfl ?_
    refine fx_tableOut (tgt := 52) dX3_suits_1 (Or.inr (by decide)) (by decide) ?_
    refine fx_iload_n dX3_suits_52 rfl rfl ?_
    refine fx_if_eq (tgt := 61) dX3_suits_53 (by decide) rfl (fun hc53 => ?_) (fun hc53 => ?_)
    · refine fx_iconst (v := nI 1) dX3_suits_61 (by decide) ?_
      refine fx_goto (tgt := 66) dX3_suits_62 (by decide) ?_
      exact fx_ireq dX3_suits_66 rfl (jB_n _) (by show nI _ = jB (jwi v (nI 0) (nI 1)); first | (rw [jwi_01 (Or.inl hc53)]; rfl) | (rw [jwi_01 (Or.inr hc58)]; rfl) | (rw [jwi_n01 hc53 hc58]; rfl)) rfl
    · refine fx_iload_n dX3_suits_56 rfl rfl ?_
      refine fx_iconst (v := nI 1) dX3_suits_57 (by decide) ?_
      refine fx_icmp_ne (tgt := 65) dX3_suits_58 (by decide) rfl (fun hc58 => ?_) (fun hc58 => ?_)
      · refine fx_iconst (v := nI 0) dX3_suits_65 (by decide) ?_
        exact fx_ireq dX3_suits_66 rfl (jB_n _) (by show nI _ = jB (jwi v (nI 0) (nI 1)); first | (rw [jwi_01 (Or.inl hc53)]; rfl) | (rw [jwi_01 (Or.inr hc58)]; rfl) | (rw [jwi_n01 hc53 hc58]; rfl)) rfl
      · refine fx_iconst (v := nI 1) dX3_suits_61 (by decide) ?_
        refine fx_goto (tgt := 66) dX3_suits_62 (by decide) ?_
        exact fx_ireq dX3_suits_66 rfl (jB_n _) (by show nI _ = jB (jwi v (nI 0) (nI 1)); first | (rw [jwi_01 (Or.inl hc53)]; rfl) | (rw [jwi_01 (Or.inr hc58)]; rfl) | (rw [jwi_n01 hc53 hc58]; rfl)) rfl
theorem jlc1 : lg_cmp (lN 1) 1 = 0 := by decide
theorem jlc0 : lg_cmp (lN 0) 1 = (-1) := by decide
theorem eX3_holds {x k : Nat} {h : zH} (hx : x < 2 ^ 64) (hk : k < 64) : Mx mX3_holds [.long (lN x), .int (nI k)] h (some (.int (jB (x.testBit k)))) h := by
  refine mx_of (L := [some (.long (lN x)), none, some (.int (nI k))]) (by decide) (fun _ => rfl) (fun _ => Nat.le_of_ble_eq_true rfl) ?_
  have e := jbit_e x k
  cases hb : x.testBit k
  · rw [hb, if_neg (by decide)] at e
    refine fx_lload_n dX3_holds_0 rfl rfl ?_
    refine fx_iload_n dX3_holds_1 rfl rfl ?_
    refine fx_lushr dX3_holds_2 ?_
    refine fx_lconst (v := 1) dX3_holds_3 (by decide) ?_
    refine fx_land dX3_holds_4 ?_
    rw [wb_bit hx hk, e]
    refine fx_lconst (v := 1) dX3_holds_5 (by decide) ?_
    refine fx_lcmp dX3_holds_6 ?_
    rw [jlc0]
    refine fx_if_ne (tgt := 14) dX3_holds_7 (by decide) rfl (fun hc7 => ?_) (fun hc7 => ?_)
    · refine fx_iconst (v := nI 0) dX3_holds_14 (by decide) ?_
      exact fx_ireq dX3_holds_15 rfl rfl rfl rfl
    · exact absurd hc7 (by decide)
  · rw [hb, if_pos rfl] at e
    refine fx_lload_n dX3_holds_0 rfl rfl ?_
    refine fx_iload_n dX3_holds_1 rfl rfl ?_
    refine fx_lushr dX3_holds_2 ?_
    refine fx_lconst (v := 1) dX3_holds_3 (by decide) ?_
    refine fx_land dX3_holds_4 ?_
    rw [wb_bit hx hk, e]
    refine fx_lconst (v := 1) dX3_holds_5 (by decide) ?_
    refine fx_lcmp dX3_holds_6 ?_
    rw [jlc1]
    refine fx_if_ne (tgt := 14) dX3_holds_7 (by decide) rfl (fun hc7 => ?_) (fun hc7 => ?_)
    · exact absurd rfl hc7
    · refine fx_iconst (v := nI 1) dX3_holds_10 (by decide) ?_
      refine fx_goto (tgt := 15) dX3_holds_11 (by decide) ?_
      exact fx_ireq dX3_holds_15 rfl rfl rfl rfl
theorem jabs_n {x : Int32} (h : ¬ 0 ≤ x) : -x = jabs x := by unfold jabs; rw [if_neg h, Int32.zero_sub]
theorem jabs_p {x : Int32} (h : 0 ≤ x) : x = jabs x := by unfold jabs; rw [if_pos h]
theorem eX3_apart {a b : Int32} {h : zH} : Mx mX3_apart [.int a, .int b] h (some (.int (japart a b))) h := by
  refine mx_of (L := [some (.int a), some (.int b), none, none]) (by decide) (fun _ => rfl) (fun _ => Nat.le_of_ble_eq_true rfl) ?_
  refine fx_iload_n dX3_apart_0 rfl rfl ?_
  refine fx_bipush (v := nI 8) dX3_apart_1 (by decide) ?_
  refine fx_idiv dX3_apart_3 (by decide) ?_
  refine fx_iload_n dX3_apart_4 rfl rfl ?_
  refine fx_bipush (v := nI 8) dX3_apart_5 (by decide) ?_
  refine fx_idiv dX3_apart_7 (by decide) ?_
  refine fx_isub dX3_apart_8 ?_
  refine fs_istore_n_2 dX3_apart_9 rfl (by decide) ?_
  refine fx_iload_n dX3_apart_10 rfl rfl ?_
  refine fx_bipush (v := nI 8) dX3_apart_11 (by decide) ?_
  refine fx_irem dX3_apart_13 (by decide) ?_
  refine fx_iload_n dX3_apart_14 rfl rfl ?_
  refine fx_bipush (v := nI 8) dX3_apart_15 (by decide) ?_
  refine fx_irem dX3_apart_17 (by decide) ?_
  refine fx_isub dX3_apart_18 ?_
  refine fs_istore_n_3 dX3_apart_19 rfl (by decide) ?_
  refine fx_iload_n dX3_apart_20 rfl rfl ?_
  refine fx_if_ge (tgt := 29) dX3_apart_21 (by decide) rfl (fun hc21 => ?_) (fun hc21 => ?_)
  · refine fx_iload_n dX3_apart_29 rfl rfl ?_
    refine fx_iload_n dX3_apart_30 rfl rfl ?_
    refine fx_if_ge (tgt := 39) dX3_apart_31 (by decide) rfl (fun hc31 => ?_) (fun hc31 => ?_)
    · refine fx_iload_n dX3_apart_39 rfl rfl ?_
      refine fx_iadd dX3_apart_40 ?_
      exact fx_ireq dX3_apart_41 rfl rfl (by unfold japart; first | rw [← jabs_p hc21, ← jabs_p hc31] | rw [← jabs_p hc21, ← jabs_n hc31] | rw [← jabs_n hc21, ← jabs_p hc31] | rw [← jabs_n hc21, ← jabs_n hc31]) rfl
    · refine fx_iload_n dX3_apart_34 rfl rfl ?_
      refine fx_ineg dX3_apart_35 ?_
      refine fx_goto (tgt := 40) dX3_apart_36 (by decide) ?_
      refine fx_iadd dX3_apart_40 ?_
      exact fx_ireq dX3_apart_41 rfl rfl (by unfold japart; first | rw [← jabs_p hc21, ← jabs_p hc31] | rw [← jabs_p hc21, ← jabs_n hc31] | rw [← jabs_n hc21, ← jabs_p hc31] | rw [← jabs_n hc21, ← jabs_n hc31]) rfl
  · refine fx_iload_n dX3_apart_24 rfl rfl ?_
    refine fx_ineg dX3_apart_25 ?_
    refine fx_goto (tgt := 30) dX3_apart_26 (by decide) ?_
    refine fx_iload_n dX3_apart_30 rfl rfl ?_
    refine fx_if_ge (tgt := 39) dX3_apart_31 (by decide) rfl (fun hc31 => ?_) (fun hc31 => ?_)
    · refine fx_iload_n dX3_apart_39 rfl rfl ?_
      refine fx_iadd dX3_apart_40 ?_
      exact fx_ireq dX3_apart_41 rfl rfl (by unfold japart; first | rw [← jabs_p hc21, ← jabs_p hc31] | rw [← jabs_p hc21, ← jabs_n hc31] | rw [← jabs_n hc21, ← jabs_p hc31] | rw [← jabs_n hc21, ← jabs_n hc31]) rfl
    · refine fx_iload_n dX3_apart_34 rfl rfl ?_
      refine fx_ineg dX3_apart_35 ?_
      refine fx_goto (tgt := 40) dX3_apart_36 (by decide) ?_
      refine fx_iadd dX3_apart_40 ?_
      exact fx_ireq dX3_apart_41 rfl rfl (by unfold japart; first | rw [← jabs_p hc21, ← jabs_p hc31] | rw [← jabs_p hc21, ← jabs_n hc31] | rw [← jabs_n hc21, ← jabs_p hc31] | rw [← jabs_n hc21, ← jabs_n hc31]) rfl
theorem eX3_loudness {w d : Int32} {h : zH} : Mx mX3_loudness [.int w, .int d] h (some (.int (jmax (nI 0) (w - nI 3 * d)))) h := by
  refine mx_of (L := [some (.int w), some (.int d)]) (by decide) (fun _ => rfl) (fun _ => Nat.le_of_ble_eq_true rfl) ?_
  refine fx_iconst (v := nI 0) dX3_loudness_0 (by decide) ?_
  refine fx_iload_n dX3_loudness_1 rfl rfl ?_
  refine fx_iconst (v := nI 3) dX3_loudness_2 (by decide) ?_
  refine fx_iload_n dX3_loudness_3 rfl rfl ?_
  refine fx_imul dX3_loudness_4 ?_
  refine fx_isub dX3_loudness_5 ?_
  refine fx_max dX3_loudness_6 lX3_285 (by decide) (Nat.le_of_ble_eq_true rfl) ?_
  exact fx_ireq dX3_loudness_9 rfl rfl rfl rfl
theorem z_kab : Cond.fieldLink "WildBells" 293 "WildBells" "KIND_ABOVE" "[I" ∈ z_T := z_in (z_t2 32 (by decide +kernel)) rfl
theorem jka_e : ∀ a, a < 7 → z_ka.getD (nI a).toNatClampNeg 0 = jabv a := by decide +kernel
theorem eX3_isUnder {a b : Nat} {h : zH} (ha : a < 7) (hb : b < 7) : Mx mX3_isUnder [.int (nI a), .int (nI b)] h (some (.int (jB (jund a b)))) h := by
  refine mx_of (L := [some (.int (nI a)), some (.int (nI b)), none, none]) (by decide) (fun _ => rfl) (fun _ => Nat.le_of_ble_eq_true rfl) ?_
  generalize hx : some (Value.int (nI a)) = x0
  have H0 : ∀ s, s < 7 → Fx mX3_isUnder (some (.int (jB false)), h) 4 [x0, some (.int (nI b)), some (.int (-1)), some (.int (nI s))] [] h := by
    intro s hs
    refine fx_iload_n dX3_isUnder_4 rfl rfl ?_
    refine fx_bipush (v := nI 7) dX3_isUnder_5 (by decide) ?_
    refine fx_icmp_ge (tgt := 37) dX3_isUnder_7 (by decide) rfl (fun hc7 => ?_) (fun hc7 => ?_)
    · exact absurd hc7 (nI_ge (by omega) (by omega))
    · refine fx_iload_n dX3_isUnder_10 rfl rfl ?_
      refine fx_iload_n dX3_isUnder_11 rfl rfl ?_
      refine fx_icmp_eq (tgt := 37) dX3_isUnder_12 (by decide) rfl (fun hc12 => ?_) (fun hc12 => ?_)
      · exact absurd hc12.symm (fun q => nI_pos (n := b) (by omega) (by rw [q]; decide))
      · refine fx_iload_n dX3_isUnder_15 rfl rfl ?_
        refine fx_if_lt (tgt := 37) dX3_isUnder_16 (by decide) rfl (fun hc16 => ?_) (fun hc16 => ?_)
        · refine fx_iload_n dX3_isUnder_37 rfl rfl ?_
          refine fx_iload_n dX3_isUnder_38 rfl rfl ?_
          refine fx_icmp_ne (tgt := 46) dX3_isUnder_39 (by decide) rfl (fun hc39 => ?_) (fun hc39 => ?_)
          · refine fx_iconst (v := nI 0) dX3_isUnder_46 (by decide) ?_
            exact fx_ireq dX3_isUnder_47 rfl (jB_n _) rfl rfl
          · exact absurd hc39.symm (fun q => nI_pos (n := b) (by omega) (by rw [q]; decide))
        · exact absurd (by decide) hc16
  have H : ∀ (n a : Nat), a < 7 → jrk a ≤ n → ∀ s, s + n < 6 → ∀ r : Bool, jund a b = r → Fx mX3_isUnder (some (.int (jB r)), h) 4 [x0, some (.int (nI b)), some (.int (nI a)), some (.int (nI s))] [] h := by
    intro n
    induction n with
    | zero =>
      intro a ha hr s hs r er
      have ha0 := j_rk0 a ha hr
      subst ha0
      refine fx_iload_n dX3_isUnder_4 rfl rfl ?_
      refine fx_bipush (v := nI 7) dX3_isUnder_5 (by decide) ?_
      refine fx_icmp_ge (tgt := 37) dX3_isUnder_7 (by decide) rfl (fun hc7 => ?_) (fun hc7 => ?_)
      · exact absurd hc7 (nI_ge (by omega) (by omega))
      · refine fx_iload_n dX3_isUnder_10 rfl rfl ?_
        refine fx_iload_n dX3_isUnder_11 rfl rfl ?_
        refine fx_icmp_eq (tgt := 37) dX3_isUnder_12 (by decide) rfl (fun hc12 => ?_) (fun hc12 => ?_)
        · refine fx_iload_n dX3_isUnder_37 rfl rfl ?_
          refine fx_iload_n dX3_isUnder_38 rfl rfl ?_
          refine fx_icmp_ne (tgt := 46) dX3_isUnder_39 (by decide) rfl (fun hc39 => ?_) (fun hc39 => ?_)
          · exact absurd hc12 hc39
          · refine fx_iconst (v := nI 1) dX3_isUnder_42 (by decide) ?_
            refine fx_goto (tgt := 47) dX3_isUnder_43 (by decide) ?_
            exact fx_ireq dX3_isUnder_47 rfl (jB_n _) (by rw [← er, j_ue 0 (by decide) b hb hc12]; rfl) rfl
        · refine fx_iload_n dX3_isUnder_15 rfl rfl ?_
          refine fx_if_lt (tgt := 37) dX3_isUnder_16 (by decide) rfl (fun hc16 => ?_) (fun hc16 => ?_)
          · exact absurd hc16 (by decide)
          · refine fx_iload_n dX3_isUnder_19 rfl rfl ?_
            refine fx_bipush (v := nI 7) dX3_isUnder_20 (by decide) ?_
            refine fx_icmp_ge (tgt := 37) dX3_isUnder_22 (by decide) rfl (fun hc22 => ?_) (fun hc22 => ?_)
            · exact absurd hc22 (by decide)
            · refine fx_getsK dX3_isUnder_25 z_kab ?_
              refine fx_iload_n dX3_isUnder_28 rfl rfl ?_
              refine fx_taldK dX3_isUnder_29 (vp_in_nI (by omega) (by omega)) (jka_e _ (by omega)) ?_
              refine fs_istore_n_2 dX3_isUnder_30 rfl (by decide) ?_
              refine fs_iinc_3 (w := nI 1) dX3_isUnder_31 (by decide) rfl (by decide) ?_
              refine fx_goto (tgt := 4) dX3_isUnder_34 (by decide) ?_
              have e : r = false := by rw [← er, j_u0 b hb hc12]
              subst e
              rw [nI_add]
              exact H0 (s + 1) (by omega)
    | succ n ih =>
      intro a ha hr s hs r er
      by_cases hz : a = 0
      · exact ih a ha (by subst hz; exact Nat.zero_le _) s (by omega) r er
      · refine fx_iload_n dX3_isUnder_4 rfl rfl ?_
        refine fx_bipush (v := nI 7) dX3_isUnder_5 (by decide) ?_
        refine fx_icmp_ge (tgt := 37) dX3_isUnder_7 (by decide) rfl (fun hc7 => ?_) (fun hc7 => ?_)
        · exact absurd hc7 (nI_ge (by omega) (by omega))
        · refine fx_iload_n dX3_isUnder_10 rfl rfl ?_
          refine fx_iload_n dX3_isUnder_11 rfl rfl ?_
          refine fx_icmp_eq (tgt := 37) dX3_isUnder_12 (by decide) rfl (fun hc12 => ?_) (fun hc12 => ?_)
          · refine fx_iload_n dX3_isUnder_37 rfl rfl ?_
            refine fx_iload_n dX3_isUnder_38 rfl rfl ?_
            refine fx_icmp_ne (tgt := 46) dX3_isUnder_39 (by decide) rfl (fun hc39 => ?_) (fun hc39 => ?_)
            · exact absurd hc12 hc39
            · refine fx_iconst (v := nI 1) dX3_isUnder_42 (by decide) ?_
              refine fx_goto (tgt := 47) dX3_isUnder_43 (by decide) ?_
              exact fx_ireq dX3_isUnder_47 rfl (jB_n _) (by rw [← er, j_ue a ha b hb hc12]; rfl) rfl
          · refine fx_iload_n dX3_isUnder_15 rfl rfl ?_
            refine fx_if_lt (tgt := 37) dX3_isUnder_16 (by decide) rfl (fun hc16 => ?_) (fun hc16 => ?_)
            · exact absurd hc16 (nI_pos (by omega))
            · refine fx_iload_n dX3_isUnder_19 rfl rfl ?_
              refine fx_bipush (v := nI 7) dX3_isUnder_20 (by decide) ?_
              refine fx_icmp_ge (tgt := 37) dX3_isUnder_22 (by decide) rfl (fun hc22 => ?_) (fun hc22 => ?_)
              · exact absurd hc22 (nI_ge (by omega) (by omega))
              · refine fx_getsK dX3_isUnder_25 z_kab ?_
                refine fx_iload_n dX3_isUnder_28 rfl rfl ?_
                refine fx_taldK dX3_isUnder_29 (vp_in_nI (by omega) (by omega)) (jka_e _ (by omega)) ?_
                refine fs_istore_n_2 dX3_isUnder_30 rfl (by decide) ?_
                refine fs_iinc_3 (w := nI 1) dX3_isUnder_31 (by decide) rfl (by decide) ?_
                refine fx_goto (tgt := 4) dX3_isUnder_34 (by decide) ?_
                obtain ⟨e1, e2, e3⟩ := j_ab a ha hz
                rw [e1, nI_add]
                exact ih _ e2 (by omega) (s + 1) (by omega) r (by rw [j_un a ha b hb hc12 hz]; exact er)
  have H3 := H 3 a ha (j_rk3 a ha) 0 (by decide) _ rfl
  rw [← hx] at *
  refine fx_iload_n dX3_isUnder_0 rfl rfl ?_
  refine fs_istore_n_2 dX3_isUnder_1 rfl (by decide) ?_
  refine fx_iconst (v := nI 0) dX3_isUnder_2 (by decide) ?_
  refine fs_istore_n_3 dX3_isUnder_3 rfl (by decide) ?_
  exact H3
