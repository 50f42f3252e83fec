/-! ===== the reference: public methods, first part; _y where the arguments are good, _n where not ===== -/
set_option maxRecDepth 100000
abbrev rMn (F : Nat → Int32) (G : Nat → Nat → Int32) (k : Nat) : zH := rM F (ga G 4 (jfc (G 4) k))
theorem jbell_y {b n : Nat} (hb : b < n) (hn : n ≤ 8) : jwi (nI b) (nI 0) (nI n - nI 1) = true := by
  rw [pk_sub (by omega)]; exact jwi_n (by omega) (by omega)
theorem jbell_of {v : Int32} {n : Nat} (hn : n ≤ 8) (h : jwi v (nI 0) (nI n - nI 1) = true) : ∃ b, b < n ∧ v = nI b := by
  by_cases h0 : n = 0
  · subst h0
    unfold jwi at h
    simp only [Bool.and_eq_true, decide_eq_true_eq] at h
    have h3 := Int32.le_trans h.1 h.2
    exact absurd h3 (by decide)
  · rw [pk_sub (by omega)] at h
    obtain ⟨j, hj, e⟩ := jwi_of (by omega) h
    exact ⟨j, by omega, e⟩
theorem jtf {b : Bool} (h : b = false) (h2 : b = true) {P : Prop} : P := by rw [h] at h2; exact absurd h2 (by decide)
section
variable {F : Nat → Int32} {G : Nat → Nat → Int32} {n : Nat}
theorem eX4_net_n {a b : Int32} (h : jwi a (nI 0) (nI 63) = false ∨ jwi b (nI 0) (nI 1) = false) : Mx mX4_net [.ref 0, .int a, .int b] (rM F G) (some (.int (jfd 0))) (rMn F G 0) := by
  refine mx_of (L := [some (.ref 0), some (.int a), some (.int b)]) (by decide) (fun _ => rfl) (fun _ => Nat.le_of_ble_eq_true rfl) ?_
  refine fx_iload_n dX4_net_0 rfl rfl ?_
  refine fx_callSv dX4_net_1 sX4_isCell lX4_84 (by decide) (Nat.le_of_ble_eq_true rfl) eX4_isCell rfl ?_
  refine fx_if_eq (tgt := 16) dX4_net_4 (by decide) rfl (fun hc4 => ?_) (fun hc4 => ?_)
  · refine fx_aload_n dX4_net_16 rfl rfl ?_
    refine fx_ldc dX4_net_17 qX4_69 ?_
    refine fx_callVv dX4_net_19 vX4_finding lX4_88 (by decide) rfl (Nat.le_of_ble_eq_true rfl) (eX4_finding (k := 0) (by decide) (by decide)) rfl ?_
    exact fx_ireq dX4_net_22 rfl rfl rfl rfl
  · refine fx_iload_n dX4_net_7 rfl rfl ?_
    refine fx_iconst (v := nI 0) dX4_net_8 (by decide) ?_
    refine fx_iconst (v := nI 1) dX4_net_9 (by decide) ?_
    refine fx_callSv dX4_net_10 sX4_within lX4_74 (by decide) (Nat.le_of_ble_eq_true rfl) eX4_within rfl ?_
    refine fx_if_ne (tgt := 23) dX4_net_13 (by decide) rfl (fun hc13 => ?_) (fun hc13 => ?_)
    · exact h.elim (fun q => jtf q (nI_ne0' hc4)) (fun q => jtf q (nI_ne0' hc13))
    · refine fx_aload_n dX4_net_16 rfl rfl ?_
      refine fx_ldc dX4_net_17 qX4_69 ?_
      refine fx_callVv dX4_net_19 vX4_finding lX4_88 (by decide) rfl (Nat.le_of_ble_eq_true rfl) (eX4_finding (k := 0) (by decide) (by decide)) rfl ?_
      exact fx_ireq dX4_net_22 rfl rfl rfl rfl
theorem eX4_net_y {c i : Nat} (hc : c < 64) (hi : i ≤ 1) : Mx mX4_net [.ref 0, .int (nI c), .int (nI i)] (rM F G) (some (.int (if G 1 (18 + c) = nI i then nI 0 else nI 1))) (rM F (ga G 1 (upd (G 1) (18 + c) (nI i)))) := by
  refine mx_of (L := [some (.ref 0), some (.int (nI c)), some (.int (nI i))]) (by decide) (fun _ => rfl) (fun _ => Nat.le_of_ble_eq_true rfl) ?_
  refine fx_iload_n dX4_net_0 rfl rfl ?_
  refine fx_callSv dX4_net_1 sX4_isCell lX4_84 (by decide) (Nat.le_of_ble_eq_true rfl) eX4_isCell rfl ?_
  rw [jwi_n (by omega) (by decide)]
  refine fx_if_eq (tgt := 16) dX4_net_4 (by decide) rfl (fun hc4 => ?_) (fun hc4 => ?_)
  · exact absurd hc4 (by decide)
  · refine fx_iload_n dX4_net_7 rfl rfl ?_
    refine fx_iconst (v := nI 0) dX4_net_8 (by decide) ?_
    refine fx_iconst (v := nI 1) dX4_net_9 (by decide) ?_
    refine fx_callSv dX4_net_10 sX4_within lX4_74 (by decide) (Nat.le_of_ble_eq_true rfl) eX4_within rfl ?_
    rw [jwi_n (by omega) (by decide)]
    refine fx_if_ne (tgt := 23) dX4_net_13 (by decide) rfl (fun hc13 => ?_) (fun hc13 => ?_)
    · refine fx_aload_n dX4_net_23 rfl rfl ?_
      refine fx_bipush (v := nI 18) dX4_net_24 (by decide) ?_
      refine fx_iload_n dX4_net_26 rfl rfl ?_
      refine fx_iadd dX4_net_27 ?_
      rw [nI_add]
      refine fx_iload_n dX4_net_28 rfl rfl ?_
      refine fx_callVv dX4_net_29 vX4_become lX4_91 (by decide) rfl (Nat.le_of_ble_eq_true rfl) (eX4_become (by omega)) rfl ?_
      refine fx_iload_n dX4_net_32 rfl rfl ?_
      refine fx_icmp_ne (tgt := 40) dX4_net_33 (by decide) rfl (fun hc33 => ?_) (fun hc33 => ?_)
      · refine fx_iconst (v := nI 1) dX4_net_40 (by decide) ?_
        exact fx_ireq dX4_net_41 rfl rfl (by first | exact (if_pos hc33).symm | exact (if_neg hc33).symm) rfl
      · refine fx_iconst (v := nI 0) dX4_net_36 (by decide) ?_
        refine fx_goto (tgt := 41) dX4_net_37 (by decide) ?_
        exact fx_ireq dX4_net_41 rfl rfl (by first | exact (if_pos hc33).symm | exact (if_neg hc33).symm) rfl
    · exact absurd hc13 (by decide)
theorem eX4_thick_n {a b : Int32} (h : jwi a (nI 0) (nI 63) = false ∨ jwi b (nI 0) (nI 9) = false) : Mx mX4_thick [.ref 0, .int a, .int b] (rM F G) (some (.int (jfd 0))) (rMn F G 0) := by
  refine mx_of (L := [some (.ref 0), some (.int a), some (.int b)]) (by decide) (fun _ => rfl) (fun _ => Nat.le_of_ble_eq_true rfl) ?_
  refine fx_iload_n dX4_thick_0 rfl rfl ?_
  refine fx_callSv dX4_thick_1 sX4_isCell lX4_84 (by decide) (Nat.le_of_ble_eq_true rfl) eX4_isCell rfl ?_
  refine fx_if_eq (tgt := 29) dX4_thick_4 (by decide) rfl (fun hc4 => ?_) (fun hc4 => ?_)
  · refine fx_aload_n dX4_thick_29 rfl rfl ?_
    refine fx_ldc dX4_thick_30 qX4_69 ?_
    refine fx_callVv dX4_thick_32 vX4_finding lX4_88 (by decide) rfl (Nat.le_of_ble_eq_true rfl) (eX4_finding (k := 0) (by decide) (by decide)) rfl ?_
    exact fx_ireq dX4_thick_35 rfl rfl rfl rfl
  · refine fx_iload_n dX4_thick_7 rfl rfl ?_
    refine fx_iconst (v := nI 0) dX4_thick_8 (by decide) ?_
    refine fx_bipush (v := nI 9) dX4_thick_9 (by decide) ?_
    refine fx_callSv dX4_thick_11 sX4_within lX4_74 (by decide) (Nat.le_of_ble_eq_true rfl) eX4_within rfl ?_
    refine fx_if_eq (tgt := 29) dX4_thick_14 (by decide) rfl (fun hc14 => ?_) (fun hc14 => ?_)
    · refine fx_aload_n dX4_thick_29 rfl rfl ?_
      refine fx_ldc dX4_thick_30 qX4_69 ?_
      refine fx_callVv dX4_thick_32 vX4_finding lX4_88 (by decide) rfl (Nat.le_of_ble_eq_true rfl) (eX4_finding (k := 0) (by decide) (by decide)) rfl ?_
      exact fx_ireq dX4_thick_35 rfl rfl rfl rfl
    · exact h.elim (fun q => jtf q (nI_ne0' hc4)) (fun q => jtf q (nI_ne0' hc14))
theorem eX4_thick_y {c i : Nat} (hc : c < 64) (hi : i ≤ 9) : Mx mX4_thick [.ref 0, .int (nI c), .int (nI i)] (rM F G) (some (.int (G 1 (82 + c)))) (rM F (ga G 1 (upd (G 1) (82 + c) (nI i)))) := by
  refine mx_of (L := [some (.ref 0), some (.int (nI c)), some (.int (nI i))]) (by decide) (fun _ => rfl) (fun _ => Nat.le_of_ble_eq_true rfl) ?_
  refine fx_iload_n dX4_thick_0 rfl rfl ?_
  refine fx_callSv dX4_thick_1 sX4_isCell lX4_84 (by decide) (Nat.le_of_ble_eq_true rfl) eX4_isCell rfl ?_
  rw [jwi_n (by omega) (by decide)]
  refine fx_if_eq (tgt := 29) dX4_thick_4 (by decide) rfl (fun hc4 => ?_) (fun hc4 => ?_)
  · exact absurd hc4 (by decide)
  · refine fx_iload_n dX4_thick_7 rfl rfl ?_
    refine fx_iconst (v := nI 0) dX4_thick_8 (by decide) ?_
    refine fx_bipush (v := nI 9) dX4_thick_9 (by decide) ?_
    refine fx_callSv dX4_thick_11 sX4_within lX4_74 (by decide) (Nat.le_of_ble_eq_true rfl) eX4_within rfl ?_
    rw [jwi_n (by omega) (by decide)]
    refine fx_if_eq (tgt := 29) dX4_thick_14 (by decide) rfl (fun hc14 => ?_) (fun hc14 => ?_)
    · exact absurd hc14 (by decide)
    · refine fx_aload_n dX4_thick_17 rfl rfl ?_
      refine fx_bipush (v := nI 82) dX4_thick_18 (by decide) ?_
      refine fx_iload_n dX4_thick_20 rfl rfl ?_
      refine fx_iadd dX4_thick_21 ?_
      rw [nI_add]
      refine fx_iload_n dX4_thick_22 rfl rfl ?_
      refine fx_callVv dX4_thick_23 vX4_become lX4_91 (by decide) rfl (Nat.le_of_ble_eq_true rfl) (eX4_become (by omega)) rfl ?_
      refine fx_goto (tgt := 35) dX4_thick_26 (by decide) ?_
      exact fx_ireq dX4_thick_35 rfl rfl rfl rfl
theorem eX4_hunter_n {a b : Int32} (h : jwi a (nI 0) (nI 3) = false ∨ jwi b (-1) (nI 63) = false) : Mx mX4_hunter [.ref 0, .int a, .int b] (rM F G) (some (.int (jfd 0))) (rMn F G 0) := by
  refine mx_of (L := [some (.ref 0), some (.int a), some (.int b)]) (by decide) (fun _ => rfl) (fun _ => Nat.le_of_ble_eq_true rfl) ?_
  refine fx_iload_n dX4_hunter_0 rfl rfl ?_
  refine fx_callSv dX4_hunter_1 sX4_isHunter lX4_95 (by decide) (Nat.le_of_ble_eq_true rfl) eX4_isHunter rfl ?_
  refine fx_if_eq (tgt := 29) dX4_hunter_4 (by decide) rfl (fun hc4 => ?_) (fun hc4 => ?_)
  · refine fx_aload_n dX4_hunter_29 rfl rfl ?_
    refine fx_ldc dX4_hunter_30 qX4_69 ?_
    refine fx_callVv dX4_hunter_32 vX4_finding lX4_88 (by decide) rfl (Nat.le_of_ble_eq_true rfl) (eX4_finding (k := 0) (by decide) (by decide)) rfl ?_
    exact fx_ireq dX4_hunter_35 rfl rfl rfl rfl
  · refine fx_iload_n dX4_hunter_7 rfl rfl ?_
    refine fx_iconst (v := (-1)) dX4_hunter_8 (by decide) ?_
    refine fx_bipush (v := nI 63) dX4_hunter_9 (by decide) ?_
    refine fx_callSv dX4_hunter_11 sX4_within lX4_74 (by decide) (Nat.le_of_ble_eq_true rfl) eX4_within rfl ?_
    refine fx_if_eq (tgt := 29) dX4_hunter_14 (by decide) rfl (fun hc14 => ?_) (fun hc14 => ?_)
    · refine fx_aload_n dX4_hunter_29 rfl rfl ?_
      refine fx_ldc dX4_hunter_30 qX4_69 ?_
      refine fx_callVv dX4_hunter_32 vX4_finding lX4_88 (by decide) rfl (Nat.le_of_ble_eq_true rfl) (eX4_finding (k := 0) (by decide) (by decide)) rfl ?_
      exact fx_ireq dX4_hunter_35 rfl rfl rfl rfl
    · exact h.elim (fun q => jtf q (nI_ne0' hc4)) (fun q => jtf q (nI_ne0' hc14))
theorem eX4_hunter_y {c : Nat} {b : Int32} (hc : c < 4) (hb : jwi b (-1) (nI 63) = true) : Mx mX4_hunter [.ref 0, .int (nI c), .int b] (rM F G) (some (.int (G 1 (14 + c)))) (rM F (ga G 1 (upd (G 1) (14 + c) b))) := by
  refine mx_of (L := [some (.ref 0), some (.int (nI c)), some (.int b)]) (by decide) (fun _ => rfl) (fun _ => Nat.le_of_ble_eq_true rfl) ?_
  refine fx_iload_n dX4_hunter_0 rfl rfl ?_
  refine fx_callSv dX4_hunter_1 sX4_isHunter lX4_95 (by decide) (Nat.le_of_ble_eq_true rfl) eX4_isHunter rfl ?_
  rw [jwi_n (by omega) (by decide)]
  refine fx_if_eq (tgt := 29) dX4_hunter_4 (by decide) rfl (fun hc4 => ?_) (fun hc4 => ?_)
  · exact absurd hc4 (by decide)
  · refine fx_iload_n dX4_hunter_7 rfl rfl ?_
    refine fx_iconst (v := (-1)) dX4_hunter_8 (by decide) ?_
    refine fx_bipush (v := nI 63) dX4_hunter_9 (by decide) ?_
    refine fx_callSv dX4_hunter_11 sX4_within lX4_74 (by decide) (Nat.le_of_ble_eq_true rfl) eX4_within rfl ?_
    rw [hb]
    refine fx_if_eq (tgt := 29) dX4_hunter_14 (by decide) rfl (fun hc14 => ?_) (fun hc14 => ?_)
    · exact absurd hc14 (by decide)
    · refine fx_aload_n dX4_hunter_17 rfl rfl ?_
      refine fx_bipush (v := nI 14) dX4_hunter_18 (by decide) ?_
      refine fx_iload_n dX4_hunter_20 rfl rfl ?_
      refine fx_iadd dX4_hunter_21 ?_
      rw [nI_add]
      refine fx_iload_n dX4_hunter_22 rfl rfl ?_
      refine fx_callVv dX4_hunter_23 vX4_become lX4_91 (by decide) rfl (Nat.le_of_ble_eq_true rfl) (eX4_become (by omega)) rfl ?_
      refine fx_goto (tgt := 35) dX4_hunter_26 (by decide) ?_
      exact fx_ireq dX4_hunter_35 rfl rfl rfl rfl
theorem eX4_fear_n {a : Int32} (h : jwi a (nI 0) (nI 9) = false) : Mx mX4_fear [.ref 0, .int a] (rM F G) (some (.int (jfd 0))) (rMn F G 0) := by
  refine mx_of (L := [some (.ref 0), some (.int a)]) (by decide) (fun _ => rfl) (fun _ => Nat.le_of_ble_eq_true rfl) ?_
  refine fx_iload_n dX4_fear_0 rfl rfl ?_
  refine fx_iconst (v := nI 0) dX4_fear_1 (by decide) ?_
  refine fx_bipush (v := nI 9) dX4_fear_2 (by decide) ?_
  refine fx_callSv dX4_fear_4 sX4_within lX4_74 (by decide) (Nat.le_of_ble_eq_true rfl) eX4_within rfl ?_
  refine fx_if_eq (tgt := 19) dX4_fear_7 (by decide) rfl (fun hc7 => ?_) (fun hc7 => ?_)
  · refine fx_aload_n dX4_fear_19 rfl rfl ?_
    refine fx_ldc dX4_fear_20 qX4_69 ?_
    refine fx_callVv dX4_fear_22 vX4_finding lX4_88 (by decide) rfl (Nat.le_of_ble_eq_true rfl) (eX4_finding (k := 0) (by decide) (by decide)) rfl ?_
    exact fx_ireq dX4_fear_25 rfl rfl rfl rfl
  · exact jtf h (nI_ne0' hc7)
theorem eX4_fear_y {i : Nat} (hi : i ≤ 9) : Mx mX4_fear [.ref 0, .int (nI i)] (rM F G) (some (.int (G 1 1))) (rM F (ga G 1 (upd (G 1) 1 (nI i)))) := by
  refine mx_of (L := [some (.ref 0), some (.int (nI i))]) (by decide) (fun _ => rfl) (fun _ => Nat.le_of_ble_eq_true rfl) ?_
  refine fx_iload_n dX4_fear_0 rfl rfl ?_
  refine fx_iconst (v := nI 0) dX4_fear_1 (by decide) ?_
  refine fx_bipush (v := nI 9) dX4_fear_2 (by decide) ?_
  refine fx_callSv dX4_fear_4 sX4_within lX4_74 (by decide) (Nat.le_of_ble_eq_true rfl) eX4_within rfl ?_
  rw [jwi_n (by omega) (by decide)]
  refine fx_if_eq (tgt := 19) dX4_fear_7 (by decide) rfl (fun hc7 => ?_) (fun hc7 => ?_)
  · exact absurd hc7 (by decide)
  · refine fx_aload_n dX4_fear_10 rfl rfl ?_
    refine fx_iconst (v := nI 1) dX4_fear_11 (by decide) ?_
    refine fx_iload_n dX4_fear_12 rfl rfl ?_
    refine fx_callVv dX4_fear_13 vX4_become lX4_91 (by decide) rfl (Nat.le_of_ble_eq_true rfl) (eX4_become (by decide)) rfl ?_
    refine fx_goto (tgt := 25) dX4_fear_16 (by decide) ?_
    exact fx_ireq dX4_fear_25 rfl rfl rfl rfl
theorem eX4_bell_n {a b : Int32} (h : jwi a (nI 0) (nI 6) = false ∨ jwi b (nI 0) (nI 63) = false) : Mx mX4_bell [.ref 0, .int a, .int b] (rM F G) (some (.int (jfd 0))) (rMn F G 0) := by
  refine mx_of (L := [some (.ref 0), some (.int a), some (.int b)]) (by decide) (fun _ => rfl) (fun _ => Nat.le_of_ble_eq_true rfl) ?_
  refine fx_iload_n dX4_bell_0 rfl rfl ?_
  refine fx_callSv dX4_bell_1 sX4_isKind lX4_104 (by decide) (Nat.le_of_ble_eq_true rfl) eX4_isKind rfl ?_
  refine fx_if_eq (tgt := 14) dX4_bell_4 (by decide) rfl (fun hc4 => ?_) (fun hc4 => ?_)
  · refine fx_aload_n dX4_bell_14 rfl rfl ?_
    refine fx_ldc dX4_bell_15 qX4_69 ?_
    refine fx_callVv dX4_bell_17 vX4_finding lX4_88 (by decide) rfl (Nat.le_of_ble_eq_true rfl) (eX4_finding (k := 0) (by decide) (by decide)) rfl ?_
    exact fx_ireq dX4_bell_20 rfl rfl rfl rfl
  · refine fx_iload_n dX4_bell_7 rfl rfl ?_
    refine fx_callSv dX4_bell_8 sX4_isCell lX4_84 (by decide) (Nat.le_of_ble_eq_true rfl) eX4_isCell rfl ?_
    refine fx_if_ne (tgt := 21) dX4_bell_11 (by decide) rfl (fun hc11 => ?_) (fun hc11 => ?_)
    · exact h.elim (fun q => jtf q (nI_ne0' hc4)) (fun q => jtf q (nI_ne0' hc11))
    · refine fx_aload_n dX4_bell_14 rfl rfl ?_
      refine fx_ldc dX4_bell_15 qX4_69 ?_
      refine fx_callVv dX4_bell_17 vX4_finding lX4_88 (by decide) rfl (Nat.le_of_ble_eq_true rfl) (eX4_finding (k := 0) (by decide) (by decide)) rfl ?_
      exact fx_ireq dX4_bell_20 rfl rfl rfl rfl
theorem eX4_bell_f {a b : Int32} (hV : jW (G 1) 8) (ha : jwi a (nI 0) (nI 6) = true) (hb : jwi b (nI 0) (nI 63) = true) : Mx mX4_bell [.ref 0, .int a, .int b] (rM F G) (some (.int (jfd 1))) (rMn F G 1) := by
  refine mx_of (L := [some (.ref 0), some (.int a), some (.int b)]) (by decide) (fun _ => rfl) (fun _ => Nat.le_of_ble_eq_true rfl) ?_
  refine fx_iload_n dX4_bell_0 rfl rfl ?_
  refine fx_callSv dX4_bell_1 sX4_isKind lX4_104 (by decide) (Nat.le_of_ble_eq_true rfl) eX4_isKind rfl ?_
  rw [ha]
  refine fx_if_eq (tgt := 14) dX4_bell_4 (by decide) rfl (fun hc4 => ?_) (fun hc4 => ?_)
  · exact absurd hc4 (by decide)
  · refine fx_iload_n dX4_bell_7 rfl rfl ?_
    refine fx_callSv dX4_bell_8 sX4_isCell lX4_84 (by decide) (Nat.le_of_ble_eq_true rfl) eX4_isCell rfl ?_
    rw [hb]
    refine fx_if_ne (tgt := 21) dX4_bell_11 (by decide) rfl (fun hc11 => ?_) (fun hc11 => ?_)
    · refine fx_aload_n dX4_bell_21 rfl rfl ?_
      refine fx_get dX4_bell_22 kX4_9 rfl rfl ?_
      refine fx_iconst (v := nI 2) dX4_bell_25 (by decide) ?_
      refine fx_iald dX4_bell_26 rfl (vp_in_nI (by decide) (by decide)) ?_
      rw [nI_clamp (n := 2) (by decide), hV.1]
      refine fx_bipush (v := nI 8) dX4_bell_27 (by decide) ?_
      refine fx_icmp_ne (tgt := 41) dX4_bell_29 (by decide) rfl (fun hc29 => ?_) (fun hc29 => ?_)
      · exact absurd rfl hc29
      · refine fx_aload_n dX4_bell_32 rfl rfl ?_
        refine fx_ldc dX4_bell_33 qX4_107 ?_
        refine fx_callVv dX4_bell_35 vX4_finding lX4_88 (by decide) rfl (Nat.le_of_ble_eq_true rfl) (eX4_finding (k := 1) (by decide) (by decide)) rfl ?_
        refine fx_goto (tgt := 50) dX4_bell_38 (by decide) ?_
        exact fx_ireq dX4_bell_50 rfl rfl rfl rfl
    · exact absurd hc11 (by decide)
theorem eX4_bell_y {a b : Int32} (hV : jW (G 1) n) (hn : n < 8) (ha : jwi a (nI 0) (nI 6) = true) (hb : jwi b (nI 0) (nI 63) = true) : Mx mX4_bell [.ref 0, .int a, .int b] (rM F G) (some (.int (nI n))) (rM F (ga G 1 (jcome (G 1) n a b (nI 0) (nI 10)))) := by
  refine mx_of (L := [some (.ref 0), some (.int a), some (.int b)]) (by decide) (fun _ => rfl) (fun _ => Nat.le_of_ble_eq_true rfl) ?_
  refine fx_iload_n dX4_bell_0 rfl rfl ?_
  refine fx_callSv dX4_bell_1 sX4_isKind lX4_104 (by decide) (Nat.le_of_ble_eq_true rfl) eX4_isKind rfl ?_
  rw [ha]
  refine fx_if_eq (tgt := 14) dX4_bell_4 (by decide) rfl (fun hc4 => ?_) (fun hc4 => ?_)
  · exact absurd hc4 (by decide)
  · refine fx_iload_n dX4_bell_7 rfl rfl ?_
    refine fx_callSv dX4_bell_8 sX4_isCell lX4_84 (by decide) (Nat.le_of_ble_eq_true rfl) eX4_isCell rfl ?_
    rw [hb]
    refine fx_if_ne (tgt := 21) dX4_bell_11 (by decide) rfl (fun hc11 => ?_) (fun hc11 => ?_)
    · refine fx_aload_n dX4_bell_21 rfl rfl ?_
      refine fx_get dX4_bell_22 kX4_9 rfl rfl ?_
      refine fx_iconst (v := nI 2) dX4_bell_25 (by decide) ?_
      refine fx_iald dX4_bell_26 rfl (vp_in_nI (by decide) (by decide)) ?_
      rw [nI_clamp (n := 2) (by decide), hV.1]
      refine fx_bipush (v := nI 8) dX4_bell_27 (by decide) ?_
      refine fx_icmp_ne (tgt := 41) dX4_bell_29 (by decide) rfl (fun hc29 => ?_) (fun hc29 => ?_)
      · refine fx_aload_n dX4_bell_41 rfl rfl ?_
        refine fx_iload_n dX4_bell_42 rfl rfl ?_
        refine fx_iload_n dX4_bell_43 rfl rfl ?_
        refine fx_iconst (v := nI 0) dX4_bell_44 (by decide) ?_
        refine fx_bipush (v := nI 10) dX4_bell_45 (by decide) ?_
        refine fx_callVv dX4_bell_47 vX4_comes lX4_108 (by decide) rfl (Nat.le_of_ble_eq_true rfl) (eX4_comes hV hn) rfl ?_
        exact fx_ireq dX4_bell_50 rfl rfl rfl rfl
      · exact absurd ((nI_eq (a := n) (b := 8) (by omega) (by decide)).mp hc29) (by omega)
    · exact absurd hc11 (by decide)
theorem eX4_of_n {a b : Int32} (hV : jW (G 1) n) (h : jwi a (nI 0) (nI n - nI 1) = false ∨ jwi b (nI 0) (nI 6) = false) : Mx mX4_of [.ref 0, .int a, .int b] (rM F G) (some (.int (jfd 0))) (rMn F G 0) := by
  refine mx_of (L := [some (.ref 0), some (.int a), some (.int b)]) (by decide) (fun _ => rfl) (fun _ => Nat.le_of_ble_eq_true rfl) ?_
  refine fx_aload_n dX4_of_0 rfl rfl ?_
  refine fx_iload_n dX4_of_1 rfl rfl ?_
  refine fx_callVv dX4_of_2 vX4_isBell lX4_141 (by decide) rfl (Nat.le_of_ble_eq_true rfl) (eX4_isBell hV) rfl ?_
  refine fx_if_eq (tgt := 18) dX4_of_5 (by decide) rfl (fun hc5 => ?_) (fun hc5 => ?_)
  · refine fx_aload_n dX4_of_18 rfl rfl ?_
    refine fx_ldc dX4_of_19 qX4_69 ?_
    refine fx_callVv dX4_of_21 vX4_finding lX4_88 (by decide) rfl (Nat.le_of_ble_eq_true rfl) (eX4_finding (k := 0) (by decide) (by decide)) rfl ?_
    exact fx_ireq dX4_of_24 rfl rfl rfl rfl
  · refine fx_iload_n dX4_of_8 rfl rfl ?_
    refine fx_iconst (v := nI 0) dX4_of_9 (by decide) ?_
    refine fx_bipush (v := nI 6) dX4_of_10 (by decide) ?_
    refine fx_callSv dX4_of_12 sX4_within lX4_74 (by decide) (Nat.le_of_ble_eq_true rfl) eX4_within rfl ?_
    refine fx_if_ne (tgt := 25) dX4_of_15 (by decide) rfl (fun hc15 => ?_) (fun hc15 => ?_)
    · exact h.elim (fun q => jtf q (nI_ne0' hc5)) (fun q => jtf q (nI_ne0' hc15))
    · refine fx_aload_n dX4_of_18 rfl rfl ?_
      refine fx_ldc dX4_of_19 qX4_69 ?_
      refine fx_callVv dX4_of_21 vX4_finding lX4_88 (by decide) rfl (Nat.le_of_ble_eq_true rfl) (eX4_finding (k := 0) (by decide) (by decide)) rfl ?_
      exact fx_ireq dX4_of_24 rfl rfl rfl rfl
theorem eX4_of_y {b f : Nat} (hK : jK G) (hV : jW (G 1) n) (hb : b < n) (hf : f ≤ 6) : Mx mX4_of [.ref 0, .int (nI b), .int (nI f)] (rM F G) (some (.int (if f < 5 then G 1 (146 + 5 * b + f) else if f = 5 then nI (jnext (G 1) b n) else jworth (G 1) b (G 1 (146 + 5 * b + 1)).toNatClampNeg n))) (rM F G) := by
  refine mx_of (L := [some (.ref 0), some (.int (nI b)), some (.int (nI f))]) (by decide) (fun _ => rfl) (fun _ => Nat.le_of_ble_eq_true rfl) ?_
  have hn8 := hV.2.1
  obtain ⟨-, ⟨a, ha, ea⟩, -⟩ := hV.2.2.1 b hb
  by_cases h5 : f < 5
  · rw [if_pos h5]
    refine fx_aload_n dX4_of_0 rfl rfl ?_
    refine fx_iload_n dX4_of_1 rfl rfl ?_
    refine fx_callVv dX4_of_2 vX4_isBell lX4_141 (by decide) rfl (Nat.le_of_ble_eq_true rfl) (eX4_isBell hV) rfl ?_
    rw [jbell_y hb hn8]
    refine fx_if_eq (tgt := 18) dX4_of_5 (by decide) rfl (fun hc5 => ?_) (fun hc5 => ?_)
    · exact absurd hc5 (by decide)
    · refine fx_iload_n dX4_of_8 rfl rfl ?_
      refine fx_iconst (v := nI 0) dX4_of_9 (by decide) ?_
      refine fx_bipush (v := nI 6) dX4_of_10 (by decide) ?_
      refine fx_callSv dX4_of_12 sX4_within lX4_74 (by decide) (Nat.le_of_ble_eq_true rfl) eX4_within rfl ?_
      rw [jwi_n (by omega) (by decide)]
      refine fx_if_ne (tgt := 25) dX4_of_15 (by decide) rfl (fun hc15 => ?_) (fun hc15 => ?_)
      · refine fx_iload_n dX4_of_25 rfl rfl ?_
        refine fx_iconst (v := nI 5) dX4_of_26 (by decide) ?_
        refine fx_icmp_ge (tgt := 39) dX4_of_27 (by decide) rfl (fun hc27 => ?_) (fun hc27 => ?_)
        · exact absurd hc27 (nI_ge (by omega) (by decide))
        · refine fx_aload_n dX4_of_30 rfl rfl ?_
          refine fx_iload_n dX4_of_31 rfl rfl ?_
          refine fx_iload_n dX4_of_32 rfl rfl ?_
          refine fx_callVv dX4_of_33 vX4_bellIs lX4_101 (by decide) rfl (Nat.le_of_ble_eq_true rfl) (eM_bell (by omega) h5) rfl ?_
          refine fx_goto (tgt := 63) dX4_of_36 (by decide) ?_
          exact fx_ireq dX4_of_63 rfl rfl rfl rfl
      · exact absurd hc15 (by decide)
  · rw [if_neg h5]
    by_cases h6 : f = 5
    · subst h6
      rw [if_pos rfl]
      refine fx_aload_n dX4_of_0 rfl rfl ?_
      refine fx_iload_n dX4_of_1 rfl rfl ?_
      refine fx_callVv dX4_of_2 vX4_isBell lX4_141 (by decide) rfl (Nat.le_of_ble_eq_true rfl) (eX4_isBell hV) rfl ?_
      rw [jbell_y hb hn8]
      refine fx_if_eq (tgt := 18) dX4_of_5 (by decide) rfl (fun hc5 => ?_) (fun hc5 => ?_)
      · exact absurd hc5 (by decide)
      · refine fx_iload_n dX4_of_8 rfl rfl ?_
        refine fx_iconst (v := nI 0) dX4_of_9 (by decide) ?_
        refine fx_bipush (v := nI 6) dX4_of_10 (by decide) ?_
        refine fx_callSv dX4_of_12 sX4_within lX4_74 (by decide) (Nat.le_of_ble_eq_true rfl) eX4_within rfl ?_
        rw [jwi_n (by omega) (by decide)]
        refine fx_if_ne (tgt := 25) dX4_of_15 (by decide) rfl (fun hc15 => ?_) (fun hc15 => ?_)
        · refine fx_iload_n dX4_of_25 rfl rfl ?_
          refine fx_iconst (v := nI 5) dX4_of_26 (by decide) ?_
          refine fx_icmp_ge (tgt := 39) dX4_of_27 (by decide) rfl (fun hc27 => ?_) (fun hc27 => ?_)
          · refine fx_iload_n dX4_of_39 rfl rfl ?_
            refine fx_iconst (v := nI 5) dX4_of_40 (by decide) ?_
            refine fx_icmp_ne (tgt := 52) dX4_of_41 (by decide) rfl (fun hc41 => ?_) (fun hc41 => ?_)
            · exact absurd rfl hc41
            · refine fx_aload_n dX4_of_44 rfl rfl ?_
              refine fx_iload_n dX4_of_45 rfl rfl ?_
              refine fx_callVv dX4_of_46 vX4_nextOf lX4_144 (by decide) rfl (Nat.le_of_ble_eq_true rfl) (eX4_nextOf hK hV hb) rfl ?_
              refine fx_goto (tgt := 63) dX4_of_49 (by decide) ?_
              exact fx_ireq dX4_of_63 rfl rfl rfl rfl
          · exact absurd (Int32.le_refl _) hc27
        · exact absurd hc15 (by decide)
    · rw [if_neg h6]
      have h7 : f = 6 := by omega
      subst h7
      refine fx_aload_n dX4_of_0 rfl rfl ?_
      refine fx_iload_n dX4_of_1 rfl rfl ?_
      refine fx_callVv dX4_of_2 vX4_isBell lX4_141 (by decide) rfl (Nat.le_of_ble_eq_true rfl) (eX4_isBell hV) rfl ?_
      rw [jbell_y hb hn8]
      refine fx_if_eq (tgt := 18) dX4_of_5 (by decide) rfl (fun hc5 => ?_) (fun hc5 => ?_)
      · exact absurd hc5 (by decide)
      · refine fx_iload_n dX4_of_8 rfl rfl ?_
        refine fx_iconst (v := nI 0) dX4_of_9 (by decide) ?_
        refine fx_bipush (v := nI 6) dX4_of_10 (by decide) ?_
        refine fx_callSv dX4_of_12 sX4_within lX4_74 (by decide) (Nat.le_of_ble_eq_true rfl) eX4_within rfl ?_
        rw [jwi_n (by omega) (by decide)]
        refine fx_if_ne (tgt := 25) dX4_of_15 (by decide) rfl (fun hc15 => ?_) (fun hc15 => ?_)
        · refine fx_iload_n dX4_of_25 rfl rfl ?_
          refine fx_iconst (v := nI 5) dX4_of_26 (by decide) ?_
          refine fx_icmp_ge (tgt := 39) dX4_of_27 (by decide) rfl (fun hc27 => ?_) (fun hc27 => ?_)
          · refine fx_iload_n dX4_of_39 rfl rfl ?_
            refine fx_iconst (v := nI 5) dX4_of_40 (by decide) ?_
            refine fx_icmp_ne (tgt := 52) dX4_of_41 (by decide) rfl (fun hc41 => ?_) (fun hc41 => ?_)
            · refine fx_aload_n dX4_of_52 rfl rfl ?_
              refine fx_iload_n dX4_of_53 rfl rfl ?_
              refine fx_aload_n dX4_of_54 rfl rfl ?_
              refine fx_iload_n dX4_of_55 rfl rfl ?_
              refine fx_iconst (v := nI 1) dX4_of_56 (by decide) ?_
              refine fx_callVv dX4_of_57 vX4_bellIs lX4_101 (by decide) rfl (Nat.le_of_ble_eq_true rfl) (eM_bell (by omega) (by decide)) rfl ?_
              rw [ea]
              refine fx_callVv dX4_of_60 vX4_worthOf lX4_135 (by decide) rfl (Nat.le_of_ble_eq_true rfl) (eX4_worthOf hV hb ha) rfl ?_
              exact fx_ireq dX4_of_63 rfl rfl (by rw [nI_clamp (by omega)]) rfl
            · exact absurd hc41 (by decide)
          · exact absurd (nI_le (by decide) (by decide)) hc27
        · exact absurd hc15 (by decide)
theorem eX4_change_n {a b v : Int32} (hV : jW (G 1) n) (h : jwi a (nI 0) (nI n - nI 1) = false ∨ jwi b (nI 0) (nI 4) = false ∨ ∃ j, j ≤ 4 ∧ b = nI j ∧ jmb j v = false) : Mx mX4_change [.ref 0, .int a, .int b, .int v] (rM F G) (some (.int (jfd 0))) (rMn F G 0) := by
  refine mx_of (L := [some (.ref 0), some (.int a), some (.int b), some (.int v)]) (by decide) (fun _ => rfl) (fun _ => Nat.le_of_ble_eq_true rfl) ?_
  rcases h with h | h | ⟨j, hj, rfl, h⟩
  · refine fx_aload_n dX4_change_0 rfl rfl ?_
    refine fx_iload_n dX4_change_1 rfl rfl ?_
    refine fx_callVv dX4_change_2 vX4_isBell lX4_141 (by decide) rfl (Nat.le_of_ble_eq_true rfl) (eX4_isBell hV) rfl ?_
    rw [h]
    refine fx_if_eq (tgt := 29) dX4_change_5 (by decide) rfl (fun hc5 => ?_) (fun hc5 => ?_)
    · refine fx_aload_n dX4_change_29 rfl rfl ?_
      refine fx_ldc dX4_change_30 qX4_69 ?_
      refine fx_callVv dX4_change_32 vX4_finding lX4_88 (by decide) rfl (Nat.le_of_ble_eq_true rfl) (eX4_finding (k := 0) (by decide) (by decide)) rfl ?_
      exact fx_ireq dX4_change_35 rfl rfl rfl rfl
    · exact absurd rfl hc5
  · refine fx_aload_n dX4_change_0 rfl rfl ?_
    refine fx_iload_n dX4_change_1 rfl rfl ?_
    refine fx_callVv dX4_change_2 vX4_isBell lX4_141 (by decide) rfl (Nat.le_of_ble_eq_true rfl) (eX4_isBell hV) rfl ?_
    refine fx_if_eq (tgt := 29) dX4_change_5 (by decide) rfl (fun hc5 => ?_) (fun hc5 => ?_)
    · refine fx_aload_n dX4_change_29 rfl rfl ?_
      refine fx_ldc dX4_change_30 qX4_69 ?_
      refine fx_callVv dX4_change_32 vX4_finding lX4_88 (by decide) rfl (Nat.le_of_ble_eq_true rfl) (eX4_finding (k := 0) (by decide) (by decide)) rfl ?_
      exact fx_ireq dX4_change_35 rfl rfl rfl rfl
    · refine fx_iload_n dX4_change_8 rfl rfl ?_
      refine fx_iload_n dX4_change_9 rfl rfl ?_
      refine fx_callSv dX4_change_10 sX4_mayBe lX4_147 (by decide) (Nat.le_of_ble_eq_true rfl) (eX4_mayBe_out h) rfl ?_
      refine fx_if_eq (tgt := 29) dX4_change_13 (by decide) rfl (fun hc13 => ?_) (fun hc13 => ?_)
      · refine fx_aload_n dX4_change_29 rfl rfl ?_
        refine fx_ldc dX4_change_30 qX4_69 ?_
        refine fx_callVv dX4_change_32 vX4_finding lX4_88 (by decide) rfl (Nat.le_of_ble_eq_true rfl) (eX4_finding (k := 0) (by decide) (by decide)) rfl ?_
        exact fx_ireq dX4_change_35 rfl rfl rfl rfl
      · exact absurd rfl hc13
  · refine fx_aload_n dX4_change_0 rfl rfl ?_
    refine fx_iload_n dX4_change_1 rfl rfl ?_
    refine fx_callVv dX4_change_2 vX4_isBell lX4_141 (by decide) rfl (Nat.le_of_ble_eq_true rfl) (eX4_isBell hV) rfl ?_
    refine fx_if_eq (tgt := 29) dX4_change_5 (by decide) rfl (fun hc5 => ?_) (fun hc5 => ?_)
    · refine fx_aload_n dX4_change_29 rfl rfl ?_
      refine fx_ldc dX4_change_30 qX4_69 ?_
      refine fx_callVv dX4_change_32 vX4_finding lX4_88 (by decide) rfl (Nat.le_of_ble_eq_true rfl) (eX4_finding (k := 0) (by decide) (by decide)) rfl ?_
      exact fx_ireq dX4_change_35 rfl rfl rfl rfl
    · refine fx_iload_n dX4_change_8 rfl rfl ?_
      refine fx_iload_n dX4_change_9 rfl rfl ?_
      refine fx_callSv dX4_change_10 sX4_mayBe lX4_147 (by decide) (Nat.le_of_ble_eq_true rfl) (eX4_mayBe hj) rfl ?_
      rw [h]
      refine fx_if_eq (tgt := 29) dX4_change_13 (by decide) rfl (fun hc13 => ?_) (fun hc13 => ?_)
      · refine fx_aload_n dX4_change_29 rfl rfl ?_
        refine fx_ldc dX4_change_30 qX4_69 ?_
        refine fx_callVv dX4_change_32 vX4_finding lX4_88 (by decide) rfl (Nat.le_of_ble_eq_true rfl) (eX4_finding (k := 0) (by decide) (by decide)) rfl ?_
        exact fx_ireq dX4_change_35 rfl rfl rfl rfl
      · exact absurd rfl hc13
theorem eX4_change_y {b f : Nat} {v : Int32} (hV : jW (G 1) n) (hb : b < n) (hf : f ≤ 4) (hv : jmb f v = true) : Mx mX4_change [.ref 0, .int (nI b), .int (nI f), .int v] (rM F G) (some (.int (G 1 (146 + 5 * b + f)))) (rM F (ga G 1 (upd (G 1) (146 + 5 * b + f) v))) := by
  refine mx_of (L := [some (.ref 0), some (.int (nI b)), some (.int (nI f)), some (.int v)]) (by decide) (fun _ => rfl) (fun _ => Nat.le_of_ble_eq_true rfl) ?_
  have hn8 := hV.2.1
  refine fx_aload_n dX4_change_0 rfl rfl ?_
  refine fx_iload_n dX4_change_1 rfl rfl ?_
  refine fx_callVv dX4_change_2 vX4_isBell lX4_141 (by decide) rfl (Nat.le_of_ble_eq_true rfl) (eX4_isBell hV) rfl ?_
  rw [jbell_y hb hn8]
  refine fx_if_eq (tgt := 29) dX4_change_5 (by decide) rfl (fun hc5 => ?_) (fun hc5 => ?_)
  · exact absurd hc5 (by decide)
  · refine fx_iload_n dX4_change_8 rfl rfl ?_
    refine fx_iload_n dX4_change_9 rfl rfl ?_
    refine fx_callSv dX4_change_10 sX4_mayBe lX4_147 (by decide) (Nat.le_of_ble_eq_true rfl) (eX4_mayBe hf) rfl ?_
    rw [hv]
    refine fx_if_eq (tgt := 29) dX4_change_13 (by decide) rfl (fun hc13 => ?_) (fun hc13 => ?_)
    · exact absurd hc13 (by decide)
    · refine fx_aload_n dX4_change_16 rfl rfl ?_
      refine fx_iload_n dX4_change_17 rfl rfl ?_
      refine fx_iload_n dX4_change_18 rfl rfl ?_
      refine fx_callSv dX4_change_19 sX4_at lX4_98 (by decide) (Nat.le_of_ble_eq_true rfl) eX4_at rfl ?_
      rw [jat_n]
      refine fx_iload_n dX4_change_22 rfl rfl ?_
      refine fx_callVv dX4_change_23 vX4_become lX4_91 (by decide) rfl (Nat.le_of_ble_eq_true rfl) (eX4_become (by omega)) rfl ?_
      refine fx_goto (tgt := 35) dX4_change_26 (by decide) ?_
      exact fx_ireq dX4_change_35 rfl rfl rfl rfl
theorem eX4_worth_n {a b : Int32} (hV : jW (G 1) n) (h : jwi a (nI 0) (nI n - nI 1) = false ∨ jwi b (nI 0) (nI 63) = false) : Mx mX4_worth [.ref 0, .int a, .int b] (rM F G) (some (.int (jfd 0))) (rMn F G 0) := by
  refine mx_of (L := [some (.ref 0), some (.int a), some (.int b)]) (by decide) (fun _ => rfl) (fun _ => Nat.le_of_ble_eq_true rfl) ?_
  refine fx_aload_n dX4_worth_0 rfl rfl ?_
  refine fx_iload_n dX4_worth_1 rfl rfl ?_
  refine fx_callVv dX4_worth_2 vX4_isBell lX4_141 (by decide) rfl (Nat.le_of_ble_eq_true rfl) (eX4_isBell hV) rfl ?_
  refine fx_if_eq (tgt := 24) dX4_worth_5 (by decide) rfl (fun hc5 => ?_) (fun hc5 => ?_)
  · refine fx_aload_n dX4_worth_24 rfl rfl ?_
    refine fx_ldc dX4_worth_25 qX4_69 ?_
    refine fx_callVv dX4_worth_27 vX4_finding lX4_88 (by decide) rfl (Nat.le_of_ble_eq_true rfl) (eX4_finding (k := 0) (by decide) (by decide)) rfl ?_
    exact fx_ireq dX4_worth_30 rfl rfl rfl rfl
  · refine fx_iload_n dX4_worth_8 rfl rfl ?_
    refine fx_callSv dX4_worth_9 sX4_isCell lX4_84 (by decide) (Nat.le_of_ble_eq_true rfl) eX4_isCell rfl ?_
    refine fx_if_eq (tgt := 24) dX4_worth_12 (by decide) rfl (fun hc12 => ?_) (fun hc12 => ?_)
    · refine fx_aload_n dX4_worth_24 rfl rfl ?_
      refine fx_ldc dX4_worth_25 qX4_69 ?_
      refine fx_callVv dX4_worth_27 vX4_finding lX4_88 (by decide) rfl (Nat.le_of_ble_eq_true rfl) (eX4_finding (k := 0) (by decide) (by decide)) rfl ?_
      exact fx_ireq dX4_worth_30 rfl rfl rfl rfl
    · exact h.elim (fun q => jtf q (nI_ne0' hc5)) (fun q => jtf q (nI_ne0' hc12))
theorem eX4_worth_y {b c : Nat} (hV : jW (G 1) n) (hb : b < n) (hc : c < 64) : Mx mX4_worth [.ref 0, .int (nI b), .int (nI c)] (rM F G) (some (.int (jworth (G 1) b c n))) (rM F G) := by
  refine mx_of (L := [some (.ref 0), some (.int (nI b)), some (.int (nI c))]) (by decide) (fun _ => rfl) (fun _ => Nat.le_of_ble_eq_true rfl) ?_
  have hn8 := hV.2.1
  refine fx_aload_n dX4_worth_0 rfl rfl ?_
  refine fx_iload_n dX4_worth_1 rfl rfl ?_
  refine fx_callVv dX4_worth_2 vX4_isBell lX4_141 (by decide) rfl (Nat.le_of_ble_eq_true rfl) (eX4_isBell hV) rfl ?_
  rw [jbell_y hb hn8]
  refine fx_if_eq (tgt := 24) dX4_worth_5 (by decide) rfl (fun hc5 => ?_) (fun hc5 => ?_)
  · exact absurd hc5 (by decide)
  · refine fx_iload_n dX4_worth_8 rfl rfl ?_
    refine fx_callSv dX4_worth_9 sX4_isCell lX4_84 (by decide) (Nat.le_of_ble_eq_true rfl) eX4_isCell rfl ?_
    rw [jwi_n (by omega) (by decide)]
    refine fx_if_eq (tgt := 24) dX4_worth_12 (by decide) rfl (fun hc12 => ?_) (fun hc12 => ?_)
    · exact absurd hc12 (by decide)
    · refine fx_aload_n dX4_worth_15 rfl rfl ?_
      refine fx_iload_n dX4_worth_16 rfl rfl ?_
      refine fx_iload_n dX4_worth_17 rfl rfl ?_
      refine fx_callVv dX4_worth_18 vX4_worthOf lX4_135 (by decide) rfl (Nat.le_of_ble_eq_true rfl) (eX4_worthOf hV hb hc) rfl ?_
      refine fx_goto (tgt := 30) dX4_worth_21 (by decide) ?_
      exact fx_ireq dX4_worth_30 rfl rfl rfl rfl
theorem eX4_loud_n {a b : Int32} (hV : jW (G 1) n) (h : jwi a (nI 0) (nI n - nI 1) = false ∨ jwi b (nI 0) (nI 63) = false) : Mx mX4_loud [.ref 0, .int a, .int b] (rM F G) (some (.int (jfd 0))) (rMn F G 0) := by
  refine mx_of (L := [some (.ref 0), some (.int a), some (.int b)]) (by decide) (fun _ => rfl) (fun _ => Nat.le_of_ble_eq_true rfl) ?_
  refine fx_aload_n dX4_loud_0 rfl rfl ?_
  refine fx_iload_n dX4_loud_1 rfl rfl ?_
  refine fx_callVv dX4_loud_2 vX4_isBell lX4_141 (by decide) rfl (Nat.le_of_ble_eq_true rfl) (eX4_isBell hV) rfl ?_
  refine fx_if_eq (tgt := 24) dX4_loud_5 (by decide) rfl (fun hc5 => ?_) (fun hc5 => ?_)
  · refine fx_aload_n dX4_loud_24 rfl rfl ?_
    refine fx_ldc dX4_loud_25 qX4_69 ?_
    refine fx_callVv dX4_loud_27 vX4_finding lX4_88 (by decide) rfl (Nat.le_of_ble_eq_true rfl) (eX4_finding (k := 0) (by decide) (by decide)) rfl ?_
    exact fx_ireq dX4_loud_30 rfl rfl rfl rfl
  · refine fx_iload_n dX4_loud_8 rfl rfl ?_
    refine fx_callSv dX4_loud_9 sX4_isCell lX4_84 (by decide) (Nat.le_of_ble_eq_true rfl) eX4_isCell rfl ?_
    refine fx_if_eq (tgt := 24) dX4_loud_12 (by decide) rfl (fun hc12 => ?_) (fun hc12 => ?_)
    · refine fx_aload_n dX4_loud_24 rfl rfl ?_
      refine fx_ldc dX4_loud_25 qX4_69 ?_
      refine fx_callVv dX4_loud_27 vX4_finding lX4_88 (by decide) rfl (Nat.le_of_ble_eq_true rfl) (eX4_finding (k := 0) (by decide) (by decide)) rfl ?_
      exact fx_ireq dX4_loud_30 rfl rfl rfl rfl
    · exact h.elim (fun q => jtf q (nI_ne0' hc5)) (fun q => jtf q (nI_ne0' hc12))
theorem eX4_loud_y {b c : Nat} (hV : jW (G 1) n) (hb : b < n) (hc : c < 64) : Mx mX4_loud [.ref 0, .int (nI b), .int (nI c)] (rM F G) (some (.int (jloud (G 1 (146 + 5 * b + 3)) (G 1 (146 + 5 * b + 1)) (nI c)))) (rM F G) := by
  refine mx_of (L := [some (.ref 0), some (.int (nI b)), some (.int (nI c))]) (by decide) (fun _ => rfl) (fun _ => Nat.le_of_ble_eq_true rfl) ?_
  have hn8 := hV.2.1
  refine fx_aload_n dX4_loud_0 rfl rfl ?_
  refine fx_iload_n dX4_loud_1 rfl rfl ?_
  refine fx_callVv dX4_loud_2 vX4_isBell lX4_141 (by decide) rfl (Nat.le_of_ble_eq_true rfl) (eX4_isBell hV) rfl ?_
  rw [jbell_y hb hn8]
  refine fx_if_eq (tgt := 24) dX4_loud_5 (by decide) rfl (fun hc5 => ?_) (fun hc5 => ?_)
  · exact absurd hc5 (by decide)
  · refine fx_iload_n dX4_loud_8 rfl rfl ?_
    refine fx_callSv dX4_loud_9 sX4_isCell lX4_84 (by decide) (Nat.le_of_ble_eq_true rfl) eX4_isCell rfl ?_
    rw [jwi_n (by omega) (by decide)]
    refine fx_if_eq (tgt := 24) dX4_loud_12 (by decide) rfl (fun hc12 => ?_) (fun hc12 => ?_)
    · exact absurd hc12 (by decide)
    · refine fx_aload_n dX4_loud_15 rfl rfl ?_
      refine fx_iload_n dX4_loud_16 rfl rfl ?_
      refine fx_iload_n dX4_loud_17 rfl rfl ?_
      refine fx_callVv dX4_loud_18 vX4_loudAt lX4_153 (by decide) rfl (Nat.le_of_ble_eq_true rfl) (eX4_loudAt (by omega)) rfl ?_
      refine fx_goto (tgt := 30) dX4_loud_21 (by decide) ?_
      exact fx_ireq dX4_loud_30 rfl rfl rfl rfl
theorem eX4_cell_n {a b : Int32} (h : jwi a (nI 0) (nI 63) = false ∨ jwi b (nI 0) (nI 3) = false) : Mx mX4_cell [.ref 0, .int a, .int b] (rM F G) (some (.int (jfd 0))) (rMn F G 0) := by
  refine mx_of (L := [some (.ref 0), some (.int a), some (.int b)]) (by decide) (fun _ => rfl) (fun _ => Nat.le_of_ble_eq_true rfl) ?_
  refine fx_iload_n dX4_cell_0 rfl rfl ?_
  refine fx_callSv dX4_cell_1 sX4_isCell lX4_84 (by decide) (Nat.le_of_ble_eq_true rfl) eX4_isCell rfl ?_
  refine fx_if_eq (tgt := 16) dX4_cell_4 (by decide) rfl (fun hc4 => ?_) (fun hc4 => ?_)
  · refine fx_aload_n dX4_cell_16 rfl rfl ?_
    refine fx_ldc dX4_cell_17 qX4_69 ?_
    refine fx_callVv dX4_cell_19 vX4_finding lX4_88 (by decide) rfl (Nat.le_of_ble_eq_true rfl) (eX4_finding (k := 0) (by decide) (by decide)) rfl ?_
    exact fx_ireq dX4_cell_22 rfl rfl rfl rfl
  · refine fx_iload_n dX4_cell_7 rfl rfl ?_
    refine fx_iconst (v := nI 0) dX4_cell_8 (by decide) ?_
    refine fx_iconst (v := nI 3) dX4_cell_9 (by decide) ?_
    refine fx_callSv dX4_cell_10 sX4_within lX4_74 (by decide) (Nat.le_of_ble_eq_true rfl) eX4_within rfl ?_
    refine fx_if_ne (tgt := 23) dX4_cell_13 (by decide) rfl (fun hc13 => ?_) (fun hc13 => ?_)
    · exact h.elim (fun q => jtf q (nI_ne0' hc4)) (fun q => jtf q (nI_ne0' hc13))
    · refine fx_aload_n dX4_cell_16 rfl rfl ?_
      refine fx_ldc dX4_cell_17 qX4_69 ?_
      refine fx_callVv dX4_cell_19 vX4_finding lX4_88 (by decide) rfl (Nat.le_of_ble_eq_true rfl) (eX4_finding (k := 0) (by decide) (by decide)) rfl ?_
      exact fx_ireq dX4_cell_22 rfl rfl rfl rfl
theorem eX4_cell_y {c f : Nat} (hV : jW (G 1) n) (hc : c < 64) (hf : f ≤ 3) : Mx mX4_cell [.ref 0, .int (nI c), .int (nI f)] (rM F G) (some (.int (if f = 0 then G 1 (18 + c) else if f = 1 then G 1 (82 + c) else if f = 2 then jheard (G 1) c n else nI (jmany (G 1) c n)))) (rM F G) := by
  refine mx_of (L := [some (.ref 0), some (.int (nI c)), some (.int (nI f))]) (by decide) (fun _ => rfl) (fun _ => Nat.le_of_ble_eq_true rfl) ?_
  rcases (show f = 0 ∨ f = 1 ∨ f = 2 ∨ f = 3 by omega) with rfl | rfl | rfl | rfl
  · refine fx_iload_n dX4_cell_0 rfl rfl ?_
    refine fx_callSv dX4_cell_1 sX4_isCell lX4_84 (by decide) (Nat.le_of_ble_eq_true rfl) eX4_isCell rfl ?_
    rw [jwi_n (by omega) (by decide)]
    refine fx_if_eq (tgt := 16) dX4_cell_4 (by decide) rfl (fun hc4 => ?_) (fun hc4 => ?_)
    · exact absurd hc4 (by decide)
    · refine fx_iload_n dX4_cell_7 rfl rfl ?_
      refine fx_iconst (v := nI 0) dX4_cell_8 (by decide) ?_
      refine fx_iconst (v := nI 3) dX4_cell_9 (by decide) ?_
      refine fx_callSv dX4_cell_10 sX4_within lX4_74 (by decide) (Nat.le_of_ble_eq_true rfl) eX4_within rfl ?_
      rw [jwi_n (by omega) (by decide)]
      refine fx_if_ne (tgt := 23) dX4_cell_13 (by decide) rfl (fun hc13 => ?_) (fun hc13 => ?_)
      · refine fx_iload_n dX4_cell_23 rfl rfl ?_
        refine fx_if_ne (tgt := 39) dX4_cell_24 (by decide) rfl (fun hc24 => ?_) (fun hc24 => ?_)
        · exact absurd (by decide) hc24
        · refine fx_aload_n dX4_cell_27 rfl rfl ?_
          refine fx_get dX4_cell_28 kX4_9 rfl rfl ?_
          refine fx_bipush (v := nI 18) dX4_cell_31 (by decide) ?_
          refine fx_iload_n dX4_cell_33 rfl rfl ?_
          refine fx_iadd dX4_cell_34 ?_
          rw [nI_add]
          refine fx_iald dX4_cell_35 rfl (vp_in_nI (by omega) (by omega)) ?_
          rw [nI_clamp (by omega)]
          refine fx_goto (tgt := 74) dX4_cell_36 (by decide) ?_
          exact fx_ireq dX4_cell_74 rfl rfl rfl rfl
      · exact absurd hc13 (by decide)
  · refine fx_iload_n dX4_cell_0 rfl rfl ?_
    refine fx_callSv dX4_cell_1 sX4_isCell lX4_84 (by decide) (Nat.le_of_ble_eq_true rfl) eX4_isCell rfl ?_
    rw [jwi_n (by omega) (by decide)]
    refine fx_if_eq (tgt := 16) dX4_cell_4 (by decide) rfl (fun hc4 => ?_) (fun hc4 => ?_)
    · exact absurd hc4 (by decide)
    · refine fx_iload_n dX4_cell_7 rfl rfl ?_
      refine fx_iconst (v := nI 0) dX4_cell_8 (by decide) ?_
      refine fx_iconst (v := nI 3) dX4_cell_9 (by decide) ?_
      refine fx_callSv dX4_cell_10 sX4_within lX4_74 (by decide) (Nat.le_of_ble_eq_true rfl) eX4_within rfl ?_
      rw [jwi_n (by omega) (by decide)]
      refine fx_if_ne (tgt := 23) dX4_cell_13 (by decide) rfl (fun hc13 => ?_) (fun hc13 => ?_)
      · refine fx_iload_n dX4_cell_23 rfl rfl ?_
        refine fx_if_ne (tgt := 39) dX4_cell_24 (by decide) rfl (fun hc24 => ?_) (fun hc24 => ?_)
        · refine fx_iload_n dX4_cell_39 rfl rfl ?_
          refine fx_iconst (v := nI 1) dX4_cell_40 (by decide) ?_
          refine fx_icmp_ne (tgt := 56) dX4_cell_41 (by decide) rfl (fun hc41 => ?_) (fun hc41 => ?_)
          · exact absurd rfl hc41
          · refine fx_aload_n dX4_cell_44 rfl rfl ?_
            refine fx_get dX4_cell_45 kX4_9 rfl rfl ?_
            refine fx_bipush (v := nI 82) dX4_cell_48 (by decide) ?_
            refine fx_iload_n dX4_cell_50 rfl rfl ?_
            refine fx_iadd dX4_cell_51 ?_
            rw [nI_add]
            refine fx_iald dX4_cell_52 rfl (vp_in_nI (by omega) (by omega)) ?_
            rw [nI_clamp (by omega)]
            refine fx_goto (tgt := 74) dX4_cell_53 (by decide) ?_
            exact fx_ireq dX4_cell_74 rfl rfl rfl rfl
        · exact absurd hc24 (by decide)
      · exact absurd hc13 (by decide)
  · refine fx_iload_n dX4_cell_0 rfl rfl ?_
    refine fx_callSv dX4_cell_1 sX4_isCell lX4_84 (by decide) (Nat.le_of_ble_eq_true rfl) eX4_isCell rfl ?_
    rw [jwi_n (by omega) (by decide)]
    refine fx_if_eq (tgt := 16) dX4_cell_4 (by decide) rfl (fun hc4 => ?_) (fun hc4 => ?_)
    · exact absurd hc4 (by decide)
    · refine fx_iload_n dX4_cell_7 rfl rfl ?_
      refine fx_iconst (v := nI 0) dX4_cell_8 (by decide) ?_
      refine fx_iconst (v := nI 3) dX4_cell_9 (by decide) ?_
      refine fx_callSv dX4_cell_10 sX4_within lX4_74 (by decide) (Nat.le_of_ble_eq_true rfl) eX4_within rfl ?_
      rw [jwi_n (by omega) (by decide)]
      refine fx_if_ne (tgt := 23) dX4_cell_13 (by decide) rfl (fun hc13 => ?_) (fun hc13 => ?_)
      · refine fx_iload_n dX4_cell_23 rfl rfl ?_
        refine fx_if_ne (tgt := 39) dX4_cell_24 (by decide) rfl (fun hc24 => ?_) (fun hc24 => ?_)
        · refine fx_iload_n dX4_cell_39 rfl rfl ?_
          refine fx_iconst (v := nI 1) dX4_cell_40 (by decide) ?_
          refine fx_icmp_ne (tgt := 56) dX4_cell_41 (by decide) rfl (fun hc41 => ?_) (fun hc41 => ?_)
          · refine fx_iload_n dX4_cell_56 rfl rfl ?_
            refine fx_iconst (v := nI 2) dX4_cell_57 (by decide) ?_
            refine fx_icmp_ne (tgt := 69) dX4_cell_58 (by decide) rfl (fun hc58 => ?_) (fun hc58 => ?_)
            · exact absurd rfl hc58
            · refine fx_aload_n dX4_cell_61 rfl rfl ?_
              refine fx_iload_n dX4_cell_62 rfl rfl ?_
              refine fx_callVv dX4_cell_63 vX4_heardAt lX4_156 (by decide) rfl (Nat.le_of_ble_eq_true rfl) (eX4_heardAt hV) rfl ?_
              refine fx_goto (tgt := 74) dX4_cell_66 (by decide) ?_
              exact fx_ireq dX4_cell_74 rfl rfl rfl rfl
          · exact absurd hc41 (by decide)
        · exact absurd hc24 (by decide)
      · exact absurd hc13 (by decide)
  · refine fx_iload_n dX4_cell_0 rfl rfl ?_
    refine fx_callSv dX4_cell_1 sX4_isCell lX4_84 (by decide) (Nat.le_of_ble_eq_true rfl) eX4_isCell rfl ?_
    rw [jwi_n (by omega) (by decide)]
    refine fx_if_eq (tgt := 16) dX4_cell_4 (by decide) rfl (fun hc4 => ?_) (fun hc4 => ?_)
    · exact absurd hc4 (by decide)
    · refine fx_iload_n dX4_cell_7 rfl rfl ?_
      refine fx_iconst (v := nI 0) dX4_cell_8 (by decide) ?_
      refine fx_iconst (v := nI 3) dX4_cell_9 (by decide) ?_
      refine fx_callSv dX4_cell_10 sX4_within lX4_74 (by decide) (Nat.le_of_ble_eq_true rfl) eX4_within rfl ?_
      rw [jwi_n (by omega) (by decide)]
      refine fx_if_ne (tgt := 23) dX4_cell_13 (by decide) rfl (fun hc13 => ?_) (fun hc13 => ?_)
      · refine fx_iload_n dX4_cell_23 rfl rfl ?_
        refine fx_if_ne (tgt := 39) dX4_cell_24 (by decide) rfl (fun hc24 => ?_) (fun hc24 => ?_)
        · refine fx_iload_n dX4_cell_39 rfl rfl ?_
          refine fx_iconst (v := nI 1) dX4_cell_40 (by decide) ?_
          refine fx_icmp_ne (tgt := 56) dX4_cell_41 (by decide) rfl (fun hc41 => ?_) (fun hc41 => ?_)
          · refine fx_iload_n dX4_cell_56 rfl rfl ?_
            refine fx_iconst (v := nI 2) dX4_cell_57 (by decide) ?_
            refine fx_icmp_ne (tgt := 69) dX4_cell_58 (by decide) rfl (fun hc58 => ?_) (fun hc58 => ?_)
            · refine fx_aload_n dX4_cell_69 rfl rfl ?_
              refine fx_iload_n dX4_cell_70 rfl rfl ?_
              refine fx_callVv dX4_cell_71 vX4_manyAt lX4_159 (by decide) rfl (Nat.le_of_ble_eq_true rfl) (eX4_manyAt hV) rfl ?_
              exact fx_ireq dX4_cell_74 rfl rfl rfl rfl
            · exact absurd hc58 (by decide)
          · exact absurd hc41 (by decide)
        · exact absurd hc24 (by decide)
      · exact absurd hc13 (by decide)
theorem j99999 : (99999 : Int32) = nI 99999 := by decide
theorem eX4_go_n {a : Int32} (h : jwi a (nI 1) (nI 24) = false) : Mx mX4_go [.ref 0, .int a] (rM F G) (some (.int (jfd 0))) (rMn F G 0) := by
  refine mx_of (L := [some (.ref 0), some (.int a)]) (by decide) (fun _ => rfl) (fun _ => Nat.le_of_ble_eq_true rfl) ?_
  refine fx_iload_n dX4_go_0 rfl rfl ?_
  refine fx_iconst (v := nI 1) dX4_go_1 (by decide) ?_
  refine fx_bipush (v := nI 24) dX4_go_2 (by decide) ?_
  refine fx_callSv dX4_go_4 sX4_within lX4_74 (by decide) (Nat.le_of_ble_eq_true rfl) eX4_within rfl ?_
  refine fx_if_ne (tgt := 17) dX4_go_7 (by decide) rfl (fun hc7 => ?_) (fun hc7 => ?_)
  · exact jtf h (nI_ne0' hc7)
  · refine fx_aload_n dX4_go_10 rfl rfl ?_
    refine fx_ldc dX4_go_11 qX4_69 ?_
    refine fx_callVv dX4_go_13 vX4_finding lX4_88 (by decide) rfl (Nat.le_of_ble_eq_true rfl) (eX4_finding (k := 0) (by decide) (by decide)) rfl ?_
    exact fx_ireq dX4_go_16 rfl rfl rfl rfl
theorem eX4_go_s {k t : Nat} (h0 : G 1 0 = nI t) (ht : t ≤ 99999) (hk : jwi (nI k) (nI 1) (nI 24) = true) (hk2 : k ≤ 24) (h : 99999 < t + k) : Mx mX4_go [.ref 0, .int (nI k)] (rM F G) (some (.int (jfd 4))) (rMn F G 4) := by
  refine mx_of (L := [some (.ref 0), some (.int (nI k))]) (by decide) (fun _ => rfl) (fun _ => Nat.le_of_ble_eq_true rfl) ?_
  refine fx_iload_n dX4_go_0 rfl rfl ?_
  refine fx_iconst (v := nI 1) dX4_go_1 (by decide) ?_
  refine fx_bipush (v := nI 24) dX4_go_2 (by decide) ?_
  refine fx_callSv dX4_go_4 sX4_within lX4_74 (by decide) (Nat.le_of_ble_eq_true rfl) eX4_within rfl ?_
  rw [hk]
  refine fx_if_ne (tgt := 17) dX4_go_7 (by decide) rfl (fun hc7 => ?_) (fun hc7 => ?_)
  · refine fx_aload_n dX4_go_17 rfl rfl ?_
    refine fx_get dX4_go_18 kX4_9 rfl rfl ?_
    refine fx_iconst (v := nI 0) dX4_go_21 (by decide) ?_
    refine fx_iald dX4_go_22 rfl (vp_in_nI (by decide) (by decide)) ?_
    rw [nI_clamp (n := 0) (by decide), h0]
    refine fx_iload_n dX4_go_23 rfl rfl ?_
    refine fx_iadd dX4_go_24 ?_
    rw [nI_add]
    refine fx_ldc dX4_go_25 qX4_172 ?_
    rw [j99999]
    refine fx_icmp_le (tgt := 37) dX4_go_27 (by decide) rfl (fun hc27 => ?_) (fun hc27 => ?_)
    · exact absurd hc27 (nI_ge h (by omega))
    · refine fx_aload_n dX4_go_30 rfl rfl ?_
      refine fx_ldc dX4_go_31 qX4_173 ?_
      refine fx_callVv dX4_go_33 vX4_finding lX4_88 (by decide) rfl (Nat.le_of_ble_eq_true rfl) (eX4_finding (k := 4) (by decide) (by decide)) rfl ?_
      exact fx_ireq dX4_go_36 rfl rfl rfl rfl
  · exact absurd hc7 (by decide)
theorem eX4_go_y {k t : Nat} (hK : jK G) (hV : jW (G 1) n) (h0 : G 1 0 = nI t) (hk : jwi (nI k) (nI 1) (nI 24) = true) (hk2 : k ≤ 24) (h : t + k ≤ 99999) : Mx mX4_go [.ref 0, .int (nI k)] (rM F G) (some (.int (nI (jp (jsN (jhrs (G 1) n k) n))))) (rM (upd F 7 (jmv (F 7) (G 1) n k)) (ga G 1 (jhrs (G 1) n k))) := by
  refine mx_of (L := [some (.ref 0), some (.int (nI k))]) (by decide) (fun _ => rfl) (fun _ => Nat.le_of_ble_eq_true rfl) ?_
  have eC := eX4_caughtNow (F := upd F 7 (jmv (F 7) (G 1) n k)) (G := ga G 1 (jhrs (G 1) n k)) (n := n) (by rw [ga_s]; exact jW_hrs hV k)
  rw [ga_s] at eC
  refine fx_iload_n dX4_go_0 rfl rfl ?_
  refine fx_iconst (v := nI 1) dX4_go_1 (by decide) ?_
  refine fx_bipush (v := nI 24) dX4_go_2 (by decide) ?_
  refine fx_callSv dX4_go_4 sX4_within lX4_74 (by decide) (Nat.le_of_ble_eq_true rfl) eX4_within rfl ?_
  rw [hk]
  refine fx_if_ne (tgt := 17) dX4_go_7 (by decide) rfl (fun hc7 => ?_) (fun hc7 => ?_)
  · refine fx_aload_n dX4_go_17 rfl rfl ?_
    refine fx_get dX4_go_18 kX4_9 rfl rfl ?_
    refine fx_iconst (v := nI 0) dX4_go_21 (by decide) ?_
    refine fx_iald dX4_go_22 rfl (vp_in_nI (by decide) (by decide)) ?_
    rw [nI_clamp (n := 0) (by decide), h0]
    refine fx_iload_n dX4_go_23 rfl rfl ?_
    refine fx_iadd dX4_go_24 ?_
    rw [nI_add]
    refine fx_ldc dX4_go_25 qX4_172 ?_
    rw [j99999]
    refine fx_icmp_le (tgt := 37) dX4_go_27 (by decide) rfl (fun hc27 => ?_) (fun hc27 => ?_)
    · refine fx_aload_n dX4_go_37 rfl rfl ?_
      refine fx_iload_n dX4_go_38 rfl rfl ?_
      refine fx_callVn dX4_go_39 vX4_hours lX4_174 (by decide) rfl (Nat.le_of_ble_eq_true rfl) (eX4_hours (by omega) hK hV) rfl ?_
      refine fx_aload_n dX4_go_42 rfl rfl ?_
      refine fx_callVv dX4_go_43 vX4_caughtNow lX4_178 (by decide) rfl (Nat.le_of_ble_eq_true rfl) eC rfl ?_
      refine fx_callSv dX4_go_46 sX4_bits lX4_182 (by decide) (Nat.le_of_ble_eq_true rfl) (eX4_bits (jsN_256 hV.2.1)) rfl ?_
      exact fx_ireq dX4_go_49 rfl rfl rfl rfl
    · exact absurd (nI_le h (by decide)) hc27
  · exact absurd hc7 (by decide)
theorem eX4_hold_n {a b : Int32} (hV : jW (G 1) n) (h : jwi a (nI 0) (nI 9) = false ∨ (b ≠ (-1) ∧ jwi b (nI 0) (nI n - nI 1) = false)) : Mx mX4_hold [.ref 0, .int a, .int b] (rM F G) (some (.int (jfd 0))) (rMn F G 0) := by
  refine mx_of (L := [some (.ref 0), some (.int a), some (.int b)]) (by decide) (fun _ => rfl) (fun _ => Nat.le_of_ble_eq_true rfl) ?_
  refine fx_iload_n dX4_hold_0 rfl rfl ?_
  refine fx_callSv dX4_hold_1 sX4_isSpot lX4_336 (by decide) (Nat.le_of_ble_eq_true rfl) eX4_isSpot rfl ?_
  refine fx_if_eq (tgt := 20) dX4_hold_4 (by decide) rfl (fun hc4 => ?_) (fun hc4 => ?_)
  · refine fx_aload_n dX4_hold_20 rfl rfl ?_
    refine fx_ldc dX4_hold_21 qX4_69 ?_
    refine fx_callVv dX4_hold_23 vX4_finding lX4_88 (by decide) rfl (Nat.le_of_ble_eq_true rfl) (eX4_finding (k := 0) (by decide) (by decide)) rfl ?_
    exact fx_ireq dX4_hold_26 rfl rfl rfl rfl
  · refine fx_iload_n dX4_hold_7 rfl rfl ?_
    refine fx_iconst (v := (-1)) dX4_hold_8 (by decide) ?_
    refine fx_icmp_eq (tgt := 27) dX4_hold_9 (by decide) rfl (fun hc9 => ?_) (fun hc9 => ?_)
    · first | exact h.elim (fun q => jtf q (nI_ne0' hc4)) (fun q => jtf q.2 (nI_ne0' hc17)) | exact h.elim (fun q => jtf q (nI_ne0' hc4)) (fun q => absurd hc9 q.1)
    · refine fx_aload_n dX4_hold_12 rfl rfl ?_
      refine fx_iload_n dX4_hold_13 rfl rfl ?_
      refine fx_callVv dX4_hold_14 vX4_isBell lX4_141 (by decide) rfl (Nat.le_of_ble_eq_true rfl) (eX4_isBell hV) rfl ?_
      refine fx_if_ne (tgt := 27) dX4_hold_17 (by decide) rfl (fun hc17 => ?_) (fun hc17 => ?_)
      · first | exact h.elim (fun q => jtf q (nI_ne0' hc4)) (fun q => jtf q.2 (nI_ne0' hc17)) | exact h.elim (fun q => jtf q (nI_ne0' hc4)) (fun q => absurd hc9 q.1)
      · refine fx_aload_n dX4_hold_20 rfl rfl ?_
        refine fx_ldc dX4_hold_21 qX4_69 ?_
        refine fx_callVv dX4_hold_23 vX4_finding lX4_88 (by decide) rfl (Nat.le_of_ble_eq_true rfl) (eX4_finding (k := 0) (by decide) (by decide)) rfl ?_
        exact fx_ireq dX4_hold_26 rfl rfl rfl rfl
theorem eX4_hold_y {c : Nat} {b : Int32} (hV : jW (G 1) n) (hc : c < 10) (hb : b = (-1) ∨ jwi b (nI 0) (nI n - nI 1) = true) : Mx mX4_hold [.ref 0, .int (nI c), .int b] (rM F G) (some (.int (nI 1))) (rM F (ga G 1 (upd (G 1) (4 + c) b))) := by
  refine mx_of (L := [some (.ref 0), some (.int (nI c)), some (.int b)]) (by decide) (fun _ => rfl) (fun _ => Nat.le_of_ble_eq_true rfl) ?_
  have K : Fx mX4_hold (some (.int (nI 1)), rM F (ga G 1 (upd (G 1) (4 + c) b))) 27 [some (.ref 0), some (.int (nI c)), some (.int b)] [] (rM F G) := by
    refine fx_aload_n dX4_hold_27 rfl rfl ?_
    refine fx_get dX4_hold_28 kX4_9 rfl rfl ?_
    refine fx_iconst (v := nI 4) dX4_hold_31 (by decide) ?_
    refine fx_iload_n dX4_hold_32 rfl rfl ?_
    refine fx_iadd dX4_hold_33 ?_
    rw [nI_add]
    refine fx_iload_n dX4_hold_34 rfl rfl ?_
    refine fx_iast dX4_hold_35 rfl (vp_in_nI (by omega) (by omega)) (w4_1 ..) ?_
    rw [nI_clamp (by omega)]
    refine fx_iconst (v := nI 1) dX4_hold_36 (by decide) ?_
    exact fx_ireq dX4_hold_37 rfl rfl rfl rfl
  refine fx_iload_n dX4_hold_0 rfl rfl ?_
  refine fx_callSv dX4_hold_1 sX4_isSpot lX4_336 (by decide) (Nat.le_of_ble_eq_true rfl) eX4_isSpot rfl ?_
  rw [jwi_n (by omega) (by decide)]
  refine fx_if_eq (tgt := 20) dX4_hold_4 (by decide) rfl (fun hc4 => ?_) (fun hc4 => ?_)
  · exact absurd hc4 (by decide)
  · refine fx_iload_n dX4_hold_7 rfl rfl ?_
    refine fx_iconst (v := (-1)) dX4_hold_8 (by decide) ?_
    refine fx_icmp_eq (tgt := 27) dX4_hold_9 (by decide) rfl (fun hc9 => ?_) (fun hc9 => ?_)
    · exact K
    · refine fx_aload_n dX4_hold_12 rfl rfl ?_
      refine fx_iload_n dX4_hold_13 rfl rfl ?_
      refine fx_callVv dX4_hold_14 vX4_isBell lX4_141 (by decide) rfl (Nat.le_of_ble_eq_true rfl) (eX4_isBell hV) rfl ?_
      refine fx_if_ne (tgt := 27) dX4_hold_17 (by decide) rfl (fun hc17 => ?_) (fun hc17 => ?_)
      · exact K
      · exact hb.elim (fun q => absurd q hc9) (fun q => jtf (nI_eq0' hc17) q)
theorem eX4_as_n {a b : Int32} (h : jwi a (nI 0) (nI 9) = false ∨ jwi b (nI 0) (nI 6) = false) : Mx mX4_as [.ref 0, .int a, .int b] (rM F G) (some (.int (jfd 0))) (rMn F G 0) := by
  refine mx_of (L := [some (.ref 0), some (.int a), some (.int b), none]) (by decide) (fun _ => rfl) (fun _ => Nat.le_of_ble_eq_true rfl) ?_
  refine fx_iload_n dX4_as_0 rfl rfl ?_
  refine fx_callSv dX4_as_1 sX4_isSpot lX4_336 (by decide) (Nat.le_of_ble_eq_true rfl) eX4_isSpot rfl ?_
  refine fx_if_eq (tgt := 14) dX4_as_4 (by decide) rfl (fun hc4 => ?_) (fun hc4 => ?_)
  · refine fx_aload_n dX4_as_14 rfl rfl ?_
    refine fx_ldc dX4_as_15 qX4_69 ?_
    refine fx_callVv dX4_as_17 vX4_finding lX4_88 (by decide) rfl (Nat.le_of_ble_eq_true rfl) (eX4_finding (k := 0) (by decide) (by decide)) rfl ?_
    exact fx_ireq dX4_as_20 rfl rfl rfl rfl
  · refine fx_iload_n dX4_as_7 rfl rfl ?_
    refine fx_callSv dX4_as_8 sX4_isKind lX4_104 (by decide) (Nat.le_of_ble_eq_true rfl) eX4_isKind rfl ?_
    refine fx_if_ne (tgt := 21) dX4_as_11 (by decide) rfl (fun hc11 => ?_) (fun hc11 => ?_)
    · exact h.elim (fun q => jtf q (nI_ne0' hc4)) (fun q => jtf q (nI_ne0' hc11))
    · refine fx_aload_n dX4_as_14 rfl rfl ?_
      refine fx_ldc dX4_as_15 qX4_69 ?_
      refine fx_callVv dX4_as_17 vX4_finding lX4_88 (by decide) rfl (Nat.le_of_ble_eq_true rfl) (eX4_finding (k := 0) (by decide) (by decide)) rfl ?_
      exact fx_ireq dX4_as_20 rfl rfl rfl rfl
theorem eX4_as_m {c k : Nat} (hc : c < 10) (hk : k < 7) (h : G 1 (4 + c) = (-1)) : Mx mX4_as [.ref 0, .int (nI c), .int (nI k)] (rM F G) (some (.int (jfd 5))) (rMn F G 5) := by
  refine mx_of (L := [some (.ref 0), some (.int (nI c)), some (.int (nI k)), none]) (by decide) (fun _ => rfl) (fun _ => Nat.le_of_ble_eq_true rfl) ?_
  refine fx_iload_n dX4_as_0 rfl rfl ?_
  refine fx_callSv dX4_as_1 sX4_isSpot lX4_336 (by decide) (Nat.le_of_ble_eq_true rfl) eX4_isSpot rfl ?_
  rw [jwi_n (by omega) (by decide)]
  refine fx_if_eq (tgt := 14) dX4_as_4 (by decide) rfl (fun hc4 => ?_) (fun hc4 => ?_)
  · exact absurd hc4 (by decide)
  · refine fx_iload_n dX4_as_7 rfl rfl ?_
    refine fx_callSv dX4_as_8 sX4_isKind lX4_104 (by decide) (Nat.le_of_ble_eq_true rfl) eX4_isKind rfl ?_
    rw [jwi_n (by omega) (by decide)]
    refine fx_if_ne (tgt := 21) dX4_as_11 (by decide) rfl (fun hc11 => ?_) (fun hc11 => ?_)
    · refine fx_aload_n dX4_as_21 rfl rfl ?_
      refine fx_get dX4_as_22 kX4_9 rfl rfl ?_
      refine fx_iconst (v := nI 4) dX4_as_25 (by decide) ?_
      refine fx_iload_n dX4_as_26 rfl rfl ?_
      refine fx_iadd dX4_as_27 ?_
      rw [nI_add]
      refine fx_iald dX4_as_28 rfl (vp_in_nI (by omega) (by omega)) ?_
      rw [nI_clamp (by omega), h]
      refine fs_istore_n_3 dX4_as_29 rfl (by decide) ?_
      refine fx_iload_n dX4_as_30 rfl rfl ?_
      refine fx_if_ge (tgt := 41) dX4_as_31 (by decide) rfl (fun hc31 => ?_) (fun hc31 => ?_)
      · exact absurd hc31 (by decide)
      · refine fx_aload_n dX4_as_34 rfl rfl ?_
        refine fx_ldc dX4_as_35 qX4_214 ?_
        refine fx_callVv dX4_as_37 vX4_finding lX4_88 (by decide) rfl (Nat.le_of_ble_eq_true rfl) (eX4_finding (k := 5) (by decide) (by decide)) rfl ?_
        exact fx_ireq dX4_as_40 rfl rfl rfl rfl
    · exact absurd hc11 (by decide)
theorem eX4_as_y {c k b kk : Nat} (hc : c < 10) (hk : k < 7) (h : G 1 (4 + c) = nI b) (hb : b < 8) (hkk : kk < 7) (ek : G 1 (146 + 5 * b + 0) = nI kk) : Mx mX4_as [.ref 0, .int (nI c), .int (nI k)] (rM F G) (some (.int (if jund kk k = true then nI b else jfd 2))) (if jund kk k = true then rM F G else rMn F G 2) := by
  refine mx_of (L := [some (.ref 0), some (.int (nI c)), some (.int (nI k)), none]) (by decide) (fun _ => rfl) (fun _ => Nat.le_of_ble_eq_true rfl) ?_
  by_cases hu : jund kk k = true
  · rw [if_pos hu, if_pos hu]
    refine fx_iload_n dX4_as_0 rfl rfl ?_
    refine fx_callSv dX4_as_1 sX4_isSpot lX4_336 (by decide) (Nat.le_of_ble_eq_true rfl) eX4_isSpot rfl ?_
    rw [jwi_n (by omega) (by decide)]
    refine fx_if_eq (tgt := 14) dX4_as_4 (by decide) rfl (fun hc4 => ?_) (fun hc4 => ?_)
    · exact absurd hc4 (by decide)
    · refine fx_iload_n dX4_as_7 rfl rfl ?_
      refine fx_callSv dX4_as_8 sX4_isKind lX4_104 (by decide) (Nat.le_of_ble_eq_true rfl) eX4_isKind rfl ?_
      rw [jwi_n (by omega) (by decide)]
      refine fx_if_ne (tgt := 21) dX4_as_11 (by decide) rfl (fun hc11 => ?_) (fun hc11 => ?_)
      · refine fx_aload_n dX4_as_21 rfl rfl ?_
        refine fx_get dX4_as_22 kX4_9 rfl rfl ?_
        refine fx_iconst (v := nI 4) dX4_as_25 (by decide) ?_
        refine fx_iload_n dX4_as_26 rfl rfl ?_
        refine fx_iadd dX4_as_27 ?_
        rw [nI_add]
        refine fx_iald dX4_as_28 rfl (vp_in_nI (by omega) (by omega)) ?_
        rw [nI_clamp (by omega), h]
        refine fs_istore_n_3 dX4_as_29 rfl (by decide) ?_
        refine fx_iload_n dX4_as_30 rfl rfl ?_
        refine fx_if_ge (tgt := 41) dX4_as_31 (by decide) rfl (fun hc31 => ?_) (fun hc31 => ?_)
        · refine fx_aload_n dX4_as_41 rfl rfl ?_
          refine fx_iload_n dX4_as_42 rfl rfl ?_
          refine fx_iconst (v := nI 0) dX4_as_43 (by decide) ?_
          refine fx_callVv dX4_as_44 vX4_bellIs lX4_101 (by decide) rfl (Nat.le_of_ble_eq_true rfl) (eM_bell hb (by decide)) rfl ?_
          refine fx_iload_n dX4_as_47 rfl rfl ?_
          rw [ek]
          refine fx_callSv dX4_as_48 sX4_isUnder lX4_118 (by decide) (Nat.le_of_ble_eq_true rfl) (eX4_isUnder hkk hk) rfl ?_
          rw [hu]
          refine fx_if_eq (tgt := 58) dX4_as_51 (by decide) rfl (fun hc51 => ?_) (fun hc51 => ?_)
          · exact absurd hc51 (by decide)
          · refine fx_iload_n dX4_as_54 rfl rfl ?_
            refine fx_goto (tgt := 65) dX4_as_55 (by decide) ?_
            exact fx_ireq dX4_as_65 rfl rfl rfl rfl
        · exact absurd (nI_pos' (by omega)) hc31
      · exact absurd hc11 (by decide)
  · rw [if_neg hu, if_neg hu]
    have hu' : jund kk k = false := by cases h : jund kk k <;> simp_all
    refine fx_iload_n dX4_as_0 rfl rfl ?_
    refine fx_callSv dX4_as_1 sX4_isSpot lX4_336 (by decide) (Nat.le_of_ble_eq_true rfl) eX4_isSpot rfl ?_
    rw [jwi_n (by omega) (by decide)]
    refine fx_if_eq (tgt := 14) dX4_as_4 (by decide) rfl (fun hc4 => ?_) (fun hc4 => ?_)
    · exact absurd hc4 (by decide)
    · refine fx_iload_n dX4_as_7 rfl rfl ?_
      refine fx_callSv dX4_as_8 sX4_isKind lX4_104 (by decide) (Nat.le_of_ble_eq_true rfl) eX4_isKind rfl ?_
      rw [jwi_n (by omega) (by decide)]
      refine fx_if_ne (tgt := 21) dX4_as_11 (by decide) rfl (fun hc11 => ?_) (fun hc11 => ?_)
      · refine fx_aload_n dX4_as_21 rfl rfl ?_
        refine fx_get dX4_as_22 kX4_9 rfl rfl ?_
        refine fx_iconst (v := nI 4) dX4_as_25 (by decide) ?_
        refine fx_iload_n dX4_as_26 rfl rfl ?_
        refine fx_iadd dX4_as_27 ?_
        rw [nI_add]
        refine fx_iald dX4_as_28 rfl (vp_in_nI (by omega) (by omega)) ?_
        rw [nI_clamp (by omega), h]
        refine fs_istore_n_3 dX4_as_29 rfl (by decide) ?_
        refine fx_iload_n dX4_as_30 rfl rfl ?_
        refine fx_if_ge (tgt := 41) dX4_as_31 (by decide) rfl (fun hc31 => ?_) (fun hc31 => ?_)
        · refine fx_aload_n dX4_as_41 rfl rfl ?_
          refine fx_iload_n dX4_as_42 rfl rfl ?_
          refine fx_iconst (v := nI 0) dX4_as_43 (by decide) ?_
          refine fx_callVv dX4_as_44 vX4_bellIs lX4_101 (by decide) rfl (Nat.le_of_ble_eq_true rfl) (eM_bell hb (by decide)) rfl ?_
          refine fx_iload_n dX4_as_47 rfl rfl ?_
          rw [ek]
          refine fx_callSv dX4_as_48 sX4_isUnder lX4_118 (by decide) (Nat.le_of_ble_eq_true rfl) (eX4_isUnder hkk hk) rfl ?_
          rw [hu']
          refine fx_if_eq (tgt := 58) dX4_as_51 (by decide) rfl (fun hc51 => ?_) (fun hc51 => ?_)
          · refine fx_aload_n dX4_as_58 rfl rfl ?_
            refine fx_ldcw dX4_as_59 qX4_339 ?_
            refine fx_callVv dX4_as_62 vX4_finding lX4_88 (by decide) rfl (Nat.le_of_ble_eq_true rfl) (eX4_finding (k := 2) (by decide) (by decide)) rfl ?_
            exact fx_ireq dX4_as_65 rfl rfl rfl rfl
          · exact absurd rfl hc51
        · exact absurd (nI_pos' (by omega)) hc31
      · exact absurd hc11 (by decide)
theorem eX4_seed {v : Int32} : Mx mX4_seed [.ref 0, .int v] (rM F G) (some (.int (G 1 3))) (rM F (ga G 1 (upd (G 1) 3 v))) := by
  refine mx_of (L := [some (.ref 0), some (.int v)]) (by decide) (fun _ => rfl) (fun _ => Nat.le_of_ble_eq_true rfl) ?_
  refine fx_aload_n dX4_seed_0 rfl rfl ?_
  refine fx_iconst (v := nI 3) dX4_seed_1 (by decide) ?_
  refine fx_iload_n dX4_seed_2 rfl rfl ?_
  refine fx_callVv dX4_seed_3 vX4_become lX4_91 (by decide) rfl (Nat.le_of_ble_eq_true rfl) (eX4_become (by decide)) rfl ?_
  exact fx_ireq dX4_seed_6 rfl rfl rfl rfl
theorem eX4_image (h1 : ∀ k, 186 ≤ k → G 1 k = 0) (h2 : ∀ k, 186 ≤ k → G 2 k = 0) : Mx mX4_image [.ref 0] (rM F G) (some (.int (nI 1))) (rM (upd F 3 (nI 1)) (ga G 2 (G 1))) := by
  refine mx_of (L := [some (.ref 0)]) (by decide) (fun _ => rfl) (fun _ => Nat.le_of_ble_eq_true rfl) ?_
  refine fx_aload_n dX4_image_0 rfl rfl ?_
  refine fx_get dX4_image_1 kX4_9 rfl rfl ?_
  refine fx_aload_n dX4_image_4 rfl rfl ?_
  refine fx_get dX4_image_5 kX4_13 rfl rfl ?_
  refine fx_callSn dX4_image_8 sX4_copyRow lX4_70 (by decide) (Nat.le_of_ble_eq_true rfl) (eX4_copyRow (Or.inl rfl) (Or.inr (Or.inl rfl)) (by decide) h1 h2) rfl ?_
  refine fx_aload_n dX4_image_11 rfl rfl ?_
  refine fx_iconst (v := nI 1) dX4_image_12 (by decide) ?_
  refine fx_put dX4_image_13 kX4_344 rfl (Nat.le_of_ble_eq_true rfl) (fun _ => rfl) rfl rfl (u4_3 ..) ?_
  refine fx_iconst (v := nI 1) dX4_image_16 (by decide) ?_
  exact fx_ireq dX4_image_17 rfl rfl rfl rfl
theorem eX4_undo_n (h : F 3 = 0) : Mx mX4_undo [.ref 0] (rM F G) (some (.int (jfd 3))) (rMn F G 3) := by
  refine mx_of (L := [some (.ref 0)]) (by decide) (fun _ => rfl) (fun _ => Nat.le_of_ble_eq_true rfl) ?_
  refine fx_aload_n dX4_undo_0 rfl rfl ?_
  refine fx_get dX4_undo_1 kX4_344 rfl rfl ?_
  refine fx_if_ne (tgt := 14) dX4_undo_4 (by decide) rfl (fun hc4 => ?_) (fun hc4 => ?_)
  · exact absurd h hc4
  · refine fx_aload_n dX4_undo_7 rfl rfl ?_
    refine fx_ldc dX4_undo_8 qX4_198 ?_
    refine fx_callVv dX4_undo_10 vX4_finding lX4_88 (by decide) rfl (Nat.le_of_ble_eq_true rfl) (eX4_finding (k := 3) (by decide) (by decide)) rfl ?_
    exact fx_ireq dX4_undo_13 rfl rfl rfl rfl
theorem eX4_undo_y (h : ¬ F 3 = 0) (h1 : ∀ k, 186 ≤ k → G 1 k = 0) (h2 : ∀ k, 186 ≤ k → G 2 k = 0) : Mx mX4_undo [.ref 0] (rM F G) (some (.int (G 2 0))) (rM F (ga G 1 (G 2))) := by
  refine mx_of (L := [some (.ref 0)]) (by decide) (fun _ => rfl) (fun _ => Nat.le_of_ble_eq_true rfl) ?_
  refine fx_aload_n dX4_undo_0 rfl rfl ?_
  refine fx_get dX4_undo_1 kX4_344 rfl rfl ?_
  refine fx_if_ne (tgt := 14) dX4_undo_4 (by decide) rfl (fun hc4 => ?_) (fun hc4 => ?_)
  · refine fx_aload_n dX4_undo_14 rfl rfl ?_
    refine fx_get dX4_undo_15 kX4_13 rfl rfl ?_
    refine fx_aload_n dX4_undo_18 rfl rfl ?_
    refine fx_get dX4_undo_19 kX4_9 rfl rfl ?_
    refine fx_callSn dX4_undo_22 sX4_copyRow lX4_70 (by decide) (Nat.le_of_ble_eq_true rfl) (eX4_copyRow (Or.inr (Or.inl rfl)) (Or.inl rfl) (by decide) h2 h1) rfl ?_
    refine fx_aload_n dX4_undo_25 rfl rfl ?_
    refine fx_get dX4_undo_26 kX4_9 rfl rfl ?_
    refine fx_iconst (v := nI 0) dX4_undo_29 (by decide) ?_
    refine fx_iald dX4_undo_30 rfl (vp_in_nI (by decide) (by decide)) ?_
    rw [nI_clamp (n := 0) (by decide), ga_s]
    exact fx_ireq dX4_undo_31 rfl rfl rfl rfl
  · exact absurd hc4 h
theorem eX4_tear : Mx mX4_tear [.ref 0] (rM F G) (some (.int (if F 3 = 0 then nI 0 else nI 1))) (rM (upd F 3 (nI 0)) G) := by
  refine mx_of (L := [some (.ref 0), none]) (by decide) (fun _ => rfl) (fun _ => Nat.le_of_ble_eq_true rfl) ?_
  refine fx_aload_n dX4_tear_0 rfl rfl ?_
  refine fx_get dX4_tear_1 kX4_344 rfl rfl ?_
  refine fx_if_eq (tgt := 11) dX4_tear_4 (by decide) rfl (fun hc4 => ?_) (fun hc4 => ?_)
  · refine fx_iconst (v := nI 0) dX4_tear_11 (by decide) ?_
    refine fs_istore_n_1 dX4_tear_12 rfl (by decide) ?_
    refine fx_aload_n dX4_tear_13 rfl rfl ?_
    refine fx_iconst (v := nI 0) dX4_tear_14 (by decide) ?_
    refine fx_put dX4_tear_15 kX4_344 rfl (Nat.le_of_ble_eq_true rfl) (fun _ => rfl) rfl rfl (u4_3 ..) ?_
    refine fx_iload_n dX4_tear_18 rfl rfl ?_
    exact fx_ireq dX4_tear_19 rfl rfl (by first | exact (if_pos hc4).symm | exact (if_neg hc4).symm) rfl
  · refine fx_iconst (v := nI 1) dX4_tear_7 (by decide) ?_
    refine fx_goto (tgt := 12) dX4_tear_8 (by decide) ?_
    refine fs_istore_n_1 dX4_tear_12 rfl (by decide) ?_
    refine fx_aload_n dX4_tear_13 rfl rfl ?_
    refine fx_iconst (v := nI 0) dX4_tear_14 (by decide) ?_
    refine fx_put dX4_tear_15 kX4_344 rfl (Nat.le_of_ble_eq_true rfl) (fun _ => rfl) rfl rfl (u4_3 ..) ?_
    refine fx_iload_n dX4_tear_18 rfl rfl ?_
    exact fx_ireq dX4_tear_19 rfl rfl (by first | exact (if_pos hc4).symm | exact (if_neg hc4).symm) rfl
theorem eX4_wipe : Mx mX4_wipe [.ref 0] (rM F G) (some (.int (F 10))) (rM (upd F 10 (nI 0)) G) := by
  refine mx_of (L := [some (.ref 0), none]) (by decide) (fun _ => rfl) (fun _ => Nat.le_of_ble_eq_true rfl) ?_
  refine fx_aload_n dX4_wipe_0 rfl rfl ?_
  refine fx_get dX4_wipe_1 kX4_258 rfl rfl ?_
  refine fs_istore_n_1 dX4_wipe_4 rfl (by decide) ?_
  refine fx_aload_n dX4_wipe_5 rfl rfl ?_
  refine fx_iconst (v := nI 0) dX4_wipe_6 (by decide) ?_
  refine fx_put dX4_wipe_7 kX4_258 rfl (Nat.le_of_ble_eq_true rfl) (fun _ => rfl) rfl rfl (u4_10 ..) ?_
  refine fx_iload_n dX4_wipe_10 rfl rfl ?_
  exact fx_ireq dX4_wipe_11 rfl rfl rfl rfl
theorem eX4_status_n {a : Int32} (h : jwi a (-1) (nI 6) = false) : Mx mX4_status [.ref 0, .int a] (rM F G) (some (.int (jfd 0))) (rMn F G 0) := by
  refine mx_of (L := [some (.ref 0), some (.int a)]) (by decide) (fun _ => rfl) (fun _ => Nat.le_of_ble_eq_true rfl) ?_
  refine fx_iload_n dX4_status_0 rfl rfl ?_
  refine fx_iconst (v := (-1)) dX4_status_1 (by decide) ?_
  refine fx_bipush (v := nI 6) dX4_status_2 (by decide) ?_
  refine fx_callSv dX4_status_4 sX4_within lX4_74 (by decide) (Nat.le_of_ble_eq_true rfl) eX4_within rfl ?_
  refine fx_if_eq (tgt := 21) dX4_status_7 (by decide) rfl (fun hc7 => ?_) (fun hc7 => ?_)
  · refine fx_aload_n dX4_status_21 rfl rfl ?_
    refine fx_ldc dX4_status_22 qX4_69 ?_
    refine fx_callVv dX4_status_24 vX4_finding lX4_88 (by decide) rfl (Nat.le_of_ble_eq_true rfl) (eX4_finding (k := 0) (by decide) (by decide)) rfl ?_
    exact fx_ireq dX4_status_27 rfl rfl rfl rfl
  · exact jtf h (nI_ne0' hc7)
theorem eX4_status_y {a : Int32} {k : Nat} (h : jwi a (-1) (nI 6) = true) (ha : a + nI 1 = nI k) (hk : k < 8) : Mx mX4_status [.ref 0, .int a] (rM F G) (some (.int (G 4 k))) (rM F G) := by
  refine mx_of (L := [some (.ref 0), some (.int a)]) (by decide) (fun _ => rfl) (fun _ => Nat.le_of_ble_eq_true rfl) ?_
  refine fx_iload_n dX4_status_0 rfl rfl ?_
  refine fx_iconst (v := (-1)) dX4_status_1 (by decide) ?_
  refine fx_bipush (v := nI 6) dX4_status_2 (by decide) ?_
  refine fx_callSv dX4_status_4 sX4_within lX4_74 (by decide) (Nat.le_of_ble_eq_true rfl) eX4_within rfl ?_
  rw [h]
  refine fx_if_eq (tgt := 21) dX4_status_7 (by decide) rfl (fun hc7 => ?_) (fun hc7 => ?_)
  · exact absurd hc7 (by decide)
  · refine fx_aload_n dX4_status_10 rfl rfl ?_
    refine fx_get dX4_status_11 kX4_19 rfl rfl ?_
    refine fx_iload_n dX4_status_14 rfl rfl ?_
    refine fx_iconst (v := nI 1) dX4_status_15 (by decide) ?_
    refine fx_iadd dX4_status_16 ?_
    rw [ha]
    refine fx_iald dX4_status_17 rfl (vp_in_nI (by omega) (by omega)) ?_
    rw [nI_clamp (by omega)]
    refine fx_goto (tgt := 27) dX4_status_18 (by decide) ?_
    exact fx_ireq dX4_status_27 rfl rfl rfl rfl
end
