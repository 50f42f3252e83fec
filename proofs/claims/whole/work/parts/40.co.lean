/-! ===== pairs: cell, bell, of, change, worth, loud ===== -/
set_option maxRecDepth 100000
theorem jcome_o {V : Nat → Int32} {n i : Nat} {k c t w : Int32} (hi : i ≠ 2) (h2 : ∀ f, f < 5 → i ≠ 146 + 5 * n + f) : jcome V n k c t w i = V i := by
  unfold jcome
  rw [pk_un hi, pk_un (h2 4 (by decide)), pk_un (h2 3 (by decide)), pk_un (h2 2 (by decide)), pk_un (h2 1 (by decide)), pk_un (h2 0 (by decide))]
theorem jcome_n {V : Nat → Int32} {n : Nat} {k c t w : Int32} : jcome V n k c t w (146 + 5 * n + 0) = k ∧ jcome V n k c t w (146 + 5 * n + 1) = c ∧ jcome V n k c t w (146 + 5 * n + 2) = t ∧ jcome V n k c t w (146 + 5 * n + 3) = w ∧ jcome V n k c t w (146 + 5 * n + 4) = nI 0 := by
  unfold jcome
  refine ⟨?_, ?_, ?_, ?_, ?_⟩
  · rw [pk_un (by omega), pk_un (by omega), pk_un (by omega), pk_un (by omega), pk_un (by omega), pk_us]
  · rw [pk_un (by omega), pk_un (by omega), pk_un (by omega), pk_un (by omega), pk_us]
  · rw [pk_un (by omega), pk_un (by omega), pk_un (by omega), pk_us]
  · rw [pk_un (by omega), pk_un (by omega), pk_us]
  · rw [pk_un (by omega), pk_us]
theorem jW_come {V : Nat → Int32} {n kk cc tt ww : Nat} (h : jW V n) (hn : n < 8) (hk : kk < 7) (hc : cc < 64) (ht : tt < 12) (hw : 1 ≤ ww) (hw2 : ww ≤ 99) : jW (jcome V n (nI kk) (nI cc) (nI tt) (nI ww)) (n + 1) := by
  obtain ⟨h1, h2, h3, h4, h5, h6, h7, h8⟩ := h
  obtain ⟨e0, e1, e2, e3, e4⟩ := jcome_n (V := V) (n := n) (k := nI kk) (c := nI cc) (t := nI tt) (w := nI ww)
  refine ⟨by unfold jcome; rw [pk_us], by omega, fun o ho => ?_, fun q hq => ?_, fun q hq => ?_, fun q hq => ?_, ?_, fun q hq => ?_⟩
  · rcases Nat.lt_or_eq_of_le (Nat.le_of_lt_succ ho) with q | q
    · rw [jcome_o (by omega) (fun f hf => by omega), jcome_o (by omega) (fun f hf => by omega), jcome_o (by omega) (fun f hf => by omega), jcome_o (by omega) (fun f hf => by omega), jcome_o (by omega) (fun f hf => by omega)]
      exact h3 o q
    · subst q
      rw [e0, e1, e2, e3, e4]
      exact ⟨⟨kk, hk, rfl⟩, ⟨cc, hc, rfl⟩, ⟨tt, ht, rfl⟩, ⟨ww, hw, hw2, rfl⟩, Or.inl rfl⟩
  · rw [jcome_o (by omega) (fun f hf => by omega)]; exact h4 q hq
  · rw [jcome_o (by omega) (fun f hf => by omega)]; exact h5 q hq
  · rw [jcome_o (by omega) (fun f hf => by omega)]; exact h6 q hq
  · rw [jcome_o (by omega) (fun f hf => by omega)]; exact h7
  · rw [jcome_o (by omega) (fun f hf => by omega)]; exact h8 q hq
theorem jSp_come {V : Nat → Int32} {n : Nat} {k c t w : Int32} (h : jSp V n) : jSp (jcome V n k c t w) (n + 1) := fun s hs => by
  rw [jcome_o (by omega) (fun f hf => by omega)]
  rcases h s hs with q | ⟨b, hb, q⟩
  · exact Or.inl q
  · exact Or.inr ⟨b, by omega, q⟩
theorem jHr_come {V : Nat → Int32} {n : Nat} {k c t w : Int32} (h : jHr V) : jHr (jcome V n k c t w) := by
  obtain ⟨t0, h1, h2⟩ := h
  exact ⟨t0, h1, by rw [jcome_o (by omega) (fun f hf => by omega)]; exact h2⟩
theorem jgood_mb {f : Nat} {v : Int32} (hf : f ≤ 4) (h : jmb f v = true) : jgood f v := by
  rcases (show f = 0 ∨ f = 1 ∨ f = 2 ∨ f = 3 ∨ f = 4 by omega) with rfl | rfl | rfl | rfl | rfl
  · obtain ⟨k, hk, rfl⟩ := jwi_of (k := 6) (by decide) h
    exact jgood_0 (by omega)
  · obtain ⟨k, hk, rfl⟩ := jwi_of (k := 63) (by decide) h
    exact jgood_1 (by omega)
  · exact jgood_2 h
  · obtain ⟨k, hk, hk2, rfl⟩ := jwi1_of (k := 99) (by decide) h
    exact ⟨fun q => absurd q (by decide), fun q => absurd q (by decide), fun q => absurd q (by decide), fun _ => ⟨k, hk, hk2, rfl⟩, fun q => absurd q (by decide)⟩
  · obtain ⟨k, hk, rfl⟩ := jwi_of (k := 1) (by decide) h
    exact ⟨fun q => absurd q (by decide), fun q => absurd q (by decide), fun q => absurd q (by decide), fun q => absurd q (by decide), fun _ => by rcases (show k = 0 ∨ k = 1 by omega) with rfl | rfl <;> simp⟩
theorem jwi_mo {v : Int32} {a b : Nat} (hab : a ≤ b) (hb : b < 2 ^ 31) (h : jwi v (nI 0) (nI a) = true) : jwi v (nI 0) (nI b) = true := by
  obtain ⟨j, hj, rfl⟩ := jwi_of (by omega) h
  exact jwi_n (by omega) hb
theorem jlk56 {v : Int32} (h5 : ¬ v = nI 5) (h6 : ¬ v = nI 6) : Op.lookupswitch.offset (#[(5, 25), (6, 34)] : Array (Int × Int)).toList 52 v.toInt = 52 := by
  show (if (5 : Int) = v.toInt then (25 : Int) else if (6 : Int) = v.toInt then 34 else 52) = 52
  rw [if_neg (fun q => h5 (Int32.toInt_inj.mp (by rw [← q]; decide))), if_neg (fun q => h6 (Int32.toInt_inj.mp (by rw [← q]; decide)))]
section
variable {F4 : Nat → Int32} {G4 : Nat → Nat → Int32} {F : Nat → Nat → Int32} {N : Nat → Nat → Int64} {G : Nat → Nat → Int32}
theorem P_cell (R : jR F4 G4 F N G) (a b : Int32) : jP mX4_cell mX3_cell [.int a, .int b] F4 G4 F N G := by
  by_cases ha : jwi a (nI 0) (nI 63) = false
  · refine ⟨_, _, _, _, _, _, eX4_cell_n (Or.inl ha), ?_, jR_f R (by decide)⟩
    refine mx_of (L := [some (.ref 0), some (.int a), some (.int b)]) (by decide) (fun _ => rfl) (fun _ => Nat.le_of_ble_eq_true rfl) ?_
    refine fx_iload_n dX3_cell_0 rfl rfl ?_
    refine fx_callSv dX3_cell_1 sX3_isCell lX3_47 (by decide) (Nat.le_of_ble_eq_true rfl) eX3_isCell rfl ?_
    refine fx_if_ne (tgt := 13) dX3_cell_4 (by decide) rC_l (fun hc4 => ?_) (fun hc4 => ?_)
    · exact jtf ha (nI_ne0' hc4)
    · refine fx_aload_n dX3_cell_7 rfl rfl ?_
      refine fx_iconst (v := nI 0) dX3_cell_8 (by decide) ?_
      refine fx_callVv dX3_cell_9 vX3_finding lX3_51 (by decide) rfl (Nat.le_of_ble_eq_true rfl) (eX3_finding (k := 0) (by decide)) rfl ?_
      exact fx_ireq dX3_cell_12 rfl rfl rfl rfl
  · obtain ⟨c, hc, rfl⟩ := jwi_of (k := 63) (by decide) (jbt_t ha)
    by_cases hb : jwi b (nI 0) (nI 3) = false
    · refine ⟨_, _, _, _, _, _, eX4_cell_n (Or.inr hb), ?_, jR_f R (by decide)⟩
      refine mx_of (L := [some (.ref 0), some (.int (nI c)), some (.int b)]) (by decide) (fun _ => rfl) (fun _ => Nat.le_of_ble_eq_true rfl) ?_
      refine fx_iload_n dX3_cell_0 rfl rfl ?_
      refine fx_callSv dX3_cell_1 sX3_isCell lX3_47 (by decide) (Nat.le_of_ble_eq_true rfl) eX3_isCell rfl ?_
      refine fx_if_ne (tgt := 13) dX3_cell_4 (by decide) rC_l (fun hc4 => ?_) (fun hc4 => ?_)
      · refine fx_iload_n dX3_cell_13 rfl rfl ?_
        refine fx_tableOut (tgt := 89) dX3_cell_14 (jwi_out (by decide) hb) (by decide) ?_
        refine fx_aload_n dX3_cell_89 rfl rfl ?_
        refine fx_iconst (v := nI 0) dX3_cell_90 (by decide) ?_
        refine fx_callVv dX3_cell_91 vX3_finding lX3_51 (by decide) rfl (Nat.le_of_ble_eq_true rfl) (eX3_finding (k := 0) (by decide)) rfl ?_
        exact fx_ireq dX3_cell_94 rfl rfl rfl rfl
      · exact absurd (nI_eq0' hc4) ha
    · obtain ⟨f, hf, rfl⟩ := jwi_of (k := 3) (by decide) (jbt_t hb)
      have R0 := R
      obtain ⟨⟨n, t, hW, hS, hH, ht, hI⟩, -⟩ := R
      refine ⟨_, _, _, _, _, _, eX4_cell_y hW (by omega) hf, ?_, R0⟩
      refine mx_of (L := [some (.ref 0), some (.int (nI c)), some (.int (nI f))]) (by decide) (fun _ => rfl) (fun _ => Nat.le_of_ble_eq_true rfl) ?_
      rcases (show f = 0 ∨ f = 1 ∨ f = 2 ∨ f = 3 by omega) with rfl | rfl | rfl | rfl
      · have h0 := hW.2.2.2.2.1 c (by omega)
        rcases h0 with h0 | h0 <;> rw [h0]
        all_goals
          refine fx_iload_n dX3_cell_0 rfl rfl ?_
          refine fx_callSv dX3_cell_1 sX3_isCell lX3_47 (by decide) (Nat.le_of_ble_eq_true rfl) eX3_isCell rfl ?_
          refine fx_if_ne (tgt := 13) dX3_cell_4 (by decide) rC_l (fun hc4 => ?_) (fun hc4 => ?_)
          · refine fx_iload_n dX3_cell_13 rfl rfl ?_
            refine fx_tableIn (tgt := 44) dX3_cell_14 (by decide) (by decide) rfl (by decide) ?_
            refine fx_aload_n dX3_cell_44 rfl rfl ?_
            refine fx_get dX3_cell_45 kX3_10 rfl rfl ?_
            refine fx_iload_n dX3_cell_48 rfl rfl ?_
            refine fx_callVv dX3_cell_49 vX2_hasNet lX3_55 (by decide) rfl (Nat.le_of_ble_eq_true rfl) (eX2_hasNet zw1 hI (by omega)) rfl ?_
            rw [h0]
            refine fx_if_eq (tgt := 59) dX3_cell_52 (by decide) rC_l (fun hc52 => ?_) (fun hc52 => ?_)
            · try exact absurd hc52 (by decide)
              all_goals
                refine fx_iconst (v := nI 0) dX3_cell_59 (by decide) ?_
                exact fx_ireq dX3_cell_60 rfl rfl rfl rfl
            · try exact absurd hc52 (by decide)
              all_goals
                refine fx_iconst (v := nI 1) dX3_cell_55 (by decide) ?_
                refine fx_goto (tgt := 60) dX3_cell_56 (by decide) ?_
                exact fx_ireq dX3_cell_60 rfl rfl rfl rfl
          · exact absurd (nI_eq0' hc4) ha
      · refine fx_iload_n dX3_cell_0 rfl rfl ?_
        refine fx_callSv dX3_cell_1 sX3_isCell lX3_47 (by decide) (Nat.le_of_ble_eq_true rfl) eX3_isCell rfl ?_
        refine fx_if_ne (tgt := 13) dX3_cell_4 (by decide) rC_l (fun hc4 => ?_) (fun hc4 => ?_)
        · refine fx_iload_n dX3_cell_13 rfl rfl ?_
          refine fx_tableIn (tgt := 61) dX3_cell_14 (by decide) (by decide) rfl (by decide) ?_
          refine fx_aload_n dX3_cell_61 rfl rfl ?_
          refine fx_get dX3_cell_62 kX3_10 rfl rfl ?_
          refine fx_get dX3_cell_65 kX3_62 rfl rfl ?_
          refine fx_iload_n dX3_cell_68 rfl rfl ?_
          refine fx_iald dX3_cell_69 rfl (vp_in_nI (by omega) (by decide)) ?_
          rw [nI_clamp (by omega), jA1 hI, jth_e (by omega)]
          exact fx_ireq dX3_cell_70 rfl rfl rfl rfl
        · exact absurd (nI_eq0' hc4) ha
      · refine fx_iload_n dX3_cell_0 rfl rfl ?_
        refine fx_callSv dX3_cell_1 sX3_isCell lX3_47 (by decide) (Nat.le_of_ble_eq_true rfl) eX3_isCell rfl ?_
        refine fx_if_ne (tgt := 13) dX3_cell_4 (by decide) rC_l (fun hc4 => ?_) (fun hc4 => ?_)
        · refine fx_iload_n dX3_cell_13 rfl rfl ?_
          refine fx_tableIn (tgt := 71) dX3_cell_14 (by decide) (by decide) rfl (by decide) ?_
          refine fx_aload_n dX3_cell_71 rfl rfl ?_
          refine fx_get dX3_cell_72 kX3_10 rfl rfl ?_
          refine fx_iload_n dX3_cell_75 rfl rfl ?_
          refine fx_callVv dX3_cell_76 vX2_heardAt lX3_65 (by decide) rfl (Nat.le_of_ble_eq_true rfl) (eX2_heardAt zw1 hI hW) rfl ?_
          exact fx_ireq dX3_cell_79 rfl rfl rfl rfl
        · exact absurd (nI_eq0' hc4) ha
      · refine fx_iload_n dX3_cell_0 rfl rfl ?_
        refine fx_callSv dX3_cell_1 sX3_isCell lX3_47 (by decide) (Nat.le_of_ble_eq_true rfl) eX3_isCell rfl ?_
        refine fx_if_ne (tgt := 13) dX3_cell_4 (by decide) rC_l (fun hc4 => ?_) (fun hc4 => ?_)
        · refine fx_iload_n dX3_cell_13 rfl rfl ?_
          refine fx_tableIn (tgt := 80) dX3_cell_14 (by decide) (by decide) rfl (by decide) ?_
          refine fx_aload_n dX3_cell_80 rfl rfl ?_
          refine fx_get dX3_cell_81 kX3_10 rfl rfl ?_
          refine fx_iload_n dX3_cell_84 rfl rfl ?_
          refine fx_callVv dX3_cell_85 vX2_bellsAt lX3_68 (by decide) rfl (Nat.le_of_ble_eq_true rfl) (eX2_bellsAt zw1 hI hW) rfl ?_
          exact fx_ireq dX3_cell_88 rfl rfl rfl rfl
        · exact absurd (nI_eq0' hc4) ha
theorem eX3_bell_n {a b : Int32} (h : jwi a (nI 0) (nI 6) = false ∨ jwi b (nI 0) (nI 63) = false) : Mx mX3_bell [.ref 0, .int a, .int b] (rC F N G) (some (.int (jfd 0))) (rC F N (ga G 36 (jf1 (G 36) 0))) := by
  refine mx_of (L := [some (.ref 0), some (.int a), some (.int b)]) (by decide) (fun _ => rfl) (fun _ => Nat.le_of_ble_eq_true rfl) ?_
  refine fx_iload_n dX3_bell_0 rfl rfl ?_
  refine fx_callSv dX3_bell_1 sX3_isKind lX3_81 (by decide) (Nat.le_of_ble_eq_true rfl) eX3_isKind rfl ?_
  refine fx_if_eq (tgt := 14) dX3_bell_4 (by decide) rC_l (fun hc4 => ?_) (fun hc4 => ?_)
  · refine fx_aload_n dX3_bell_14 rfl rfl ?_
    refine fx_iconst (v := nI 0) dX3_bell_15 (by decide) ?_
    refine fx_callVv dX3_bell_16 vX3_finding lX3_51 (by decide) rfl (Nat.le_of_ble_eq_true rfl) (eX3_finding (k := 0) (by decide)) rfl ?_
    exact fx_ireq dX3_bell_19 rfl rfl rfl rfl
  · refine fx_iload_n dX3_bell_7 rfl rfl ?_
    refine fx_callSv dX3_bell_8 sX3_isCell lX3_47 (by decide) (Nat.le_of_ble_eq_true rfl) eX3_isCell rfl ?_
    refine fx_if_ne (tgt := 20) dX3_bell_11 (by decide) rC_l (fun hc11 => ?_) (fun hc11 => ?_)
    · exact h.elim (fun q => jtf q (nI_ne0' hc4)) (fun q => jtf q (nI_ne0' hc11))
    · refine fx_aload_n dX3_bell_14 rfl rfl ?_
      refine fx_iconst (v := nI 0) dX3_bell_15 (by decide) ?_
      refine fx_callVv dX3_bell_16 vX3_finding lX3_51 (by decide) rfl (Nat.le_of_ble_eq_true rfl) (eX3_finding (k := 0) (by decide)) rfl ?_
      exact fx_ireq dX3_bell_19 rfl rfl rfl rfl
theorem P_bell (R : jR F4 G4 F N G) (a b : Int32) : jP mX4_bell mX3_bell [.int a, .int b] F4 G4 F N G := by
  by_cases h : jwi a (nI 0) (nI 6) = false ∨ jwi b (nI 0) (nI 63) = false
  · exact ⟨_, _, _, _, _, _, eX4_bell_n h, eX3_bell_n h, jR_f R (by decide)⟩
  · have ha := jbt_t (fun q => h (Or.inl q))
    have hb := jbt_t (fun q => h (Or.inr q))
    have R0 := R
    obtain ⟨⟨n, t, hW, hS, hH, ht, hI⟩, -⟩ := R
    by_cases hn : n < 8
    · obtain ⟨kk, hk, rfl⟩ := jwi_of (k := 6) (by decide) ha
      obtain ⟨cc, hc, rfl⟩ := jwi_of (k := 63) (by decide) hb
      refine ⟨_, _, _, _, _, _, eX4_bell_y hW hn ha hb, ?_, jR_w R0 (jW_come hW hn (by omega) (by omega) (by decide) (by decide) (by decide)) (jSp_come hS) (jHr_come hH) ht (by rw [jcome_o (by omega) (fun f hf => by omega)]) (fun _ _ => rfl)⟩
      refine mx_of (L := [some (.ref 0), some (.int (nI kk)), some (.int (nI cc))]) (by decide) (fun _ => rfl) (fun _ => Nat.le_of_ble_eq_true rfl) ?_
      refine fx_iload_n dX3_bell_0 rfl rfl ?_
      refine fx_callSv dX3_bell_1 sX3_isKind lX3_81 (by decide) (Nat.le_of_ble_eq_true rfl) eX3_isKind rfl ?_
      refine fx_if_eq (tgt := 14) dX3_bell_4 (by decide) rC_l (fun hc4 => ?_) (fun hc4 => ?_)
      · exact jtf (nI_eq0' hc4) ha
      · refine fx_iload_n dX3_bell_7 rfl rfl ?_
        refine fx_callSv dX3_bell_8 sX3_isCell lX3_47 (by decide) (Nat.le_of_ble_eq_true rfl) eX3_isCell rfl ?_
        refine fx_if_ne (tgt := 20) dX3_bell_11 (by decide) rC_l (fun hc11 => ?_) (fun hc11 => ?_)
        · refine fx_aload_n dX3_bell_20 rfl rfl ?_
          refine fx_get dX3_bell_21 kX3_10 rfl rfl ?_
          refine fx_get dX3_bell_24 kX3_84 rfl rfl ?_
          rw [jI_5 hI]
          refine fx_bipush (v := nI 8) dX3_bell_27 (by decide) ?_
          refine fx_icmp_lt (tgt := 38) dX3_bell_29 (by decide) rC_l (fun hc29 => ?_) (fun hc29 => ?_)
          · refine fx_aload_n dX3_bell_38 rfl rfl ?_
            refine fx_get dX3_bell_39 kX3_10 rfl rfl ?_
            refine fx_iload_n dX3_bell_42 rfl rfl ?_
            refine fx_iload_n dX3_bell_43 rfl rfl ?_
            refine fx_callVv dX3_bell_44 vX2_addBell lX3_87 (by decide) rfl (Nat.le_of_ble_eq_true rfl) (eX2_addBell zw1 hI hn) rfl ?_
            exact fx_ireq dX3_bell_47 rfl rfl rfl rfl
          · exact absurd (nI_lt hn (by decide)) hc29
        · exact jtf (nI_eq0' hc11) hb
    · have hn8 := hW.2.1
      obtain rfl : n = 8 := by omega
      refine ⟨_, _, _, _, _, _, eX4_bell_f hW ha hb, ?_, jR_f R0 (by decide)⟩
      refine mx_of (L := [some (.ref 0), some (.int a), some (.int b)]) (by decide) (fun _ => rfl) (fun _ => Nat.le_of_ble_eq_true rfl) ?_
      refine fx_iload_n dX3_bell_0 rfl rfl ?_
      refine fx_callSv dX3_bell_1 sX3_isKind lX3_81 (by decide) (Nat.le_of_ble_eq_true rfl) eX3_isKind rfl ?_
      refine fx_if_eq (tgt := 14) dX3_bell_4 (by decide) rC_l (fun hc4 => ?_) (fun hc4 => ?_)
      · exact jtf (nI_eq0' hc4) ha
      · refine fx_iload_n dX3_bell_7 rfl rfl ?_
        refine fx_callSv dX3_bell_8 sX3_isCell lX3_47 (by decide) (Nat.le_of_ble_eq_true rfl) eX3_isCell rfl ?_
        refine fx_if_ne (tgt := 20) dX3_bell_11 (by decide) rC_l (fun hc11 => ?_) (fun hc11 => ?_)
        · refine fx_aload_n dX3_bell_20 rfl rfl ?_
          refine fx_get dX3_bell_21 kX3_10 rfl rfl ?_
          refine fx_get dX3_bell_24 kX3_84 rfl rfl ?_
          rw [jI_5 hI]
          refine fx_bipush (v := nI 8) dX3_bell_27 (by decide) ?_
          refine fx_icmp_lt (tgt := 38) dX3_bell_29 (by decide) rC_l (fun hc29 => ?_) (fun hc29 => ?_)
          · exact absurd hc29 (by decide)
          · refine fx_aload_n dX3_bell_32 rfl rfl ?_
            refine fx_iconst (v := nI 1) dX3_bell_33 (by decide) ?_
            refine fx_callVv dX3_bell_34 vX3_finding lX3_51 (by decide) rfl (Nat.le_of_ble_eq_true rfl) (eX3_finding (k := 1) (by decide)) rfl ?_
            exact fx_ireq dX3_bell_37 rfl rfl rfl rfl
        · exact jtf (nI_eq0' hc11) hb
theorem P_of (R : jR F4 G4 F N G) (a b : Int32) : jP mX4_of mX3_of [.int a, .int b] F4 G4 F N G := by
  have R0 := R
  obtain ⟨⟨n, t, hW, hS, hH, ht, hI⟩, -⟩ := R
  have hn8 := hW.2.1
  by_cases ha : jwi a (nI 0) (nI n - nI 1) = false
  · refine ⟨_, _, _, _, _, _, eX4_of_n hW (Or.inl ha), ?_, jR_f R0 (by decide)⟩
    refine mx_of (L := [some (.ref 0), some (.int a), some (.int b)]) (by decide) (fun _ => rfl) (fun _ => Nat.le_of_ble_eq_true rfl) ?_
    refine fx_aload_n dX3_of_0 rfl rfl ?_
    refine fx_iload_n dX3_of_1 rfl rfl ?_
    refine fx_callVv dX3_of_2 vX3_isBell lX3_91 (by decide) rfl (Nat.le_of_ble_eq_true rfl) (eX3_isBell hI hn8) rfl ?_
    refine fx_if_ne (tgt := 14) dX3_of_5 (by decide) rC_l (fun hc5 => ?_) (fun hc5 => ?_)
    · exact jtf ha (nI_ne0' hc5)
    · refine fx_aload_n dX3_of_8 rfl rfl ?_
      refine fx_iconst (v := nI 0) dX3_of_9 (by decide) ?_
      refine fx_callVv dX3_of_10 vX3_finding lX3_51 (by decide) rfl (Nat.le_of_ble_eq_true rfl) (eX3_finding (k := 0) (by decide)) rfl ?_
      exact fx_ireq dX3_of_13 rfl rfl rfl rfl
  · by_cases hb : jwi b (nI 0) (nI 6) = false
    · refine ⟨_, _, _, _, _, _, eX4_of_n hW (Or.inr hb), ?_, jR_f R0 (by decide)⟩
      refine mx_of (L := [some (.ref 0), some (.int a), some (.int b)]) (by decide) (fun _ => rfl) (fun _ => Nat.le_of_ble_eq_true rfl) ?_
      refine fx_aload_n dX3_of_0 rfl rfl ?_
      refine fx_iload_n dX3_of_1 rfl rfl ?_
      refine fx_callVv dX3_of_2 vX3_isBell lX3_91 (by decide) rfl (Nat.le_of_ble_eq_true rfl) (eX3_isBell hI hn8) rfl ?_
      refine fx_if_ne (tgt := 14) dX3_of_5 (by decide) rC_l (fun hc5 => ?_) (fun hc5 => ?_)
      · refine fx_iload_n dX3_of_14 rfl rfl ?_
        refine fx_lookup (tgt := 67) dX3_of_15 (by decide) (jlk56 (fun q => jtf hb (by rw [q]; decide)) (fun q => jtf hb (by rw [q]; decide))) (by decide) ?_
        refine fx_iload_n dX3_of_67 rfl rfl ?_
        refine fx_callSv dX3_of_68 sX3_isTrait lX3_103 (by decide) (Nat.le_of_ble_eq_true rfl) eX3_isTrait rfl ?_
        refine fx_if_eq (tgt := 86) dX3_of_71 (by decide) rC_l (fun hc71 => ?_) (fun hc71 => ?_)
        · refine fx_aload_n dX3_of_86 rfl rfl ?_
          refine fx_iconst (v := nI 0) dX3_of_87 (by decide) ?_
          refine fx_callVv dX3_of_88 vX3_finding lX3_51 (by decide) rfl (Nat.le_of_ble_eq_true rfl) (eX3_finding (k := 0) (by decide)) rfl ?_
          exact fx_ireq dX3_of_91 rfl rfl rfl rfl
        · exact jtf hb (jwi_mo (by decide) (by decide) (nI_ne0' hc71))
      · exact absurd (nI_eq0' hc5) ha
    · obtain ⟨c, hc, rfl⟩ := jbell_of hn8 (jbt_t ha)
      obtain ⟨f, hf, rfl⟩ := jwi_of (k := 6) (by decide) (jbt_t hb)
      refine ⟨_, _, _, _, _, _, eX4_of_y R0.2.2.2.1.1 hW hc hf, ?_, R0⟩
      refine mx_of (L := [some (.ref 0), some (.int (nI c)), some (.int (nI f))]) (by decide) (fun _ => rfl) (fun _ => Nat.le_of_ble_eq_true rfl) ?_
      by_cases h4 : f ≤ 4
      · rw [if_pos (show f < 5 by omega)]
        refine fx_aload_n dX3_of_0 rfl rfl ?_
        refine fx_iload_n dX3_of_1 rfl rfl ?_
        refine fx_callVv dX3_of_2 vX3_isBell lX3_91 (by decide) rfl (Nat.le_of_ble_eq_true rfl) (eX3_isBell hI hn8) rfl ?_
        refine fx_if_ne (tgt := 14) dX3_of_5 (by decide) rC_l (fun hc5 => ?_) (fun hc5 => ?_)
        · refine fx_iload_n dX3_of_14 rfl rfl ?_
          refine fx_lookup (tgt := 67) dX3_of_15 (by decide) (jlk56 (fun q => absurd ((nI_eq (by omega) (by decide)).mp q) (by omega)) (fun q => absurd ((nI_eq (by omega) (by decide)).mp q) (by omega))) (by decide) ?_
          refine fx_iload_n dX3_of_67 rfl rfl ?_
          refine fx_callSv dX3_of_68 sX3_isTrait lX3_103 (by decide) (Nat.le_of_ble_eq_true rfl) eX3_isTrait rfl ?_
          rw [jwi_n h4 (by decide)]
          refine fx_if_eq (tgt := 86) dX3_of_71 (by decide) rC_l (fun hc71 => ?_) (fun hc71 => ?_)
          · exact absurd hc71 (by decide)
          · refine fx_aload_n dX3_of_74 rfl rfl ?_
            refine fx_get dX3_of_75 kX3_10 rfl rfl ?_
            refine fx_iload_n dX3_of_78 rfl rfl ?_
            refine fx_iload_n dX3_of_79 rfl rfl ?_
            refine fx_callVv dX3_of_80 vX2_trait lX3_106 (by decide) rfl (Nat.le_of_ble_eq_true rfl) (eX2_trait zw1 hI hW hc h4) rfl ?_
            refine fx_goto (tgt := 91) dX3_of_83 (by decide) ?_
            exact fx_ireq dX3_of_91 rfl rfl rfl rfl
        · exact absurd (nI_eq0' hc5) ha
      · rcases (show f = 5 ∨ f = 6 by omega) with rfl | rfl
        · refine fx_aload_n dX3_of_0 rfl rfl ?_
          refine fx_iload_n dX3_of_1 rfl rfl ?_
          refine fx_callVv dX3_of_2 vX3_isBell lX3_91 (by decide) rfl (Nat.le_of_ble_eq_true rfl) (eX3_isBell hI hn8) rfl ?_
          refine fx_if_ne (tgt := 14) dX3_of_5 (by decide) rC_l (fun hc5 => ?_) (fun hc5 => ?_)
          · refine fx_iload_n dX3_of_14 rfl rfl ?_
            refine fx_lookup (off := 25) (tgt := 40) dX3_of_15 (by decide) (by decide) (by decide) ?_
            refine fx_aload_n dX3_of_40 rfl rfl ?_
            refine fx_get dX3_of_41 kX3_10 rfl rfl ?_
            refine fx_iload_n dX3_of_44 rfl rfl ?_
            refine fx_callVv dX3_of_45 vX2_nextCell lX3_94 (by decide) rfl (Nat.le_of_ble_eq_true rfl) (eX2_nextCell zw1 hI hW hc) rfl ?_
            exact fx_ireq dX3_of_48 rfl rfl rfl rfl
          · exact absurd (nI_eq0' hc5) ha
        · obtain ⟨d, hd, ed⟩ := (hW.2.2.1 c hc).2.1
          rw [ed, nI_clamp (by omega)]
          refine fx_aload_n dX3_of_0 rfl rfl ?_
          refine fx_iload_n dX3_of_1 rfl rfl ?_
          refine fx_callVv dX3_of_2 vX3_isBell lX3_91 (by decide) rfl (Nat.le_of_ble_eq_true rfl) (eX3_isBell hI hn8) rfl ?_
          refine fx_if_ne (tgt := 14) dX3_of_5 (by decide) rC_l (fun hc5 => ?_) (fun hc5 => ?_)
          · refine fx_iload_n dX3_of_14 rfl rfl ?_
            refine fx_lookup (off := 34) (tgt := 49) dX3_of_15 (by decide) (by decide) (by decide) ?_
            refine fx_aload_n dX3_of_49 rfl rfl ?_
            refine fx_get dX3_of_50 kX3_10 rfl rfl ?_
            refine fx_iload_n dX3_of_53 rfl rfl ?_
            refine fx_aload_n dX3_of_54 rfl rfl ?_
            refine fx_get dX3_of_55 kX3_10 rfl rfl ?_
            refine fx_get dX3_of_58 kX3_97 rfl rfl ?_
            refine fx_iload_n dX3_of_61 rfl rfl ?_
            refine fx_iald dX3_of_62 rfl (vp_in_nI (by omega) (by decide)) ?_
            rw [nI_clamp (by omega), jA4 hI, jbf_e (by omega), ed]
            refine fx_callVv dX3_of_63 vX2_worthFor lX3_100 (by decide) rfl (Nat.le_of_ble_eq_true rfl) (eX2_worthFor zw1 hI hW hc hd) rfl ?_
            exact fx_ireq dX3_of_66 rfl rfl rfl rfl
          · exact absurd (nI_eq0' hc5) ha
theorem P_change (R : jR F4 G4 F N G) (a b v : Int32) : jP mX4_change mX3_change [.int a, .int b, .int v] F4 G4 F N G := by
  have R0 := R
  obtain ⟨⟨n, t, hW, hS, hH, ht, hI⟩, -⟩ := R
  have hn8 := hW.2.1
  by_cases ha : jwi a (nI 0) (nI n - nI 1) = false
  · refine ⟨_, _, _, _, _, _, eX4_change_n hW (Or.inl ha), ?_, jR_f R0 (by decide)⟩
    refine mx_of (L := [some (.ref 0), some (.int a), some (.int b), some (.int v), none]) (by decide) (fun _ => rfl) (fun _ => Nat.le_of_ble_eq_true rfl) ?_
    refine fx_aload_n dX3_change_0 rfl rfl ?_
    refine fx_iload_n dX3_change_1 rfl rfl ?_
    refine fx_callVv dX3_change_2 vX3_isBell lX3_91 (by decide) rfl (Nat.le_of_ble_eq_true rfl) (eX3_isBell hI hn8) rfl ?_
    refine fx_if_eq (tgt := 23) dX3_change_5 (by decide) rC_l (fun hc5 => ?_) (fun hc5 => ?_)
    · refine fx_aload_n dX3_change_23 rfl rfl ?_
      refine fx_iconst (v := nI 0) dX3_change_24 (by decide) ?_
      refine fx_callVv dX3_change_25 vX3_finding lX3_51 (by decide) rfl (Nat.le_of_ble_eq_true rfl) (eX3_finding (k := 0) (by decide)) rfl ?_
      exact fx_ireq dX3_change_28 rfl rfl rfl rfl
    · exact jtf ha (nI_ne0' hc5)
  · by_cases hb : jwi b (nI 0) (nI 4) = false
    · refine ⟨_, _, _, _, _, _, eX4_change_n hW (Or.inr (Or.inl hb)), ?_, jR_f R0 (by decide)⟩
      refine mx_of (L := [some (.ref 0), some (.int a), some (.int b), some (.int v), none]) (by decide) (fun _ => rfl) (fun _ => Nat.le_of_ble_eq_true rfl) ?_
      refine fx_aload_n dX3_change_0 rfl rfl ?_
      refine fx_iload_n dX3_change_1 rfl rfl ?_
      refine fx_callVv dX3_change_2 vX3_isBell lX3_91 (by decide) rfl (Nat.le_of_ble_eq_true rfl) (eX3_isBell hI hn8) rfl ?_
      refine fx_if_eq (tgt := 23) dX3_change_5 (by decide) rC_l (fun hc5 => ?_) (fun hc5 => ?_)
      · exact absurd (nI_eq0' hc5) ha
      · refine fx_iload_n dX3_change_8 rfl rfl ?_
        refine fx_callSv dX3_change_9 sX3_isTrait lX3_103 (by decide) (Nat.le_of_ble_eq_true rfl) eX3_isTrait rfl ?_
        refine fx_if_eq (tgt := 23) dX3_change_12 (by decide) rC_l (fun hc12 => ?_) (fun hc12 => ?_)
        · refine fx_aload_n dX3_change_23 rfl rfl ?_
          refine fx_iconst (v := nI 0) dX3_change_24 (by decide) ?_
          refine fx_callVv dX3_change_25 vX3_finding lX3_51 (by decide) rfl (Nat.le_of_ble_eq_true rfl) (eX3_finding (k := 0) (by decide)) rfl ?_
          exact fx_ireq dX3_change_28 rfl rfl rfl rfl
        · exact jtf hb (nI_ne0' hc12)
    · obtain ⟨c, hc, rfl⟩ := jbell_of hn8 (jbt_t ha)
      obtain ⟨f, hf, rfl⟩ := jwi_of (k := 4) (by decide) (jbt_t hb)
      by_cases hv : jmb f v = false
      · refine ⟨_, _, _, _, _, _, eX4_change_n hW (Or.inr (Or.inr ⟨f, hf, rfl, hv⟩)), ?_, jR_f R0 (by decide)⟩
        refine mx_of (L := [some (.ref 0), some (.int (nI c)), some (.int (nI f)), some (.int v), none]) (by decide) (fun _ => rfl) (fun _ => Nat.le_of_ble_eq_true rfl) ?_
        refine fx_aload_n dX3_change_0 rfl rfl ?_
        refine fx_iload_n dX3_change_1 rfl rfl ?_
        refine fx_callVv dX3_change_2 vX3_isBell lX3_91 (by decide) rfl (Nat.le_of_ble_eq_true rfl) (eX3_isBell hI hn8) rfl ?_
        refine fx_if_eq (tgt := 23) dX3_change_5 (by decide) rC_l (fun hc5 => ?_) (fun hc5 => ?_)
        · exact absurd (nI_eq0' hc5) ha
        · refine fx_iload_n dX3_change_8 rfl rfl ?_
          refine fx_callSv dX3_change_9 sX3_isTrait lX3_103 (by decide) (Nat.le_of_ble_eq_true rfl) eX3_isTrait rfl ?_
          refine fx_if_eq (tgt := 23) dX3_change_12 (by decide) rC_l (fun hc12 => ?_) (fun hc12 => ?_)
          · exact absurd (nI_eq0' hc12) hb
          · refine fx_iload_n dX3_change_15 rfl rfl ?_
            refine fx_iload_n dX3_change_16 rfl rfl ?_
            refine fx_callSv dX3_change_17 sX3_suits lX3_109 (by decide) (Nat.le_of_ble_eq_true rfl) (eX3_suits hf) rfl ?_
            refine fx_if_ne (tgt := 29) dX3_change_20 (by decide) rC_l (fun hc20 => ?_) (fun hc20 => ?_)
            · exact jtf hv (nI_ne0' hc20)
            · refine fx_aload_n dX3_change_23 rfl rfl ?_
              refine fx_iconst (v := nI 0) dX3_change_24 (by decide) ?_
              refine fx_callVv dX3_change_25 vX3_finding lX3_51 (by decide) rfl (Nat.le_of_ble_eq_true rfl) (eX3_finding (k := 0) (by decide)) rfl ?_
              exact fx_ireq dX3_change_28 rfl rfl rfl rfl
      · have hv' := jbt_t hv
        have hg := jgood_mb hf hv'
        refine ⟨_, _, _, _, _, _, eX4_change_y hW hc hf hv', ?_, jR_w R0 (jW_f hW hc (by omega) hg) (jSp_u hS (by omega)) (jHr_u hH (by omega)) ht (by rw [pk_un (by omega)]) (fun _ _ => rfl)⟩
        refine mx_of (L := [some (.ref 0), some (.int (nI c)), some (.int (nI f)), some (.int v), none]) (by decide) (fun _ => rfl) (fun _ => Nat.le_of_ble_eq_true rfl) ?_
        refine fx_aload_n dX3_change_0 rfl rfl ?_
        refine fx_iload_n dX3_change_1 rfl rfl ?_
        refine fx_callVv dX3_change_2 vX3_isBell lX3_91 (by decide) rfl (Nat.le_of_ble_eq_true rfl) (eX3_isBell hI hn8) rfl ?_
        refine fx_if_eq (tgt := 23) dX3_change_5 (by decide) rC_l (fun hc5 => ?_) (fun hc5 => ?_)
        · exact absurd (nI_eq0' hc5) ha
        · refine fx_iload_n dX3_change_8 rfl rfl ?_
          refine fx_callSv dX3_change_9 sX3_isTrait lX3_103 (by decide) (Nat.le_of_ble_eq_true rfl) eX3_isTrait rfl ?_
          refine fx_if_eq (tgt := 23) dX3_change_12 (by decide) rC_l (fun hc12 => ?_) (fun hc12 => ?_)
          · exact absurd (nI_eq0' hc12) hb
          · refine fx_iload_n dX3_change_15 rfl rfl ?_
            refine fx_iload_n dX3_change_16 rfl rfl ?_
            refine fx_callSv dX3_change_17 sX3_suits lX3_109 (by decide) (Nat.le_of_ble_eq_true rfl) (eX3_suits hf) rfl ?_
            refine fx_if_ne (tgt := 29) dX3_change_20 (by decide) rC_l (fun hc20 => ?_) (fun hc20 => ?_)
            · refine fx_aload_n dX3_change_29 rfl rfl ?_
              refine fx_get dX3_change_30 kX3_10 rfl rfl ?_
              refine fx_iload_n dX3_change_33 rfl rfl ?_
              refine fx_iload_n dX3_change_34 rfl rfl ?_
              refine fx_callVv dX3_change_35 vX2_trait lX3_106 (by decide) rfl (Nat.le_of_ble_eq_true rfl) (eX2_trait zw1 hI hW hc hf) rfl ?_
              refine fs_istore_4 dX3_change_38 rfl (by decide) ?_
              refine fx_aload_n dX3_change_40 rfl rfl ?_
              refine fx_get dX3_change_41 kX3_10 rfl rfl ?_
              refine fx_iload_n dX3_change_44 rfl rfl ?_
              refine fx_iload_n dX3_change_45 rfl rfl ?_
              refine fx_iload_n dX3_change_46 rfl rfl ?_
              refine fx_callVn dX3_change_47 vX2_setTrait lX3_113 (by decide) rfl (Nat.le_of_ble_eq_true rfl) (eX2_setTrait zw1 hI hn8 hc hf hg.2.2.2.2) rfl ?_
              refine fx_iload dX3_change_50 rfl ?_
              exact fx_ireq dX3_change_52 rfl rfl rfl rfl
            · exact absurd (nI_eq0' hc20) hv
theorem P_worth (R : jR F4 G4 F N G) (a b : Int32) : jP mX4_worth mX3_worth [.int a, .int b] F4 G4 F N G := by
  have R0 := R
  obtain ⟨⟨n, t, hW, hS, hH, ht, hI⟩, -⟩ := R
  have hn8 := hW.2.1
  by_cases h : jwi a (nI 0) (nI n - nI 1) = false ∨ jwi b (nI 0) (nI 63) = false
  · refine ⟨_, _, _, _, _, _, eX4_worth_n hW h, ?_, jR_f R0 (by decide)⟩
    refine mx_of (L := [some (.ref 0), some (.int a), some (.int b)]) (by decide) (fun _ => rfl) (fun _ => Nat.le_of_ble_eq_true rfl) ?_
    refine fx_aload_n dX3_worth_0 rfl rfl ?_
    refine fx_iload_n dX3_worth_1 rfl rfl ?_
    refine fx_callVv dX3_worth_2 vX3_isBell lX3_91 (by decide) rfl (Nat.le_of_ble_eq_true rfl) (eX3_isBell hI hn8) rfl ?_
    refine fx_if_eq (tgt := 15) dX3_worth_5 (by decide) rC_l (fun hc5 => ?_) (fun hc5 => ?_)
    · refine fx_aload_n dX3_worth_15 rfl rfl ?_
      refine fx_iconst (v := nI 0) dX3_worth_16 (by decide) ?_
      refine fx_callVv dX3_worth_17 vX3_finding lX3_51 (by decide) rfl (Nat.le_of_ble_eq_true rfl) (eX3_finding (k := 0) (by decide)) rfl ?_
      exact fx_ireq dX3_worth_20 rfl rfl rfl rfl
    · refine fx_iload_n dX3_worth_8 rfl rfl ?_
      refine fx_callSv dX3_worth_9 sX3_isCell lX3_47 (by decide) (Nat.le_of_ble_eq_true rfl) eX3_isCell rfl ?_
      refine fx_if_ne (tgt := 21) dX3_worth_12 (by decide) rC_l (fun hc12 => ?_) (fun hc12 => ?_)
      · exact h.elim (fun q => jtf q (nI_ne0' hc5)) (fun q => jtf q (nI_ne0' hc12))
      · refine fx_aload_n dX3_worth_15 rfl rfl ?_
        refine fx_iconst (v := nI 0) dX3_worth_16 (by decide) ?_
        refine fx_callVv dX3_worth_17 vX3_finding lX3_51 (by decide) rfl (Nat.le_of_ble_eq_true rfl) (eX3_finding (k := 0) (by decide)) rfl ?_
        exact fx_ireq dX3_worth_20 rfl rfl rfl rfl
  · obtain ⟨c, hc, rfl⟩ := jbell_of hn8 (jbt_t (fun q => h (Or.inl q)))
    obtain ⟨d, hd, rfl⟩ := jwi_of (k := 63) (by decide) (jbt_t (fun q => h (Or.inr q)))
    refine ⟨_, _, _, _, _, _, eX4_worth_y hW hc (by omega), ?_, R0⟩
    refine mx_of (L := [some (.ref 0), some (.int (nI c)), some (.int (nI d))]) (by decide) (fun _ => rfl) (fun _ => Nat.le_of_ble_eq_true rfl) ?_
    refine fx_aload_n dX3_worth_0 rfl rfl ?_
    refine fx_iload_n dX3_worth_1 rfl rfl ?_
    refine fx_callVv dX3_worth_2 vX3_isBell lX3_91 (by decide) rfl (Nat.le_of_ble_eq_true rfl) (eX3_isBell hI hn8) rfl ?_
    refine fx_if_eq (tgt := 15) dX3_worth_5 (by decide) rC_l (fun hc5 => ?_) (fun hc5 => ?_)
    · exact absurd (nI_eq0' hc5) (fun q => h (Or.inl q))
    · refine fx_iload_n dX3_worth_8 rfl rfl ?_
      refine fx_callSv dX3_worth_9 sX3_isCell lX3_47 (by decide) (Nat.le_of_ble_eq_true rfl) eX3_isCell rfl ?_
      refine fx_if_ne (tgt := 21) dX3_worth_12 (by decide) rC_l (fun hc12 => ?_) (fun hc12 => ?_)
      · refine fx_aload_n dX3_worth_21 rfl rfl ?_
        refine fx_get dX3_worth_22 kX3_10 rfl rfl ?_
        refine fx_iload_n dX3_worth_25 rfl rfl ?_
        refine fx_iload_n dX3_worth_26 rfl rfl ?_
        refine fx_callVv dX3_worth_27 vX2_worthFor lX3_100 (by decide) rfl (Nat.le_of_ble_eq_true rfl) (eX2_worthFor zw1 hI hW hc (by omega)) rfl ?_
        exact fx_ireq dX3_worth_30 rfl rfl rfl rfl
      · exact absurd (nI_eq0' hc12) (fun q => h (Or.inr q))
theorem P_loud (R : jR F4 G4 F N G) (a b : Int32) : jP mX4_loud mX3_loud [.int a, .int b] F4 G4 F N G := by
  have R0 := R
  obtain ⟨⟨n, t, hW, hS, hH, ht, hI⟩, -⟩ := R
  have hn8 := hW.2.1
  by_cases h : jwi a (nI 0) (nI n - nI 1) = false ∨ jwi b (nI 0) (nI 63) = false
  · refine ⟨_, _, _, _, _, _, eX4_loud_n hW h, ?_, jR_f R0 (by decide)⟩
    refine mx_of (L := [some (.ref 0), some (.int a), some (.int b)]) (by decide) (fun _ => rfl) (fun _ => Nat.le_of_ble_eq_true rfl) ?_
    refine fx_aload_n dX3_loud_0 rfl rfl ?_
    refine fx_iload_n dX3_loud_1 rfl rfl ?_
    refine fx_callVv dX3_loud_2 vX3_isBell lX3_91 (by decide) rfl (Nat.le_of_ble_eq_true rfl) (eX3_isBell hI hn8) rfl ?_
    refine fx_if_eq (tgt := 15) dX3_loud_5 (by decide) rC_l (fun hc5 => ?_) (fun hc5 => ?_)
    · refine fx_aload_n dX3_loud_15 rfl rfl ?_
      refine fx_iconst (v := nI 0) dX3_loud_16 (by decide) ?_
      refine fx_callVv dX3_loud_17 vX3_finding lX3_51 (by decide) rfl (Nat.le_of_ble_eq_true rfl) (eX3_finding (k := 0) (by decide)) rfl ?_
      exact fx_ireq dX3_loud_20 rfl rfl rfl rfl
    · refine fx_iload_n dX3_loud_8 rfl rfl ?_
      refine fx_callSv dX3_loud_9 sX3_isCell lX3_47 (by decide) (Nat.le_of_ble_eq_true rfl) eX3_isCell rfl ?_
      refine fx_if_ne (tgt := 21) dX3_loud_12 (by decide) rC_l (fun hc12 => ?_) (fun hc12 => ?_)
      · exact h.elim (fun q => jtf q (nI_ne0' hc5)) (fun q => jtf q (nI_ne0' hc12))
      · refine fx_aload_n dX3_loud_15 rfl rfl ?_
        refine fx_iconst (v := nI 0) dX3_loud_16 (by decide) ?_
        refine fx_callVv dX3_loud_17 vX3_finding lX3_51 (by decide) rfl (Nat.le_of_ble_eq_true rfl) (eX3_finding (k := 0) (by decide)) rfl ?_
        exact fx_ireq dX3_loud_20 rfl rfl rfl rfl
  · obtain ⟨c, hc, rfl⟩ := jbell_of hn8 (jbt_t (fun q => h (Or.inl q)))
    obtain ⟨d, hd, rfl⟩ := jwi_of (k := 63) (by decide) (jbt_t (fun q => h (Or.inr q)))
    refine ⟨_, _, _, _, _, _, eX4_loud_y hW hc (by omega), ?_, R0⟩
    refine mx_of (L := [some (.ref 0), some (.int (nI c)), some (.int (nI d))]) (by decide) (fun _ => rfl) (fun _ => Nat.le_of_ble_eq_true rfl) ?_
    refine fx_aload_n dX3_loud_0 rfl rfl ?_
    refine fx_iload_n dX3_loud_1 rfl rfl ?_
    refine fx_callVv dX3_loud_2 vX3_isBell lX3_91 (by decide) rfl (Nat.le_of_ble_eq_true rfl) (eX3_isBell hI hn8) rfl ?_
    refine fx_if_eq (tgt := 15) dX3_loud_5 (by decide) rC_l (fun hc5 => ?_) (fun hc5 => ?_)
    · exact absurd (nI_eq0' hc5) (fun q => h (Or.inl q))
    · refine fx_iload_n dX3_loud_8 rfl rfl ?_
      refine fx_callSv dX3_loud_9 sX3_isCell lX3_47 (by decide) (Nat.le_of_ble_eq_true rfl) eX3_isCell rfl ?_
      refine fx_if_ne (tgt := 21) dX3_loud_12 (by decide) rC_l (fun hc12 => ?_) (fun hc12 => ?_)
      · refine fx_aload_n dX3_loud_21 rfl rfl ?_
        refine fx_get dX3_loud_22 kX3_10 rfl rfl ?_
        refine fx_get dX3_loud_25 kX3_145 rfl rfl ?_
        refine fx_iload_n dX3_loud_28 rfl rfl ?_
        refine fx_iald dX3_loud_29 rfl (vp_in_nI (by omega) (by decide)) ?_
        rw [nI_clamp (by omega), jA6 hI, jbf_e (by omega)]
        refine fx_aload_n dX3_loud_30 rfl rfl ?_
        refine fx_get dX3_loud_31 kX3_10 rfl rfl ?_
        refine fx_get dX3_loud_34 kX3_97 rfl rfl ?_
        refine fx_iload_n dX3_loud_37 rfl rfl ?_
        refine fx_iald dX3_loud_38 rfl (vp_in_nI (by omega) (by decide)) ?_
        rw [nI_clamp (by omega), jA4 hI, jbf_e (by omega)]
        refine fx_iload_n dX3_loud_39 rfl rfl ?_
        refine fx_callSv dX3_loud_40 sX3_apart lX3_148 (by decide) (Nat.le_of_ble_eq_true rfl) eX3_apart rfl ?_
        refine fx_callSv dX3_loud_43 sX3_loudness lX3_151 (by decide) (Nat.le_of_ble_eq_true rfl) eX3_loudness rfl ?_
        exact fx_ireq dX3_loud_46 rfl rfl rfl rfl
      · exact absurd (nI_eq0' hc12) (fun q => h (Or.inr q))
end
