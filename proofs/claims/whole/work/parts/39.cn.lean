/-! ===== pairs: net, thick, hunter, fear, cell, bell, of, change, worth, loud ===== -/
set_option maxRecDepth 100000
theorem jSp_u {V : Nat → Int32} {n i : Nat} {x : Int32} (h : jSp V n) (hi : i < 4 ∨ 14 ≤ i) : jSp (upd V i x) n := fun s hs => by rw [pk_un (by omega)]; exact h s hs
theorem jHr_u {V : Nat → Int32} {i : Nat} {x : Int32} (h : jHr V) (hi : i ≠ 0) : jHr (upd V i x) := by obtain ⟨t, h1, h2⟩ := h; exact ⟨t, h1, by rw [pk_un (fun q => hi q.symm)]; exact h2⟩
theorem jW_th {V : Nat → Int32} {n c i : Nat} (h : jW V n) (hc : c < 64) (hi : i ≤ 9) : jW (upd V (82 + c) (nI i)) n := by
  obtain ⟨h1, h2, h3, h4, h5, h6, h7, h8⟩ := h
  refine ⟨by rw [pk_un (by omega)]; exact h1, h2, fun o ho => ?_, fun q hq => by rw [pk_un (by omega)]; exact h4 q hq, fun q hq => by rw [pk_un (by omega)]; exact h5 q hq, fun q hq => ?_, by rw [pk_un (by omega)]; exact h7, fun k hk => by rw [pk_un (by omega)]; exact h8 k hk⟩
  · rw [pk_un (by omega), pk_un (by omega), pk_un (by omega), pk_un (by omega), pk_un (by omega)]
    exact h3 o ho
  · by_cases e : q = c
    · subst e; rw [pk_us]; exact ⟨i, hi, rfl⟩
    · rw [pk_un (by omega)]; exact h6 q hq
theorem jW_fear {V : Nat → Int32} {n i : Nat} (h : jW V n) (hi : i ≤ 9) : jW (upd V 1 (nI i)) n := by
  obtain ⟨h1, h2, h3, h4, h5, h6, h7, h8⟩ := h
  refine ⟨by rw [pk_un (by omega)]; exact h1, h2, fun o ho => ?_, fun q hq => by rw [pk_un (by omega)]; exact h4 q hq, fun q hq => by rw [pk_un (by omega)]; exact h5 q hq, fun q hq => by rw [pk_un (by omega)]; exact h6 q hq, by rw [pk_us]; exact ⟨i, hi, rfl⟩, fun k hk => by rw [pk_un (by omega)]; exact h8 k hk⟩
  rw [pk_un (by omega), pk_un (by omega), pk_un (by omega), pk_un (by omega), pk_un (by omega)]
  exact h3 o ho
theorem jbt_t {b : Bool} (h : ¬ b = false) : b = true := by cases b; exact absurd rfl h; rfl
theorem nI_m1 {k : Nat} (hk : k < 2 ^ 31) : ¬ nI k = (-1) := fun q => nI_pos hk (by rw [q]; decide)
theorem jm1_of {v : Int32} (h : jwi v (nI 0) (nI 63) = true) : jwi v (-1) (nI 63) = true := by
  obtain ⟨c, hc, rfl⟩ := jwi_of (k := 63) (by decide) h
  exact jwi_in (fun q => nI_pos (n := c) (by omega) (Int32.lt_trans q (by decide))) (fun q => absurd (nI_le hc (by decide)) (Int32.not_le.mpr q))
theorem jm1_or {v : Int32} (h : jwi v (-1) (nI 63) = true) : v = (-1) ∨ ∃ c, c < 64 ∧ v = nI c := by
  by_cases q : v < 0
  · left
    unfold jwi at h
    rw [Bool.and_eq_true, decide_eq_true_eq, decide_eq_true_eq] at h
    have h1 := Int32.le_iff_toInt_le.mp h.1
    have h2 := Int32.lt_iff_toInt_lt.mp q
    apply Int32.toInt_inj.mp
    rw [show (-1 : Int32).toInt = -1 by decide] at *
    rw [show (0 : Int32).toInt = 0 by decide] at h2
    omega
  · right
    unfold jwi at h
    rw [Bool.and_eq_true, decide_eq_true_eq, decide_eq_true_eq] at h
    obtain ⟨c, hc, rfl⟩ := nI_of q
    exact ⟨c, by have := (nI_leI hc (by decide)).mp h.2; omega, rfl⟩
section
variable {F : Nat → Nat → Int32} {N : Nat → Nat → Int64} {G : Nat → Nat → Int32} {a : Nat → Int32} {V : Nat → Int32} {n : Nat} {h : Int32} {t : Nat}
theorem wa_2 : z_set (rC F N G) 2 (.inl (0, 64, .inl a)) = rC F N (ga G 2 a) := rfl
theorem wa_3 : z_set (rC F N G) 3 (.inl (0, 4, .inl a)) = rC F N (ga G 3 a) := rfl
theorem wa_4 : z_set (rC F N G) 4 (.inl (0, 8, .inl a)) = rC F N (ga G 4 a) := rfl
theorem wa_5 : z_set (rC F N G) 5 (.inl (0, 8, .inl a)) = rC F N (ga G 5 a) := rfl
theorem wa_6 : z_set (rC F N G) 6 (.inl (0, 8, .inl a)) = rC F N (ga G 6 a) := rfl
theorem wa_7 : z_set (rC F N G) 7 (.inl (0, 8, .inl a)) = rC F N (ga G 7 a) := rfl
theorem wa_8 : z_set (rC F N G) 8 (.inl (0, 10, .inl a)) = rC F N (ga G 8 a) := rfl
theorem jA1 (k : jI F N G 1 V n h t) : G 2 = jth V := jI_a1 k
theorem jA2 (k : jI F N G 1 V n h t) : G 3 = jhu V := jI_a2 k
theorem jA3 (k : jI F N G 1 V n h t) : G 4 = jbf V 0 := jI_a3 k
theorem jA4 (k : jI F N G 1 V n h t) : G 5 = jbf V 1 := jI_a4 k
theorem jA5 (k : jI F N G 1 V n h t) : G 6 = jbf V 2 := jI_a5 k
theorem jA6 (k : jI F N G 1 V n h t) : G 7 = jbf V 3 := jI_a6 k
theorem jA7 (k : jI F N G 1 V n h t) : G 8 = jspt V := jI_a7 k
end
section
variable {F4 : Nat → Int32} {G4 : Nat → Nat → Int32} {F : Nat → Nat → Int32} {N : Nat → Nat → Int64} {G : Nat → Nat → Int32}
theorem eX3_net_n {a b : Int32} (h : jwi a (nI 0) (nI 63) = false ∨ jwi b (nI 0) (nI 1) = false) : Mx mX3_net [.ref 0, .int a, .int b] (rC F N G) (some (.int (jfd 0))) (rC F N (ga G 36 (jf1 (G 36) 0))) := by
  refine mx_of (L := [some (.ref 0), some (.int a), some (.int b), none]) (by decide) (fun _ => rfl) (fun _ => Nat.le_of_ble_eq_true rfl) ?_
  refine fx_iload_n dX3_net_0 rfl rfl ?_
  refine fx_callSv dX3_net_1 sX3_isCell lX3_47 (by decide) (Nat.le_of_ble_eq_true rfl) eX3_isCell rfl ?_
  refine fx_if_eq (tgt := 16) dX3_net_4 (by decide) rC_l (fun hc4 => ?_) (fun hc4 => ?_)
  · refine fx_aload_n dX3_net_16 rfl rfl ?_
    refine fx_iconst (v := nI 0) dX3_net_17 (by decide) ?_
    refine fx_callVv dX3_net_18 vX3_finding lX3_51 (by decide) rfl (Nat.le_of_ble_eq_true rfl) (eX3_finding (k := 0) (by decide)) rfl ?_
    exact fx_ireq dX3_net_21 rfl rfl rfl rfl
  · refine fx_iload_n dX3_net_7 rfl rfl ?_
    refine fx_if_lt (tgt := 16) dX3_net_8 (by decide) rC_l (fun hc8 => ?_) (fun hc8 => ?_)
    · refine fx_aload_n dX3_net_16 rfl rfl ?_
      refine fx_iconst (v := nI 0) dX3_net_17 (by decide) ?_
      refine fx_callVv dX3_net_18 vX3_finding lX3_51 (by decide) rfl (Nat.le_of_ble_eq_true rfl) (eX3_finding (k := 0) (by decide)) rfl ?_
      exact fx_ireq dX3_net_21 rfl rfl rfl rfl
    · refine fx_iload_n dX3_net_11 rfl rfl ?_
      refine fx_iconst (v := nI 1) dX3_net_12 (by decide) ?_
      refine fx_icmp_le (tgt := 22) dX3_net_13 (by decide) rC_l (fun hc13 => ?_) (fun hc13 => ?_)
      · exact h.elim (fun q => jtf q (nI_ne0' hc4)) (fun q => jtf q (jwi_in (by rw [nI_0]; exact hc8) (Int32.not_lt.mpr hc13)))
      · refine fx_aload_n dX3_net_16 rfl rfl ?_
        refine fx_iconst (v := nI 0) dX3_net_17 (by decide) ?_
        refine fx_callVv dX3_net_18 vX3_finding lX3_51 (by decide) rfl (Nat.le_of_ble_eq_true rfl) (eX3_finding (k := 0) (by decide)) rfl ?_
        exact fx_ireq dX3_net_21 rfl rfl rfl rfl
theorem P_net (R : jR F4 G4 F N G) (a b : Int32) : jP mX4_net mX3_net [.int a, .int b] F4 G4 F N G := by
  by_cases h : jwi a (nI 0) (nI 63) = false ∨ jwi b (nI 0) (nI 1) = false
  · exact ⟨_, _, _, _, _, _, eX4_net_n h, eX3_net_n h, jR_f R (by decide)⟩
  · obtain ⟨c, hc, rfl⟩ := jwi_of (k := 63) (by decide) (jbt_t (fun q => h (Or.inl q)))
    obtain ⟨i, hi, rfl⟩ := jwi_of (k := 1) (by decide) (jbt_t (fun q => h (Or.inr q)))
    have R0 := R
    obtain ⟨⟨n, t, hW, hS, hH, ht, hI⟩, -⟩ := R
    have hbi : jB (decide (i = 1)) = nI i := by rcases (show i = 0 ∨ i = 1 by omega) with rfl | rfl <;> rfl
    have hx : nI i = nI 0 ∨ nI i = nI 1 := by rcases (show i = 0 ∨ i = 1 by omega) with rfl | rfl <;> simp
    have eS := eX2_setNet (b := decide (i = 1)) zw1 hI (show c < 64 by omega)
    rw [hbi] at eS
    refine ⟨_, _, _, _, _, _, eX4_net_y (by omega) hi, ?_, jR_w R0 (jW_net hW (by omega) hx) (jSp_u hS (by omega)) (jHr_u hH (by omega)) ht (by rw [pk_un (by omega)]) (fun _ _ => rfl)⟩
    refine mx_of (L := [some (.ref 0), some (.int (nI c)), some (.int (nI i)), none]) (by decide) (fun _ => rfl) (fun _ => Nat.le_of_ble_eq_true rfl) ?_
    have h0 := hW.2.2.2.2.1 c (by omega)
    rcases (show i = 0 ∨ i = 1 by omega) with rfl | rfl <;> rcases h0 with h0 | h0 <;> rw [h0]
    all_goals
      refine fx_iload_n dX3_net_0 rfl rfl ?_
      refine fx_callSv dX3_net_1 sX3_isCell lX3_47 (by decide) (Nat.le_of_ble_eq_true rfl) eX3_isCell rfl ?_
      rw [jwi_n (by omega) (by decide)]
      refine fx_if_eq (tgt := 16) dX3_net_4 (by decide) rC_l (fun hc4 => ?_) (fun hc4 => ?_)
      · exact absurd hc4 (by decide)
      · refine fx_iload_n dX3_net_7 rfl rfl ?_
        refine fx_if_lt (tgt := 16) dX3_net_8 (by decide) rC_l (fun hc8 => ?_) (fun hc8 => ?_)
        · exact absurd hc8 (by decide)
        · try exact absurd hc8 (by decide)
          all_goals
            refine fx_iload_n dX3_net_11 rfl rfl ?_
            refine fx_iconst (v := nI 1) dX3_net_12 (by decide) ?_
            refine fx_icmp_le (tgt := 22) dX3_net_13 (by decide) rC_l (fun hc13 => ?_) (fun hc13 => ?_)
            · try exact absurd hc13 (by decide)
              all_goals
                refine fx_aload_n dX3_net_22 rfl rfl ?_
                refine fx_get dX3_net_23 kX3_10 rfl rfl ?_
                refine fx_iload_n dX3_net_26 rfl rfl ?_
                refine fx_callVv dX3_net_27 vX2_hasNet lX3_55 (by decide) rfl (Nat.le_of_ble_eq_true rfl) (eX2_hasNet zw1 hI (by omega)) rfl ?_
                rw [h0]
                refine fx_iload_n dX3_net_30 rfl rfl ?_
                refine fx_iconst (v := nI 1) dX3_net_31 (by decide) ?_
                refine fx_icmp_ne (tgt := 39) dX3_net_32 (by decide) rC_l (fun hc32 => ?_) (fun hc32 => ?_)
                · try exact absurd hc32 (by decide)
                  all_goals
                    refine fx_iconst (v := nI 0) dX3_net_39 (by decide) ?_
                    refine fx_icmp_eq (tgt := 47) dX3_net_40 (by decide) rC_l (fun hc40 => ?_) (fun hc40 => ?_)
                    · try exact absurd hc40 (by decide)
                      all_goals
                        refine fx_iconst (v := nI 0) dX3_net_47 (by decide) ?_
                        refine fs_istore_n_3 dX3_net_48 rfl (by decide) ?_
                        refine fx_aload_n dX3_net_49 rfl rfl ?_
                        refine fx_get dX3_net_50 kX3_10 rfl rfl ?_
                        refine fx_iload_n dX3_net_53 rfl rfl ?_
                        refine fx_iload_n dX3_net_54 rfl rfl ?_
                        refine fx_iconst (v := nI 1) dX3_net_55 (by decide) ?_
                        refine fx_icmp_ne (tgt := 63) dX3_net_56 (by decide) rC_l (fun hc56 => ?_) (fun hc56 => ?_)
                        · try exact absurd hc56 (by decide)
                          all_goals
                            refine fx_iconst (v := nI 0) dX3_net_63 (by decide) ?_
                            refine fx_callVn dX3_net_64 vX2_setNet lX3_58 (by decide) rfl (Nat.le_of_ble_eq_true rfl) eS rfl ?_
                            refine fx_iload_n dX3_net_67 rfl rfl ?_
                            refine fx_if_eq (tgt := 75) dX3_net_68 (by decide) rC_l (fun hc68 => ?_) (fun hc68 => ?_)
                            · try exact absurd hc68 (by decide)
                              all_goals
                                refine fx_iconst (v := nI 0) dX3_net_75 (by decide) ?_
                                exact fx_ireq dX3_net_76 rfl rfl rfl rfl
                            · try exact absurd hc68 (by decide)
                              all_goals
                                refine fx_iconst (v := nI 1) dX3_net_71 (by decide) ?_
                                refine fx_goto (tgt := 76) dX3_net_72 (by decide) ?_
                                exact fx_ireq dX3_net_76 rfl rfl rfl rfl
                        · try exact absurd hc56 (by decide)
                          all_goals
                            refine fx_iconst (v := nI 1) dX3_net_59 (by decide) ?_
                            refine fx_goto (tgt := 64) dX3_net_60 (by decide) ?_
                            refine fx_callVn dX3_net_64 vX2_setNet lX3_58 (by decide) rfl (Nat.le_of_ble_eq_true rfl) eS rfl ?_
                            refine fx_iload_n dX3_net_67 rfl rfl ?_
                            refine fx_if_eq (tgt := 75) dX3_net_68 (by decide) rC_l (fun hc68 => ?_) (fun hc68 => ?_)
                            · try exact absurd hc68 (by decide)
                              all_goals
                                refine fx_iconst (v := nI 0) dX3_net_75 (by decide) ?_
                                exact fx_ireq dX3_net_76 rfl rfl rfl rfl
                            · try exact absurd hc68 (by decide)
                              all_goals
                                refine fx_iconst (v := nI 1) dX3_net_71 (by decide) ?_
                                refine fx_goto (tgt := 76) dX3_net_72 (by decide) ?_
                                exact fx_ireq dX3_net_76 rfl rfl rfl rfl
                    · try exact absurd hc40 (by decide)
                      all_goals
                        refine fx_iconst (v := nI 1) dX3_net_43 (by decide) ?_
                        refine fx_goto (tgt := 48) dX3_net_44 (by decide) ?_
                        refine fs_istore_n_3 dX3_net_48 rfl (by decide) ?_
                        refine fx_aload_n dX3_net_49 rfl rfl ?_
                        refine fx_get dX3_net_50 kX3_10 rfl rfl ?_
                        refine fx_iload_n dX3_net_53 rfl rfl ?_
                        refine fx_iload_n dX3_net_54 rfl rfl ?_
                        refine fx_iconst (v := nI 1) dX3_net_55 (by decide) ?_
                        refine fx_icmp_ne (tgt := 63) dX3_net_56 (by decide) rC_l (fun hc56 => ?_) (fun hc56 => ?_)
                        · try exact absurd hc56 (by decide)
                          all_goals
                            refine fx_iconst (v := nI 0) dX3_net_63 (by decide) ?_
                            refine fx_callVn dX3_net_64 vX2_setNet lX3_58 (by decide) rfl (Nat.le_of_ble_eq_true rfl) eS rfl ?_
                            refine fx_iload_n dX3_net_67 rfl rfl ?_
                            refine fx_if_eq (tgt := 75) dX3_net_68 (by decide) rC_l (fun hc68 => ?_) (fun hc68 => ?_)
                            · try exact absurd hc68 (by decide)
                              all_goals
                                refine fx_iconst (v := nI 0) dX3_net_75 (by decide) ?_
                                exact fx_ireq dX3_net_76 rfl rfl rfl rfl
                            · try exact absurd hc68 (by decide)
                              all_goals
                                refine fx_iconst (v := nI 1) dX3_net_71 (by decide) ?_
                                refine fx_goto (tgt := 76) dX3_net_72 (by decide) ?_
                                exact fx_ireq dX3_net_76 rfl rfl rfl rfl
                        · try exact absurd hc56 (by decide)
                          all_goals
                            refine fx_iconst (v := nI 1) dX3_net_59 (by decide) ?_
                            refine fx_goto (tgt := 64) dX3_net_60 (by decide) ?_
                            refine fx_callVn dX3_net_64 vX2_setNet lX3_58 (by decide) rfl (Nat.le_of_ble_eq_true rfl) eS rfl ?_
                            refine fx_iload_n dX3_net_67 rfl rfl ?_
                            refine fx_if_eq (tgt := 75) dX3_net_68 (by decide) rC_l (fun hc68 => ?_) (fun hc68 => ?_)
                            · try exact absurd hc68 (by decide)
                              all_goals
                                refine fx_iconst (v := nI 0) dX3_net_75 (by decide) ?_
                                exact fx_ireq dX3_net_76 rfl rfl rfl rfl
                            · try exact absurd hc68 (by decide)
                              all_goals
                                refine fx_iconst (v := nI 1) dX3_net_71 (by decide) ?_
                                refine fx_goto (tgt := 76) dX3_net_72 (by decide) ?_
                                exact fx_ireq dX3_net_76 rfl rfl rfl rfl
                · try exact absurd hc32 (by decide)
                  all_goals
                    refine fx_iconst (v := nI 1) dX3_net_35 (by decide) ?_
                    refine fx_goto (tgt := 40) dX3_net_36 (by decide) ?_
                    refine fx_icmp_eq (tgt := 47) dX3_net_40 (by decide) rC_l (fun hc40 => ?_) (fun hc40 => ?_)
                    · try exact absurd hc40 (by decide)
                      all_goals
                        refine fx_iconst (v := nI 0) dX3_net_47 (by decide) ?_
                        refine fs_istore_n_3 dX3_net_48 rfl (by decide) ?_
                        refine fx_aload_n dX3_net_49 rfl rfl ?_
                        refine fx_get dX3_net_50 kX3_10 rfl rfl ?_
                        refine fx_iload_n dX3_net_53 rfl rfl ?_
                        refine fx_iload_n dX3_net_54 rfl rfl ?_
                        refine fx_iconst (v := nI 1) dX3_net_55 (by decide) ?_
                        refine fx_icmp_ne (tgt := 63) dX3_net_56 (by decide) rC_l (fun hc56 => ?_) (fun hc56 => ?_)
                        · try exact absurd hc56 (by decide)
                          all_goals
                            refine fx_iconst (v := nI 0) dX3_net_63 (by decide) ?_
                            refine fx_callVn dX3_net_64 vX2_setNet lX3_58 (by decide) rfl (Nat.le_of_ble_eq_true rfl) eS rfl ?_
                            refine fx_iload_n dX3_net_67 rfl rfl ?_
                            refine fx_if_eq (tgt := 75) dX3_net_68 (by decide) rC_l (fun hc68 => ?_) (fun hc68 => ?_)
                            · try exact absurd hc68 (by decide)
                              all_goals
                                refine fx_iconst (v := nI 0) dX3_net_75 (by decide) ?_
                                exact fx_ireq dX3_net_76 rfl rfl rfl rfl
                            · try exact absurd hc68 (by decide)
                              all_goals
                                refine fx_iconst (v := nI 1) dX3_net_71 (by decide) ?_
                                refine fx_goto (tgt := 76) dX3_net_72 (by decide) ?_
                                exact fx_ireq dX3_net_76 rfl rfl rfl rfl
                        · try exact absurd hc56 (by decide)
                          all_goals
                            refine fx_iconst (v := nI 1) dX3_net_59 (by decide) ?_
                            refine fx_goto (tgt := 64) dX3_net_60 (by decide) ?_
                            refine fx_callVn dX3_net_64 vX2_setNet lX3_58 (by decide) rfl (Nat.le_of_ble_eq_true rfl) eS rfl ?_
                            refine fx_iload_n dX3_net_67 rfl rfl ?_
                            refine fx_if_eq (tgt := 75) dX3_net_68 (by decide) rC_l (fun hc68 => ?_) (fun hc68 => ?_)
                            · try exact absurd hc68 (by decide)
                              all_goals
                                refine fx_iconst (v := nI 0) dX3_net_75 (by decide) ?_
                                exact fx_ireq dX3_net_76 rfl rfl rfl rfl
                            · try exact absurd hc68 (by decide)
                              all_goals
                                refine fx_iconst (v := nI 1) dX3_net_71 (by decide) ?_
                                refine fx_goto (tgt := 76) dX3_net_72 (by decide) ?_
                                exact fx_ireq dX3_net_76 rfl rfl rfl rfl
                    · try exact absurd hc40 (by decide)
                      all_goals
                        refine fx_iconst (v := nI 1) dX3_net_43 (by decide) ?_
                        refine fx_goto (tgt := 48) dX3_net_44 (by decide) ?_
                        refine fs_istore_n_3 dX3_net_48 rfl (by decide) ?_
                        refine fx_aload_n dX3_net_49 rfl rfl ?_
                        refine fx_get dX3_net_50 kX3_10 rfl rfl ?_
                        refine fx_iload_n dX3_net_53 rfl rfl ?_
                        refine fx_iload_n dX3_net_54 rfl rfl ?_
                        refine fx_iconst (v := nI 1) dX3_net_55 (by decide) ?_
                        refine fx_icmp_ne (tgt := 63) dX3_net_56 (by decide) rC_l (fun hc56 => ?_) (fun hc56 => ?_)
                        · try exact absurd hc56 (by decide)
                          all_goals
                            refine fx_iconst (v := nI 0) dX3_net_63 (by decide) ?_
                            refine fx_callVn dX3_net_64 vX2_setNet lX3_58 (by decide) rfl (Nat.le_of_ble_eq_true rfl) eS rfl ?_
                            refine fx_iload_n dX3_net_67 rfl rfl ?_
                            refine fx_if_eq (tgt := 75) dX3_net_68 (by decide) rC_l (fun hc68 => ?_) (fun hc68 => ?_)
                            · try exact absurd hc68 (by decide)
                              all_goals
                                refine fx_iconst (v := nI 0) dX3_net_75 (by decide) ?_
                                exact fx_ireq dX3_net_76 rfl rfl rfl rfl
                            · try exact absurd hc68 (by decide)
                              all_goals
                                refine fx_iconst (v := nI 1) dX3_net_71 (by decide) ?_
                                refine fx_goto (tgt := 76) dX3_net_72 (by decide) ?_
                                exact fx_ireq dX3_net_76 rfl rfl rfl rfl
                        · try exact absurd hc56 (by decide)
                          all_goals
                            refine fx_iconst (v := nI 1) dX3_net_59 (by decide) ?_
                            refine fx_goto (tgt := 64) dX3_net_60 (by decide) ?_
                            refine fx_callVn dX3_net_64 vX2_setNet lX3_58 (by decide) rfl (Nat.le_of_ble_eq_true rfl) eS rfl ?_
                            refine fx_iload_n dX3_net_67 rfl rfl ?_
                            refine fx_if_eq (tgt := 75) dX3_net_68 (by decide) rC_l (fun hc68 => ?_) (fun hc68 => ?_)
                            · try exact absurd hc68 (by decide)
                              all_goals
                                refine fx_iconst (v := nI 0) dX3_net_75 (by decide) ?_
                                exact fx_ireq dX3_net_76 rfl rfl rfl rfl
                            · try exact absurd hc68 (by decide)
                              all_goals
                                refine fx_iconst (v := nI 1) dX3_net_71 (by decide) ?_
                                refine fx_goto (tgt := 76) dX3_net_72 (by decide) ?_
                                exact fx_ireq dX3_net_76 rfl rfl rfl rfl
            · exact absurd (by decide) hc13
theorem eX3_thick_n {a b : Int32} (h : jwi a (nI 0) (nI 63) = false ∨ jwi b (nI 0) (nI 9) = false) : Mx mX3_thick [.ref 0, .int a, .int b] (rC F N G) (some (.int (jfd 0))) (rC F N (ga G 36 (jf1 (G 36) 0))) := by
  refine mx_of (L := [some (.ref 0), some (.int a), some (.int b), none]) (by decide) (fun _ => rfl) (fun _ => Nat.le_of_ble_eq_true rfl) ?_
  refine fx_iload_n dX3_thick_0 rfl rfl ?_
  refine fx_callSv dX3_thick_1 sX3_isCell lX3_47 (by decide) (Nat.le_of_ble_eq_true rfl) eX3_isCell rfl ?_
  refine fx_if_eq (tgt := 17) dX3_thick_4 (by decide) rC_l (fun hc4 => ?_) (fun hc4 => ?_)
  · refine fx_aload_n dX3_thick_17 rfl rfl ?_
    refine fx_iconst (v := nI 0) dX3_thick_18 (by decide) ?_
    refine fx_callVv dX3_thick_19 vX3_finding lX3_51 (by decide) rfl (Nat.le_of_ble_eq_true rfl) (eX3_finding (k := 0) (by decide)) rfl ?_
    exact fx_ireq dX3_thick_22 rfl rfl rfl rfl
  · refine fx_iload_n dX3_thick_7 rfl rfl ?_
    refine fx_if_lt (tgt := 17) dX3_thick_8 (by decide) rC_l (fun hc8 => ?_) (fun hc8 => ?_)
    · refine fx_aload_n dX3_thick_17 rfl rfl ?_
      refine fx_iconst (v := nI 0) dX3_thick_18 (by decide) ?_
      refine fx_callVv dX3_thick_19 vX3_finding lX3_51 (by decide) rfl (Nat.le_of_ble_eq_true rfl) (eX3_finding (k := 0) (by decide)) rfl ?_
      exact fx_ireq dX3_thick_22 rfl rfl rfl rfl
    · refine fx_iload_n dX3_thick_11 rfl rfl ?_
      refine fx_bipush (v := nI 9) dX3_thick_12 (by decide) ?_
      refine fx_icmp_le (tgt := 23) dX3_thick_14 (by decide) rC_l (fun hc14 => ?_) (fun hc14 => ?_)
      · exact h.elim (fun q => jtf q (nI_ne0' hc4)) (fun q => jtf q (jwi_in (by rw [nI_0]; exact hc8) (Int32.not_lt.mpr hc14)))
      · refine fx_aload_n dX3_thick_17 rfl rfl ?_
        refine fx_iconst (v := nI 0) dX3_thick_18 (by decide) ?_
        refine fx_callVv dX3_thick_19 vX3_finding lX3_51 (by decide) rfl (Nat.le_of_ble_eq_true rfl) (eX3_finding (k := 0) (by decide)) rfl ?_
        exact fx_ireq dX3_thick_22 rfl rfl rfl rfl
theorem P_thick (R : jR F4 G4 F N G) (a b : Int32) : jP mX4_thick mX3_thick [.int a, .int b] F4 G4 F N G := by
  by_cases h : jwi a (nI 0) (nI 63) = false ∨ jwi b (nI 0) (nI 9) = false
  · exact ⟨_, _, _, _, _, _, eX4_thick_n h, eX3_thick_n h, jR_f R (by decide)⟩
  · obtain ⟨c, hc, rfl⟩ := jwi_of (k := 63) (by decide) (jbt_t (fun q => h (Or.inl q)))
    obtain ⟨i, hi, rfl⟩ := jwi_of (k := 9) (by decide) (jbt_t (fun q => h (Or.inr q)))
    have R0 := R
    obtain ⟨⟨n, t, hW, hS, hH, ht, hI⟩, -⟩ := R
    refine ⟨_, _, _, _, _, _, eX4_thick_y (by omega) hi, ?_, jR_w R0 (jW_th hW (by omega) hi) (jSp_u hS (by omega)) (jHr_u hH (by omega)) ht (by rw [pk_un (by omega)]) (fun _ _ => rfl)⟩
    refine mx_of (L := [some (.ref 0), some (.int (nI c)), some (.int (nI i)), none]) (by decide) (fun _ => rfl) (fun _ => Nat.le_of_ble_eq_true rfl) ?_
    refine fx_iload_n dX3_thick_0 rfl rfl ?_
    refine fx_callSv dX3_thick_1 sX3_isCell lX3_47 (by decide) (Nat.le_of_ble_eq_true rfl) eX3_isCell rfl ?_
    rw [jwi_n (by omega) (by decide)]
    refine fx_if_eq (tgt := 17) dX3_thick_4 (by decide) rC_l (fun hc4 => ?_) (fun hc4 => ?_)
    · exact absurd hc4 (by decide)
    · refine fx_iload_n dX3_thick_7 rfl rfl ?_
      refine fx_if_lt (tgt := 17) dX3_thick_8 (by decide) rC_l (fun hc8 => ?_) (fun hc8 => ?_)
      · exact absurd hc8 (nI_pos (by omega))
      · refine fx_iload_n dX3_thick_11 rfl rfl ?_
        refine fx_bipush (v := nI 9) dX3_thick_12 (by decide) ?_
        refine fx_icmp_le (tgt := 23) dX3_thick_14 (by decide) rC_l (fun hc14 => ?_) (fun hc14 => ?_)
        · refine fx_aload_n dX3_thick_23 rfl rfl ?_
          refine fx_get dX3_thick_24 kX3_10 rfl rfl ?_
          refine fx_get dX3_thick_27 kX3_62 rfl rfl ?_
          refine fx_iload_n dX3_thick_30 rfl rfl ?_
          refine fx_iald dX3_thick_31 rfl (vp_in_nI (by omega) (by decide)) ?_
          rw [nI_clamp (by omega), jA1 hI, jth_e (by omega)]
          refine fs_istore_n_3 dX3_thick_32 rfl (by decide) ?_
          refine fx_aload_n dX3_thick_33 rfl rfl ?_
          refine fx_get dX3_thick_34 kX3_10 rfl rfl ?_
          refine fx_get dX3_thick_37 kX3_62 rfl rfl ?_
          refine fx_iload_n dX3_thick_40 rfl rfl ?_
          refine fx_iload_n dX3_thick_41 rfl rfl ?_
          refine fx_iast dX3_thick_42 rfl (vp_in_nI (by omega) (by decide)) wa_2 ?_
          rw [nI_clamp (by omega)]
          refine fx_iload_n dX3_thick_43 rfl rfl ?_
          exact fx_ireq dX3_thick_44 rfl rfl rfl (j_can (jI_wth hI (by omega)) (jFr_g (j := 1) jFr_r (by decide)))
        · exact absurd (nI_le hi (by decide)) hc14
theorem eX3_hunter_n {a b : Int32} (h : jwi a (nI 0) (nI 3) = false ∨ jwi b (-1) (nI 63) = false) : Mx mX3_hunter [.ref 0, .int a, .int b] (rC F N G) (some (.int (jfd 0))) (rC F N (ga G 36 (jf1 (G 36) 0))) := by
  refine mx_of (L := [some (.ref 0), some (.int a), some (.int b), none]) (by decide) (fun _ => rfl) (fun _ => Nat.le_of_ble_eq_true rfl) ?_
  refine fx_iload_n dX3_hunter_0 rfl rfl ?_
  refine fx_callSv dX3_hunter_1 sX3_isHunter lX3_71 (by decide) (Nat.le_of_ble_eq_true rfl) eX3_isHunter rfl ?_
  refine fx_if_eq (tgt := 19) dX3_hunter_4 (by decide) rC_l (fun hc4 => ?_) (fun hc4 => ?_)
  · refine fx_aload_n dX3_hunter_19 rfl rfl ?_
    refine fx_iconst (v := nI 0) dX3_hunter_20 (by decide) ?_
    refine fx_callVv dX3_hunter_21 vX3_finding lX3_51 (by decide) rfl (Nat.le_of_ble_eq_true rfl) (eX3_finding (k := 0) (by decide)) rfl ?_
    exact fx_ireq dX3_hunter_24 rfl rfl rfl rfl
  · refine fx_iload_n dX3_hunter_7 rfl rfl ?_
    refine fx_iconst (v := (-1)) dX3_hunter_8 (by decide) ?_
    refine fx_icmp_eq (tgt := 25) dX3_hunter_9 (by decide) rC_l (fun hc9 => ?_) (fun hc9 => ?_)
    · exact h.elim (fun q => jtf q (nI_ne0' hc4)) (fun q => jtf q (by first | (rw [hc9]; decide) | exact jm1_of (nI_ne0' hc16)))
    · refine fx_iload_n dX3_hunter_12 rfl rfl ?_
      refine fx_callSv dX3_hunter_13 sX3_isCell lX3_47 (by decide) (Nat.le_of_ble_eq_true rfl) eX3_isCell rfl ?_
      refine fx_if_ne (tgt := 25) dX3_hunter_16 (by decide) rC_l (fun hc16 => ?_) (fun hc16 => ?_)
      · exact h.elim (fun q => jtf q (nI_ne0' hc4)) (fun q => jtf q (by first | (rw [hc9]; decide) | exact jm1_of (nI_ne0' hc16)))
      · refine fx_aload_n dX3_hunter_19 rfl rfl ?_
        refine fx_iconst (v := nI 0) dX3_hunter_20 (by decide) ?_
        refine fx_callVv dX3_hunter_21 vX3_finding lX3_51 (by decide) rfl (Nat.le_of_ble_eq_true rfl) (eX3_finding (k := 0) (by decide)) rfl ?_
        exact fx_ireq dX3_hunter_24 rfl rfl rfl rfl
theorem P_hunter (R : jR F4 G4 F N G) (a b : Int32) : jP mX4_hunter mX3_hunter [.int a, .int b] F4 G4 F N G := by
  by_cases h : jwi a (nI 0) (nI 3) = false ∨ jwi b (-1) (nI 63) = false
  · exact ⟨_, _, _, _, _, _, eX4_hunter_n h, eX3_hunter_n h, jR_f R (by decide)⟩
  · obtain ⟨c, hc, rfl⟩ := jwi_of (k := 3) (by decide) (jbt_t (fun q => h (Or.inl q)))
    have hb := jbt_t (fun q => h (Or.inr q))
    have R0 := R
    obtain ⟨⟨n, t, hW, hS, hH, ht, hI⟩, -⟩ := R
    refine ⟨_, _, _, _, _, _, eX4_hunter_y (by omega) hb, ?_, jR_w R0 (jW_hunter hW (by omega) (jm1_or hb)) (jSp_u hS (by omega)) (jHr_u hH (by omega)) ht (by rw [pk_un (by omega)]) (fun _ _ => rfl)⟩
    refine mx_of (L := [some (.ref 0), some (.int (nI c)), some (.int b), none]) (by decide) (fun _ => rfl) (fun _ => Nat.le_of_ble_eq_true rfl) ?_
    rcases jm1_or hb with rfl | ⟨d, hd, rfl⟩
    · refine fx_iload_n dX3_hunter_0 rfl rfl ?_
      refine fx_callSv dX3_hunter_1 sX3_isHunter lX3_71 (by decide) (Nat.le_of_ble_eq_true rfl) eX3_isHunter rfl ?_
      rw [jwi_n (by omega) (by decide)]
      refine fx_if_eq (tgt := 19) dX3_hunter_4 (by decide) rC_l (fun hc4 => ?_) (fun hc4 => ?_)
      · exact absurd hc4 (by decide)
      · refine fx_iload_n dX3_hunter_7 rfl rfl ?_
        refine fx_iconst (v := (-1)) dX3_hunter_8 (by decide) ?_
        refine fx_icmp_eq (tgt := 25) dX3_hunter_9 (by decide) rC_l (fun hc9 => ?_) (fun hc9 => ?_)
        · refine fx_aload_n dX3_hunter_25 rfl rfl ?_
          refine fx_get dX3_hunter_26 kX3_10 rfl rfl ?_
          refine fx_get dX3_hunter_29 kX3_74 rfl rfl ?_
          refine fx_iload_n dX3_hunter_32 rfl rfl ?_
          refine fx_iald dX3_hunter_33 rfl (vp_in_nI (by omega) (by decide)) ?_
          rw [nI_clamp (by omega), jA2 hI, jhu_e (by omega)]
          refine fs_istore_n_3 dX3_hunter_34 rfl (by decide) ?_
          refine fx_aload_n dX3_hunter_35 rfl rfl ?_
          refine fx_get dX3_hunter_36 kX3_10 rfl rfl ?_
          refine fx_get dX3_hunter_39 kX3_74 rfl rfl ?_
          refine fx_iload_n dX3_hunter_42 rfl rfl ?_
          refine fx_iload_n dX3_hunter_43 rfl rfl ?_
          refine fx_iast dX3_hunter_44 rfl (vp_in_nI (by omega) (by decide)) wa_3 ?_
          rw [nI_clamp (by omega)]
          refine fx_iload_n dX3_hunter_45 rfl rfl ?_
          exact fx_ireq dX3_hunter_46 rfl rfl rfl (j_can (jI_whu hI (by omega)) (jFr_g (j := 2) jFr_r (by decide)))
        · exact absurd rfl hc9
    · refine fx_iload_n dX3_hunter_0 rfl rfl ?_
      refine fx_callSv dX3_hunter_1 sX3_isHunter lX3_71 (by decide) (Nat.le_of_ble_eq_true rfl) eX3_isHunter rfl ?_
      rw [jwi_n (by omega) (by decide)]
      refine fx_if_eq (tgt := 19) dX3_hunter_4 (by decide) rC_l (fun hc4 => ?_) (fun hc4 => ?_)
      · exact absurd hc4 (by decide)
      · refine fx_iload_n dX3_hunter_7 rfl rfl ?_
        refine fx_iconst (v := (-1)) dX3_hunter_8 (by decide) ?_
        refine fx_icmp_eq (tgt := 25) dX3_hunter_9 (by decide) rC_l (fun hc9 => ?_) (fun hc9 => ?_)
        · exact absurd hc9 (nI_m1 (by omega))
        · refine fx_iload_n dX3_hunter_12 rfl rfl ?_
          refine fx_callSv dX3_hunter_13 sX3_isCell lX3_47 (by decide) (Nat.le_of_ble_eq_true rfl) eX3_isCell rfl ?_
          rw [jwi_n (by omega) (by decide)]
          refine fx_if_ne (tgt := 25) dX3_hunter_16 (by decide) rC_l (fun hc16 => ?_) (fun hc16 => ?_)
          · refine fx_aload_n dX3_hunter_25 rfl rfl ?_
            refine fx_get dX3_hunter_26 kX3_10 rfl rfl ?_
            refine fx_get dX3_hunter_29 kX3_74 rfl rfl ?_
            refine fx_iload_n dX3_hunter_32 rfl rfl ?_
            refine fx_iald dX3_hunter_33 rfl (vp_in_nI (by omega) (by decide)) ?_
            rw [nI_clamp (by omega), jA2 hI, jhu_e (by omega)]
            refine fs_istore_n_3 dX3_hunter_34 rfl (by decide) ?_
            refine fx_aload_n dX3_hunter_35 rfl rfl ?_
            refine fx_get dX3_hunter_36 kX3_10 rfl rfl ?_
            refine fx_get dX3_hunter_39 kX3_74 rfl rfl ?_
            refine fx_iload_n dX3_hunter_42 rfl rfl ?_
            refine fx_iload_n dX3_hunter_43 rfl rfl ?_
            refine fx_iast dX3_hunter_44 rfl (vp_in_nI (by omega) (by decide)) wa_3 ?_
            rw [nI_clamp (by omega)]
            refine fx_iload_n dX3_hunter_45 rfl rfl ?_
            exact fx_ireq dX3_hunter_46 rfl rfl rfl (j_can (jI_whu hI (by omega)) (jFr_g (j := 2) jFr_r (by decide)))
          · exact absurd hc16 (by decide)
theorem eX3_fear_n {a : Int32} (h : jwi a (nI 0) (nI 9) = false) : Mx mX3_fear [.ref 0, .int a] (rC F N G) (some (.int (jfd 0))) (rC F N (ga G 36 (jf1 (G 36) 0))) := by
  refine mx_of (L := [some (.ref 0), some (.int a), none]) (by decide) (fun _ => rfl) (fun _ => Nat.le_of_ble_eq_true rfl) ?_
  refine fx_iload_n dX3_fear_0 rfl rfl ?_
  refine fx_if_lt (tgt := 10) dX3_fear_1 (by decide) rC_l (fun hc1 => ?_) (fun hc1 => ?_)
  · refine fx_aload_n dX3_fear_10 rfl rfl ?_
    refine fx_iconst (v := nI 0) dX3_fear_11 (by decide) ?_
    refine fx_callVv dX3_fear_12 vX3_finding lX3_51 (by decide) rfl (Nat.le_of_ble_eq_true rfl) (eX3_finding (k := 0) (by decide)) rfl ?_
    exact fx_ireq dX3_fear_15 rfl rfl rfl rfl
  · refine fx_iload_n dX3_fear_4 rfl rfl ?_
    refine fx_bipush (v := nI 9) dX3_fear_5 (by decide) ?_
    refine fx_icmp_le (tgt := 16) dX3_fear_7 (by decide) rC_l (fun hc7 => ?_) (fun hc7 => ?_)
    · exact jtf h (jwi_in (by rw [nI_0]; exact hc1) (Int32.not_lt.mpr hc7))
    · refine fx_aload_n dX3_fear_10 rfl rfl ?_
      refine fx_iconst (v := nI 0) dX3_fear_11 (by decide) ?_
      refine fx_callVv dX3_fear_12 vX3_finding lX3_51 (by decide) rfl (Nat.le_of_ble_eq_true rfl) (eX3_finding (k := 0) (by decide)) rfl ?_
      exact fx_ireq dX3_fear_15 rfl rfl rfl rfl
theorem P_fear (R : jR F4 G4 F N G) (a : Int32) : jP mX4_fear mX3_fear [.int a] F4 G4 F N G := by
  by_cases h : jwi a (nI 0) (nI 9) = false
  · exact ⟨_, _, _, _, _, _, eX4_fear_n h, eX3_fear_n h, jR_f R (by decide)⟩
  · obtain ⟨i, hi, rfl⟩ := jwi_of (k := 9) (by decide) (jbt_t h)
    have R0 := R
    obtain ⟨⟨n, t, hW, hS, hH, ht, hI⟩, -⟩ := R
    have hw := zw1
    refine ⟨_, _, _, _, _, _, eX4_fear_y hi, ?_, jR_w R0 (jW_fear hW hi) (jSp_u hS (by omega)) (jHr_u hH (by omega)) ht (by rw [pk_un (by omega)]) (fun _ _ => rfl)⟩
    refine mx_of (L := [some (.ref 0), some (.int (nI i)), none]) (by decide) (fun _ => rfl) (fun _ => Nat.le_of_ble_eq_true rfl) ?_
    refine fx_iload_n dX3_fear_0 rfl rfl ?_
    refine fx_if_lt (tgt := 10) dX3_fear_1 (by decide) rC_l (fun hc1 => ?_) (fun hc1 => ?_)
    · exact absurd hc1 (nI_pos (by omega))
    · refine fx_iload_n dX3_fear_4 rfl rfl ?_
      refine fx_bipush (v := nI 9) dX3_fear_5 (by decide) ?_
      refine fx_icmp_le (tgt := 16) dX3_fear_7 (by decide) rC_l (fun hc7 => ?_) (fun hc7 => ?_)
      · refine fx_aload_n dX3_fear_16 rfl rfl ?_
        refine fx_get dX3_fear_17 kX3_10 rfl rfl ?_
        refine fx_get dX3_fear_20 kX3_77 rfl rfl ?_
        rw [jI_4 hI]
        refine fs_istore_n_2 dX3_fear_23 rfl (by decide) ?_
        refine fx_aload_n dX3_fear_24 rfl rfl ?_
        refine fx_get dX3_fear_25 kX3_10 rfl rfl ?_
        refine fx_iload_n dX3_fear_28 rfl rfl ?_
        refine fx_put dX3_fear_29 kX3_77 rfl (Nat.le_of_ble_eq_true rfl) (fun _ => rfl) rfl rfl (u2_4 hw) ?_
        refine fx_iload_n dX3_fear_32 rfl rfl ?_
        exact fx_ireq dX3_fear_33 rfl rfl rfl (j_can (jI_wf hI) (jFr_f (j := 4) jFr_r (by decide)))
      · exact absurd (nI_le hi (by decide)) hc7
end
