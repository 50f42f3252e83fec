/-! ===== the reference: public methods, fourth part ===== -/
set_option maxRecDepth 100000
theorem jnt_f {b : Bool} (h : ¬ b = true) : b = false := by
  cases b
  · rfl
  · exact absurd rfl h
theorem jonw_len (F : Nat → Int32) (G : Nat → Nat → Int32) (x : Int32) : (jonw F G x).length = 15 := by
  unfold jonw
  by_cases h : x = (-1 : Int32)
  · rw [if_pos h]; rfl
  · rw [if_neg h]; rfl
theorem jkf_or (V : Nat → Int32) (n b : Nat) : ∀ k, (jkf V n b k).1 = (-1) ∨ ∃ d, d < k ∧ (jkf V n b k).1 = nI d := by
  intro k
  induction k with
  | zero => exact Or.inl rfl
  | succ k ih =>
    have ih2 : (jkf V n b k).1 = (-1) ∨ ∃ d, d < k + 1 ∧ (jkf V n b k).1 = nI d := ih.elim Or.inl (fun ⟨d, hd, e⟩ => Or.inr ⟨d, by omega, e⟩)
    unfold jkf
    show (if _ then _ else _) = _ ∨ _
    by_cases h2 : (jkf V n b k).2 < nI (min 60 (jcv (upd V (146 + 5 * b + 0) (nI k)) n b 60))
    · exact Or.inr ⟨k, by omega, if_pos h2⟩
    · rw [if_neg h2]; exact ih2
section
variable {F : Nat → Int32} {G : Nat → Nat → Int32} {n : Nat}
theorem eX4_drive_n {a b : Int32} (hV : jW (G 1) n) (h : jwi a (nI 0) (nI 3) = false ∨ jwi b (nI 0) (nI n - nI 1) = false) : Mx mX4_drive [.ref 0, .int a, .int b] (rM F G) (some (.int (jfd 0))) (rMn F G 0) := by
  refine mx_of (L := [some (.ref 0), some (.int a), some (.int b), none, none, none, none, none]) (by decide) (fun _ => rfl) (fun _ => Nat.le_of_ble_eq_true rfl) ?_
  refine fx_iload_n dX4_drive_0 rfl rfl ?_
  refine fx_callSv dX4_drive_1 sX4_isHunter lX4_95 (by decide) (Nat.le_of_ble_eq_true rfl) eX4_isHunter rfl ?_
  refine fx_if_eq (tgt := 15) dX4_drive_4 (by decide) rfl (fun hc4 => ?_) (fun hc4 => ?_)
  · refine fx_aload_n dX4_drive_15 rfl rfl ?_
    refine fx_ldc dX4_drive_16 qX4_69 ?_
    refine fx_callVv dX4_drive_18 vX4_finding lX4_88 (by decide) rfl (Nat.le_of_ble_eq_true rfl) (eX4_finding (k := 0) (by decide) (by decide)) rfl ?_
    exact fx_ireq dX4_drive_21 rfl rfl rfl rfl
  · refine fx_aload_n dX4_drive_7 rfl rfl ?_
    refine fx_iload_n dX4_drive_8 rfl rfl ?_
    refine fx_callVv dX4_drive_9 vX4_isBell lX4_141 (by decide) rfl (Nat.le_of_ble_eq_true rfl) (eX4_isBell hV) rfl ?_
    refine fx_if_ne (tgt := 22) dX4_drive_12 (by decide) rfl (fun hc12 => ?_) (fun hc12 => ?_)
    · exact h.elim (fun q => jtf q (nI_ne0' hc4)) (fun q => jtf q (nI_ne0' hc12))
    · refine fx_aload_n dX4_drive_15 rfl rfl ?_
      refine fx_ldc dX4_drive_16 qX4_69 ?_
      refine fx_callVv dX4_drive_18 vX4_finding lX4_88 (by decide) rfl (Nat.le_of_ble_eq_true rfl) (eX4_finding (k := 0) (by decide) (by decide)) rfl ?_
      exact fx_ireq dX4_drive_21 rfl rfl rfl rfl
theorem eX4_drive_y {h b : Nat} (hK : jK G) (hV : jW (G 1) n) (hh : h < 4) (hb : b < n) (h3 : ∀ k, 186 ≤ k → G 3 k = 0) : ∃ (m : Int32) (A : Nat → Int32), (∀ k, 186 ≤ k → A k = 0) ∧ Mx mX4_drive [.ref 0, .int (nI h), .int (nI b)] (rM F G) (some (.int (jonv (jdv (G 1) n h b 64).1))) (jonw (upd F 7 m) (ga G 3 A) (jdv (G 1) n h b 64).1) := by
  have hn8 := hV.2.1
  have hor := jdv_or (G 1) n h b 64
  generalize hR : (jdv (G 1) n h b 64).1 = r at hor ⊢
  have H : ∀ (k c : Nat), c + k = 64 → ∀ (m y : Int32) (A : Nat → Int32) (x7 : Option Value), (∀ k, 186 ≤ k → A k = 0) → ∃ (m' : Int32) (A' : Nat → Int32), (∀ k, 186 ≤ k → A' k = 0) ∧ Fx mX4_drive (some (.int (jonv r)), jonw (upd F 7 m') (ga G 3 A') r) 42 [some (.ref 0), some (.int (nI h)), some (.int (nI b)), some (.int (G 1 (14 + h))), some (.int (jdv (G 1) n h b c).1), some (.int (nI (jdv (G 1) n h b c).2)), some (.int (nI c)), x7] [] (rM (upd F 7 m) (ga (ga G 3 A) 1 (upd (G 1) (14 + h) y))) := by
    intro k
    induction k with
    | zero =>
      intro c hc m y A x7 hA
      have hc' : c = 64 := by omega
      have er : (jdv (G 1) n h b c).1 = r := by rw [hc']; exact hR
      rw [er]
      refine ⟨m, A, hA, ?_⟩
      have eZ : ga (ga G 3 A) 1 (G 1) = ga G 3 A := by rw [ga_comm _ _ _ (show (3 : Nat) ≠ 1 by decide), ga_id]
      refine fx_iload dX4_drive_42 rfl ?_
      refine fx_bipush (v := nI 64) dX4_drive_44 (by decide) ?_
      refine fx_icmp_ge (tgt := 100) dX4_drive_46 (by decide) (jonw_len _ _ _).symm (fun hc46 => ?_) (fun hc46 => ?_)
      · refine fx_aload_n dX4_drive_100 rfl rfl ?_
        refine fx_get dX4_drive_101 kX4_9 rfl rfl ?_
        refine fx_bipush (v := nI 14) dX4_drive_104 (by decide) ?_
        refine fx_iload_n dX4_drive_106 rfl rfl ?_
        refine fx_iadd dX4_drive_107 ?_
        rw [nI_add]
        refine fx_iload_n dX4_drive_108 rfl rfl ?_
        refine fx_iast dX4_drive_109 rfl (vp_in_nI (by omega) (by omega)) (w4_1 ..) ?_
        rw [nI_clamp (by omega), ga_s, ga_ga, upd_back rfl, eZ]
        refine fx_aload_n dX4_drive_110 rfl rfl ?_
        refine fx_iload dX4_drive_111 rfl ?_
        refine fx_callVv dX4_drive_113 vX4_orNone lX4_208 (by decide) rfl (Nat.le_of_ble_eq_true rfl) (eX4_orNone hor) rfl ?_
        exact fx_ireq dX4_drive_116 rfl rfl rfl rfl
      · exact absurd (nI_le (by omega) (by omega)) hc46
    | succ k ih =>
      intro c hc m y A x7 hA
      have e1 : jdv (G 1) n h b (c + 1) = (if jcv (upd (G 1) (14 + h) (nI c)) n b 20 < (jdv (G 1) n h b c).2 then nI c else (jdv (G 1) n h b c).1, min (jdv (G 1) n h b c).2 (jcv (upd (G 1) (14 + h) (nI c)) n b 20)) := rfl
      have hW : jW (upd (G 1) (14 + h) (nI c)) n := jW_hunter hV hh (Or.inr ⟨c, by omega, rfl⟩)
      have eC := eX4_caughtIn (F := upd F 7 m) (G := ga (ga G 3 A) 1 (upd (G 1) (14 + h) (nI c))) (n := n) (b := b) (t := 20) (by decide) ((hK.ga (by decide)).ga (by decide)) (by rw [ga_s]; exact hW) hb (by rw [ga_n _ _ (by decide), ga_s]; exact hA)
      rw [ga_s, upd_upd] at eC
      have eT : ga (ga (ga G 3 A) 1 (upd (G 1) (14 + h) (nI c))) 3 (upd (G 1) (14 + h) (nI c)) = ga (ga G 3 (upd (G 1) (14 + h) (nI c))) 1 (upd (G 1) (14 + h) (nI c)) := by rw [ga_comm _ _ _ (show (3 : Nat) ≠ 1 by decide), ga_comm _ _ _ (show (3 : Nat) ≠ 1 by decide), ga_ga]
      rw [eT] at eC
      obtain ⟨m', A', hA', K⟩ := ih (c + 1) (by omega) (jmv (upd F 7 m 7) (upd (G 1) (14 + h) (nI c)) n (jcnt (upd (G 1) (14 + h) (nI c)) n b 20)) (nI c) (upd (G 1) (14 + h) (nI c)) (some (.int (nI (jcv (upd (G 1) (14 + h) (nI c)) n b 20)))) hW.2.2.2.2.2.2.2
      refine ⟨m', A', hA', ?_⟩
      rw [e1] at K
      have hj := jcv_le (upd (G 1) (14 + h) (nI c)) n b 20 (by decide)
      have hj2 := jdv_le (G 1) n h b c
      refine fx_iload dX4_drive_42 rfl ?_
      refine fx_bipush (v := nI 64) dX4_drive_44 (by decide) ?_
      refine fx_icmp_ge (tgt := 100) dX4_drive_46 (by decide) (jonw_len _ _ _).symm (fun hc46 => ?_) (fun hc46 => ?_)
      · exact absurd hc46 (nI_ge (by omega) (by omega))
      · refine fx_aload_n dX4_drive_49 rfl rfl ?_
        refine fx_get dX4_drive_50 kX4_9 rfl rfl ?_
        refine fx_bipush (v := nI 14) dX4_drive_53 (by decide) ?_
        refine fx_iload_n dX4_drive_55 rfl rfl ?_
        refine fx_iadd dX4_drive_56 ?_
        rw [nI_add]
        refine fx_iload dX4_drive_57 rfl ?_
        refine fx_iast dX4_drive_59 rfl (vp_in_nI (by omega) (by omega)) (w4_1 ..) ?_
        rw [nI_clamp (by omega), ga_s, ga_ga, upd_upd]
        refine fx_aload_n dX4_drive_60 rfl rfl ?_
        refine fx_iload_n dX4_drive_61 rfl rfl ?_
        refine fx_bipush (v := nI 20) dX4_drive_62 (by decide) ?_
        refine fx_callVv dX4_drive_64 vX4_caughtIn lX4_199 (by decide) rfl (Nat.le_of_ble_eq_true rfl) eC rfl ?_
        refine fs_istore_7 dX4_drive_67 rfl (by decide) ?_
        refine fx_iload dX4_drive_69 rfl ?_
        refine fx_iload dX4_drive_71 rfl ?_
        refine fx_icmp_ge (tgt := 81) dX4_drive_73 (by decide) (jonw_len _ _ _).symm (fun hc73 => ?_) (fun hc73 => ?_)
        · refine fx_iload dX4_drive_81 rfl ?_
          refine fs_istore_4 dX4_drive_83 rfl (by decide) ?_
          refine fx_iload dX4_drive_85 rfl ?_
          refine fx_iload dX4_drive_87 rfl ?_
          refine fx_min dX4_drive_89 lX4_125 (by decide) (Nat.le_of_ble_eq_true rfl) ?_
          rw [jmin_n (by omega) (by omega)]
          refine fs_istore_5 dX4_drive_92 rfl (by decide) ?_
          refine fs_iinc_6 (w := nI 1) dX4_drive_94 (by decide) rfl (by decide) ?_
          refine fx_goto (tgt := 42) dX4_drive_97 (by decide) ?_
          rw [nI_add]
          first | (rw [if_pos ((nI_ltI (by omega) (by omega)).mp (Int32.not_le.mp hc73))] at K; exact K) | (rw [if_neg (fun q => absurd ((nI_leI (by omega) (by omega)).mp hc73) (by omega))] at K; exact K)
        · refine fx_iload dX4_drive_76 rfl ?_
          refine fx_goto (tgt := 83) dX4_drive_78 (by decide) ?_
          refine fs_istore_4 dX4_drive_83 rfl (by decide) ?_
          refine fx_iload dX4_drive_85 rfl ?_
          refine fx_iload dX4_drive_87 rfl ?_
          refine fx_min dX4_drive_89 lX4_125 (by decide) (Nat.le_of_ble_eq_true rfl) ?_
          rw [jmin_n (by omega) (by omega)]
          refine fs_istore_5 dX4_drive_92 rfl (by decide) ?_
          refine fs_iinc_6 (w := nI 1) dX4_drive_94 (by decide) rfl (by decide) ?_
          refine fx_goto (tgt := 42) dX4_drive_97 (by decide) ?_
          rw [nI_add]
          first | (rw [if_pos ((nI_ltI (by omega) (by omega)).mp (Int32.not_le.mp hc73))] at K; exact K) | (rw [if_neg (fun q => absurd ((nI_leI (by omega) (by omega)).mp hc73) (by omega))] at K; exact K)
  obtain ⟨m', A', hA', K⟩ := H 64 0 (by omega) (F 7) (G 1 (14 + h)) (G 3) none h3
  rw [upd_id, ga_id, upd_id, ga_id] at K
  refine ⟨m', A', hA', mx_of (L := [some (.ref 0), some (.int (nI h)), some (.int (nI b)), none, none, none, none, none]) (by decide) (fun _ => rfl) (fun _ => Nat.le_of_ble_eq_true rfl) ?_⟩
  refine fx_iload_n dX4_drive_0 rfl rfl ?_
  refine fx_callSv dX4_drive_1 sX4_isHunter lX4_95 (by decide) (Nat.le_of_ble_eq_true rfl) eX4_isHunter rfl ?_
  rw [jwi_n (by omega) (by decide)]
  refine fx_if_eq (tgt := 15) dX4_drive_4 (by decide) (jonw_len _ _ _).symm (fun hc4 => ?_) (fun hc4 => ?_)
  · exact absurd hc4 (by decide)
  · refine fx_aload_n dX4_drive_7 rfl rfl ?_
    refine fx_iload_n dX4_drive_8 rfl rfl ?_
    refine fx_callVv dX4_drive_9 vX4_isBell lX4_141 (by decide) rfl (Nat.le_of_ble_eq_true rfl) (eX4_isBell hV) rfl ?_
    rw [jbell_y hb hn8]
    refine fx_if_ne (tgt := 22) dX4_drive_12 (by decide) (jonw_len _ _ _).symm (fun hc12 => ?_) (fun hc12 => ?_)
    · refine fx_aload_n dX4_drive_22 rfl rfl ?_
      refine fx_get dX4_drive_23 kX4_9 rfl rfl ?_
      refine fx_bipush (v := nI 14) dX4_drive_26 (by decide) ?_
      refine fx_iload_n dX4_drive_28 rfl rfl ?_
      refine fx_iadd dX4_drive_29 ?_
      rw [nI_add]
      refine fx_iald dX4_drive_30 rfl (vp_in_nI (by omega) (by omega)) ?_
      rw [nI_clamp (by omega)]
      refine fs_istore_n_3 dX4_drive_31 rfl (by decide) ?_
      refine fx_iconst (v := (-1)) dX4_drive_32 (by decide) ?_
      refine fs_istore_4 dX4_drive_33 rfl (by decide) ?_
      refine fx_ldc dX4_drive_35 qX4_197 ?_
      refine fs_istore_5 dX4_drive_37 rfl (by decide) ?_
      refine fx_iconst (v := nI 0) dX4_drive_39 (by decide) ?_
      refine fs_istore_6 dX4_drive_40 rfl (by decide) ?_
      exact K
    · exact absurd hc12 (by decide)
theorem eX4_kindFor_n {a : Int32} (hV : jW (G 1) n) (h : jwi a (nI 0) (nI n - nI 1) = false) : Mx mX4_kindFor [.ref 0, .int a] (rM F G) (some (.int (jfd 0))) (rMn F G 0) := by
  refine mx_of (L := [some (.ref 0), some (.int a), none, none, none, none, none]) (by decide) (fun _ => rfl) (fun _ => Nat.le_of_ble_eq_true rfl) ?_
  refine fx_aload_n dX4_kindFor_0 rfl rfl ?_
  refine fx_iload_n dX4_kindFor_1 rfl rfl ?_
  refine fx_callVv dX4_kindFor_2 vX4_isBell lX4_141 (by decide) rfl (Nat.le_of_ble_eq_true rfl) (eX4_isBell hV) rfl ?_
  refine fx_if_ne (tgt := 15) dX4_kindFor_5 (by decide) rfl (fun hc5 => ?_) (fun hc5 => ?_)
  · exact jtf h (nI_ne0' hc5)
  · refine fx_aload_n dX4_kindFor_8 rfl rfl ?_
    refine fx_ldc dX4_kindFor_9 qX4_69 ?_
    refine fx_callVv dX4_kindFor_11 vX4_finding lX4_88 (by decide) rfl (Nat.le_of_ble_eq_true rfl) (eX4_finding (k := 0) (by decide) (by decide)) rfl ?_
    exact fx_ireq dX4_kindFor_14 rfl rfl rfl rfl
theorem eX4_kindFor_y {b : Nat} (hK : jK G) (hV : jW (G 1) n) (hb : b < n) (h3 : ∀ k, 186 ≤ k → G 3 k = 0) : ∃ (m : Int32) (A : Nat → Int32), (∀ k, 186 ≤ k → A k = 0) ∧ Mx mX4_kindFor [.ref 0, .int (nI b)] (rM F G) (some (.int (jkf (G 1) n b 7).1)) (rM (upd F 7 m) (ga G 3 A)) := by
  have hn8 := hV.2.1
  generalize hR : (jkf (G 1) n b 7).1 = r
  have H : ∀ (k c : Nat), c + k = 7 → ∀ (m y : Int32) (A : Nat → Int32) (x6 : Option Value), (∀ k, 186 ≤ k → A k = 0) → ∃ (m' : Int32) (A' : Nat → Int32), (∀ k, 186 ≤ k → A' k = 0) ∧ Fx mX4_kindFor (some (.int r), rM (upd F 7 m') (ga G 3 A')) 30 [some (.ref 0), some (.int (nI b)), some (.int (G 1 (146 + 5 * b + 0))), some (.int (jkf (G 1) n b c).1), some (.int (jkf (G 1) n b c).2), some (.int (nI c)), x6] [] (rM (upd F 7 m) (ga (ga G 3 A) 1 (upd (G 1) (146 + 5 * b + 0) y))) := by
    intro k
    induction k with
    | zero =>
      intro c hc m y A x6 hA
      have hc' : c = 7 := by omega
      have er : (jkf (G 1) n b c).1 = r := by rw [hc']; exact hR
      rw [er]
      refine ⟨m, A, hA, ?_⟩
      have eZ : ga (ga G 3 A) 1 (G 1) = ga G 3 A := by rw [ga_comm _ _ _ (show (3 : Nat) ≠ 1 by decide), ga_id]
      refine fx_iload dX4_kindFor_30 rfl ?_
      refine fx_bipush (v := nI 6) dX4_kindFor_32 (by decide) ?_
      refine fx_icmp_gt (tgt := 92) dX4_kindFor_34 (by decide) rfl (fun hc34 => ?_) (fun hc34 => ?_)
      · refine fx_aload_n dX4_kindFor_92 rfl rfl ?_
        refine fx_get dX4_kindFor_93 kX4_9 rfl rfl ?_
        refine fx_iload_n dX4_kindFor_96 rfl rfl ?_
        refine fx_iconst (v := nI 0) dX4_kindFor_97 (by decide) ?_
        refine fx_callSv dX4_kindFor_98 sX4_at lX4_98 (by decide) (Nat.le_of_ble_eq_true rfl) eX4_at rfl ?_
        refine fx_iload_n dX4_kindFor_101 rfl rfl ?_
        refine fx_iast dX4_kindFor_102 rfl (jat_in (by omega) (by decide)) (w4_1 ..) ?_
        rw [jat_c (by omega) (by decide), ga_s, ga_ga, upd_back rfl, eZ]
        refine fx_iload_n dX4_kindFor_103 rfl rfl ?_
        exact fx_ireq dX4_kindFor_104 rfl rfl rfl rfl
      · exact absurd (nI_lt (by omega) (by omega)) hc34
    | succ k ih =>
      intro c hc m y A x6 hA
      have e1 : jkf (G 1) n b (c + 1) = (if (jkf (G 1) n b c).2 < nI (min 60 (jcv (upd (G 1) (146 + 5 * b + 0) (nI c)) n b 60)) then nI c else (jkf (G 1) n b c).1, jmax (jkf (G 1) n b c).2 (nI (min 60 (jcv (upd (G 1) (146 + 5 * b + 0) (nI c)) n b 60)))) := rfl
      have hW : jW (upd (G 1) (146 + 5 * b + 0) (nI c)) n := jW_f hV hb (by decide) (jgood_0 (by omega))
      have eC := eX4_caughtIn (F := upd F 7 m) (G := ga (ga G 3 A) 1 (upd (G 1) (146 + 5 * b + 0) (nI c))) (n := n) (b := b) (t := 60) (by decide) ((hK.ga (by decide)).ga (by decide)) (by rw [ga_s]; exact hW) hb (by rw [ga_n _ _ (by decide), ga_s]; exact hA)
      rw [ga_s, upd_upd] at eC
      have eT : ga (ga (ga G 3 A) 1 (upd (G 1) (146 + 5 * b + 0) (nI c))) 3 (upd (G 1) (146 + 5 * b + 0) (nI c)) = ga (ga G 3 (upd (G 1) (146 + 5 * b + 0) (nI c))) 1 (upd (G 1) (146 + 5 * b + 0) (nI c)) := by rw [ga_comm _ _ _ (show (3 : Nat) ≠ 1 by decide), ga_comm _ _ _ (show (3 : Nat) ≠ 1 by decide), ga_ga]
      rw [eT] at eC
      obtain ⟨m', A', hA', K⟩ := ih (c + 1) (by omega) (jmv (upd F 7 m 7) (upd (G 1) (146 + 5 * b + 0) (nI c)) n (jcnt (upd (G 1) (146 + 5 * b + 0) (nI c)) n b 60)) (nI c) (upd (G 1) (146 + 5 * b + 0) (nI c)) (some (.int (nI (min 60 (jcv (upd (G 1) (146 + 5 * b + 0) (nI c)) n b 60))))) hW.2.2.2.2.2.2.2
      refine ⟨m', A', hA', ?_⟩
      rw [e1] at K
      have hj := jcv_le (upd (G 1) (146 + 5 * b + 0) (nI c)) n b 60 (by decide)
      refine fx_iload dX4_kindFor_30 rfl ?_
      refine fx_bipush (v := nI 6) dX4_kindFor_32 (by decide) ?_
      refine fx_icmp_gt (tgt := 92) dX4_kindFor_34 (by decide) rfl (fun hc34 => ?_) (fun hc34 => ?_)
      · exact absurd hc34 (nI_nlt (by omega) (by omega))
      · refine fx_aload_n dX4_kindFor_37 rfl rfl ?_
        refine fx_get dX4_kindFor_38 kX4_9 rfl rfl ?_
        refine fx_iload_n dX4_kindFor_41 rfl rfl ?_
        refine fx_iconst (v := nI 0) dX4_kindFor_42 (by decide) ?_
        refine fx_callSv dX4_kindFor_43 sX4_at lX4_98 (by decide) (Nat.le_of_ble_eq_true rfl) eX4_at rfl ?_
        refine fx_iload dX4_kindFor_46 rfl ?_
        refine fx_iast dX4_kindFor_48 rfl (jat_in (by omega) (by decide)) (w4_1 ..) ?_
        rw [jat_c (by omega) (by decide), ga_s, ga_ga, upd_upd]
        refine fx_bipush (v := nI 60) dX4_kindFor_49 (by decide) ?_
        refine fx_aload_n dX4_kindFor_51 rfl rfl ?_
        refine fx_iload_n dX4_kindFor_52 rfl rfl ?_
        refine fx_bipush (v := nI 60) dX4_kindFor_53 (by decide) ?_
        refine fx_callVv dX4_kindFor_55 vX4_caughtIn lX4_199 (by decide) rfl (Nat.le_of_ble_eq_true rfl) eC rfl ?_
        refine fx_min dX4_kindFor_58 lX4_125 (by decide) (Nat.le_of_ble_eq_true rfl) ?_
        rw [jmin_n (by omega) (by omega)]
        refine fs_istore_6 dX4_kindFor_61 rfl (by decide) ?_
        refine fx_iload dX4_kindFor_63 rfl ?_
        refine fx_iload dX4_kindFor_65 rfl ?_
        refine fx_icmp_le (tgt := 75) dX4_kindFor_67 (by decide) rfl (fun hc67 => ?_) (fun hc67 => ?_)
        · refine fx_iload_n dX4_kindFor_75 rfl rfl ?_
          refine fs_istore_n_3 dX4_kindFor_76 rfl (by decide) ?_
          refine fx_iload dX4_kindFor_77 rfl ?_
          refine fx_iload dX4_kindFor_79 rfl ?_
          refine fx_max dX4_kindFor_81 lX4_132 (by decide) (Nat.le_of_ble_eq_true rfl) ?_
          refine fs_istore_4 dX4_kindFor_84 rfl (by decide) ?_
          refine fs_iinc_5 (w := nI 1) dX4_kindFor_86 (by decide) rfl (by decide) ?_
          refine fx_goto (tgt := 30) dX4_kindFor_89 (by decide) ?_
          rw [nI_add]
          first | (rw [if_pos (Int32.not_le.mp hc67)] at K; exact K) | (rw [if_neg (Int32.not_lt.mpr hc67)] at K; exact K)
        · refine fx_iload dX4_kindFor_70 rfl ?_
          refine fx_goto (tgt := 76) dX4_kindFor_72 (by decide) ?_
          refine fs_istore_n_3 dX4_kindFor_76 rfl (by decide) ?_
          refine fx_iload dX4_kindFor_77 rfl ?_
          refine fx_iload dX4_kindFor_79 rfl ?_
          refine fx_max dX4_kindFor_81 lX4_132 (by decide) (Nat.le_of_ble_eq_true rfl) ?_
          refine fs_istore_4 dX4_kindFor_84 rfl (by decide) ?_
          refine fs_iinc_5 (w := nI 1) dX4_kindFor_86 (by decide) rfl (by decide) ?_
          refine fx_goto (tgt := 30) dX4_kindFor_89 (by decide) ?_
          rw [nI_add]
          first | (rw [if_pos (Int32.not_le.mp hc67)] at K; exact K) | (rw [if_neg (Int32.not_lt.mpr hc67)] at K; exact K)
  obtain ⟨m', A', hA', K⟩ := H 7 0 (by omega) (F 7) (G 1 (146 + 5 * b + 0)) (G 3) none h3
  rw [upd_id, ga_id, upd_id, ga_id] at K
  refine ⟨m', A', hA', mx_of (L := [some (.ref 0), some (.int (nI b)), none, none, none, none, none]) (by decide) (fun _ => rfl) (fun _ => Nat.le_of_ble_eq_true rfl) ?_⟩
  refine fx_aload_n dX4_kindFor_0 rfl rfl ?_
  refine fx_iload_n dX4_kindFor_1 rfl rfl ?_
  refine fx_callVv dX4_kindFor_2 vX4_isBell lX4_141 (by decide) rfl (Nat.le_of_ble_eq_true rfl) (eX4_isBell hV) rfl ?_
  rw [jbell_y hb hn8]
  refine fx_if_ne (tgt := 15) dX4_kindFor_5 (by decide) rfl (fun hc5 => ?_) (fun hc5 => ?_)
  · refine fx_aload_n dX4_kindFor_15 rfl rfl ?_
    refine fx_iload_n dX4_kindFor_16 rfl rfl ?_
    refine fx_iconst (v := nI 0) dX4_kindFor_17 (by decide) ?_
    refine fx_callVv dX4_kindFor_18 vX4_bellIs lX4_101 (by decide) rfl (Nat.le_of_ble_eq_true rfl) (eM_bell (by omega) (by decide)) rfl ?_
    refine fs_istore_n_2 dX4_kindFor_21 rfl (by decide) ?_
    refine fx_iconst (v := (-1)) dX4_kindFor_22 (by decide) ?_
    refine fs_istore_n_3 dX4_kindFor_23 rfl (by decide) ?_
    refine fx_iconst (v := (-1)) dX4_kindFor_24 (by decide) ?_
    refine fs_istore_4 dX4_kindFor_25 rfl (by decide) ?_
    refine fx_iconst (v := nI 0) dX4_kindFor_27 (by decide) ?_
    refine fs_istore_5 dX4_kindFor_28 rfl (by decide) ?_
    exact K
  · exact absurd hc5 (by decide)
/-- how many hours go by till nothing moves, r at most -/
def jst (V : Nat → Int32) (n : Nat) : Nat → Nat
  | 0 => 0
  | r + 1 => if jmov V n = true then jst (jhour V n) n r + 1 else 0
theorem jst_le (n : Nat) : ∀ (r : Nat) (V : Nat → Int32), jst V n r ≤ r := by
  intro r
  induction r with
  | zero => intro V; exact Nat.le_refl 0
  | succ r ih =>
    intro V
    unfold jst
    by_cases e : jmov V n = true
    · rw [if_pos e]; have := ih (jhour V n); omega
    · rw [if_neg e]; omega
/-- still(): moved in the hour behind? -/
def jsv (V : Nat → Int32) (n : Nat) : Bool := jmov (jhrs V n (jst V n 60)) n
theorem eX4_still (hK : jK G) (hV : jW (G 1) n) (h3 : ∀ k, 186 ≤ k → G 3 k = 0) : Mx mX4_still [.ref 0] (rM F G) (some (.int (if jsv (G 1) n = true then jfd 3 else nI (jst (G 1) n 60)))) (if jsv (G 1) n = true then rM (upd F 7 (jB (jsv (G 1) n))) (ga (ga G 3 (G 1)) 4 (jfc (G 4) 3)) else rM (upd F 7 (jB (jsv (G 1) n))) (ga G 3 (G 1))) := by
  have h1 := hV.2.2.2.2.2.2.2
  generalize hc : jst (G 1) n 60 = c
  have hc60 : c ≤ 60 := by rw [← hc]; exact jst_le n 60 _
  have hsv : jsv (G 1) n = jmov (jhrs (G 1) n c) n := by unfold jsv; rw [hc]
  rw [hsv]
  generalize hout : (some (Value.int (if jmov (jhrs (G 1) n c) n = true then jfd 3 else nI c)), (if jmov (jhrs (G 1) n c) n = true then rM (upd F 7 (jB (jmov (jhrs (G 1) n c) n))) (ga (ga G 3 (G 1)) 4 (jfc (G 4) 3)) else rM (upd F 7 (jB (jmov (jhrs (G 1) n c) n))) (ga G 3 (G 1)))) = out
  have hl : ∀ F2 G2, (rM F2 G2).length = out.2.length := fun F2 G2 => by
    rw [← hout]
    by_cases h : jmov (jhrs (G 1) n c) n = true
    · show _ = (if _ then _ else _ : zH).length
      rw [if_pos h]; rfl
    · show _ = (if _ then _ else _ : zH).length
      rw [if_neg h]; rfl
  have eG : ∀ W : Nat → Int32, ga (ga (ga G 3 (G 1)) 1 W) 1 ((ga (ga G 3 (G 1)) 1 W) 3) = ga G 3 (G 1) := by
    intro W
    rw [ga_n _ _ (show (3 : Nat) ≠ 1 by decide), ga_s, ga_ga, ga_comm _ _ _ (show (3 : Nat) ≠ 1 by decide), ga_id]
  have J40 : Fx mX4_still out 40 [some (.ref 0), some (.int (nI c))] [] (rM (upd F 7 (jB (jmov (jhrs (G 1) n c) n))) (ga (ga G 3 (G 1)) 1 (jhrs (G 1) n (c + 1)))) := by
    rw [← hout]
    have eP : ∀ v : Int32, Mx mX4_putBack [.ref 0, .int v] (rM (upd F 7 (jB (jmov (jhrs (G 1) n c) n))) (ga (ga G 3 (G 1)) 1 (jhrs (G 1) n (c + 1)))) (some (.int v)) (rM (upd F 7 (jB (jmov (jhrs (G 1) n c) n))) (ga G 3 (G 1))) := by
      intro v
      have := eX4_putBack (F := upd F 7 (jB (jmov (jhrs (G 1) n c) n))) (G := ga (ga G 3 (G 1)) 1 (jhrs (G 1) n (c + 1))) (v := v) (by rw [ga_s]; exact (jW_hrs hV (c + 1)).2.2.2.2.2.2.2) (by rw [ga_n _ _ (by decide), ga_s]; exact h1)
      rw [eG] at this
      exact this
    by_cases hm : jmov (jhrs (G 1) n c) n = true
    · rw [hm] at eP ⊢
      rw [if_pos rfl, if_pos rfl]
      have eT := eX4_told_n (F := upd F 7 (jB true)) (G := ga G 3 (G 1))
      rw [ga_n _ _ (show (4 : Nat) ≠ 3 by decide)] at eT
      refine fx_aload_n dX4_still_40 rfl rfl ?_
      refine fx_aload_n dX4_still_41 rfl rfl ?_
      refine fx_aload_n dX4_still_42 rfl rfl ?_
      refine fx_get dX4_still_43 kX4_162 rfl rfl ?_
      rw [pk_us]
      refine fx_if_eq (tgt := 54) dX4_still_46 (by decide) rfl (fun hc46 => ?_) (fun hc46 => ?_)
      · exact absurd hc46 (by decide)
      · refine fx_ldc dX4_still_49 qX4_197 ?_
        refine fx_goto (tgt := 55) dX4_still_51 (by decide) ?_
        refine fx_as (y := nI 1000000) (by decide) ?_
        refine fx_callVv dX4_still_55 vX4_putBack lX4_191 (by decide) rfl (Nat.le_of_ble_eq_true rfl) (eP _) rfl ?_
        refine fx_callVv dX4_still_58 vX4_told lX4_202 (by decide) rfl (Nat.le_of_ble_eq_true rfl) eT rfl ?_
        exact fx_ireq dX4_still_61 rfl rfl rfl rfl
    · have hm' : jmov (jhrs (G 1) n c) n = false := jnt_f hm
      rw [hm'] at eP ⊢
      rw [if_neg (by decide), if_neg (by decide)]
      refine fx_aload_n dX4_still_40 rfl rfl ?_
      refine fx_aload_n dX4_still_41 rfl rfl ?_
      refine fx_aload_n dX4_still_42 rfl rfl ?_
      refine fx_get dX4_still_43 kX4_162 rfl rfl ?_
      refine fx_if_eq (tgt := 54) dX4_still_46 (by decide) rfl (fun hc46 => ?_) (fun hc46 => ?_)
      · refine fx_iload_n dX4_still_54 rfl rfl ?_
        refine fx_callVv dX4_still_55 vX4_putBack lX4_191 (by decide) rfl (Nat.le_of_ble_eq_true rfl) (eP _) rfl ?_
        refine fx_callVv dX4_still_58 vX4_told lX4_202 (by decide) rfl (Nat.le_of_ble_eq_true rfl) (eX4_told_y (by omega)) rfl ?_
        exact fx_ireq dX4_still_61 rfl rfl rfl rfl
      · exact absurd rfl hc46
  have H : ∀ (k h : Nat), h + k = 60 → c = h + jst (jhrs (G 1) n h) n k → Fx mX4_still out 17 [some (.ref 0), some (.int (nI h))] [] (rM (upd F 7 (jB (jmov (jhrs (G 1) n h) n))) (ga (ga G 3 (G 1)) 1 (jhrs (G 1) n (h + 1)))) := by
    intro k
    induction k with
    | zero =>
      intro h hh e
      have e' : h = c := by rw [e]; rfl
      subst e'
      refine fx_iload_n dX4_still_17 rfl rfl ?_
      refine fx_bipush (v := nI 60) dX4_still_18 (by decide) ?_
      refine fx_icmp_ge (tgt := 40) dX4_still_20 (by decide) (hl _ _) (fun hc20 => ?_) (fun hc20 => ?_)
      · exact J40
      · exact absurd (nI_le (by omega) (by omega)) hc20
    | succ k ih =>
      intro h hh e
      unfold jst at e
      by_cases hm : jmov (jhrs (G 1) n h) n = true
      · rw [if_pos hm] at e
        have eH := eX4_hour (F := upd F 7 (jB (jmov (jhrs (G 1) n h) n))) (G := ga (ga G 3 (G 1)) 1 (jhrs (G 1) n (h + 1))) (n := n) ((hK.ga (by decide)).ga (by decide)) (by rw [ga_s]; exact jW_hrs hV (h + 1))
        rw [ga_s, upd_upd, ga_ga] at eH
        have ih1 := ih (h + 1) (by omega) (by rw [e]; show _ = h + 1 + jst (jhour (jhrs (G 1) n h) n) n k; omega)
        rw [hm] at eH ⊢
        refine fx_iload_n dX4_still_17 rfl rfl ?_
        refine fx_bipush (v := nI 60) dX4_still_18 (by decide) ?_
        refine fx_icmp_ge (tgt := 40) dX4_still_20 (by decide) (hl _ _) (fun hc20 => ?_) (fun hc20 => ?_)
        · exact absurd hc20 (nI_ge (by omega) (by omega))
        · refine fx_aload_n dX4_still_23 rfl rfl ?_
          refine fx_get dX4_still_24 kX4_162 rfl rfl ?_
          rw [pk_us]
          refine fx_if_eq (tgt := 40) dX4_still_27 (by decide) (hl _ _) (fun hc27 => ?_) (fun hc27 => ?_)
          · exact absurd hc27 (by decide)
          · refine fx_aload_n dX4_still_30 rfl rfl ?_
            refine fx_callVn dX4_still_31 vX4_hour lX4_169 (by decide) rfl (Nat.le_of_ble_eq_true rfl) eH rfl ?_
            refine fs_iinc_1 (w := nI 1) dX4_still_34 (by decide) rfl (by decide) ?_
            refine fx_goto (tgt := 17) dX4_still_37 (by decide) ?_
            rw [nI_add]
            exact ih1
      · rw [if_neg hm] at e
        have e' : h = c := by rw [e]; rfl
        subst e'
        have hm' : jmov (jhrs (G 1) n h) n = false := jnt_f hm
        refine fx_iload_n dX4_still_17 rfl rfl ?_
        refine fx_bipush (v := nI 60) dX4_still_18 (by decide) ?_
        refine fx_icmp_ge (tgt := 40) dX4_still_20 (by decide) (hl _ _) (fun hc20 => ?_) (fun hc20 => ?_)
        · exact absurd hc20 (nI_ge (by omega) (by omega))
        · refine fx_aload_n dX4_still_23 rfl rfl ?_
          refine fx_get dX4_still_24 kX4_162 rfl rfl ?_
          refine fx_if_eq (tgt := 40) dX4_still_27 (by decide) (hl _ _) (fun hc27 => ?_) (fun hc27 => ?_)
          · exact J40
          · exact absurd (show jB (jmov (jhrs (G 1) n h) n) = 0 by rw [hm']; rfl) hc27
  have eH0 := eX4_hour (F := F) (G := ga G 3 (G 1)) (n := n) (hK.ga (by decide)) (by rw [ga_n _ _ (by decide)]; exact hV)
  rw [ga_n _ _ (show (1 : Nat) ≠ 3 by decide)] at eH0
  have H0 := H 60 0 (by omega) (by rw [← hc]; show _ = 0 + jst (G 1) n 60; omega)
  refine mx_of (L := [some (.ref 0), none]) (by decide) (fun _ => rfl) (fun _ => Nat.le_of_ble_eq_true rfl) ?_
  show Fx mX4_still (some (Value.int (if jmov (jhrs (G 1) n c) n = true then jfd 3 else nI c)), _) 0 _ _ _
  rw [hout]
  refine fx_aload_n dX4_still_0 rfl rfl ?_
  refine fx_get dX4_still_1 kX4_9 rfl rfl ?_
  refine fx_aload_n dX4_still_4 rfl rfl ?_
  refine fx_get dX4_still_5 kX4_16 rfl rfl ?_
  refine fx_callSn dX4_still_8 sX4_copyRow lX4_70 (by decide) (Nat.le_of_ble_eq_true rfl) (eX4_copyRow (Or.inl rfl) (Or.inr (Or.inr rfl)) (by decide) h1 h3) rfl ?_
  refine fx_iconst (v := nI 0) dX4_still_11 (by decide) ?_
  refine fs_istore_n_1 dX4_still_12 rfl (by decide) ?_
  refine fx_aload_n dX4_still_13 rfl rfl ?_
  refine fx_callVn dX4_still_14 vX4_hour lX4_169 (by decide) rfl (Nat.le_of_ble_eq_true rfl) eH0 rfl ?_
  exact H0
end
