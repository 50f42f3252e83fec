/-! ===== the reference: public methods, third part: what is tried ===== -/
set_option maxRecDepth 100000
theorem ga_try {G : Nat → Nat → Int32} {V Vc A : Nat → Int32} (h : G 1 = V) : ga (ga (ga (ga G 3 A) 1 Vc) 3 Vc) 1 V = ga G 3 Vc := by
  funext j
  unfold ga
  by_cases e1 : j = 1
  · rw [if_pos e1, if_neg (by omega), e1, h]
  · rw [if_neg e1]
    by_cases e3 : j = 3
    · rw [if_pos e3, if_pos e3]
    · rw [if_neg e3, if_neg e3, if_neg e1, if_neg e3]
theorem ga_try2 {G : Nat → Nat → Int32} {V Vc A W : Nat → Int32} : ga (ga (ga (ga G 3 A) 1 W) 1 Vc) 3 Vc = ga (ga G 3 Vc) 1 Vc := by
  funext j
  unfold ga
  by_cases e1 : j = 1
  · rw [if_neg (by omega), if_pos e1, if_pos e1]
  · by_cases e3 : j = 3
    · rw [if_pos e3, if_neg e1, if_pos e3]
    · rw [if_neg e3, if_neg e1, if_neg e1, if_neg e3, if_neg e1, if_neg e3]
theorem jnf_or (V : Nat → Int32) (n b : Nat) : ∀ c, (jnf V n b c).1 = (-1) ∨ ∃ d, d < c ∧ (jnf V n b c).1 = nI d := by
  intro c
  induction c with
  | zero => exact Or.inl rfl
  | succ c ih =>
    have ih2 : (jnf V n b c).1 = (-1) ∨ ∃ d, d < c + 1 ∧ (jnf V n b c).1 = nI d := ih.elim Or.inl (fun ⟨d, hd, e⟩ => Or.inr ⟨d, by omega, e⟩)
    unfold jnf
    by_cases h : V (18 + c) = nI 1
    · rw [if_pos h]; exact ih2
    · rw [if_neg h]
      by_cases h2 : jcv (upd V (18 + c) (nI 1)) n b 20 < (jnf V n b c).2
      · exact Or.inr ⟨c, by omega, if_pos h2⟩
      · rw [show ((if jcv (upd V (18 + c) (nI 1)) n b 20 < (jnf V n b c).2 then nI c else (jnf V n b c).1, min (jnf V n b c).2 (jcv (upd V (18 + c) (nI 1)) n b 20)) : Int32 × Nat).1 = (jnf V n b c).1 from if_neg h2]
        exact ih2
theorem jnf_le (V : Nat → Int32) (n b : Nat) : ∀ c, (jnf V n b c).2 ≤ 1000000 := by
  intro c
  induction c with
  | zero => exact Nat.le_refl _
  | succ c ih =>
    unfold jnf
    by_cases h : V (18 + c) = nI 1
    · rw [if_pos h]; exact ih
    · rw [if_neg h]; exact Nat.le_trans (Nat.min_le_left _ _) ih
theorem jcv_le (V : Nat → Int32) (n b r : Nat) (hr : r < 1000) : jcv V n b r ≤ 1000000 := by
  rcases jcv_lt V n b r hr with h | h <;> omega
theorem jbt_or (V : Nat → Int32) (n t : Nat) : ∀ c, (jbt V n t c).1 = (-1) ∨ ∃ d, d < c ∧ (jbt V n t c).1 = nI d := by
  intro c
  induction c with
  | zero => exact Or.inl rfl
  | succ c ih =>
    have ih2 : (jbt V n t c).1 = (-1) ∨ ∃ d, d < c + 1 ∧ (jbt V n t c).1 = nI d := ih.elim Or.inl (fun ⟨d, hd, e⟩ => Or.inr ⟨d, by omega, e⟩)
    unfold jbt
    by_cases h : V (18 + c) = nI 1
    · rw [if_pos h]; exact ih2
    · rw [if_neg h]
      by_cases h2 : (jbt V n t c).2 < nI (jp (jsN (jhrs (upd V (18 + c) (nI 1)) n t) n))
      · exact Or.inr ⟨c, by omega, if_pos h2⟩
      · show (if _ then _ else _) = _ ∨ _
        rw [if_neg h2]
        exact ih2
theorem jdv_or (V : Nat → Int32) (n h b : Nat) : ∀ c, (jdv V n h b c).1 = (-1) ∨ ∃ d, d < c ∧ (jdv V n h b c).1 = nI d := by
  intro c
  induction c with
  | zero => exact Or.inl rfl
  | succ c ih =>
    have ih2 : (jdv V n h b c).1 = (-1) ∨ ∃ d, d < c + 1 ∧ (jdv V n h b c).1 = nI d := ih.elim Or.inl (fun ⟨d, hd, e⟩ => Or.inr ⟨d, by omega, e⟩)
    unfold jdv
    show (if _ then _ else _) = _ ∨ _
    by_cases h2 : jcv (upd V (14 + h) (nI c)) n b 20 < (jdv V n h b c).2
    · exact Or.inr ⟨c, by omega, if_pos h2⟩
    · rw [if_neg h2]; exact ih2
theorem jdv_le (V : Nat → Int32) (n h b : Nat) : ∀ c, (jdv V n h b c).2 ≤ 1000000 := by
  intro c
  induction c with
  | zero => exact Nat.le_refl _
  | succ c ih => exact Nat.le_trans (Nat.min_le_left _ _) ih
section
variable {F : Nat → Int32} {G : Nat → Nat → Int32} {n : Nat}
theorem eX4_netFor_n {a : Int32} (hV : jW (G 1) n) (h : jwi a (nI 0) (nI n - nI 1) = false) : Mx mX4_netFor [.ref 0, .int a] (rM F G) (some (.int (jfd 0))) (rMn F G 0) := by
  refine mx_of (L := [some (.ref 0), some (.int a), none, none, none, none]) (by decide) (fun _ => rfl) (fun _ => Nat.le_of_ble_eq_true rfl) ?_
  refine fx_aload_n dX4_netFor_0 rfl rfl ?_
  refine fx_iload_n dX4_netFor_1 rfl rfl ?_
  refine fx_callVv dX4_netFor_2 vX4_isBell lX4_141 (by decide) rfl (Nat.le_of_ble_eq_true rfl) (eX4_isBell hV) rfl ?_
  refine fx_if_ne (tgt := 15) dX4_netFor_5 (by decide) rfl (fun hc5 => ?_) (fun hc5 => ?_)
  · exact jtf h (nI_ne0' hc5)
  · refine fx_aload_n dX4_netFor_8 rfl rfl ?_
    refine fx_ldc dX4_netFor_9 qX4_69 ?_
    refine fx_callVv dX4_netFor_11 vX4_finding lX4_88 (by decide) rfl (Nat.le_of_ble_eq_true rfl) (eX4_finding (k := 0) (by decide) (by decide)) rfl ?_
    exact fx_ireq dX4_netFor_14 rfl rfl rfl rfl
/-- the answer of orNone, and the world behind it -/
def jonv (x : Int32) : Int32 := if x = (-1) then jfd 3 else x
def jonw (F : Nat → Int32) (G : Nat → Nat → Int32) (x : Int32) : zH := if x = (-1) then rM F (ga G 4 (jfc (G 4) 3)) else rM F G
theorem eX4_orNone {x : Int32} (h : x = (-1) ∨ ∃ d, d < 64 ∧ x = nI d) : Mx mX4_orNone [.ref 0, .int x] (rM F G) (some (.int (jonv x))) (jonw F G x) := by
  unfold jonv jonw
  rcases h with rfl | ⟨d, hd, rfl⟩
  · rw [if_pos rfl, if_pos rfl]; exact eX4_orNone_n
  · have hne : ¬ nI d = (-1) := by revert d; decide +kernel
    rw [if_neg hne, if_neg hne]; exact eX4_orNone_y (by omega)
theorem eX4_netFor_y {b : Nat} (hK : jK G) (hV : jW (G 1) n) (hb : b < n) (h3 : ∀ k, 186 ≤ k → G 3 k = 0) : ∃ (m : Int32) (A : Nat → Int32), (∀ k, 186 ≤ k → A k = 0) ∧ Mx mX4_netFor [.ref 0, .int (nI b)] (rM F G) (some (.int (jonv (jnf (G 1) n b 64).1))) (jonw (upd F 7 m) (ga G 3 A) (jnf (G 1) n b 64).1) := by
  have hn8 := hV.2.1
  have H : ∀ (k c : Nat), c + k = 64 → ∀ (m : Int32) (A : Nat → Int32) (x5 : Option Value), (∀ k, 186 ≤ k → A k = 0) → ∃ (m' : Int32) (A' : Nat → Int32), (∀ k, 186 ≤ k → A' k = 0) ∧ Fx mX4_netFor (some (.int (jonv (jnf (G 1) n b 64).1)), jonw (upd F 7 m') (ga G 3 A') (jnf (G 1) n b 64).1) 23 [some (.ref 0), some (.int (nI b)), some (.int (jnf (G 1) n b c).1), some (.int (nI (jnf (G 1) n b c).2)), some (.int (nI c)), x5] [] (rM (upd F 7 m) (ga G 3 A)) := by
    intro k
    induction k with
    | zero =>
      intro c hc m A x5 hA
      have hc' : c = 64 := by omega
      subst hc'
      refine ⟨m, A, hA, ?_⟩
      have hl : (rM (upd F 7 m) (ga G 3 A)).length = (jonw (upd F 7 m) (ga G 3 A) (jnf (G 1) n b 64).1).length := by unfold jonw; by_cases h : (jnf (G 1) n b 64).1 = (-1) <;> simp only [h] <;> rfl
      refine fx_iload dX4_netFor_23 rfl ?_
      refine fx_bipush (v := nI 64) dX4_netFor_25 (by decide) ?_
      refine fx_icmp_ge (tgt := 96) dX4_netFor_27 (by decide) hl (fun hc27 => ?_) (fun hc27 => ?_)
      · refine fx_aload_n dX4_netFor_96 rfl rfl ?_
        refine fx_iload_n dX4_netFor_97 rfl rfl ?_
        refine fx_callVv dX4_netFor_98 vX4_orNone lX4_208 (by decide) rfl (Nat.le_of_ble_eq_true rfl) (eX4_orNone (jnf_or _ _ _ 64)) rfl ?_
        exact fx_ireq dX4_netFor_101 rfl rfl rfl rfl
      · exact absurd (Int32.le_refl _) hc27
    | succ k ih =>
      intro c hc m A x5 hA
      have e1 : jnf (G 1) n b (c + 1) = if G 1 (18 + c) = nI 1 then jnf (G 1) n b c else (if jcv (upd (G 1) (18 + c) (nI 1)) n b 20 < (jnf (G 1) n b c).2 then nI c else (jnf (G 1) n b c).1, min (jnf (G 1) n b c).2 (jcv (upd (G 1) (18 + c) (nI 1)) n b 20)) := rfl
      have eN := eX4_hasNet (F := upd F 7 m) (G := ga G 3 A) (c := c) (by omega)
      rw [ga_n _ _ (show (1 : Nat) ≠ 3 by decide)] at eN
      have hl : ∀ m' A', (rM (upd F 7 m) (ga G 3 A)).length = (jonw (upd F 7 m') (ga G 3 A') (jnf (G 1) n b 64).1).length := fun m' A' => by unfold jonw; by_cases h : (jnf (G 1) n b 64).1 = (-1) <;> simp only [h] <;> rfl
      by_cases hcg : G 1 (18 + c) = nI 1
      · rw [if_pos hcg] at e1
        obtain ⟨m', A', hA', K⟩ := ih (c + 1) (by omega) m A x5 hA
        refine ⟨m', A', hA', ?_⟩
        rw [e1] at K
        refine fx_iload dX4_netFor_23 rfl ?_
        refine fx_bipush (v := nI 64) dX4_netFor_25 (by decide) ?_
        refine fx_icmp_ge (tgt := 96) dX4_netFor_27 (by decide) (hl _ _) (fun hc27 => ?_) (fun hc27 => ?_)
        · exact absurd hc27 (nI_ge (by omega) (by omega))
        · refine fx_aload_n dX4_netFor_30 rfl rfl ?_
          refine fx_iload dX4_netFor_31 rfl ?_
          refine fx_callVv dX4_netFor_33 vX4_hasNet lX4_166 (by decide) rfl (Nat.le_of_ble_eq_true rfl) eN rfl ?_
          rw [decide_eq_true hcg]
          refine fx_if_ne (tgt := 90) dX4_netFor_36 (by decide) (hl _ _) (fun hc36 => ?_) (fun hc36 => ?_)
          · refine fs_iinc_4 (w := nI 1) dX4_netFor_90 (by decide) rfl (by decide) ?_
            refine fx_goto (tgt := 23) dX4_netFor_93 (by decide) ?_
            rw [nI_add]
            exact K
          · exact absurd hc36 (by decide)
      · rw [if_neg hcg] at e1
        have hz : G 1 (18 + c) = nI 0 := (hV.2.2.2.2.1 c (by omega)).elim id (fun q => absurd q hcg)
        have hW : jW (upd (G 1) (18 + c) (nI 1)) n := jW_net hV (by omega) (Or.inr rfl)
        have eC := eX4_caughtIn (F := upd F 7 m) (G := ga (ga G 3 A) 1 (upd (G 1) (18 + c) (nI 1))) (n := n) (b := b) (t := 20) (by decide) ((hK.ga (by decide)).ga (by decide)) (by rw [ga_s]; exact hW) hb (by rw [ga_n _ _ (by decide), ga_s]; exact hA)
        rw [ga_s, upd_upd] at eC
        obtain ⟨m', A', hA', K⟩ := ih (c + 1) (by omega) (jmv (upd F 7 m 7) (upd (G 1) (18 + c) (nI 1)) n (jcnt (upd (G 1) (18 + c) (nI 1)) n b 20)) (upd (G 1) (18 + c) (nI 1)) (some (.int (nI (jcv (upd (G 1) (18 + c) (nI 1)) n b 20)))) hW.2.2.2.2.2.2.2
        refine ⟨m', A', hA', ?_⟩
        rw [e1] at K
        have hj := jcv_le (upd (G 1) (18 + c) (nI 1)) n b 20 (by decide)
        have hj2 := jnf_le (G 1) n b c
        refine fx_iload dX4_netFor_23 rfl ?_
        refine fx_bipush (v := nI 64) dX4_netFor_25 (by decide) ?_
        refine fx_icmp_ge (tgt := 96) dX4_netFor_27 (by decide) (hl _ _) (fun hc27 => ?_) (fun hc27 => ?_)
        · exact absurd hc27 (nI_ge (by omega) (by omega))
        · refine fx_aload_n dX4_netFor_30 rfl rfl ?_
          refine fx_iload dX4_netFor_31 rfl ?_
          refine fx_callVv dX4_netFor_33 vX4_hasNet lX4_166 (by decide) rfl (Nat.le_of_ble_eq_true rfl) eN rfl ?_
          rw [decide_eq_false hcg]
          refine fx_if_ne (tgt := 90) dX4_netFor_36 (by decide) (hl _ _) (fun hc36 => ?_) (fun hc36 => ?_)
          · exact absurd rfl hc36
          · refine fx_aload_n dX4_netFor_39 rfl rfl ?_
            refine fx_get dX4_netFor_40 kX4_9 rfl rfl ?_
            refine fx_bipush (v := nI 18) dX4_netFor_43 (by decide) ?_
            refine fx_iload dX4_netFor_45 rfl ?_
            refine fx_iadd dX4_netFor_47 ?_
            rw [nI_add]
            refine fx_iconst (v := nI 1) dX4_netFor_48 (by decide) ?_
            refine fx_iast dX4_netFor_49 rfl (vp_in_nI (by omega) (by omega)) (w4_1 ..) ?_
            rw [nI_clamp (by omega), ga_n _ _ (show (1 : Nat) ≠ 3 by decide)]
            refine fx_aload_n dX4_netFor_50 rfl rfl ?_
            refine fx_iload_n dX4_netFor_51 rfl rfl ?_
            refine fx_bipush (v := nI 20) dX4_netFor_52 (by decide) ?_
            refine fx_callVv dX4_netFor_54 vX4_caughtIn lX4_199 (by decide) rfl (Nat.le_of_ble_eq_true rfl) eC rfl ?_
            refine fs_istore_5 dX4_netFor_57 rfl (by decide) ?_
            refine fx_aload_n dX4_netFor_59 rfl rfl ?_
            refine fx_get dX4_netFor_60 kX4_9 rfl rfl ?_
            refine fx_bipush (v := nI 18) dX4_netFor_63 (by decide) ?_
            refine fx_iload dX4_netFor_65 rfl ?_
            refine fx_iadd dX4_netFor_67 ?_
            rw [nI_add]
            refine fx_iconst (v := nI 0) dX4_netFor_68 (by decide) ?_
            refine fx_iast dX4_netFor_69 rfl (vp_in_nI (by omega) (by omega)) (w4_1 ..) ?_
            rw [nI_clamp (by omega), ga_n _ _ (show (1 : Nat) ≠ 3 by decide), ga_s, upd_back hz, ga_try rfl]
            refine fx_iload dX4_netFor_70 rfl ?_
            refine fx_iload_n dX4_netFor_72 rfl rfl ?_
            refine fx_icmp_ge (tgt := 81) dX4_netFor_73 (by decide) (hl _ _) (fun hc73 => ?_) (fun hc73 => ?_)
            · refine fx_iload_n dX4_netFor_81 rfl rfl ?_
              refine fs_istore_n_2 dX4_netFor_82 rfl (by decide) ?_
              refine fx_iload_n dX4_netFor_83 rfl rfl ?_
              refine fx_iload dX4_netFor_84 rfl ?_
              refine fx_min dX4_netFor_86 lX4_125 (by decide) (Nat.le_of_ble_eq_true rfl) ?_
              rw [jmin_n (by omega) (by omega)]
              refine fs_istore_n_3 dX4_netFor_89 rfl (by decide) ?_
              refine fs_iinc_4 (w := nI 1) dX4_netFor_90 (by decide) rfl (by decide) ?_
              refine fx_goto (tgt := 23) dX4_netFor_93 (by decide) ?_
              rw [nI_add]
              first | (rw [if_pos ((nI_ltI (by omega) (by omega)).mp (Int32.not_le.mp hc73))] at K; exact K) | (rw [if_neg (fun q => absurd ((nI_leI (by omega) (by omega)).mp hc73) (by omega))] at K; exact K)
            · refine fx_iload dX4_netFor_76 rfl ?_
              refine fx_goto (tgt := 82) dX4_netFor_78 (by decide) ?_
              refine fs_istore_n_2 dX4_netFor_82 rfl (by decide) ?_
              refine fx_iload_n dX4_netFor_83 rfl rfl ?_
              refine fx_iload dX4_netFor_84 rfl ?_
              refine fx_min dX4_netFor_86 lX4_125 (by decide) (Nat.le_of_ble_eq_true rfl) ?_
              rw [jmin_n (by omega) (by omega)]
              refine fs_istore_n_3 dX4_netFor_89 rfl (by decide) ?_
              refine fs_iinc_4 (w := nI 1) dX4_netFor_90 (by decide) rfl (by decide) ?_
              refine fx_goto (tgt := 23) dX4_netFor_93 (by decide) ?_
              rw [nI_add]
              first | (rw [if_pos ((nI_ltI (by omega) (by omega)).mp (Int32.not_le.mp hc73))] at K; exact K) | (rw [if_neg (fun q => absurd ((nI_leI (by omega) (by omega)).mp hc73) (by omega))] at K; exact K)
  obtain ⟨m', A', hA', K⟩ := H 64 0 (by omega) (F 7) (G 3) none h3
  rw [upd_id, ga_id] at K
  refine ⟨m', A', hA', mx_of (L := [some (.ref 0), some (.int (nI b)), none, none, none, none]) (by decide) (fun _ => rfl) (fun _ => Nat.le_of_ble_eq_true rfl) ?_⟩
  have hl : (rM F G).length = (jonw (upd F 7 m') (ga G 3 A') (jnf (G 1) n b 64).1).length := by unfold jonw; by_cases h : (jnf (G 1) n b 64).1 = (-1) <;> simp only [h] <;> rfl
  refine fx_aload_n dX4_netFor_0 rfl rfl ?_
  refine fx_iload_n dX4_netFor_1 rfl rfl ?_
  refine fx_callVv dX4_netFor_2 vX4_isBell lX4_141 (by decide) rfl (Nat.le_of_ble_eq_true rfl) (eX4_isBell hV) rfl ?_
  rw [jbell_y hb hn8]
  refine fx_if_ne (tgt := 15) dX4_netFor_5 (by decide) hl (fun hc5 => ?_) (fun hc5 => ?_)
  · refine fx_iconst (v := (-1)) dX4_netFor_15 (by decide) ?_
    refine fs_istore_n_2 dX4_netFor_16 rfl (by decide) ?_
    refine fx_ldc dX4_netFor_17 qX4_197 ?_
    refine fs_istore_n_3 dX4_netFor_19 rfl (by decide) ?_
    refine fx_iconst (v := nI 0) dX4_netFor_20 (by decide) ?_
    refine fs_istore_4 dX4_netFor_21 rfl (by decide) ?_
    exact K
  · exact absurd hc5 (by decide)
theorem eX4_best_n {a : Int32} (h : jwi a (nI 0) (nI 20) = false) : Mx mX4_best [.ref 0, .int a] (rM F G) (some (.int (jfd 0))) (rMn F G 0) := by
  refine mx_of (L := [some (.ref 0), some (.int a), none, none, none, none]) (by decide) (fun _ => rfl) (fun _ => Nat.le_of_ble_eq_true rfl) ?_
  refine fx_iload_n dX4_best_0 rfl rfl ?_
  refine fx_iconst (v := nI 0) dX4_best_1 (by decide) ?_
  refine fx_bipush (v := nI 20) dX4_best_2 (by decide) ?_
  refine fx_callSv dX4_best_4 sX4_within lX4_74 (by decide) (Nat.le_of_ble_eq_true rfl) eX4_within rfl ?_
  refine fx_if_ne (tgt := 17) dX4_best_7 (by decide) rfl (fun hc7 => ?_) (fun hc7 => ?_)
  · exact jtf h (nI_ne0' hc7)
  · refine fx_aload_n dX4_best_10 rfl rfl ?_
    refine fx_ldc dX4_best_11 qX4_69 ?_
    refine fx_callVv dX4_best_13 vX4_finding lX4_88 (by decide) rfl (Nat.le_of_ble_eq_true rfl) (eX4_finding (k := 0) (by decide) (by decide)) rfl ?_
    exact fx_ireq dX4_best_16 rfl rfl rfl rfl
theorem eX4_best_y {t : Nat} (hK : jK G) (hV : jW (G 1) n) (ht : t ≤ 20) (h3 : ∀ k, 186 ≤ k → G 3 k = 0) : ∃ (m : Int32) (A : Nat → Int32), (∀ k, 186 ≤ k → A k = 0) ∧ Mx mX4_best [.ref 0, .int (nI t)] (rM F G) (some (.int (jonv (jbt (G 1) n t 64).1))) (jonw (upd F 7 m) (ga G 3 A) (jbt (G 1) n t 64).1) := by
  have hn8 := hV.2.1
  have H : ∀ (k c : Nat), c + k = 64 → ∀ (m : Int32) (A : Nat → Int32) (x5 : Option Value), (∀ k, 186 ≤ k → A k = 0) → ∃ (m' : Int32) (A' : Nat → Int32), (∀ k, 186 ≤ k → A' k = 0) ∧ Fx mX4_best (some (.int (jonv (jbt (G 1) n t 64).1)), jonw (upd F 7 m') (ga G 3 A') (jbt (G 1) n t 64).1) 24 [some (.ref 0), some (.int (nI t)), some (.int (jbt (G 1) n t c).1), some (.int (jbt (G 1) n t c).2), some (.int (nI c)), x5] [] (rM (upd F 7 m) (ga G 3 A)) := by
    intro k
    induction k with
    | zero =>
      intro c hc m A x5 hA
      have hc' : c = 64 := by omega
      subst hc'
      refine ⟨m, A, hA, ?_⟩
      have hl : (rM (upd F 7 m) (ga G 3 A)).length = (jonw (upd F 7 m) (ga G 3 A) (jbt (G 1) n t 64).1).length := by unfold jonw; by_cases h : (jbt (G 1) n t 64).1 = (-1) <;> simp only [h] <;> rfl
      refine fx_iload dX4_best_24 rfl ?_
      refine fx_bipush (v := nI 64) dX4_best_26 (by decide) ?_
      refine fx_icmp_ge (tgt := 98) dX4_best_28 (by decide) hl (fun hc28 => ?_) (fun hc28 => ?_)
      · refine fx_aload_n dX4_best_98 rfl rfl ?_
        refine fx_iload_n dX4_best_99 rfl rfl ?_
        refine fx_callVv dX4_best_100 vX4_orNone lX4_208 (by decide) rfl (Nat.le_of_ble_eq_true rfl) (eX4_orNone (jbt_or _ _ _ 64)) rfl ?_
        exact fx_ireq dX4_best_103 rfl rfl rfl rfl
      · exact absurd (Int32.le_refl _) hc28
    | succ k ih =>
      intro c hc m A x5 hA
      have e1 : jbt (G 1) n t (c + 1) = if G 1 (18 + c) = nI 1 then jbt (G 1) n t c else (if (jbt (G 1) n t c).2 < nI (jp (jsN (jhrs (upd (G 1) (18 + c) (nI 1)) n t) n)) then nI c else (jbt (G 1) n t c).1, jmax (jbt (G 1) n t c).2 (nI (jp (jsN (jhrs (upd (G 1) (18 + c) (nI 1)) n t) n)))) := rfl
      have eN := eX4_hasNet (F := upd F 7 m) (G := ga G 3 A) (c := c) (by omega)
      rw [ga_n _ _ (show (1 : Nat) ≠ 3 by decide)] at eN
      have hl : ∀ m' A', (rM (upd F 7 m) (ga G 3 A)).length = (jonw (upd F 7 m') (ga G 3 A') (jbt (G 1) n t 64).1).length := fun m' A' => by unfold jonw; by_cases h : (jbt (G 1) n t 64).1 = (-1) <;> simp only [h] <;> rfl
      by_cases hcg : G 1 (18 + c) = nI 1
      · rw [if_pos hcg] at e1
        obtain ⟨m', A', hA', K⟩ := ih (c + 1) (by omega) m A x5 hA
        refine ⟨m', A', hA', ?_⟩
        rw [e1] at K
        refine fx_iload dX4_best_24 rfl ?_
        refine fx_bipush (v := nI 64) dX4_best_26 (by decide) ?_
        refine fx_icmp_ge (tgt := 98) dX4_best_28 (by decide) (hl _ _) (fun hc28 => ?_) (fun hc28 => ?_)
        · exact absurd hc28 (nI_ge (by omega) (by omega))
        · refine fx_aload_n dX4_best_31 rfl rfl ?_
          refine fx_iload dX4_best_32 rfl ?_
          refine fx_callVv dX4_best_34 vX4_hasNet lX4_166 (by decide) rfl (Nat.le_of_ble_eq_true rfl) eN rfl ?_
          rw [decide_eq_true hcg]
          refine fx_if_ne (tgt := 92) dX4_best_37 (by decide) (hl _ _) (fun hc37 => ?_) (fun hc37 => ?_)
          · refine fs_iinc_4 (w := nI 1) dX4_best_92 (by decide) rfl (by decide) ?_
            refine fx_goto (tgt := 24) dX4_best_95 (by decide) ?_
            rw [nI_add]
            exact K
          · exact absurd hc37 (by decide)
      · rw [if_neg hcg] at e1
        have hz : G 1 (18 + c) = nI 0 := (hV.2.2.2.2.1 c (by omega)).elim id (fun q => absurd q hcg)
        have hW : jW (upd (G 1) (18 + c) (nI 1)) n := jW_net hV (by omega) (Or.inr rfl)
        have eC := eX4_setBehind (F := upd F 7 m) (G := ga (ga G 3 A) 1 (upd (G 1) (18 + c) (nI 1))) (n := n) (t := t) (by omega) ((hK.ga (by decide)).ga (by decide)) (by rw [ga_s]; exact hW) (by rw [ga_n _ _ (by decide), ga_s]; exact hA)
        rw [ga_s, upd_upd] at eC
        obtain ⟨m', A', hA', K⟩ := ih (c + 1) (by omega) (jmv (upd F 7 m 7) (upd (G 1) (18 + c) (nI 1)) n t) (upd (G 1) (18 + c) (nI 1)) (some (.int (nI (jp (jsN (jhrs (upd (G 1) (18 + c) (nI 1)) n t) n))))) hW.2.2.2.2.2.2.2
        refine ⟨m', A', hA', ?_⟩
        rw [e1] at K
        refine fx_iload dX4_best_24 rfl ?_
        refine fx_bipush (v := nI 64) dX4_best_26 (by decide) ?_
        refine fx_icmp_ge (tgt := 98) dX4_best_28 (by decide) (hl _ _) (fun hc28 => ?_) (fun hc28 => ?_)
        · exact absurd hc28 (nI_ge (by omega) (by omega))
        · refine fx_aload_n dX4_best_31 rfl rfl ?_
          refine fx_iload dX4_best_32 rfl ?_
          refine fx_callVv dX4_best_34 vX4_hasNet lX4_166 (by decide) rfl (Nat.le_of_ble_eq_true rfl) eN rfl ?_
          rw [decide_eq_false hcg]
          refine fx_if_ne (tgt := 92) dX4_best_37 (by decide) (hl _ _) (fun hc37 => ?_) (fun hc37 => ?_)
          · exact absurd rfl hc37
          · refine fx_aload_n dX4_best_40 rfl rfl ?_
            refine fx_get dX4_best_41 kX4_9 rfl rfl ?_
            refine fx_bipush (v := nI 18) dX4_best_44 (by decide) ?_
            refine fx_iload dX4_best_46 rfl ?_
            refine fx_iadd dX4_best_48 ?_
            rw [nI_add]
            refine fx_iconst (v := nI 1) dX4_best_49 (by decide) ?_
            refine fx_iast dX4_best_50 rfl (vp_in_nI (by omega) (by omega)) (w4_1 ..) ?_
            rw [nI_clamp (by omega), ga_n _ _ (show (1 : Nat) ≠ 3 by decide)]
            refine fx_aload_n dX4_best_51 rfl rfl ?_
            refine fx_iload_n dX4_best_52 rfl rfl ?_
            refine fx_callVv dX4_best_53 vX4_setBehind lX4_205 (by decide) rfl (Nat.le_of_ble_eq_true rfl) eC rfl ?_
            refine fx_callSv dX4_best_56 sX4_bits lX4_182 (by decide) (Nat.le_of_ble_eq_true rfl) (eX4_bits (jsN_256 hn8)) rfl ?_
            refine fs_istore_5 dX4_best_59 rfl (by decide) ?_
            refine fx_aload_n dX4_best_61 rfl rfl ?_
            refine fx_get dX4_best_62 kX4_9 rfl rfl ?_
            refine fx_bipush (v := nI 18) dX4_best_65 (by decide) ?_
            refine fx_iload dX4_best_67 rfl ?_
            refine fx_iadd dX4_best_69 ?_
            rw [nI_add]
            refine fx_iconst (v := nI 0) dX4_best_70 (by decide) ?_
            refine fx_iast dX4_best_71 rfl (vp_in_nI (by omega) (by omega)) (w4_1 ..) ?_
            rw [nI_clamp (by omega), ga_n _ _ (show (1 : Nat) ≠ 3 by decide), ga_s, upd_back hz, ga_try rfl]
            refine fx_iload dX4_best_72 rfl ?_
            refine fx_iload_n dX4_best_74 rfl rfl ?_
            refine fx_icmp_le (tgt := 83) dX4_best_75 (by decide) (hl _ _) (fun hc75 => ?_) (fun hc75 => ?_)
            · refine fx_iload_n dX4_best_83 rfl rfl ?_
              refine fs_istore_n_2 dX4_best_84 rfl (by decide) ?_
              refine fx_iload_n dX4_best_85 rfl rfl ?_
              refine fx_iload dX4_best_86 rfl ?_
              refine fx_max dX4_best_88 lX4_132 (by decide) (Nat.le_of_ble_eq_true rfl) ?_
              refine fs_istore_n_3 dX4_best_91 rfl (by decide) ?_
              refine fs_iinc_4 (w := nI 1) dX4_best_92 (by decide) rfl (by decide) ?_
              refine fx_goto (tgt := 24) dX4_best_95 (by decide) ?_
              rw [nI_add]
              first | (rw [if_pos (Int32.not_le.mp hc75)] at K; exact K) | (rw [if_neg (Int32.not_lt.mpr hc75)] at K; exact K)
            · refine fx_iload dX4_best_78 rfl ?_
              refine fx_goto (tgt := 84) dX4_best_80 (by decide) ?_
              refine fs_istore_n_2 dX4_best_84 rfl (by decide) ?_
              refine fx_iload_n dX4_best_85 rfl rfl ?_
              refine fx_iload dX4_best_86 rfl ?_
              refine fx_max dX4_best_88 lX4_132 (by decide) (Nat.le_of_ble_eq_true rfl) ?_
              refine fs_istore_n_3 dX4_best_91 rfl (by decide) ?_
              refine fs_iinc_4 (w := nI 1) dX4_best_92 (by decide) rfl (by decide) ?_
              refine fx_goto (tgt := 24) dX4_best_95 (by decide) ?_
              rw [nI_add]
              first | (rw [if_pos (Int32.not_le.mp hc75)] at K; exact K) | (rw [if_neg (Int32.not_lt.mpr hc75)] at K; exact K)
  obtain ⟨m', A', hA', K⟩ := H 64 0 (by omega) (F 7) (G 3) none h3
  rw [upd_id, ga_id] at K
  refine ⟨m', A', hA', mx_of (L := [some (.ref 0), some (.int (nI t)), none, none, none, none]) (by decide) (fun _ => rfl) (fun _ => Nat.le_of_ble_eq_true rfl) ?_⟩
  have hl : (rM F G).length = (jonw (upd F 7 m') (ga G 3 A') (jbt (G 1) n t 64).1).length := by unfold jonw; by_cases h : (jbt (G 1) n t 64).1 = (-1) <;> simp only [h] <;> rfl
  refine fx_iload_n dX4_best_0 rfl rfl ?_
  refine fx_iconst (v := nI 0) dX4_best_1 (by decide) ?_
  refine fx_bipush (v := nI 20) dX4_best_2 (by decide) ?_
  refine fx_callSv dX4_best_4 sX4_within lX4_74 (by decide) (Nat.le_of_ble_eq_true rfl) eX4_within rfl ?_
  rw [jwi_n (by omega) (by decide)]
  refine fx_if_ne (tgt := 17) dX4_best_7 (by decide) hl (fun hc7 => ?_) (fun hc7 => ?_)
  · refine fx_iconst (v := (-1)) dX4_best_17 (by decide) ?_
    refine fs_istore_n_2 dX4_best_18 rfl (by decide) ?_
    refine fx_iconst (v := (-1)) dX4_best_19 (by decide) ?_
    refine fs_istore_n_3 dX4_best_20 rfl (by decide) ?_
    refine fx_iconst (v := nI 0) dX4_best_21 (by decide) ?_
    refine fs_istore_4 dX4_best_22 rfl (by decide) ?_
    exact K
  · exact absurd hc7 (by decide)
end
