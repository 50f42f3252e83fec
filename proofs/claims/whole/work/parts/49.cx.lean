/-! ===== pairs: load, judge, lasts, feed ===== -/
set_option maxRecDepth 100000
theorem jlk_0 {G : Nat → Nat → Int32} {s : Int32} (h : jwi s (nI 0) (nI 3) = false) : jlk G s = some 0 := by unfold jlk; rw [h]; rfl
section
variable {F4 F4' : Nat → Int32} {G4 : Nat → Nat → Int32} {F : Nat → Nat → Int32} {N : Nat → Nat → Int64} {G : Nat → Nat → Int32} {P : Nat → Int32}
theorem eX2_followsInRing {w a b : Nat} {V : Nat → Int32} {n : Nat} {h : Int32} {t : Nat} (hw : zw w) (hI : jI F N G w V n h t) (hn : n ≤ 8) (ha : a < n) (hb : b < n) : Mx mX2_followsInRing [.ref w, .int (nI a), .int (nI b)] (rC F N G) (some (.int (jB (jwi (V (146 + 5 * b + 2) - V (146 + 5 * a + 2)) (nI 1) (nI 2))))) (rC F N G) := by
  refine mx_of (L := [some (.ref w), some (.int (nI a)), some (.int (nI b)), none]) (by decide) (fun _ => rfl) (fun _ => Nat.le_of_ble_eq_true rfl) ?_
  refine fx_aload_n dX2_followsInRing_0 rfl rfl ?_
  refine fx_get dX2_followsInRing_1 kX2_24 (a2 hw) rfl ?_
  refine fx_iload_n dX2_followsInRing_4 rfl rfl ?_
  refine fx_iald dX2_followsInRing_5 (a2_5 hw) (vp_in_nI (by omega) (by decide)) ?_
  rw [nI_clamp (by omega), jI_a5 hI, jbf_e (by omega)]
  refine fx_aload_n dX2_followsInRing_6 rfl rfl ?_
  refine fx_get dX2_followsInRing_7 kX2_24 (a2 hw) rfl ?_
  refine fx_iload_n dX2_followsInRing_10 rfl rfl ?_
  refine fx_iald dX2_followsInRing_11 (a2_5 hw) (vp_in_nI (by omega) (by decide)) ?_
  rw [nI_clamp (by omega), jI_a5 hI, jbf_e (by omega)]
  refine fx_isub dX2_followsInRing_12 ?_
  refine fs_istore_n_3 dX2_followsInRing_13 rfl (by decide) ?_
  refine fx_iload_n dX2_followsInRing_14 rfl rfl ?_
  refine fx_iconst (v := nI 1) dX2_followsInRing_15 (by decide) ?_
  refine fx_icmp_eq (tgt := 24) dX2_followsInRing_16 (by decide) rfl (fun hc16 => ?_) (fun hc16 => ?_)
  · refine fx_iconst (v := nI 1) dX2_followsInRing_24 (by decide) ?_
    refine fx_goto (tgt := 29) dX2_followsInRing_25 (by decide) ?_
    exact fx_ireq dX2_followsInRing_29 rfl (jB_n _) (by first | (rw [j12_y (Or.inl hc16)]; rfl) | (rw [j12_n hc16 hc21]; rfl) | (rw [j12_y (Or.inr hc21)]; rfl)) rfl
  · refine fx_iload_n dX2_followsInRing_19 rfl rfl ?_
    refine fx_iconst (v := nI 2) dX2_followsInRing_20 (by decide) ?_
    refine fx_icmp_ne (tgt := 28) dX2_followsInRing_21 (by decide) rfl (fun hc21 => ?_) (fun hc21 => ?_)
    · refine fx_iconst (v := nI 0) dX2_followsInRing_28 (by decide) ?_
      exact fx_ireq dX2_followsInRing_29 rfl (jB_n _) (by first | (rw [j12_y (Or.inl hc16)]; rfl) | (rw [j12_n hc16 hc21]; rfl) | (rw [j12_y (Or.inr hc21)]; rfl)) rfl
    · refine fx_iconst (v := nI 1) dX2_followsInRing_24 (by decide) ?_
      refine fx_goto (tgt := 29) dX2_followsInRing_25 (by decide) ?_
      exact fx_ireq dX2_followsInRing_29 rfl (jB_n _) (by first | (rw [j12_y (Or.inl hc16)]; rfl) | (rw [j12_n hc16 hc21]; rfl) | (rw [j12_y (Or.inr hc21)]; rfl)) rfl
theorem P_load (R : jR F4 G4 F N G) (s : Int32) : jP mX4_load mX3_load [.int s] F4 G4 F N G := by
  have r := R.2.2.2.2
  have hS := r.2.2.2.1
  by_cases ha : jwi s (nI 0) (nI 3) = false
  · refine ⟨_, _, _, _, _, _, eX4_load_n (jlk_0 ha), ?_, jR_f R (by decide)⟩
    refine mx_of (L := [some (.ref 0), some (.int s), none, none]) (by decide) (fun _ => rfl) (fun _ => Nat.le_of_ble_eq_true rfl) ?_
    refine fx_iload_n dX3_load_0 rfl rfl ?_
    refine fx_callSv dX3_load_1 sX3_isSheet lX3_237 (by decide) (Nat.le_of_ble_eq_true rfl) eX3_isSheet rfl ?_
    refine fx_if_ne (tgt := 13) dX3_load_4 (by decide) rC_l (fun hc4 => ?_) (fun hc4 => ?_)
    · exact jtf ha (nI_ne0' hc4)
    · refine fx_aload_n dX3_load_7 rfl rfl ?_
      refine fx_iconst (v := nI 0) dX3_load_8 (by decide) ?_
      refine fx_callVv dX3_load_9 vX3_finding lX3_51 (by decide) rfl (Nat.le_of_ble_eq_true rfl) (eX3_finding (k := 0) (by decide)) rfl ?_
      exact fx_ireq dX3_load_12 rfl rfl rfl rfl
  · obtain ⟨j, hj, rfl⟩ := jwi_of (k := 3) (by decide) (jbt_t ha)
    have hj4 : j < 4 := by omega
    obtain ⟨e1, e2, e3, e4⟩ := jR_sh r hj4
    have hq := zqj hj4
    by_cases h0 : G4 11 j = 0
    · refine ⟨_, _, _, _, _, _, eX4_load_n (k := 5) (by rw [jlk_j hj, if_pos h0]), ?_, jR_f R (by decide)⟩
      refine mx_of (L := [some (.ref 0), some (.int (nI j)), none, none]) (by decide) (fun _ => rfl) (fun _ => Nat.le_of_ble_eq_true rfl) ?_
      refine fx_iload_n dX3_load_0 rfl rfl ?_
      refine fx_callSv dX3_load_1 sX3_isSheet lX3_237 (by decide) (Nat.le_of_ble_eq_true rfl) eX3_isSheet rfl ?_
      refine fx_if_ne (tgt := 13) dX3_load_4 (by decide) rC_l (fun hc4 => ?_) (fun hc4 => ?_)
      · refine fx_aload_n dX3_load_13 rfl rfl ?_
        refine fx_get dX3_load_14 kX3_35 rfl rfl ?_
        refine fx_iload_n dX3_load_17 rfl rfl ?_
        refine fx_aald dX3_load_18 rfl (Or.inl rfl) (vp_in_nI (by omega) (by decide)) (rC_se (by omega)) ?_
        refine fs_astore_n_2 dX3_load_19 rfl (by decide) ?_
        refine fx_aload_n dX3_load_20 rfl rfl ?_
        refine fx_callVv dX3_load_21 vX0_isMissing lX3_245 (by decide) (a0 hq) (Nat.le_of_ble_eq_true rfl) (eX0_isMissing hq) rfl ?_
        rw [e1, decide_eq_true h0]
        refine fx_if_eq (tgt := 33) dX3_load_24 (by decide) rC_l (fun hc24 => ?_) (fun hc24 => ?_)
        · exact absurd hc24 (by decide)
        · refine fx_aload_n dX3_load_27 rfl rfl ?_
          refine fx_iconst (v := nI 5) dX3_load_28 (by decide) ?_
          refine fx_callVv dX3_load_29 vX3_finding lX3_51 (by decide) rfl (Nat.le_of_ble_eq_true rfl) (eX3_finding (k := 5) (by decide)) rfl ?_
          exact fx_ireq dX3_load_32 rfl rfl rfl rfl
      · exact absurd (nI_eq0' hc4) ha
    · have R0 := R
      obtain ⟨⟨n, t, hW, hSp, hH, ht, hI⟩, -⟩ := R
      have hn8 := hW.2.1
      have e5 := eX4_load_y (F := F4) hS hW hj (by rw [jlk_j hj, if_neg h0])
      have H : ∀ (k i : Nat) (V : Nat → Int32), i + k = jsz G4 j → Fx mX3_load (some (.int (nI (jld (G4 13) j n i k))), jC F N G 1 (jlv V (G4 13) j n i k) n (G4 1 0) t) 35 [some (.ref 0), some (.int (nI j)), some (.ref (28 + 2 * j)), some (.int (nI i))] [] (jC F N G 1 V n (G4 1 0) t) := by
        intro k
        induction k with
        | zero =>
          intro i V hi
          refine fx_iload_n dX3_load_35 rfl rfl ?_
          refine fx_aload_n dX3_load_36 rfl rfl ?_
          refine fx_get dX3_load_37 kX3_244 (a0 hq) rfl ?_
          rw [pF_o (show 28 + 2 * j ≠ 1 by omega), e2]
          refine fx_icmp_ge (tgt := 87) dX3_load_40 (by decide) rC_l (fun hc40 => ?_) (fun hc40 => ?_)
          · refine fx_iload_n dX3_load_87 rfl rfl ?_
            exact fx_ireq dX3_load_88 rfl rfl rfl rfl
          · exact absurd (nI_le (by omega) (by omega)) hc40
        | succ k ih =>
          intro i V hi
          have e4i := e4 i (by omega)
          have hIV := jI_p (F := F) (N := N) (G := G) (w := 1) (V := V) (n := n) (h := G4 1 0) (t := t)
          by_cases c1 : i < n
          · cases c2 : jwi (G4 13 (40 * j + i)) (nI 0) (nI 11)
            · have q : ¬ (i < n ∧ jwi (G4 13 (40 * j + i)) (nI 0) (nI 11) = true) := fun z => by rw [c2] at z; exact absurd z.2 (by decide)
              rw [jld_1, jlv_1, if_neg q, if_neg q]
              refine fx_iload_n dX3_load_35 rfl rfl ?_
              refine fx_aload_n dX3_load_36 rfl rfl ?_
              refine fx_get dX3_load_37 kX3_244 (a0 hq) rfl ?_
              rw [pF_o (show 28 + 2 * j ≠ 1 by omega), e2]
              refine fx_icmp_ge (tgt := 87) dX3_load_40 (by decide) rC_l (fun hc40 => ?_) (fun hc40 => ?_)
              · exact absurd hc40 (nI_ge (by omega) (by omega))
              · refine fx_iload_n dX3_load_43 rfl rfl ?_
                refine fx_aload_n dX3_load_44 rfl rfl ?_
                refine fx_get dX3_load_45 kX3_10 rfl rfl ?_
                refine fx_get dX3_load_48 kX3_84 rfl rfl ?_
                rw [jI_5 hIV]
                refine fx_icmp_ge (tgt := 87) dX3_load_51 (by decide) rC_l (fun hc51 => ?_) (fun hc51 => ?_)
                · exact absurd hc51 (nI_ge (by omega) (by omega))
                · refine fx_aload_n dX3_load_54 rfl rfl ?_
                  refine fx_get dX3_load_55 kX3_257 (a0 hq) rfl ?_
                  refine fx_iload_n dX3_load_58 rfl rfl ?_
                  refine fx_iald dX3_load_59 (a0_1 hq) (vp_in_nI (by omega) (by decide)) ?_
                  rw [nI_clamp (by omega), pG_o (by omega), e4i]
                  refine fx_callSv dX3_load_60 sX3_isNote lX3_266 (by decide) (Nat.le_of_ble_eq_true rfl) eX3_isNote rfl ?_
                  rw [c2]
                  refine fx_if_eq (tgt := 87) dX3_load_63 (by decide) rC_l (fun hc63 => ?_) (fun hc63 => ?_)
                  · refine fx_iload_n dX3_load_87 rfl rfl ?_
                    exact fx_ireq dX3_load_88 rfl rfl rfl rfl
                  · exact absurd rfl hc63
            · have ih1 := ih (i + 1) (upd V (146 + 5 * i + 2) (G4 13 (40 * j + i))) (by omega)
              rw [jld_1, jlv_1, if_pos ⟨c1, c2⟩, if_pos ⟨c1, c2⟩]
              have eW : rC (pF F 1 V n (G4 1 0)) (pN N 1 V t) (ga (pG G 1 V) 6 (upd (pG G 1 V 6) i (G4 13 (40 * j + i)))) = jC F N G 1 (upd V (146 + 5 * i + 2) (G4 13 (40 * j + i))) n (G4 1 0) t := j_can (jI_w2 jI_p (by omega)) (jFr_g (j := 5) jFr_p (by decide))
              refine fx_iload_n dX3_load_35 rfl rfl ?_
              refine fx_aload_n dX3_load_36 rfl rfl ?_
              refine fx_get dX3_load_37 kX3_244 (a0 hq) rfl ?_
              rw [pF_o (show 28 + 2 * j ≠ 1 by omega), e2]
              refine fx_icmp_ge (tgt := 87) dX3_load_40 (by decide) rC_l (fun hc40 => ?_) (fun hc40 => ?_)
              · exact absurd hc40 (nI_ge (by omega) (by omega))
              · refine fx_iload_n dX3_load_43 rfl rfl ?_
                refine fx_aload_n dX3_load_44 rfl rfl ?_
                refine fx_get dX3_load_45 kX3_10 rfl rfl ?_
                refine fx_get dX3_load_48 kX3_84 rfl rfl ?_
                rw [jI_5 hIV]
                refine fx_icmp_ge (tgt := 87) dX3_load_51 (by decide) rC_l (fun hc51 => ?_) (fun hc51 => ?_)
                · exact absurd hc51 (nI_ge (by omega) (by omega))
                · refine fx_aload_n dX3_load_54 rfl rfl ?_
                  refine fx_get dX3_load_55 kX3_257 (a0 hq) rfl ?_
                  refine fx_iload_n dX3_load_58 rfl rfl ?_
                  refine fx_iald dX3_load_59 (a0_1 hq) (vp_in_nI (by omega) (by decide)) ?_
                  rw [nI_clamp (by omega), pG_o (by omega), e4i]
                  refine fx_callSv dX3_load_60 sX3_isNote lX3_266 (by decide) (Nat.le_of_ble_eq_true rfl) eX3_isNote rfl ?_
                  rw [c2]
                  refine fx_if_eq (tgt := 87) dX3_load_63 (by decide) rC_l (fun hc63 => ?_) (fun hc63 => ?_)
                  · exact absurd hc63 (by decide)
                  · refine fx_aload_n dX3_load_66 rfl rfl ?_
                    refine fx_get dX3_load_67 kX3_10 rfl rfl ?_
                    refine fx_get dX3_load_70 kX3_269 rfl rfl ?_
                    refine fx_iload_n dX3_load_73 rfl rfl ?_
                    refine fx_aload_n dX3_load_74 rfl rfl ?_
                    refine fx_get dX3_load_75 kX3_257 (a0 hq) rfl ?_
                    refine fx_iload_n dX3_load_78 rfl rfl ?_
                    refine fx_iald dX3_load_79 (a0_1 hq) (vp_in_nI (by omega) (by decide)) ?_
                    rw [nI_clamp (by omega), pG_o (show 28 + 2 * j + 1 ≤ 1 ∨ 1 + 7 < 28 + 2 * j + 1 by omega), e4i]
                    refine fx_iast dX3_load_80 rfl (vp_in_nI (by omega) (by decide)) wa_6 ?_
                    rw [nI_clamp (by omega), eW]
                    refine fs_iinc_3 (w := nI 1) dX3_load_81 (by decide) rfl (by decide) ?_
                    refine fx_goto (tgt := 35) dX3_load_84 (by decide) ?_
                    rw [nI_add]
                    exact ih1
          · have q : ¬ (i < n ∧ jwi (G4 13 (40 * j + i)) (nI 0) (nI 11) = true) := fun z => c1 z.1
            rw [jld_1, jlv_1, if_neg q, if_neg q]
            refine fx_iload_n dX3_load_35 rfl rfl ?_
            refine fx_aload_n dX3_load_36 rfl rfl ?_
            refine fx_get dX3_load_37 kX3_244 (a0 hq) rfl ?_
            rw [pF_o (show 28 + 2 * j ≠ 1 by omega), e2]
            refine fx_icmp_ge (tgt := 87) dX3_load_40 (by decide) rC_l (fun hc40 => ?_) (fun hc40 => ?_)
            · exact absurd hc40 (nI_ge (by omega) (by omega))
            · refine fx_iload_n dX3_load_43 rfl rfl ?_
              refine fx_aload_n dX3_load_44 rfl rfl ?_
              refine fx_get dX3_load_45 kX3_10 rfl rfl ?_
              refine fx_get dX3_load_48 kX3_84 rfl rfl ?_
              rw [jI_5 hIV]
              refine fx_icmp_ge (tgt := 87) dX3_load_51 (by decide) rC_l (fun hc51 => ?_) (fun hc51 => ?_)
              · refine fx_iload_n dX3_load_87 rfl rfl ?_
                exact fx_ireq dX3_load_88 rfl rfl rfl rfl
              · exact absurd (nI_le (by omega) (by omega)) hc51
      have H0 := H (jsz G4 j) 0 (G4 1) (by omega)
      rw [show jC F N G 1 (G4 1) n (G4 1 0) t = rC F N G from (j_can hI jFr_r).symm] at H0
      refine ⟨_, _, _, _, _, _, e5, ?_, jR_w (t := t) R0 (jW_lv _ _ _ hW) (fun s hs => by rw [jlv_o (by omega)]; exact hSp s hs) (by obtain ⟨t0, h1, h2⟩ := hH; exact ⟨t0, h1, by rw [jlv_o (by omega)]; exact h2⟩) ht (by rw [jlv_o (by omega)]) (fun _ _ => rfl)⟩
      refine mx_of (L := [some (.ref 0), some (.int (nI j)), none, none]) (by decide) (fun _ => rfl) (fun _ => Nat.le_of_ble_eq_true rfl) ?_
      refine fx_iload_n dX3_load_0 rfl rfl ?_
      refine fx_callSv dX3_load_1 sX3_isSheet lX3_237 (by decide) (Nat.le_of_ble_eq_true rfl) eX3_isSheet rfl ?_
      refine fx_if_ne (tgt := 13) dX3_load_4 (by decide) rC_l (fun hc4 => ?_) (fun hc4 => ?_)
      · refine fx_aload_n dX3_load_13 rfl rfl ?_
        refine fx_get dX3_load_14 kX3_35 rfl rfl ?_
        refine fx_iload_n dX3_load_17 rfl rfl ?_
        refine fx_aald dX3_load_18 rfl (Or.inl rfl) (vp_in_nI (by omega) (by decide)) (rC_se (by omega)) ?_
        refine fs_astore_n_2 dX3_load_19 rfl (by decide) ?_
        refine fx_aload_n dX3_load_20 rfl rfl ?_
        refine fx_callVv dX3_load_21 vX0_isMissing lX3_245 (by decide) (a0 hq) (Nat.le_of_ble_eq_true rfl) (eX0_isMissing hq) rfl ?_
        rw [e1, decide_eq_false h0]
        refine fx_if_eq (tgt := 33) dX3_load_24 (by decide) rC_l (fun hc24 => ?_) (fun hc24 => ?_)
        · refine fx_iconst (v := nI 0) dX3_load_33 (by decide) ?_
          refine fs_istore_n_3 dX3_load_34 rfl (by decide) ?_
          exact H0
        · exact absurd rfl hc24
      · exact absurd (nI_eq0' hc4) ha
theorem P_judge (R : jR F4 G4 F N G) (s : Int32) : jP mX4_judge mX3_judge [.int s] F4 G4 F N G := by
  have r := R.2.2.2.2
  have hS := r.2.2.2.1
  by_cases ha : jwi s (nI 0) (nI 3) = false
  · refine ⟨_, _, _, _, _, _, eX4_judge_n (jlk_0 ha), ?_, jR_f R (by decide)⟩
    refine mx_of (L := [some (.ref 0), some (.int s), none, none, none]) (by decide) (fun _ => rfl) (fun _ => Nat.le_of_ble_eq_true rfl) ?_
    refine fx_iload_n dX3_judge_0 rfl rfl ?_
    refine fx_callSv dX3_judge_1 sX3_isSheet lX3_237 (by decide) (Nat.le_of_ble_eq_true rfl) eX3_isSheet rfl ?_
    refine fx_if_ne (tgt := 13) dX3_judge_4 (by decide) rC_l (fun hc4 => ?_) (fun hc4 => ?_)
    · exact jtf ha (nI_ne0' hc4)
    · refine fx_aload_n dX3_judge_7 rfl rfl ?_
      refine fx_iconst (v := nI 0) dX3_judge_8 (by decide) ?_
      refine fx_callVv dX3_judge_9 vX3_finding lX3_51 (by decide) rfl (Nat.le_of_ble_eq_true rfl) (eX3_finding (k := 0) (by decide)) rfl ?_
      exact fx_ireq dX3_judge_12 rfl rfl rfl rfl
  · obtain ⟨j, hj, rfl⟩ := jwi_of (k := 3) (by decide) (jbt_t ha)
    have hj4 : j < 4 := by omega
    obtain ⟨e1, e2, e3, e4⟩ := jR_sh r hj4
    have hq := zqj hj4
    by_cases h0 : G4 11 j = 0
    · refine ⟨_, _, _, _, _, _, eX4_judge_n (k := 5) (by rw [jlk_j hj, if_pos h0]), ?_, jR_f R (by decide)⟩
      refine mx_of (L := [some (.ref 0), some (.int (nI j)), none, none, none]) (by decide) (fun _ => rfl) (fun _ => Nat.le_of_ble_eq_true rfl) ?_
      refine fx_iload_n dX3_judge_0 rfl rfl ?_
      refine fx_callSv dX3_judge_1 sX3_isSheet lX3_237 (by decide) (Nat.le_of_ble_eq_true rfl) eX3_isSheet rfl ?_
      refine fx_if_ne (tgt := 13) dX3_judge_4 (by decide) rC_l (fun hc4 => ?_) (fun hc4 => ?_)
      · refine fx_aload_n dX3_judge_13 rfl rfl ?_
        refine fx_get dX3_judge_14 kX3_35 rfl rfl ?_
        refine fx_iload_n dX3_judge_17 rfl rfl ?_
        refine fx_aald dX3_judge_18 rfl (Or.inl rfl) (vp_in_nI (by omega) (by decide)) (rC_se (by omega)) ?_
        refine fs_astore_n_2 dX3_judge_19 rfl (by decide) ?_
        refine fx_aload_n dX3_judge_20 rfl rfl ?_
        refine fx_callVv dX3_judge_21 vX0_isMissing lX3_245 (by decide) (a0 hq) (Nat.le_of_ble_eq_true rfl) (eX0_isMissing hq) rfl ?_
        rw [e1, decide_eq_true h0]
        refine fx_if_eq (tgt := 33) dX3_judge_24 (by decide) rC_l (fun hc24 => ?_) (fun hc24 => ?_)
        · exact absurd hc24 (by decide)
        · refine fx_aload_n dX3_judge_27 rfl rfl ?_
          refine fx_iconst (v := nI 5) dX3_judge_28 (by decide) ?_
          refine fx_callVv dX3_judge_29 vX3_finding lX3_51 (by decide) rfl (Nat.le_of_ble_eq_true rfl) (eX3_finding (k := 5) (by decide)) rfl ?_
          exact fx_ireq dX3_judge_32 rfl rfl rfl rfl
      · exact absurd (nI_eq0' hc4) ha
    · have R0 := R
      obtain ⟨⟨n, t, hW, hSp, hH, ht, hI⟩, -⟩ := R
      have hn8 := hW.2.1
      have e5 := eX4_judge_y (F := F4) hS hW hj (by rw [jlk_j hj, if_neg h0])
      refine ⟨_, _, _, _, _, _, e5, ?_, R0⟩
      have H : ∀ (k i : Nat) (last : Int32) (l4 : Option Value), i + k = jsz G4 j → (i = 0 ∨ ∃ b, b < n ∧ G4 13 (40 * j + (i - 1)) = nI b ∧ last = G4 1 (146 + 5 * b + 2)) → Fx mX3_judge (some (.int (jjg (G4 1) (G4 13) j n i last k)), rC F N G) 35 [some (.ref 0), some (.int (nI j)), some (.ref (28 + 2 * j)), some (.int (nI i)), l4] [] (rC F N G) := by
        intro k
        induction k with
        | zero =>
          intro i last l4 hi hb
          refine fx_iload_n dX3_judge_35 rfl rfl ?_
          refine fx_aload_n dX3_judge_36 rfl rfl ?_
          refine fx_get dX3_judge_37 kX3_244 (a0 hq) rfl ?_
          rw [e2]
          refine fx_icmp_ge (tgt := 94) dX3_judge_40 (by decide) rC_l (fun hc40 => ?_) (fun hc40 => ?_)
          · refine fx_iconst (v := nI 0) dX3_judge_94 (by decide) ?_
            exact fx_ireq dX3_judge_95 rfl rfl rfl rfl
          · exact absurd (nI_le (by omega) (by omega)) hc40
        | succ k ih =>
          intro i last l4 hi hb
          have e4i := e4 i (by omega)
          cases c1 : jwi (G4 13 (40 * j + i)) (nI 0) (nI n - nI 1)
          · rw [jjg_1, if_neg (fun z => by rw [c1] at z; exact absurd z.1 (by decide))]
            refine fx_iload_n dX3_judge_35 rfl rfl ?_
            refine fx_aload_n dX3_judge_36 rfl rfl ?_
            refine fx_get dX3_judge_37 kX3_244 (a0 hq) rfl ?_
            rw [e2]
            refine fx_icmp_ge (tgt := 94) dX3_judge_40 (by decide) rC_l (fun hc40 => ?_) (fun hc40 => ?_)
            · exact absurd hc40 (nI_ge (by omega) (by omega))
            · refine fx_aload_n dX3_judge_43 rfl rfl ?_
              refine fx_get dX3_judge_44 kX3_257 (a0 hq) rfl ?_
              refine fx_iload_n dX3_judge_47 rfl rfl ?_
              refine fx_iald dX3_judge_48 (a0_1 hq) (vp_in_nI (by omega) (by decide)) ?_
              rw [nI_clamp (by omega), e4i]
              refine fs_istore_4 dX3_judge_49 rfl (by decide) ?_
              refine fx_aload_n dX3_judge_51 rfl rfl ?_
              refine fx_iload dX3_judge_52 rfl ?_
              refine fx_callVv dX3_judge_54 vX3_isBell lX3_91 (by decide) rfl (Nat.le_of_ble_eq_true rfl) (eX3_isBell hI hn8) rfl ?_
              rw [c1]
              refine fx_if_eq (tgt := 84) dX3_judge_57 (by decide) rC_l (fun hc57 => ?_) (fun hc57 => ?_)
              · refine fx_iconst (v := nI 1) dX3_judge_84 (by decide) ?_
                refine fx_iload_n dX3_judge_85 rfl rfl ?_
                refine fx_iadd dX3_judge_86 ?_
                rw [nI_add]
                exact fx_ireq dX3_judge_87 rfl rfl rfl rfl
              · exact absurd rfl hc57
          · obtain ⟨b, hbn, eb⟩ := jbell_of hn8 c1
            rw [jjg_1, c1, eb, nI_clamp (by omega)]
            have ih1 := fun l4 => ih (i + 1) (G4 1 (146 + 5 * b + 2)) l4 (by omega) (Or.inr ⟨b, hbn, by rw [Nat.add_sub_cancel]; exact eb, rfl⟩)
            by_cases hi0 : i = 0
            · rw [if_pos ⟨rfl, Or.inl hi0⟩]
              refine fx_iload_n dX3_judge_35 rfl rfl ?_
              refine fx_aload_n dX3_judge_36 rfl rfl ?_
              refine fx_get dX3_judge_37 kX3_244 (a0 hq) rfl ?_
              rw [e2]
              refine fx_icmp_ge (tgt := 94) dX3_judge_40 (by decide) rC_l (fun hc40 => ?_) (fun hc40 => ?_)
              · exact absurd hc40 (nI_ge (by omega) (by omega))
              · refine fx_aload_n dX3_judge_43 rfl rfl ?_
                refine fx_get dX3_judge_44 kX3_257 (a0 hq) rfl ?_
                refine fx_iload_n dX3_judge_47 rfl rfl ?_
                refine fx_iald dX3_judge_48 (a0_1 hq) (vp_in_nI (by omega) (by decide)) ?_
                rw [nI_clamp (by omega), e4i, eb]
                refine fs_istore_4 dX3_judge_49 rfl (by decide) ?_
                refine fx_aload_n dX3_judge_51 rfl rfl ?_
                refine fx_iload dX3_judge_52 rfl ?_
                refine fx_callVv dX3_judge_54 vX3_isBell lX3_91 (by decide) rfl (Nat.le_of_ble_eq_true rfl) (eX3_isBell hI hn8) rfl ?_
                rw [jbell_y hbn hn8]
                refine fx_if_eq (tgt := 84) dX3_judge_57 (by decide) rC_l (fun hc57 => ?_) (fun hc57 => ?_)
                · exact absurd hc57 (by decide)
                · refine fx_iload_n dX3_judge_60 rfl rfl ?_
                  refine fx_if_le (tgt := 88) dX3_judge_61 (by decide) rC_l (fun hc61 => ?_) (fun hc61 => ?_)
                  · refine fs_iinc_3 (w := nI 1) dX3_judge_88 (by decide) rfl (by decide) ?_
                    refine fx_goto (tgt := 35) dX3_judge_91 (by decide) ?_
                    rw [nI_add]
                    exact ih1 _
                  · exact absurd (by rw [hi0]; decide) hc61
            · obtain ⟨b', hb', eb', elast⟩ := hb.resolve_left hi0
              have e4p := e4 (i - 1) (by omega)
              rw [eb'] at e4p
              have eF := eX2_followsInRing (F := F) (N := N) (G := G) zw1 hI hn8 hb' hbn
              rw [← elast] at eF
              cases c2 : jwi (G4 1 (146 + 5 * b + 2) - last) (nI 1) (nI 2)
              · rw [if_neg (fun z => z.2.elim hi0 (fun z => absurd z (by decide)))]
                rw [c2] at eF
                refine fx_iload_n dX3_judge_35 rfl rfl ?_
                refine fx_aload_n dX3_judge_36 rfl rfl ?_
                refine fx_get dX3_judge_37 kX3_244 (a0 hq) rfl ?_
                rw [e2]
                refine fx_icmp_ge (tgt := 94) dX3_judge_40 (by decide) rC_l (fun hc40 => ?_) (fun hc40 => ?_)
                · exact absurd hc40 (nI_ge (by omega) (by omega))
                · refine fx_aload_n dX3_judge_43 rfl rfl ?_
                  refine fx_get dX3_judge_44 kX3_257 (a0 hq) rfl ?_
                  refine fx_iload_n dX3_judge_47 rfl rfl ?_
                  refine fx_iald dX3_judge_48 (a0_1 hq) (vp_in_nI (by omega) (by decide)) ?_
                  rw [nI_clamp (by omega), e4i, eb]
                  refine fs_istore_4 dX3_judge_49 rfl (by decide) ?_
                  refine fx_aload_n dX3_judge_51 rfl rfl ?_
                  refine fx_iload dX3_judge_52 rfl ?_
                  refine fx_callVv dX3_judge_54 vX3_isBell lX3_91 (by decide) rfl (Nat.le_of_ble_eq_true rfl) (eX3_isBell hI hn8) rfl ?_
                  rw [jbell_y hbn hn8]
                  refine fx_if_eq (tgt := 84) dX3_judge_57 (by decide) rC_l (fun hc57 => ?_) (fun hc57 => ?_)
                  · exact absurd hc57 (by decide)
                  · refine fx_iload_n dX3_judge_60 rfl rfl ?_
                    refine fx_if_le (tgt := 88) dX3_judge_61 (by decide) rC_l (fun hc61 => ?_) (fun hc61 => ?_)
                    · exact absurd (nI_lt (Nat.pos_of_ne_zero hi0) (by omega)) (by rw [nI_0]; exact Int32.not_lt.mpr hc61)
                    · refine fx_aload_n dX3_judge_64 rfl rfl ?_
                      refine fx_get dX3_judge_65 kX3_10 rfl rfl ?_
                      refine fx_aload_n dX3_judge_68 rfl rfl ?_
                      refine fx_get dX3_judge_69 kX3_257 (a0 hq) rfl ?_
                      refine fx_iload_n dX3_judge_72 rfl rfl ?_
                      refine fx_iconst (v := nI 1) dX3_judge_73 (by decide) ?_
                      refine fx_isub dX3_judge_74 ?_
                      rw [pk_sub (by omega)]
                      refine fx_iald dX3_judge_75 (a0_1 hq) (vp_in_nI (by omega) (by decide)) ?_
                      rw [nI_clamp (by omega), e4p]
                      refine fx_iload dX3_judge_76 rfl ?_
                      refine fx_callVv dX3_judge_78 vX2_followsInRing lX3_272 (by decide) rfl (Nat.le_of_ble_eq_true rfl) eF rfl ?_
                      refine fx_if_ne (tgt := 88) dX3_judge_81 (by decide) rC_l (fun hc81 => ?_) (fun hc81 => ?_)
                      · exact absurd rfl hc81
                      · refine fx_iconst (v := nI 1) dX3_judge_84 (by decide) ?_
                        refine fx_iload_n dX3_judge_85 rfl rfl ?_
                        refine fx_iadd dX3_judge_86 ?_
                        rw [nI_add]
                        exact fx_ireq dX3_judge_87 rfl rfl rfl rfl
              · rw [if_pos ⟨rfl, Or.inr rfl⟩]
                rw [c2] at eF
                refine fx_iload_n dX3_judge_35 rfl rfl ?_
                refine fx_aload_n dX3_judge_36 rfl rfl ?_
                refine fx_get dX3_judge_37 kX3_244 (a0 hq) rfl ?_
                rw [e2]
                refine fx_icmp_ge (tgt := 94) dX3_judge_40 (by decide) rC_l (fun hc40 => ?_) (fun hc40 => ?_)
                · exact absurd hc40 (nI_ge (by omega) (by omega))
                · refine fx_aload_n dX3_judge_43 rfl rfl ?_
                  refine fx_get dX3_judge_44 kX3_257 (a0 hq) rfl ?_
                  refine fx_iload_n dX3_judge_47 rfl rfl ?_
                  refine fx_iald dX3_judge_48 (a0_1 hq) (vp_in_nI (by omega) (by decide)) ?_
                  rw [nI_clamp (by omega), e4i, eb]
                  refine fs_istore_4 dX3_judge_49 rfl (by decide) ?_
                  refine fx_aload_n dX3_judge_51 rfl rfl ?_
                  refine fx_iload dX3_judge_52 rfl ?_
                  refine fx_callVv dX3_judge_54 vX3_isBell lX3_91 (by decide) rfl (Nat.le_of_ble_eq_true rfl) (eX3_isBell hI hn8) rfl ?_
                  rw [jbell_y hbn hn8]
                  refine fx_if_eq (tgt := 84) dX3_judge_57 (by decide) rC_l (fun hc57 => ?_) (fun hc57 => ?_)
                  · exact absurd hc57 (by decide)
                  · refine fx_iload_n dX3_judge_60 rfl rfl ?_
                    refine fx_if_le (tgt := 88) dX3_judge_61 (by decide) rC_l (fun hc61 => ?_) (fun hc61 => ?_)
                    · exact absurd (nI_lt (Nat.pos_of_ne_zero hi0) (by omega)) (by rw [nI_0]; exact Int32.not_lt.mpr hc61)
                    · refine fx_aload_n dX3_judge_64 rfl rfl ?_
                      refine fx_get dX3_judge_65 kX3_10 rfl rfl ?_
                      refine fx_aload_n dX3_judge_68 rfl rfl ?_
                      refine fx_get dX3_judge_69 kX3_257 (a0 hq) rfl ?_
                      refine fx_iload_n dX3_judge_72 rfl rfl ?_
                      refine fx_iconst (v := nI 1) dX3_judge_73 (by decide) ?_
                      refine fx_isub dX3_judge_74 ?_
                      rw [pk_sub (by omega)]
                      refine fx_iald dX3_judge_75 (a0_1 hq) (vp_in_nI (by omega) (by decide)) ?_
                      rw [nI_clamp (by omega), e4p]
                      refine fx_iload dX3_judge_76 rfl ?_
                      refine fx_callVv dX3_judge_78 vX2_followsInRing lX3_272 (by decide) rfl (Nat.le_of_ble_eq_true rfl) eF rfl ?_
                      refine fx_if_ne (tgt := 88) dX3_judge_81 (by decide) rC_l (fun hc81 => ?_) (fun hc81 => ?_)
                      · refine fs_iinc_3 (w := nI 1) dX3_judge_88 (by decide) rfl (by decide) ?_
                        refine fx_goto (tgt := 35) dX3_judge_91 (by decide) ?_
                        rw [nI_add]
                        exact ih1 _
                      · exact absurd hc81 (by decide)
      have H0 := H (jsz G4 j) 0 (-1) none (by omega) (Or.inl rfl)
      refine mx_of (L := [some (.ref 0), some (.int (nI j)), none, none, none]) (by decide) (fun _ => rfl) (fun _ => Nat.le_of_ble_eq_true rfl) ?_
      refine fx_iload_n dX3_judge_0 rfl rfl ?_
      refine fx_callSv dX3_judge_1 sX3_isSheet lX3_237 (by decide) (Nat.le_of_ble_eq_true rfl) eX3_isSheet rfl ?_
      refine fx_if_ne (tgt := 13) dX3_judge_4 (by decide) rC_l (fun hc4 => ?_) (fun hc4 => ?_)
      · refine fx_aload_n dX3_judge_13 rfl rfl ?_
        refine fx_get dX3_judge_14 kX3_35 rfl rfl ?_
        refine fx_iload_n dX3_judge_17 rfl rfl ?_
        refine fx_aald dX3_judge_18 rfl (Or.inl rfl) (vp_in_nI (by omega) (by decide)) (rC_se (by omega)) ?_
        refine fs_astore_n_2 dX3_judge_19 rfl (by decide) ?_
        refine fx_aload_n dX3_judge_20 rfl rfl ?_
        refine fx_callVv dX3_judge_21 vX0_isMissing lX3_245 (by decide) (a0 hq) (Nat.le_of_ble_eq_true rfl) (eX0_isMissing hq) rfl ?_
        rw [e1, decide_eq_false h0]
        refine fx_if_eq (tgt := 33) dX3_judge_24 (by decide) rC_l (fun hc24 => ?_) (fun hc24 => ?_)
        · refine fx_iconst (v := nI 0) dX3_judge_33 (by decide) ?_
          refine fs_istore_n_3 dX3_judge_34 rfl (by decide) ?_
          exact H0
        · exact absurd rfl hc24
      · exact absurd (nI_eq0' hc4) ha
theorem eX3_lasts_n {a b : Int32} (h : jwi a (nI 0) (nI 9999) = false ∨ jwi b (nI 1) (nI 99) = false) : Mx mX3_lasts [.ref 0, .int a, .int b] (rC F N G) (some (.int (jfd 0))) (rC F N (ga G 36 (jf1 (G 36) 0))) := by
  refine mx_of (L := [some (.ref 0), some (.int a), some (.int b), none, none, none, none]) (by decide) (fun _ => rfl) (fun _ => Nat.le_of_ble_eq_true rfl) ?_
  refine fx_iload_n dX3_lasts_0 rfl rfl ?_
  refine fx_callSv dX3_lasts_1 sX3_isStock lX3_192 (by decide) (Nat.le_of_ble_eq_true rfl) eX3_isStock rfl ?_
  refine fx_if_eq (tgt := 18) dX3_lasts_4 (by decide) rC_l (fun hc4 => ?_) (fun hc4 => ?_)
  · refine fx_aload_n dX3_lasts_18 rfl rfl ?_
    refine fx_iconst (v := nI 0) dX3_lasts_19 (by decide) ?_
    refine fx_callVv dX3_lasts_20 vX3_finding lX3_51 (by decide) rfl (Nat.le_of_ble_eq_true rfl) (eX3_finding (k := 0) (by decide)) rfl ?_
    exact fx_ireq dX3_lasts_23 rfl rfl rfl rfl
  · refine fx_iload_n dX3_lasts_7 rfl rfl ?_
    refine fx_iconst (v := nI 1) dX3_lasts_8 (by decide) ?_
    refine fx_icmp_lt (tgt := 18) dX3_lasts_9 (by decide) rC_l (fun hc9 => ?_) (fun hc9 => ?_)
    · refine fx_aload_n dX3_lasts_18 rfl rfl ?_
      refine fx_iconst (v := nI 0) dX3_lasts_19 (by decide) ?_
      refine fx_callVv dX3_lasts_20 vX3_finding lX3_51 (by decide) rfl (Nat.le_of_ble_eq_true rfl) (eX3_finding (k := 0) (by decide)) rfl ?_
      exact fx_ireq dX3_lasts_23 rfl rfl rfl rfl
    · refine fx_iload_n dX3_lasts_12 rfl rfl ?_
      refine fx_bipush (v := nI 99) dX3_lasts_13 (by decide) ?_
      refine fx_icmp_le (tgt := 24) dX3_lasts_15 (by decide) rC_l (fun hc15 => ?_) (fun hc15 => ?_)
      · exact h.elim (fun q => jtf q (nI_ne0' hc4)) (fun q => jtf q (jwi_in hc9 (Int32.not_lt.mpr hc15)))
      · refine fx_aload_n dX3_lasts_18 rfl rfl ?_
        refine fx_iconst (v := nI 0) dX3_lasts_19 (by decide) ?_
        refine fx_callVv dX3_lasts_20 vX3_finding lX3_51 (by decide) rfl (Nat.le_of_ble_eq_true rfl) (eX3_finding (k := 0) (by decide)) rfl ?_
        exact fx_ireq dX3_lasts_23 rfl rfl rfl rfl
theorem P_lasts (R : jR F4 G4 F N G) (a b : Int32) : jP mX4_lasts mX3_lasts [.int a, .int b] F4 G4 F N G := by
  by_cases h : jwi a (nI 0) (nI 9999) = false ∨ jwi b (nI 1) (nI 99) = false
  · exact ⟨_, _, _, _, _, _, eX4_lasts_n h, eX3_lasts_n h, jR_f R (by decide)⟩
  · obtain ⟨m, hm, rfl⟩ := jwi_of (k := 9999) (by decide) (jbt_t (fun q => h (Or.inl q)))
    have hb := jbt_t (fun q => h (Or.inr q))
    obtain ⟨y, hy1, hy2, rfl⟩ := jwi1_of (k := 99) (by decide) hb
    refine ⟨_, _, _, _, _, _, eX4_lasts_y hm hb hy2, ?_, R⟩
    have hL := jls_le m y 999
    have h1 := fun (c : Nat) (q : m ≤ jstk m c y) (hc : c ≤ 999) => jls_ge q 999 hc
    have h2 := fun (c : Nat) (q : jstk m c y < m) => jls_lt hm q 999
    generalize jls m y 999 = L at *
    have hsl := fun c => jstk_le (c := c) hm y
    have H : ∀ (k step : Nat), step + k = 999 → ∀ (l t : Nat) (l6 : Option Value), l ≤ L → L < t → t ≤ 1000 → t ≤ l + 1 + k → Fx mX3_lasts (some (.int (nI L)), rC F N G) 34 [some (.ref 0), some (.int (nI m)), some (.int (nI y)), some (.int (nI l)), some (.int (nI t)), some (.int (nI step)), l6] [] (rC F N G) := by
      intro k
      induction k with
      | zero =>
        intro step hs l t l6 c1 c2 c3 c4
        have hs' : step = 999 := by omega
        subst hs'
        obtain rfl : l = L := by omega
        refine fx_iload dX3_lasts_34 rfl ?_
        refine fx_sipush (v := nI 999) dX3_lasts_36 (by decide) ?_
        refine fx_icmp_ge (tgt := 85) dX3_lasts_39 (by decide) rC_l (fun hc39 => ?_) (fun hc39 => ?_)
        · refine fx_iload_n dX3_lasts_85 rfl rfl ?_
          exact fx_ireq dX3_lasts_86 rfl rfl rfl rfl
        · exact absurd (Int32.le_refl _) hc39
      | succ k ih =>
        intro step hs l t l6 c1 c2 c3 c4
        by_cases ht : t - l ≤ 1
        · obtain rfl : l = L := by omega
          refine fx_iload dX3_lasts_34 rfl ?_
          refine fx_sipush (v := nI 999) dX3_lasts_36 (by decide) ?_
          refine fx_icmp_ge (tgt := 85) dX3_lasts_39 (by decide) rC_l (fun hc39 => ?_) (fun hc39 => ?_)
          · exact absurd hc39 (nI_ge (by omega) (by omega))
          · refine fx_iload dX3_lasts_42 rfl ?_
            refine fx_iload_n dX3_lasts_44 rfl rfl ?_
            refine fx_isub dX3_lasts_45 ?_
            rw [pk_sub (by omega)]
            refine fx_iconst (v := nI 1) dX3_lasts_46 (by decide) ?_
            refine fx_icmp_le (tgt := 85) dX3_lasts_47 (by decide) rC_l (fun hc47 => ?_) (fun hc47 => ?_)
            · refine fx_iload_n dX3_lasts_85 rfl rfl ?_
              exact fx_ireq dX3_lasts_86 rfl rfl rfl rfl
            · exact absurd (nI_le ht (by decide)) hc47
        · have eS := eX3_stockBehind (h := rC F N G) hm (show (l + t) / 2 ≤ 999 by omega) hy2
          have hsm := hsl ((l + t) / 2)
          by_cases hg : m ≤ jstk m ((l + t) / 2) y
          · have := h1 _ hg (by omega)
            have ih1 := ih (step + 1) (by omega) ((l + t) / 2) t (some (.int (nI ((l + t) / 2)))) this c2 c3 (by omega)
            refine fx_iload dX3_lasts_34 rfl ?_
            refine fx_sipush (v := nI 999) dX3_lasts_36 (by decide) ?_
            refine fx_icmp_ge (tgt := 85) dX3_lasts_39 (by decide) rC_l (fun hc39 => ?_) (fun hc39 => ?_)
            · exact absurd hc39 (nI_ge (by omega) (by omega))
            · refine fx_iload dX3_lasts_42 rfl ?_
              refine fx_iload_n dX3_lasts_44 rfl rfl ?_
              refine fx_isub dX3_lasts_45 ?_
              rw [pk_sub (by omega)]
              refine fx_iconst (v := nI 1) dX3_lasts_46 (by decide) ?_
              refine fx_icmp_le (tgt := 85) dX3_lasts_47 (by decide) rC_l (fun hc47 => ?_) (fun hc47 => ?_)
              · exact absurd hc47 (nI_ge (by omega) (by omega))
              · refine fx_iload_n dX3_lasts_50 rfl rfl ?_
                refine fx_iload dX3_lasts_51 rfl ?_
                refine fx_iadd dX3_lasts_53 ?_
                rw [nI_add]
                refine fx_iconst (v := nI 2) dX3_lasts_54 (by decide) ?_
                refine fx_idiv dX3_lasts_55 (by decide) ?_
                rw [pk_div (by omega) (by decide) (by decide)]
                refine fs_istore_6 dX3_lasts_56 rfl (by decide) ?_
                refine fx_iload_n dX3_lasts_58 rfl rfl ?_
                refine fx_iload dX3_lasts_59 rfl ?_
                refine fx_iload_n dX3_lasts_61 rfl rfl ?_
                refine fx_callSv dX3_lasts_62 sX3_stockBehind lX3_195 (by decide) (Nat.le_of_ble_eq_true rfl) eS rfl ?_
                refine fx_iload_n dX3_lasts_65 rfl rfl ?_
                refine fx_icmp_lt (tgt := 75) dX3_lasts_66 (by decide) rC_l (fun hc66 => ?_) (fun hc66 => ?_)
                · exact absurd hc66 (nI_nlt hg (by omega))
                · refine fx_iload dX3_lasts_69 rfl ?_
                  refine fs_istore_n_3 dX3_lasts_71 rfl (by decide) ?_
                  refine fx_goto (tgt := 79) dX3_lasts_72 (by decide) ?_
                  refine fs_iinc_5 (w := nI 1) dX3_lasts_79 (by decide) rfl (by decide) ?_
                  refine fx_goto (tgt := 34) dX3_lasts_82 (by decide) ?_
                  rw [nI_add]
                  exact ih1
          · have := h2 _ (Nat.lt_of_not_le hg)
            have ih1 := ih (step + 1) (by omega) l ((l + t) / 2) (some (.int (nI ((l + t) / 2)))) c1 this (by omega) (by omega)
            refine fx_iload dX3_lasts_34 rfl ?_
            refine fx_sipush (v := nI 999) dX3_lasts_36 (by decide) ?_
            refine fx_icmp_ge (tgt := 85) dX3_lasts_39 (by decide) rC_l (fun hc39 => ?_) (fun hc39 => ?_)
            · exact absurd hc39 (nI_ge (by omega) (by omega))
            · refine fx_iload dX3_lasts_42 rfl ?_
              refine fx_iload_n dX3_lasts_44 rfl rfl ?_
              refine fx_isub dX3_lasts_45 ?_
              rw [pk_sub (by omega)]
              refine fx_iconst (v := nI 1) dX3_lasts_46 (by decide) ?_
              refine fx_icmp_le (tgt := 85) dX3_lasts_47 (by decide) rC_l (fun hc47 => ?_) (fun hc47 => ?_)
              · exact absurd hc47 (nI_ge (by omega) (by omega))
              · refine fx_iload_n dX3_lasts_50 rfl rfl ?_
                refine fx_iload dX3_lasts_51 rfl ?_
                refine fx_iadd dX3_lasts_53 ?_
                rw [nI_add]
                refine fx_iconst (v := nI 2) dX3_lasts_54 (by decide) ?_
                refine fx_idiv dX3_lasts_55 (by decide) ?_
                rw [pk_div (by omega) (by decide) (by decide)]
                refine fs_istore_6 dX3_lasts_56 rfl (by decide) ?_
                refine fx_iload_n dX3_lasts_58 rfl rfl ?_
                refine fx_iload dX3_lasts_59 rfl ?_
                refine fx_iload_n dX3_lasts_61 rfl rfl ?_
                refine fx_callSv dX3_lasts_62 sX3_stockBehind lX3_195 (by decide) (Nat.le_of_ble_eq_true rfl) eS rfl ?_
                refine fx_iload_n dX3_lasts_65 rfl rfl ?_
                refine fx_icmp_lt (tgt := 75) dX3_lasts_66 (by decide) rC_l (fun hc66 => ?_) (fun hc66 => ?_)
                · refine fx_iload dX3_lasts_75 rfl ?_
                  refine fs_istore_4 dX3_lasts_77 rfl (by decide) ?_
                  refine fs_iinc_5 (w := nI 1) dX3_lasts_79 (by decide) rfl (by decide) ?_
                  refine fx_goto (tgt := 34) dX3_lasts_82 (by decide) ?_
                  rw [nI_add]
                  exact ih1
                · exact absurd (nI_lt (by omega) (by omega)) hc66
    have H0 := H 999 0 (by omega) 0 1000 none (by omega) (by omega) (by omega) (by omega)
    refine mx_of (L := [some (.ref 0), some (.int (nI m)), some (.int (nI y)), none, none, none, none]) (by decide) (fun _ => rfl) (fun _ => Nat.le_of_ble_eq_true rfl) ?_
    refine fx_iload_n dX3_lasts_0 rfl rfl ?_
    refine fx_callSv dX3_lasts_1 sX3_isStock lX3_192 (by decide) (Nat.le_of_ble_eq_true rfl) eX3_isStock rfl ?_
    rw [jwi_n hm (by decide)]
    refine fx_if_eq (tgt := 18) dX3_lasts_4 (by decide) rC_l (fun hc4 => ?_) (fun hc4 => ?_)
    · exact absurd hc4 (by decide)
    · refine fx_iload_n dX3_lasts_7 rfl rfl ?_
      refine fx_iconst (v := nI 1) dX3_lasts_8 (by decide) ?_
      refine fx_icmp_lt (tgt := 18) dX3_lasts_9 (by decide) rC_l (fun hc9 => ?_) (fun hc9 => ?_)
      · exact absurd hc9 (nI_nlt hy1 (by omega))
      · refine fx_iload_n dX3_lasts_12 rfl rfl ?_
        refine fx_bipush (v := nI 99) dX3_lasts_13 (by decide) ?_
        refine fx_icmp_le (tgt := 24) dX3_lasts_15 (by decide) rC_l (fun hc15 => ?_) (fun hc15 => ?_)
        · refine fx_iconst (v := nI 0) dX3_lasts_24 (by decide) ?_
          refine fs_istore_n_3 dX3_lasts_25 rfl (by decide) ?_
          refine fx_sipush (v := nI 1000) dX3_lasts_26 (by decide) ?_
          refine fs_istore_4 dX3_lasts_29 rfl (by decide) ?_
          refine fx_iconst (v := nI 0) dX3_lasts_31 (by decide) ?_
          refine fs_istore_5 dX3_lasts_32 rfl (by decide) ?_
          exact H0
        · exact absurd (nI_le hy2 (by decide)) hc15
theorem eX1_append {z : Nat} {x : Int32} (h1 : F 25 1 = nI z) (hz : z < 120) : Mx mX1_append [.ref 25, .int x] (rC F N G) none (rC (f2 F 25 1 (nI (z + 1))) N (ga G 26 (upd (G 26) z (x &&& nI 255)))) := by
  refine mx_of (L := [some (.ref 25), some (.int x)]) (by decide) (fun _ => rfl) (fun _ => Nat.le_of_ble_eq_true rfl) ?_
  refine fx_aload_n dX1_append_0 rfl rfl ?_
  refine fx_get dX1_append_1 kX1_15 rfl rfl ?_
  rw [h1]
  refine fx_bipush (v := nI 120) dX1_append_4 (by decide) ?_
  refine fx_icmp_ge (tgt := 33) dX1_append_6 (by decide) rC_l (fun hc6 => ?_) (fun hc6 => ?_)
  · exact absurd hc6 (nI_ge hz (by decide))
  · refine fx_aload_n dX1_append_9 rfl rfl ?_
    refine fx_get dX1_append_10 kX1_9 rfl rfl ?_
    refine fx_aload_n dX1_append_13 rfl rfl ?_
    refine fx_get dX1_append_14 kX1_15 rfl rfl ?_
    rw [h1]
    refine fx_iload_n dX1_append_17 rfl rfl ?_
    refine fx_sipush (v := nI 255) dX1_append_18 (by decide) ?_
    refine fx_iand dX1_append_21 ?_
    refine fx_iast dX1_append_22 rfl (vp_in_nI hz (by decide)) wc_26 ?_
    rw [nI_clamp (by omega)]
    refine fx_aload_n dX1_append_23 rfl rfl ?_
    refine fx_dup dX1_append_24 rfl ?_
    refine fx_get dX1_append_25 kX1_15 rfl rfl ?_
    rw [h1]
    refine fx_iconst (v := nI 1) dX1_append_28 (by decide) ?_
    refine fx_iadd dX1_append_29 ?_
    rw [nI_add]
    refine fx_put dX1_append_30 kX1_15 rfl (Nat.le_of_ble_eq_true rfl) (fun _ => rfl) rfl rfl u1_1 ?_
    exact fx_vreq dX1_append_33 rfl rfl
theorem eX3_feed_n {x a : Int32} (h : jwi a (nI 1) (nI 4) = false) : Mx mX3_feed [.ref 0, .int x, .int a] (rC F N G) (some (.int (jfd 0))) (rC F N (ga G 36 (jf1 (G 36) 0))) := by
  refine mx_of (L := [some (.ref 0), some (.int x), some (.int a), none]) (by decide) (fun _ => rfl) (fun _ => Nat.le_of_ble_eq_true rfl) ?_
  refine fx_iload_n dX3_feed_0 rfl rfl ?_
  refine fx_iconst (v := nI 1) dX3_feed_1 (by decide) ?_
  refine fx_icmp_lt (tgt := 10) dX3_feed_2 (by decide) rC_l (fun hc2 => ?_) (fun hc2 => ?_)
  · refine fx_aload_n dX3_feed_10 rfl rfl ?_
    refine fx_iconst (v := nI 0) dX3_feed_11 (by decide) ?_
    refine fx_callVv dX3_feed_12 vX3_finding lX3_51 (by decide) rfl (Nat.le_of_ble_eq_true rfl) (eX3_finding (k := 0) (by decide)) rfl ?_
    exact fx_ireq dX3_feed_15 rfl rfl rfl rfl
  · refine fx_iload_n dX3_feed_5 rfl rfl ?_
    refine fx_iconst (v := nI 4) dX3_feed_6 (by decide) ?_
    refine fx_icmp_le (tgt := 16) dX3_feed_7 (by decide) rC_l (fun hc7 => ?_) (fun hc7 => ?_)
    · exact jtf h (jwi_in hc2 (Int32.not_lt.mpr hc7))
    · refine fx_aload_n dX3_feed_10 rfl rfl ?_
      refine fx_iconst (v := nI 0) dX3_feed_11 (by decide) ?_
      refine fx_callVv dX3_feed_12 vX3_finding lX3_51 (by decide) rfl (Nat.le_of_ble_eq_true rfl) (eX3_finding (k := 0) (by decide)) rfl ?_
      exact fx_ireq dX3_feed_15 rfl rfl rfl rfl
theorem f2_f2 (F : Nat → Nat → Int32) (p j : Nat) (u v : Int32) : f2 (f2 F p j u) p j v = f2 F p j v := by
  funext a b
  unfold f2
  by_cases e : a = p
  · rw [if_pos e, if_pos e, if_pos e, upd_upd]
  · rw [if_neg e, if_neg e, if_neg e]
theorem f2_id (F : Nat → Nat → Int32) (p j : Nat) : f2 F p j (F p j) = F := by
  funext a b
  unfold f2
  by_cases e : a = p
  · subst e; rw [if_pos rfl, upd_id]
  · rw [if_neg e]
theorem P_feed (R : jR F4 G4 F N G) (x a : Int32) : jP mX4_feed mX3_feed [.int x, .int a] F4 G4 F N G := by
  by_cases h : jwi a (nI 1) (nI 4) = false
  · exact ⟨_, _, _, _, _, _, eX4_feed_n h, eX3_feed_n h, jR_f R (by decide)⟩
  · have hb := jbt_t h
    obtain ⟨k, hk1, hk2, rfl⟩ := jwi1_of (k := 4) (by decide) hb
    have R0 := R
    obtain ⟨-, -, -, -, a1, ⟨b1, b2⟩, ⟨z, z1, z2, z3, z4⟩, d1, d2⟩ := R
    by_cases hf : 120 < z + k
    · refine ⟨_, _, _, _, _, _, eX4_feed_f hb hk2 z2 z1 hf, ?_, jR_f R0 (by decide)⟩
      refine mx_of (L := [some (.ref 0), some (.int x), some (.int (nI k)), none]) (by decide) (fun _ => rfl) (fun _ => Nat.le_of_ble_eq_true rfl) ?_
      refine fx_iload_n dX3_feed_0 rfl rfl ?_
      refine fx_iconst (v := nI 1) dX3_feed_1 (by decide) ?_
      refine fx_icmp_lt (tgt := 10) dX3_feed_2 (by decide) rC_l (fun hc2 => ?_) (fun hc2 => ?_)
      · exact absurd hc2 (nI_nlt hk1 (by omega))
      · refine fx_iload_n dX3_feed_5 rfl rfl ?_
        refine fx_iconst (v := nI 4) dX3_feed_6 (by decide) ?_
        refine fx_icmp_le (tgt := 16) dX3_feed_7 (by decide) rC_l (fun hc7 => ?_) (fun hc7 => ?_)
        · refine fx_aload_n dX3_feed_16 rfl rfl ?_
          refine fx_get dX3_feed_17 kX3_29 rfl rfl ?_
          refine fx_get dX3_feed_20 kX3_218 rfl rfl ?_
          rw [z3]
          refine fx_iload_n dX3_feed_23 rfl rfl ?_
          refine fx_iadd dX3_feed_24 ?_
          rw [nI_add]
          refine fx_bipush (v := nI 120) dX3_feed_25 (by decide) ?_
          refine fx_icmp_le (tgt := 36) dX3_feed_27 (by decide) rC_l (fun hc27 => ?_) (fun hc27 => ?_)
          · exact absurd hc27 (nI_ge hf (by omega))
          · refine fx_aload_n dX3_feed_30 rfl rfl ?_
            refine fx_iconst (v := nI 1) dX3_feed_31 (by decide) ?_
            refine fx_callVv dX3_feed_32 vX3_finding lX3_51 (by decide) rfl (Nat.le_of_ble_eq_true rfl) (eX3_finding (k := 1) (by decide)) rfl ?_
            exact fx_ireq dX3_feed_35 rfl rfl rfl rfl
        · exact absurd (nI_le hk2 (by decide)) hc7
    · have e4 := jfd4_e (x := x) k z (G 26) (G4 8) z4
      have H : ∀ (q t : Nat) (T : Nat → Int32), t + q = z + k → q ≤ 4 → Fx mX3_feed (some (.int (nI (z + k))), rC (f2 F 25 1 (nI (z + k))) N (ga G 26 (jfd4 T t x q))) 40 [some (.ref 0), some (.int x), some (.int (nI k)), some (.int (nI q - nI 1))] [] (rC (f2 F 25 1 (nI t)) N (ga G 26 T)) := by
        intro q
        induction q with
        | zero =>
          intro t T ht hq
          have ht' : t = z + k := by omega
          subst ht'
          refine fx_iload_n dX3_feed_40 rfl rfl ?_
          refine fx_if_lt (tgt := 63) dX3_feed_41 (by decide) rC_l (fun hc41 => ?_) (fun hc41 => ?_)
          · refine fx_aload_n dX3_feed_63 rfl rfl ?_
            refine fx_get dX3_feed_64 kX3_29 rfl rfl ?_
            refine fx_get dX3_feed_67 kX3_218 rfl rfl ?_
            rw [f2_s]
            exact fx_ireq dX3_feed_70 rfl rfl rfl rfl
          · exact absurd (by decide) hc41
        | succ q ih =>
          intro t T ht hq
          have ih1 := ih (t + 1) (upd T t ((x >>> (nI (8 * q) &&& 31)) &&& nI 255)) (by omega) (by omega)
          have e1 : jfd4 T t x (q + 1) = jfd4 (upd T t ((x >>> (nI (8 * q) &&& 31)) &&& nI 255)) (t + 1) x q := rfl
          rw [e1, pk_sub (show 1 ≤ q + 1 by omega), Nat.add_sub_cancel]
          have eA := eX1_append (F := f2 F 25 1 (nI t)) (N := N) (G := ga G 26 T) (z := t) (x := (x.toUInt32 >>> ((nI (8 * q)).toUInt32 &&& Int32.toUInt32 31)).toInt32) (f2_s _ _ _ _) (by omega)
          rw [f2_f2, ga_s, ga_ga, jbyte x q (by omega)] at eA
          refine fx_iload_n dX3_feed_40 rfl rfl ?_
          refine fx_if_lt (tgt := 63) dX3_feed_41 (by decide) rC_l (fun hc41 => ?_) (fun hc41 => ?_)
          · exact absurd hc41 (nI_pos (by omega))
          · refine fx_aload_n dX3_feed_44 rfl rfl ?_
            refine fx_get dX3_feed_45 kX3_29 rfl rfl ?_
            refine fx_iload_n dX3_feed_48 rfl rfl ?_
            refine fx_bipush (v := nI 8) dX3_feed_49 (by decide) ?_
            refine fx_iload_n dX3_feed_51 rfl rfl ?_
            refine fx_imul dX3_feed_52 ?_
            rw [pk_mul]
            refine fx_iushr dX3_feed_53 ?_
            refine fx_callVn dX3_feed_54 vX1_append lX3_221 (by decide) rfl (Nat.le_of_ble_eq_true rfl) eA rfl ?_
            refine fs_iinc_3 (w := (-1)) dX3_feed_57 (by decide) rfl (by decide) ?_
            refine fx_goto (tgt := 40) dX3_feed_60 (by decide) ?_
            rw [show nI q + (-1) = nI q - nI 1 by rw [Int32.sub_eq_add_neg]; rfl]
            exact ih1
      have H0 := H k z (G 26) rfl hk2
      rw [← z3, f2_id, ga_id] at H0
      refine ⟨_, _, _, f2 F 25 1 (nI (z + k)), N, ga G 26 (jfd4 (G 26) z x k), eX4_feed_y hb hk2 z2 (by omega), ?_, ?_⟩
      · refine mx_of (L := [some (.ref 0), some (.int x), some (.int (nI k)), none]) (by decide) (fun _ => rfl) (fun _ => Nat.le_of_ble_eq_true rfl) ?_
        refine fx_iload_n dX3_feed_0 rfl rfl ?_
        refine fx_iconst (v := nI 1) dX3_feed_1 (by decide) ?_
        refine fx_icmp_lt (tgt := 10) dX3_feed_2 (by decide) rC_l (fun hc2 => ?_) (fun hc2 => ?_)
        · exact absurd hc2 (nI_nlt hk1 (by omega))
        · refine fx_iload_n dX3_feed_5 rfl rfl ?_
          refine fx_iconst (v := nI 4) dX3_feed_6 (by decide) ?_
          refine fx_icmp_le (tgt := 16) dX3_feed_7 (by decide) rC_l (fun hc7 => ?_) (fun hc7 => ?_)
          · refine fx_aload_n dX3_feed_16 rfl rfl ?_
            refine fx_get dX3_feed_17 kX3_29 rfl rfl ?_
            refine fx_get dX3_feed_20 kX3_218 rfl rfl ?_
            rw [z3]
            refine fx_iload_n dX3_feed_23 rfl rfl ?_
            refine fx_iadd dX3_feed_24 ?_
            rw [nI_add]
            refine fx_bipush (v := nI 120) dX3_feed_25 (by decide) ?_
            refine fx_icmp_le (tgt := 36) dX3_feed_27 (by decide) rC_l (fun hc27 => ?_) (fun hc27 => ?_)
            · refine fx_iload_n dX3_feed_36 rfl rfl ?_
              refine fx_iconst (v := nI 1) dX3_feed_37 (by decide) ?_
              refine fx_isub dX3_feed_38 ?_
              refine fs_istore_n_3 dX3_feed_39 rfl (by decide) ?_
              exact H0
            · exact absurd (nI_le (by omega) (by decide)) hc27
          · exact absurd (nI_le hk2 (by decide)) hc7
      · have c := R0.2.2.2.1
        refine jR_o R0 (fun p V n h t hp q => jI_36 (jI_f0 q (by rcases hp with rfl | rfl | rfl <;> decide)) (by rcases hp with rfl | rfl | rfl <;> decide)) (pk_un (by decide)) (ga_n _ _ (by decide)) (ga_n _ _ (by decide)) (by rw [ga_n _ _ (by decide)]; exact c.2.2) (c.1.ga (by decide)) ?_
        refine ⟨⟨?_, ?_⟩, ⟨?_, ?_⟩, ⟨z + k, by omega, pk_us, f2_s _ _ _ _, ?_⟩, ?_, fun s hs => ?_⟩
        · rw [f2_n _ _ (Or.inl (by decide)), pk_un (by decide)]; exact a1.1
        · rw [pk_un (by decide)]; exact a1.2
        · rw [ga_n _ _ (show (36 : Nat) ≠ 26 by decide), ga_n _ _ (show (4 : Nat) ≠ 8 by decide)]; exact b1
        · rw [ga_n _ _ (show (36 : Nat) ≠ 26 by decide), ga_n _ _ (show (4 : Nat) ≠ 8 by decide)]; exact b2
        · rw [ga_s, ga_s]; exact e4
        · intro s hs; rw [ga_n _ _ (by decide), ga_n _ _ (by decide)]; exact d1 s hs
        · rw [f2_n _ _ (Or.inl (by omega)), f2_n _ _ (Or.inl (by omega)), ga_n _ _ (show (11 : Nat) ≠ 8 by decide), ga_n _ _ (show (12 : Nat) ≠ 8 by decide), ga_n _ _ (show (13 : Nat) ≠ 8 by decide), ga_n _ _ (show 28 + 2 * s + 1 ≠ 26 by omega)]; exact d2 s hs
end
