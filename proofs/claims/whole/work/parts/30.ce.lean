/-! ===== the class: Woods, what only reads ===== -/
set_option maxRecDepth 100000
section
variable {F : Nat → Nat → Int32} {N : Nat → Nat → Int64} {G : Nat → Nat → Int32} {w : Nat} {V : Nat → Int32} {n : Nat} {h0 : Int32} {t : Nat}
theorem jI_0 (k : jI F N G w V n h0 t) : F w 0 = h0 := k.1
theorem jI_m (k : jI F N G w V n h0 t) : N w 1 = lN (jnm V 64) := k.2.1
theorem jI_4 (k : jI F N G w V n h0 t) : F w 4 = V 1 := k.2.2.1
theorem jI_5 (k : jI F N G w V n h0 t) : F w 5 = nI n := k.2.2.2.1
theorem jI_c (k : jI F N G w V n h0 t) : F w 10 = nI (jsN V n) := k.2.2.2.2.1
theorem jI_z (k : jI F N G w V n h0 t) : F w 11 = V 3 := k.2.2.2.2.2.1
theorem jI_t (k : jI F N G w V n h0 t) : N w 13 = lN t := k.2.2.2.2.2.2.1
theorem jI_a1 (k : jI F N G w V n h0 t) : G (w + 1) = jth V := k.2.2.2.2.2.2.2.1
theorem jI_a2 (k : jI F N G w V n h0 t) : G (w + 2) = jhu V := k.2.2.2.2.2.2.2.2.1
theorem jI_a3 (k : jI F N G w V n h0 t) : G (w + 3) = jbf V 0 := k.2.2.2.2.2.2.2.2.2.1
theorem jI_a4 (k : jI F N G w V n h0 t) : G (w + 4) = jbf V 1 := k.2.2.2.2.2.2.2.2.2.2.1
theorem jI_a5 (k : jI F N G w V n h0 t) : G (w + 5) = jbf V 2 := k.2.2.2.2.2.2.2.2.2.2.2.1
theorem jI_a6 (k : jI F N G w V n h0 t) : G (w + 6) = jbf V 3 := k.2.2.2.2.2.2.2.2.2.2.2.2.1
theorem jI_a7 (k : jI F N G w V n h0 t) : G (w + 7) = jspt V := k.2.2.2.2.2.2.2.2.2.2.2.2.2
theorem eX2_hasNet {c : Nat} (hw : zw w) (hI : jI F N G w V n h0 t) (hc : c < 64) : Mx mX2_hasNet [.ref w, .int (nI c)] (rC F N G) (some (.int (jB (decide (V (18 + c) = nI 1))))) (rC F N G) := by
  refine mx_of (L := [some (.ref w), some (.int (nI c))]) (by decide) (fun _ => rfl) (fun _ => Nat.le_of_ble_eq_true rfl) ?_
  refine fx_aload_n dX2_hasNet_0 rfl rfl ?_
  refine fx_get dX2_hasNet_1 kX2_43 (a2 hw) rfl ?_
  refine fx_iload_n dX2_hasNet_4 rfl rfl ?_
  rw [jI_m hI]
  refine fx_callSv dX2_hasNet_5 sX3_holds lX2_62 (by decide) (Nat.le_of_ble_eq_true rfl) (eX3_holds (jnm_lt V 64) hc) rfl ?_
  exact fx_ireq dX2_hasNet_8 rfl (jB_n _) (by rw [jnm_b, decide_eq_true hc, Bool.true_and]) rfl
theorem eX2_isFree {b : Nat} (hw : zw w) (hI : jI F N G w V n h0 t) (hn : n ≤ 8) (hb : b < n) : Mx mX2_isFree [.ref w, .int (nI b)] (rC F N G) (some (.int (jB (!decide (V (146 + 5 * b + 4) = nI 1))))) (rC F N G) := by
  refine mx_of (L := [some (.ref w), some (.int (nI b))]) (by decide) (fun _ => rfl) (fun _ => Nat.le_of_ble_eq_true rfl) ?_
  have hl := jsN_256 (V := V) hn
  have e := jbit_e (jsN V n) b
  have hs : (((nI b).toUInt32 &&& Int32.toUInt32 31).toBitVec % 32).toNat = b := (show ∀ b, b < 8 → (((nI b).toUInt32 &&& Int32.toUInt32 31).toBitVec % 32).toNat = b by decide +kernel) b (by omega)
  rw [jsN_b, decide_eq_true hb, Bool.true_and] at e
  by_cases hv : V (146 + 5 * b + 4) = nI 1
  · rw [decide_eq_true hv, if_pos rfl] at e
    rw [decide_eq_true hv]
    refine fx_aload_n dX2_isFree_0 rfl rfl ?_
    refine fx_get dX2_isFree_1 kX2_50 (a2 hw) rfl ?_
    refine fx_iload_n dX2_isFree_4 rfl rfl ?_
    rw [jI_c hI]
    refine fx_iushr dX2_isFree_5 ?_
    rw [pk_ushrN (by omega) _ b hs]
    refine fx_iconst (v := nI 1) dX2_isFree_6 (by decide) ?_
    refine fx_iand dX2_isFree_7 ?_
    rw [pk_andN (k := 1) (Nat.lt_of_le_of_lt (Nat.div_le_self _ _) (by omega)) (by decide), Nat.pow_one, e]
    refine fx_if_ne (tgt := 15) dX2_isFree_8 (by decide) rfl (fun hc8 => ?_) (fun hc8 => ?_)
    · refine fx_iconst (v := nI 0) dX2_isFree_15 (by decide) ?_
      exact fx_ireq dX2_isFree_16 rfl (jB_n _) rfl rfl
    · exact absurd hc8 (by decide)
  · rw [decide_eq_false hv, if_neg (by decide)] at e
    rw [decide_eq_false hv]
    refine fx_aload_n dX2_isFree_0 rfl rfl ?_
    refine fx_get dX2_isFree_1 kX2_50 (a2 hw) rfl ?_
    refine fx_iload_n dX2_isFree_4 rfl rfl ?_
    rw [jI_c hI]
    refine fx_iushr dX2_isFree_5 ?_
    rw [pk_ushrN (by omega) _ b hs]
    refine fx_iconst (v := nI 1) dX2_isFree_6 (by decide) ?_
    refine fx_iand dX2_isFree_7 ?_
    rw [pk_andN (k := 1) (Nat.lt_of_le_of_lt (Nat.div_le_self _ _) (by omega)) (by decide), Nat.pow_one, e]
    refine fx_if_ne (tgt := 15) dX2_isFree_8 (by decide) rfl (fun hc8 => ?_) (fun hc8 => ?_)
    · exact absurd rfl hc8
    · refine fx_iconst (v := nI 1) dX2_isFree_11 (by decide) ?_
      refine fx_goto (tgt := 16) dX2_isFree_12 (by decide) ?_
      exact fx_ireq dX2_isFree_16 rfl (jB_n _) rfl rfl
theorem eX2_trait {b f : Nat} (hw : zw w) (hI : jI F N G w V n h0 t) (hV : jW V n) (hb : b < n) (hf : f ≤ 4) : Mx mX2_trait [.ref w, .int (nI b), .int (nI f)] (rC F N G) (some (.int (V (146 + 5 * b + f)))) (rC F N G) := by
  refine mx_of (L := [some (.ref w), some (.int (nI b)), some (.int (nI f))]) (by decide) (fun _ => rfl) (fun _ => Nat.le_of_ble_eq_true rfl) ?_
  have hn8 := hV.2.1
  have T : ∀ q : Nat, Fx mX2_trait (some (.int (V (146 + 5 * b + f))), rC F N G) q [some (.ref w), some (.int (nI b)), some (.int (nI f))] [] (rC F N G) → (q = 32 ∧ f = 0 ∨ q = 39 ∧ f = 1 ∨ q = 46 ∧ f = 2 ∨ q = 53 ∧ f = 3) → Fx mX2_trait (some (.int (V (146 + 5 * b + f))), rC F N G) 0 [some (.ref w), some (.int (nI b)), some (.int (nI f))] [] (rC F N G) := by
    intro q k hq
    refine fx_iload_n dX2_trait_0 rfl rfl ?_
    rcases hq with ⟨rfl, rfl⟩ | ⟨rfl, rfl⟩ | ⟨rfl, rfl⟩ | ⟨rfl, rfl⟩ <;> exact fx_tableIn dX2_trait_1 (by decide) (by decide) rfl (by decide) k
  rcases (show f = 0 ∨ f = 1 ∨ f = 2 ∨ f = 3 ∨ f = 4 by omega) with rfl | rfl | rfl | rfl | rfl
  · refine T 32 ?_ (by omega)
    refine fx_aload_n dX2_trait_32 rfl rfl ?_
    refine fx_get dX2_trait_33 kX2_18 (a2 hw) rfl ?_
    refine fx_iload_n dX2_trait_36 rfl rfl ?_
    refine fx_iald dX2_trait_37 (a2_3 hw) (vp_in_nI (by omega) (by decide)) ?_
    exact fx_ireq dX2_trait_38 rfl rfl (by rw [nI_clamp (by omega), jI_a3 hI, jbf_e (by omega)]) rfl
  · refine T 39 ?_ (by omega)
    refine fx_aload_n dX2_trait_39 rfl rfl ?_
    refine fx_get dX2_trait_40 kX2_21 (a2 hw) rfl ?_
    refine fx_iload_n dX2_trait_43 rfl rfl ?_
    refine fx_iald dX2_trait_44 (a2_4 hw) (vp_in_nI (by omega) (by decide)) ?_
    exact fx_ireq dX2_trait_45 rfl rfl (by rw [nI_clamp (by omega), jI_a4 hI, jbf_e (by omega)]) rfl
  · refine T 46 ?_ (by omega)
    refine fx_aload_n dX2_trait_46 rfl rfl ?_
    refine fx_get dX2_trait_47 kX2_24 (a2 hw) rfl ?_
    refine fx_iload_n dX2_trait_50 rfl rfl ?_
    refine fx_iald dX2_trait_51 (a2_5 hw) (vp_in_nI (by omega) (by decide)) ?_
    exact fx_ireq dX2_trait_52 rfl rfl (by rw [nI_clamp (by omega), jI_a5 hI, jbf_e (by omega)]) rfl
  · refine T 53 ?_ (by omega)
    refine fx_aload_n dX2_trait_53 rfl rfl ?_
    refine fx_get dX2_trait_54 kX2_27 (a2 hw) rfl ?_
    refine fx_iload_n dX2_trait_57 rfl rfl ?_
    refine fx_iald dX2_trait_58 (a2_6 hw) (vp_in_nI (by omega) (by decide)) ?_
    exact fx_ireq dX2_trait_59 rfl rfl (by rw [nI_clamp (by omega), jI_a6 hI, jbf_e (by omega)]) rfl
  · refine fx_iload_n dX2_trait_0 rfl rfl ?_
    refine fx_tableOut (tgt := 60) dX2_trait_1 (Or.inr (by decide)) (by decide) ?_
    obtain ⟨-, -, -, -, h4⟩ := hV.2.2.1 b hb
    rcases h4 with h4 | h4
    · refine fx_aload_n dX2_trait_60 rfl rfl ?_
      refine fx_iload_n dX2_trait_61 rfl rfl ?_
      refine fx_callVv dX2_trait_62 vX2_isFree lX2_68 (by decide) (a2 hw) (Nat.le_of_ble_eq_true rfl) (eX2_isFree hw hI hn8 hb) rfl ?_
      rw [h4]
      refine fx_if_eq (tgt := 72) dX2_trait_65 (by decide) rfl (fun hc65 => ?_) (fun hc65 => ?_)
      · exact absurd hc65 (by decide)
      · refine fx_iconst (v := nI 0) dX2_trait_68 (by decide) ?_
        refine fx_goto (tgt := 73) dX2_trait_69 (by decide) ?_
        exact fx_ireq dX2_trait_73 rfl rfl rfl rfl
    · refine fx_aload_n dX2_trait_60 rfl rfl ?_
      refine fx_iload_n dX2_trait_61 rfl rfl ?_
      refine fx_callVv dX2_trait_62 vX2_isFree lX2_68 (by decide) (a2 hw) (Nat.le_of_ble_eq_true rfl) (eX2_isFree hw hI hn8 hb) rfl ?_
      rw [h4]
      refine fx_if_eq (tgt := 72) dX2_trait_65 (by decide) rfl (fun hc65 => ?_) (fun hc65 => ?_)
      · refine fx_iconst (v := nI 1) dX2_trait_72 (by decide) ?_
        exact fx_ireq dX2_trait_73 rfl rfl rfl rfl
      · exact absurd (by decide) hc65
theorem eX2_heardAt {c : Nat} (hw : zw w) (hI : jI F N G w V n h0 t) (hV : jW V n) : Mx mX2_heardAt [.ref w, .int (nI c)] (rC F N G) (some (.int (jheard V c n))) (rC F N G) := by
  refine mx_of (L := [some (.ref w), some (.int (nI c)), none, none]) (by decide) (fun _ => rfl) (fun _ => Nat.le_of_ble_eq_true rfl) ?_
  have hn8 := hV.2.1
  have H : ∀ (k b : Nat), b + k = n → Fx mX2_heardAt (some (.int (jheard V c n)), rC F N G) 4 [some (.ref w), some (.int (nI c)), some (.int (jheard V c b)), some (.int (nI b))] [] (rC F N G) := by
    intro k
    induction k with
    | zero =>
      intro b hb
      have hb' : b = n := by omega
      subst hb'
      refine fx_iload_n dX2_heardAt_4 rfl rfl ?_
      refine fx_aload_n dX2_heardAt_5 rfl rfl ?_
      refine fx_get dX2_heardAt_6 kX2_47 (a2 hw) rfl ?_
      rw [jI_5 hI]
      refine fx_icmp_ge (tgt := 50) dX2_heardAt_9 (by decide) rfl (fun hc9 => ?_) (fun hc9 => ?_)
      · refine fx_iload_n dX2_heardAt_50 rfl rfl ?_
        exact fx_ireq dX2_heardAt_51 rfl rfl rfl rfl
      · exact absurd (Int32.le_refl _) hc9
    | succ k ih =>
      intro b hb
      have ih1 := ih (b + 1) (by omega)
      have e1 : jheard V c (b + 1) = if V (146 + 5 * b + 4) = nI 1 then jheard V c b else jmax (jheard V c b) (jloud (V (146 + 5 * b + 3)) (V (146 + 5 * b + 1)) (nI c)) := rfl
      by_cases hc : V (146 + 5 * b + 4) = nI 1
      · rw [e1, if_pos hc] at ih1
        refine fx_iload_n dX2_heardAt_4 rfl rfl ?_
        refine fx_aload_n dX2_heardAt_5 rfl rfl ?_
        refine fx_get dX2_heardAt_6 kX2_47 (a2 hw) rfl ?_
        rw [jI_5 hI]
        refine fx_icmp_ge (tgt := 50) dX2_heardAt_9 (by decide) rfl (fun hc9 => ?_) (fun hc9 => ?_)
        · exact absurd hc9 (nI_ge (by omega) (by omega))
        · refine fx_aload_n dX2_heardAt_12 rfl rfl ?_
          refine fx_iload_n dX2_heardAt_13 rfl rfl ?_
          refine fx_callVv dX2_heardAt_14 vX2_isFree lX2_68 (by decide) (a2 hw) (Nat.le_of_ble_eq_true rfl) (eX2_isFree hw hI hn8 (by omega)) rfl ?_
          rw [decide_eq_true hc]
          refine fx_if_eq (tgt := 44) dX2_heardAt_17 (by decide) rfl (fun hc17 => ?_) (fun hc17 => ?_)
          · refine fs_iinc_3 (w := nI 1) dX2_heardAt_44 (by decide) rfl (by decide) ?_
            refine fx_goto (tgt := 4) dX2_heardAt_47 (by decide) ?_
            rw [nI_add]
            exact ih1
          · exact absurd (by decide) hc17
      · rw [e1, if_neg hc] at ih1
        refine fx_iload_n dX2_heardAt_4 rfl rfl ?_
        refine fx_aload_n dX2_heardAt_5 rfl rfl ?_
        refine fx_get dX2_heardAt_6 kX2_47 (a2 hw) rfl ?_
        rw [jI_5 hI]
        refine fx_icmp_ge (tgt := 50) dX2_heardAt_9 (by decide) rfl (fun hc9 => ?_) (fun hc9 => ?_)
        · exact absurd hc9 (nI_ge (by omega) (by omega))
        · refine fx_aload_n dX2_heardAt_12 rfl rfl ?_
          refine fx_iload_n dX2_heardAt_13 rfl rfl ?_
          refine fx_callVv dX2_heardAt_14 vX2_isFree lX2_68 (by decide) (a2 hw) (Nat.le_of_ble_eq_true rfl) (eX2_isFree hw hI hn8 (by omega)) rfl ?_
          rw [decide_eq_false hc]
          refine fx_if_eq (tgt := 44) dX2_heardAt_17 (by decide) rfl (fun hc17 => ?_) (fun hc17 => ?_)
          · exact absurd hc17 (by decide)
          · refine fx_iload_n dX2_heardAt_20 rfl rfl ?_
            refine fx_aload_n dX2_heardAt_21 rfl rfl ?_
            refine fx_get dX2_heardAt_22 kX2_27 (a2 hw) rfl ?_
            refine fx_iload_n dX2_heardAt_25 rfl rfl ?_
            refine fx_iald dX2_heardAt_26 (a2_6 hw) (vp_in_nI (by omega) (by decide)) ?_
            rw [nI_clamp (by omega), jI_a6 hI, jbf_e (by omega)]
            refine fx_aload_n dX2_heardAt_27 rfl rfl ?_
            refine fx_get dX2_heardAt_28 kX2_21 (a2 hw) rfl ?_
            refine fx_iload_n dX2_heardAt_31 rfl rfl ?_
            refine fx_iald dX2_heardAt_32 (a2_4 hw) (vp_in_nI (by omega) (by decide)) ?_
            rw [nI_clamp (by omega), jI_a4 hI, jbf_e (by omega)]
            refine fx_iload_n dX2_heardAt_33 rfl rfl ?_
            refine fx_callSv dX2_heardAt_34 sX3_apart lX2_72 (by decide) (Nat.le_of_ble_eq_true rfl) eX3_apart rfl ?_
            refine fx_callSv dX2_heardAt_37 sX3_loudness lX2_76 (by decide) (Nat.le_of_ble_eq_true rfl) eX3_loudness rfl ?_
            refine fx_max dX2_heardAt_40 lX2_79 (by decide) (Nat.le_of_ble_eq_true rfl) ?_
            refine fs_istore_n_2 dX2_heardAt_43 rfl (by decide) ?_
            refine fs_iinc_3 (w := nI 1) dX2_heardAt_44 (by decide) rfl (by decide) ?_
            refine fx_goto (tgt := 4) dX2_heardAt_47 (by decide) ?_
            rw [nI_add]
            exact ih1
  refine fx_iconst (v := nI 0) dX2_heardAt_0 (by decide) ?_
  refine fs_istore_n_2 dX2_heardAt_1 rfl (by decide) ?_
  refine fx_iconst (v := nI 0) dX2_heardAt_2 (by decide) ?_
  refine fs_istore_n_3 dX2_heardAt_3 rfl (by decide) ?_
  exact H n 0 (by omega)
theorem eX2_bellsAt {c : Nat} (hw : zw w) (hI : jI F N G w V n h0 t) (hV : jW V n) : Mx mX2_bellsAt [.ref w, .int (nI c)] (rC F N G) (some (.int (nI (jmany V c n)))) (rC F N G) := by
  refine mx_of (L := [some (.ref w), some (.int (nI c)), none, none]) (by decide) (fun _ => rfl) (fun _ => Nat.le_of_ble_eq_true rfl) ?_
  have hn8 := hV.2.1
  have H : ∀ (k b : Nat), b + k = n → Fx mX2_bellsAt (some (.int (nI (jmany V c n))), rC F N G) 4 [some (.ref w), some (.int (nI c)), some (.int (nI (jmany V c b))), some (.int (nI b))] [] (rC F N G) := by
    intro k
    induction k with
    | zero =>
      intro b hb
      have hb' : b = n := by omega
      subst hb'
      refine fx_iload_n dX2_bellsAt_4 rfl rfl ?_
      refine fx_aload_n dX2_bellsAt_5 rfl rfl ?_
      refine fx_get dX2_bellsAt_6 kX2_47 (a2 hw) rfl ?_
      rw [jI_5 hI]
      refine fx_icmp_ge (tgt := 31) dX2_bellsAt_9 (by decide) rfl (fun hc9 => ?_) (fun hc9 => ?_)
      · refine fx_iload_n dX2_bellsAt_31 rfl rfl ?_
        exact fx_ireq dX2_bellsAt_32 rfl rfl rfl rfl
      · exact absurd (Int32.le_refl _) hc9
    | succ k ih =>
      intro b hb
      have ih1 := ih (b + 1) (by omega)
      have e1 : jmany V c (b + 1) = jmany V c b + (if V (146 + 5 * b + 1) = nI c then 1 else 0) := rfl
      refine fx_iload_n dX2_bellsAt_4 rfl rfl ?_
      refine fx_aload_n dX2_bellsAt_5 rfl rfl ?_
      refine fx_get dX2_bellsAt_6 kX2_47 (a2 hw) rfl ?_
      rw [jI_5 hI]
      refine fx_icmp_ge (tgt := 31) dX2_bellsAt_9 (by decide) rfl (fun hc9 => ?_) (fun hc9 => ?_)
      · exact absurd hc9 (nI_ge (by omega) (by omega))
      · refine fx_aload_n dX2_bellsAt_12 rfl rfl ?_
        refine fx_get dX2_bellsAt_13 kX2_21 (a2 hw) rfl ?_
        refine fx_iload_n dX2_bellsAt_16 rfl rfl ?_
        refine fx_iald dX2_bellsAt_17 (a2_4 hw) (vp_in_nI (by omega) (by decide)) ?_
        rw [nI_clamp (by omega), jI_a4 hI, jbf_e (by omega)]
        refine fx_iload_n dX2_bellsAt_18 rfl rfl ?_
        refine fx_icmp_ne (tgt := 25) dX2_bellsAt_19 (by decide) rfl (fun hc19 => ?_) (fun hc19 => ?_)
        · refine fs_iinc_3 (w := nI 1) dX2_bellsAt_25 (by decide) rfl (by decide) ?_
          refine fx_goto (tgt := 4) dX2_bellsAt_28 (by decide) ?_
          first | (rw [nI_add, nI_add]; rw [e1, if_pos hc19] at ih1; exact ih1) | (rw [nI_add]; rw [e1, if_neg hc19] at ih1; exact ih1)
        · refine fs_iinc_2 (w := nI 1) dX2_bellsAt_22 (by decide) rfl (by decide) ?_
          refine fs_iinc_3 (w := nI 1) dX2_bellsAt_25 (by decide) rfl (by decide) ?_
          refine fx_goto (tgt := 4) dX2_bellsAt_28 (by decide) ?_
          first | (rw [nI_add, nI_add]; rw [e1, if_pos hc19] at ih1; exact ih1) | (rw [nI_add]; rw [e1, if_neg hc19] at ih1; exact ih1)
  refine fx_iconst (v := nI 0) dX2_bellsAt_0 (by decide) ?_
  refine fs_istore_n_2 dX2_bellsAt_1 rfl (by decide) ?_
  refine fx_iconst (v := nI 0) dX2_bellsAt_2 (by decide) ?_
  refine fs_istore_n_3 dX2_bellsAt_3 rfl (by decide) ?_
  exact H n 0 (by omega)
/-- the weights of the bells of a set -/
def jwt (V : Nat → Int32) (x : Nat) : Nat → Int32
  | 0 => nI 0
  | b + 1 => if x.testBit b = true then jwt V x b + V (146 + 5 * b + 3) else jwt V x b
theorem eX2_weightOf {x : Nat} {y : Int32} (hx : x < 2 ^ 64) (hy : y.toInt64 = lN x) (hw : zw w) (hI : jI F N G w V n h0 t) (hV : jW V n) : Mx mX2_weightOf [.ref w, .int y] (rC F N G) (some (.int (jwt V x n))) (rC F N G) := by
  refine mx_of (L := [some (.ref w), some (.int y), none, none]) (by decide) (fun _ => rfl) (fun _ => Nat.le_of_ble_eq_true rfl) ?_
  have hn8 := hV.2.1
  have H : ∀ (k b : Nat), b + k = n → Fx mX2_weightOf (some (.int (jwt V x n)), rC F N G) 4 [some (.ref w), some (.int y), some (.int (jwt V x b)), some (.int (nI b))] [] (rC F N G) := by
    intro k
    induction k with
    | zero =>
      intro b hb
      have hb' : b = n := by omega
      subst hb'
      refine fx_iload_n dX2_weightOf_4 rfl rfl ?_
      refine fx_aload_n dX2_weightOf_5 rfl rfl ?_
      refine fx_get dX2_weightOf_6 kX2_47 (a2 hw) rfl ?_
      rw [jI_5 hI]
      refine fx_icmp_ge (tgt := 36) dX2_weightOf_9 (by decide) rfl (fun hc9 => ?_) (fun hc9 => ?_)
      · refine fx_iload_n dX2_weightOf_36 rfl rfl ?_
        exact fx_ireq dX2_weightOf_37 rfl rfl rfl rfl
      · exact absurd (Int32.le_refl _) hc9
    | succ k ih =>
      intro b hb
      have ih1 := ih (b + 1) (by omega)
      have e1 : jwt V x (b + 1) = if x.testBit b = true then jwt V x b + V (146 + 5 * b + 3) else jwt V x b := rfl
      rw [e1] at ih1
      refine fx_iload_n dX2_weightOf_4 rfl rfl ?_
      refine fx_aload_n dX2_weightOf_5 rfl rfl ?_
      refine fx_get dX2_weightOf_6 kX2_47 (a2 hw) rfl ?_
      rw [jI_5 hI]
      refine fx_icmp_ge (tgt := 36) dX2_weightOf_9 (by decide) rfl (fun hc9 => ?_) (fun hc9 => ?_)
      · exact absurd hc9 (nI_ge (by omega) (by omega))
      · refine fx_iload_n dX2_weightOf_12 rfl rfl ?_
        refine fx_i2l dX2_weightOf_13 ?_
        rw [hy]
        refine fx_iload_n dX2_weightOf_14 rfl rfl ?_
        refine fx_callSv dX2_weightOf_15 sX3_holds lX2_62 (by decide) (Nat.le_of_ble_eq_true rfl) (eX3_holds hx (by omega)) rfl ?_
        refine fx_if_eq (tgt := 30) dX2_weightOf_18 (by decide) rfl (fun hc18 => ?_) (fun hc18 => ?_)
        · refine fs_iinc_3 (w := nI 1) dX2_weightOf_30 (by decide) rfl (by decide) ?_
          refine fx_goto (tgt := 4) dX2_weightOf_33 (by decide) ?_
          rw [nI_add]
          first | (rw [if_pos (nI_ne0' hc18)] at ih1; exact ih1) | (rw [nI_eq0' hc18, if_neg (by decide)] at ih1; exact ih1)
        · refine fx_iload_n dX2_weightOf_21 rfl rfl ?_
          refine fx_aload_n dX2_weightOf_22 rfl rfl ?_
          refine fx_get dX2_weightOf_23 kX2_27 (a2 hw) rfl ?_
          refine fx_iload_n dX2_weightOf_26 rfl rfl ?_
          refine fx_iald dX2_weightOf_27 (a2_6 hw) (vp_in_nI (by omega) (by decide)) ?_
          rw [nI_clamp (by omega), jI_a6 hI, jbf_e (by omega)]
          refine fx_iadd dX2_weightOf_28 ?_
          refine fs_istore_n_2 dX2_weightOf_29 rfl (by decide) ?_
          refine fs_iinc_3 (w := nI 1) dX2_weightOf_30 (by decide) rfl (by decide) ?_
          refine fx_goto (tgt := 4) dX2_weightOf_33 (by decide) ?_
          rw [nI_add]
          first | (rw [if_pos (nI_ne0' hc18)] at ih1; exact ih1) | (rw [nI_eq0' hc18, if_neg (by decide)] at ih1; exact ih1)
  refine fx_iconst (v := nI 0) dX2_weightOf_0 (by decide) ?_
  refine fs_istore_n_2 dX2_weightOf_1 rfl (by decide) ?_
  refine fx_iconst (v := nI 0) dX2_weightOf_2 (by decide) ?_
  refine fs_istore_n_3 dX2_weightOf_3 rfl (by decide) ?_
  exact H n 0 (by omega)
def jspn (V : Nat → Int32) : Nat → Nat
  | 0 => 0
  | s + 1 => jspn V s + (if V (4 + s) < 0 then 0 else 1)
theorem eX2_spotsHolding (hw : zw w) (hI : jI F N G w V n h0 t) : Mx mX2_spotsHolding [.ref w] (rC F N G) (some (.int (nI (jspn V 10)))) (rC F N G) := by
  refine mx_of (L := [some (.ref w), none, none]) (by decide) (fun _ => rfl) (fun _ => Nat.le_of_ble_eq_true rfl) ?_
  have H : ∀ (k b : Nat), b + k = 10 → Fx mX2_spotsHolding (some (.int (nI (jspn V 10))), rC F N G) 4 [some (.ref w), some (.int (nI (jspn V b))), some (.int (nI b))] [] (rC F N G) := by
    intro k
    induction k with
    | zero =>
      intro b hb
      have hb' : b = 10 := by omega
      subst hb'
      refine fx_iload_n dX2_spotsHolding_4 rfl rfl ?_
      refine fx_bipush (v := nI 10) dX2_spotsHolding_5 (by decide) ?_
      refine fx_icmp_ge (tgt := 28) dX2_spotsHolding_7 (by decide) rfl (fun hc7 => ?_) (fun hc7 => ?_)
      · refine fx_iload_n dX2_spotsHolding_28 rfl rfl ?_
        exact fx_ireq dX2_spotsHolding_29 rfl rfl rfl rfl
      · exact absurd (Int32.le_refl _) hc7
    | succ k ih =>
      intro b hb
      have ih1 := ih (b + 1) (by omega)
      have e1 : jspn V (b + 1) = jspn V b + (if V (4 + b) < 0 then 0 else 1) := rfl
      refine fx_iload_n dX2_spotsHolding_4 rfl rfl ?_
      refine fx_bipush (v := nI 10) dX2_spotsHolding_5 (by decide) ?_
      refine fx_icmp_ge (tgt := 28) dX2_spotsHolding_7 (by decide) rfl (fun hc7 => ?_) (fun hc7 => ?_)
      · exact absurd hc7 (nI_ge (by omega) (by omega))
      · refine fx_aload_n dX2_spotsHolding_10 rfl rfl ?_
        refine fx_get dX2_spotsHolding_11 kX2_30 (a2 hw) rfl ?_
        refine fx_iload_n dX2_spotsHolding_14 rfl rfl ?_
        refine fx_iald dX2_spotsHolding_15 (a2_7 hw) (vp_in_nI (by omega) (by decide)) ?_
        rw [nI_clamp (by omega), jI_a7 hI, jspt_e (by omega)]
        refine fx_if_lt (tgt := 22) dX2_spotsHolding_16 (by decide) rfl (fun hc16 => ?_) (fun hc16 => ?_)
        · refine fs_iinc_2 (w := nI 1) dX2_spotsHolding_22 (by decide) rfl (by decide) ?_
          refine fx_goto (tgt := 4) dX2_spotsHolding_25 (by decide) ?_
          first | (rw [nI_add, nI_add]; rw [e1, if_neg hc16] at ih1; exact ih1) | (rw [nI_add]; rw [e1, if_pos hc16] at ih1; exact ih1)
        · refine fs_iinc_1 (w := nI 1) dX2_spotsHolding_19 (by decide) rfl (by decide) ?_
          refine fs_iinc_2 (w := nI 1) dX2_spotsHolding_22 (by decide) rfl (by decide) ?_
          refine fx_goto (tgt := 4) dX2_spotsHolding_25 (by decide) ?_
          first | (rw [nI_add, nI_add]; rw [e1, if_neg hc16] at ih1; exact ih1) | (rw [nI_add]; rw [e1, if_pos hc16] at ih1; exact ih1)
  refine fx_iconst (v := nI 0) dX2_spotsHolding_0 (by decide) ?_
  refine fs_istore_n_1 dX2_spotsHolding_1 rfl (by decide) ?_
  refine fx_iconst (v := nI 0) dX2_spotsHolding_2 (by decide) ?_
  refine fs_istore_n_2 dX2_spotsHolding_3 rfl (by decide) ?_
  exact H 10 0 (by omega)
theorem eX2_fromHunters {c : Nat} (hw : zw w) (hI : jI F N G w V n h0 t) : Mx mX2_fromHunters [.ref w, .int (nI c)] (rC F N G) (some (.int (jfar V c 4))) (rC F N G) := by
  refine mx_of (L := [some (.ref w), some (.int (nI c)), none, none]) (by decide) (fun _ => rfl) (fun _ => Nat.le_of_ble_eq_true rfl) ?_
  have H : ∀ (k b : Nat), b + k = 4 → Fx mX2_fromHunters (some (.int (jfar V c 4)), rC F N G) 7 [some (.ref w), some (.int (nI c)), some (.int (jfar V c b)), some (.int (nI b))] [] (rC F N G) := by
    intro k
    induction k with
    | zero =>
      intro b hb
      have hb' : b = 4 := by omega
      subst hb'
      refine fx_iload_n dX2_fromHunters_7 rfl rfl ?_
      refine fx_iconst (v := nI 4) dX2_fromHunters_8 (by decide) ?_
      refine fx_icmp_ge (tgt := 42) dX2_fromHunters_9 (by decide) rfl (fun hc9 => ?_) (fun hc9 => ?_)
      · refine fx_iload_n dX2_fromHunters_42 rfl rfl ?_
        exact fx_ireq dX2_fromHunters_43 rfl rfl rfl rfl
      · exact absurd (Int32.le_refl _) hc9
    | succ k ih =>
      intro b hb
      have ih1 := ih (b + 1) (by omega)
      have e1 : jfar V c (b + 1) = if V (14 + b) < 0 then jfar V c b else jmin (jfar V c b) (japart (nI c) (V (14 + b))) := rfl
      rw [e1] at ih1
      refine fx_iload_n dX2_fromHunters_7 rfl rfl ?_
      refine fx_iconst (v := nI 4) dX2_fromHunters_8 (by decide) ?_
      refine fx_icmp_ge (tgt := 42) dX2_fromHunters_9 (by decide) rfl (fun hc9 => ?_) (fun hc9 => ?_)
      · exact absurd hc9 (nI_ge (by omega) (by omega))
      · refine fx_aload_n dX2_fromHunters_12 rfl rfl ?_
        refine fx_get dX2_fromHunters_13 kX2_15 (a2 hw) rfl ?_
        refine fx_iload_n dX2_fromHunters_16 rfl rfl ?_
        refine fx_iald dX2_fromHunters_17 (a2_2 hw) (vp_in_nI (by omega) (by decide)) ?_
        rw [nI_clamp (by omega), jI_a2 hI, jhu_e (by omega)]
        refine fx_if_lt (tgt := 36) dX2_fromHunters_18 (by decide) rfl (fun hc18 => ?_) (fun hc18 => ?_)
        · refine fs_iinc_3 (w := nI 1) dX2_fromHunters_36 (by decide) rfl (by decide) ?_
          refine fx_goto (tgt := 7) dX2_fromHunters_39 (by decide) ?_
          rw [nI_add]
          first | (rw [if_pos hc18] at ih1; exact ih1) | (rw [if_neg hc18] at ih1; exact ih1)
        · refine fx_iload_n dX2_fromHunters_21 rfl rfl ?_
          refine fx_iload_n dX2_fromHunters_22 rfl rfl ?_
          refine fx_aload_n dX2_fromHunters_23 rfl rfl ?_
          refine fx_get dX2_fromHunters_24 kX2_15 (a2 hw) rfl ?_
          refine fx_iload_n dX2_fromHunters_27 rfl rfl ?_
          refine fx_iald dX2_fromHunters_28 (a2_2 hw) (vp_in_nI (by omega) (by decide)) ?_
          rw [nI_clamp (by omega), jI_a2 hI, jhu_e (by omega)]
          refine fx_callSv dX2_fromHunters_29 sX3_apart lX2_72 (by decide) (Nat.le_of_ble_eq_true rfl) eX3_apart rfl ?_
          refine fx_min dX2_fromHunters_32 lX2_92 (by decide) (Nat.le_of_ble_eq_true rfl) ?_
          refine fs_istore_n_2 dX2_fromHunters_35 rfl (by decide) ?_
          refine fs_iinc_3 (w := nI 1) dX2_fromHunters_36 (by decide) rfl (by decide) ?_
          refine fx_goto (tgt := 7) dX2_fromHunters_39 (by decide) ?_
          rw [nI_add]
          first | (rw [if_pos hc18] at ih1; exact ih1) | (rw [if_neg hc18] at ih1; exact ih1)
  refine fx_aload_n dX2_fromHunters_0 rfl rfl ?_
  refine fx_get dX2_fromHunters_1 kX2_33 (a2 hw) rfl ?_
  rw [jI_4 hI]
  refine fs_istore_n_2 dX2_fromHunters_4 rfl (by decide) ?_
  refine fx_iconst (v := nI 0) dX2_fromHunters_5 (by decide) ?_
  refine fs_istore_n_3 dX2_fromHunters_6 rfl (by decide) ?_
  exact H 4 0 (by omega)
theorem eX2_nearestOther {b c kd : Nat} {q : Int32} (hw : zw w) (hI : jI F N G w V n h0 t) (hV : jW V n) (hkd : kd < 7) : Mx mX2_nearestOther [.ref w, .int (nI b), .int (nI c), .int (nI kd), .int q] (rC F N G) (some (.int (if jnear V b c kd n < 0 then q else jnear V b c kd n))) (rC F N G) := by
  refine mx_of (L := [some (.ref w), some (.int (nI b)), some (.int (nI c)), some (.int (nI kd)), some (.int q), none, none, none]) (by decide) (fun _ => rfl) (fun _ => Nat.le_of_ble_eq_true rfl) ?_
  have hn8 := hV.2.1
  generalize hr : (if jnear V b c kd n < 0 then q else jnear V b c kd n) = r
  have H : ∀ (k o : Nat), o + k = n → ∀ x7 : Option Value, Fx mX2_nearestOther (some (.int r), rC F N G) 6 [some (.ref w), some (.int (nI b)), some (.int (nI c)), some (.int (nI kd)), some (.int q), some (.int (jnear V b c kd o)), some (.int (nI o)), x7] [] (rC F N G) := by
    intro k
    induction k with
    | zero =>
      intro o ho x7
      have ho' : o = n := by omega
      subst ho'
      refine fx_iload dX2_nearestOther_6 rfl ?_
      refine fx_aload_n dX2_nearestOther_8 rfl rfl ?_
      refine fx_get dX2_nearestOther_9 kX2_47 (a2 hw) rfl ?_
      rw [jI_5 hI]
      refine fx_icmp_ge (tgt := 84) dX2_nearestOther_12 (by decide) rfl (fun hc12 => ?_) (fun hc12 => ?_)
      · refine fx_iload dX2_nearestOther_84 rfl ?_
        refine fx_if_ge (tgt := 94) dX2_nearestOther_86 (by decide) rfl (fun hc86 => ?_) (fun hc86 => ?_)
        · refine fx_iload dX2_nearestOther_94 rfl ?_
          exact fx_ireq dX2_nearestOther_96 rfl rfl (by rw [← hr]; first | rw [if_pos (Int32.not_le.mp hc86)] | rw [if_neg (Int32.not_lt.mpr hc86)]) rfl
        · refine fx_iload dX2_nearestOther_89 rfl ?_
          refine fx_goto (tgt := 96) dX2_nearestOther_91 (by decide) ?_
          exact fx_ireq dX2_nearestOther_96 rfl rfl (by rw [← hr]; first | rw [if_pos (Int32.not_le.mp hc86)] | rw [if_neg (Int32.not_lt.mpr hc86)]) rfl
      · exact absurd (Int32.le_refl _) hc12
    | succ k ih =>
      intro o ho x7
      have ih1 := ih (o + 1) (by omega)
      obtain ⟨⟨kk, hkk, ekk⟩, -, -, -, -⟩ := hV.2.2.1 o (by omega)
      have e2 : jnr V b kd o = (!decide (nI o = nI b) && (!decide (V (146 + 5 * o + 4) = nI 1) && jund kk kd)) := by unfold jnr; rw [ekk, nI_clamp (by omega)]
      have hy : (jnr V b kd o = true ∧ (jnear V b c kd o < 0 ∨ japart (nI c) (V (146 + 5 * o + 1)) < jnear V b c kd o)) → jnear V b c kd (o + 1) = japart (nI c) (V (146 + 5 * o + 1)) := fun z => if_pos z
      have hn : ¬ (jnr V b kd o = true ∧ (jnear V b c kd o < 0 ∨ japart (nI c) (V (146 + 5 * o + 1)) < jnear V b c kd o)) → jnear V b c kd (o + 1) = jnear V b c kd o := fun z => if_neg z
      have hf : jnr V b kd o = false → jnear V b c kd (o + 1) = jnear V b c kd o := fun z => hn (fun z2 => by rw [z] at z2; exact absurd z2.1 (by decide))
      refine fx_iload dX2_nearestOther_6 rfl ?_
      refine fx_aload_n dX2_nearestOther_8 rfl rfl ?_
      refine fx_get dX2_nearestOther_9 kX2_47 (a2 hw) rfl ?_
      rw [jI_5 hI]
      refine fx_icmp_ge (tgt := 84) dX2_nearestOther_12 (by decide) rfl (fun hc12 => ?_) (fun hc12 => ?_)
      · exact absurd hc12 (nI_ge (by omega) (by omega))
      · refine fx_iload dX2_nearestOther_15 rfl ?_
        refine fx_iload_n dX2_nearestOther_17 rfl rfl ?_
        refine fx_icmp_eq (tgt := 78) dX2_nearestOther_18 (by decide) rfl (fun hc18 => ?_) (fun hc18 => ?_)
        · refine fs_iinc_6 (w := nI 1) dX2_nearestOther_78 (by decide) rfl (by decide) ?_
          refine fx_goto (tgt := 6) dX2_nearestOther_81 (by decide) ?_
          rw [nI_add]
          first | (rw [hf (by rw [e2, decide_eq_true hc18]; rfl)] at ih1; exact ih1 _) | (rw [hf (by rw [e2, nI_eq0' hc27]; cases decide (nI o = nI b) <;> rfl)] at ih1; exact ih1 _) | (rw [hf (by rw [e2, nI_eq0' hc41, Bool.and_false, Bool.and_false])] at ih1; exact ih1 _) | (rw [hy ⟨by rw [e2, decide_eq_false hc18, nI_ne0' hc27, nI_ne0' hc41]; rfl, Or.inl hc59⟩] at ih1; exact ih1 _) | (rw [hy ⟨by rw [e2, decide_eq_false hc18, nI_ne0' hc27, nI_ne0' hc41]; rfl, Or.inr (Int32.not_le.mp hc66)⟩] at ih1; exact ih1 _) | (rw [hn (fun z => z.2.elim hc59 (fun z => absurd hc66 (Int32.not_le.mpr z)))] at ih1; exact ih1 _)
        · refine fx_aload_n dX2_nearestOther_21 rfl rfl ?_
          refine fx_iload dX2_nearestOther_22 rfl ?_
          refine fx_callVv dX2_nearestOther_24 vX2_isFree lX2_68 (by decide) (a2 hw) (Nat.le_of_ble_eq_true rfl) (eX2_isFree hw hI hn8 (by omega)) rfl ?_
          refine fx_if_eq (tgt := 78) dX2_nearestOther_27 (by decide) rfl (fun hc27 => ?_) (fun hc27 => ?_)
          · refine fs_iinc_6 (w := nI 1) dX2_nearestOther_78 (by decide) rfl (by decide) ?_
            refine fx_goto (tgt := 6) dX2_nearestOther_81 (by decide) ?_
            rw [nI_add]
            first | (rw [hf (by rw [e2, decide_eq_true hc18]; rfl)] at ih1; exact ih1 _) | (rw [hf (by rw [e2, nI_eq0' hc27]; cases decide (nI o = nI b) <;> rfl)] at ih1; exact ih1 _) | (rw [hf (by rw [e2, nI_eq0' hc41, Bool.and_false, Bool.and_false])] at ih1; exact ih1 _) | (rw [hy ⟨by rw [e2, decide_eq_false hc18, nI_ne0' hc27, nI_ne0' hc41]; rfl, Or.inl hc59⟩] at ih1; exact ih1 _) | (rw [hy ⟨by rw [e2, decide_eq_false hc18, nI_ne0' hc27, nI_ne0' hc41]; rfl, Or.inr (Int32.not_le.mp hc66)⟩] at ih1; exact ih1 _) | (rw [hn (fun z => z.2.elim hc59 (fun z => absurd hc66 (Int32.not_le.mpr z)))] at ih1; exact ih1 _)
          · refine fx_aload_n dX2_nearestOther_30 rfl rfl ?_
            refine fx_get dX2_nearestOther_31 kX2_18 (a2 hw) rfl ?_
            refine fx_iload dX2_nearestOther_34 rfl ?_
            refine fx_iald dX2_nearestOther_36 (a2_3 hw) (vp_in_nI (by omega) (by decide)) ?_
            rw [nI_clamp (by omega), jI_a3 hI, jbf_e (by omega), ekk]
            refine fx_iload_n dX2_nearestOther_37 rfl rfl ?_
            refine fx_callSv dX2_nearestOther_38 sX3_isUnder lX2_95 (by decide) (Nat.le_of_ble_eq_true rfl) (eX3_isUnder hkk hkd) rfl ?_
            refine fx_if_eq (tgt := 78) dX2_nearestOther_41 (by decide) rfl (fun hc41 => ?_) (fun hc41 => ?_)
            · refine fs_iinc_6 (w := nI 1) dX2_nearestOther_78 (by decide) rfl (by decide) ?_
              refine fx_goto (tgt := 6) dX2_nearestOther_81 (by decide) ?_
              rw [nI_add]
              first | (rw [hf (by rw [e2, decide_eq_true hc18]; rfl)] at ih1; exact ih1 _) | (rw [hf (by rw [e2, nI_eq0' hc27]; cases decide (nI o = nI b) <;> rfl)] at ih1; exact ih1 _) | (rw [hf (by rw [e2, nI_eq0' hc41, Bool.and_false, Bool.and_false])] at ih1; exact ih1 _) | (rw [hy ⟨by rw [e2, decide_eq_false hc18, nI_ne0' hc27, nI_ne0' hc41]; rfl, Or.inl hc59⟩] at ih1; exact ih1 _) | (rw [hy ⟨by rw [e2, decide_eq_false hc18, nI_ne0' hc27, nI_ne0' hc41]; rfl, Or.inr (Int32.not_le.mp hc66)⟩] at ih1; exact ih1 _) | (rw [hn (fun z => z.2.elim hc59 (fun z => absurd hc66 (Int32.not_le.mpr z)))] at ih1; exact ih1 _)
            · refine fx_iload_n dX2_nearestOther_44 rfl rfl ?_
              refine fx_aload_n dX2_nearestOther_45 rfl rfl ?_
              refine fx_get dX2_nearestOther_46 kX2_21 (a2 hw) rfl ?_
              refine fx_iload dX2_nearestOther_49 rfl ?_
              refine fx_iald dX2_nearestOther_51 (a2_4 hw) (vp_in_nI (by omega) (by decide)) ?_
              rw [nI_clamp (by omega), jI_a4 hI, jbf_e (by omega)]
              refine fx_callSv dX2_nearestOther_52 sX3_apart lX2_72 (by decide) (Nat.le_of_ble_eq_true rfl) eX3_apart rfl ?_
              refine fs_istore_7 dX2_nearestOther_55 rfl (by decide) ?_
              refine fx_iload dX2_nearestOther_57 rfl ?_
              refine fx_if_lt (tgt := 69) dX2_nearestOther_59 (by decide) rfl (fun hc59 => ?_) (fun hc59 => ?_)
              · refine fx_iload dX2_nearestOther_69 rfl ?_
                refine fx_goto (tgt := 76) dX2_nearestOther_71 (by decide) ?_
                refine fs_istore_5 dX2_nearestOther_76 rfl (by decide) ?_
                refine fs_iinc_6 (w := nI 1) dX2_nearestOther_78 (by decide) rfl (by decide) ?_
                refine fx_goto (tgt := 6) dX2_nearestOther_81 (by decide) ?_
                rw [nI_add]
                first | (rw [hf (by rw [e2, decide_eq_true hc18]; rfl)] at ih1; exact ih1 _) | (rw [hf (by rw [e2, nI_eq0' hc27]; cases decide (nI o = nI b) <;> rfl)] at ih1; exact ih1 _) | (rw [hf (by rw [e2, nI_eq0' hc41, Bool.and_false, Bool.and_false])] at ih1; exact ih1 _) | (rw [hy ⟨by rw [e2, decide_eq_false hc18, nI_ne0' hc27, nI_ne0' hc41]; rfl, Or.inl hc59⟩] at ih1; exact ih1 _) | (rw [hy ⟨by rw [e2, decide_eq_false hc18, nI_ne0' hc27, nI_ne0' hc41]; rfl, Or.inr (Int32.not_le.mp hc66)⟩] at ih1; exact ih1 _) | (rw [hn (fun z => z.2.elim hc59 (fun z => absurd hc66 (Int32.not_le.mpr z)))] at ih1; exact ih1 _)
              · refine fx_iload dX2_nearestOther_62 rfl ?_
                refine fx_iload dX2_nearestOther_64 rfl ?_
                refine fx_icmp_ge (tgt := 74) dX2_nearestOther_66 (by decide) rfl (fun hc66 => ?_) (fun hc66 => ?_)
                · refine fx_iload dX2_nearestOther_74 rfl ?_
                  refine fs_istore_5 dX2_nearestOther_76 rfl (by decide) ?_
                  refine fs_iinc_6 (w := nI 1) dX2_nearestOther_78 (by decide) rfl (by decide) ?_
                  refine fx_goto (tgt := 6) dX2_nearestOther_81 (by decide) ?_
                  rw [nI_add]
                  first | (rw [hf (by rw [e2, decide_eq_true hc18]; rfl)] at ih1; exact ih1 _) | (rw [hf (by rw [e2, nI_eq0' hc27]; cases decide (nI o = nI b) <;> rfl)] at ih1; exact ih1 _) | (rw [hf (by rw [e2, nI_eq0' hc41, Bool.and_false, Bool.and_false])] at ih1; exact ih1 _) | (rw [hy ⟨by rw [e2, decide_eq_false hc18, nI_ne0' hc27, nI_ne0' hc41]; rfl, Or.inl hc59⟩] at ih1; exact ih1 _) | (rw [hy ⟨by rw [e2, decide_eq_false hc18, nI_ne0' hc27, nI_ne0' hc41]; rfl, Or.inr (Int32.not_le.mp hc66)⟩] at ih1; exact ih1 _) | (rw [hn (fun z => z.2.elim hc59 (fun z => absurd hc66 (Int32.not_le.mpr z)))] at ih1; exact ih1 _)
                · refine fx_iload dX2_nearestOther_69 rfl ?_
                  refine fx_goto (tgt := 76) dX2_nearestOther_71 (by decide) ?_
                  refine fs_istore_5 dX2_nearestOther_76 rfl (by decide) ?_
                  refine fs_iinc_6 (w := nI 1) dX2_nearestOther_78 (by decide) rfl (by decide) ?_
                  refine fx_goto (tgt := 6) dX2_nearestOther_81 (by decide) ?_
                  rw [nI_add]
                  first | (rw [hf (by rw [e2, decide_eq_true hc18]; rfl)] at ih1; exact ih1 _) | (rw [hf (by rw [e2, nI_eq0' hc27]; cases decide (nI o = nI b) <;> rfl)] at ih1; exact ih1 _) | (rw [hf (by rw [e2, nI_eq0' hc41, Bool.and_false, Bool.and_false])] at ih1; exact ih1 _) | (rw [hy ⟨by rw [e2, decide_eq_false hc18, nI_ne0' hc27, nI_ne0' hc41]; rfl, Or.inl hc59⟩] at ih1; exact ih1 _) | (rw [hy ⟨by rw [e2, decide_eq_false hc18, nI_ne0' hc27, nI_ne0' hc41]; rfl, Or.inr (Int32.not_le.mp hc66)⟩] at ih1; exact ih1 _) | (rw [hn (fun z => z.2.elim hc59 (fun z => absurd hc66 (Int32.not_le.mpr z)))] at ih1; exact ih1 _)
  refine fx_iconst (v := (-1)) dX2_nearestOther_0 (by decide) ?_
  refine fs_istore_5 dX2_nearestOther_1 rfl (by decide) ?_
  refine fx_iconst (v := nI 0) dX2_nearestOther_3 (by decide) ?_
  refine fs_istore_6 dX2_nearestOther_4 rfl (by decide) ?_
  exact H n 0 (by omega) _
end
