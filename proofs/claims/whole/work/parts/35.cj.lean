/-! ===== the class: nets, bells, traits, draws ===== -/
set_option maxRecDepth 100000
theorem jclr {m c k : Nat} (e : ∀ i, i < 64 → k.testBit i = (m.testBit i && !decide (c = i))) : lN m &&& (lN (2 ^ c) ^^^ (-1)) = lN k := by
  apply wb_inj
  rw [Int64.toBitVec_and, Int64.toBitVec_xor, wb_tb, wb_tb, wb_tb, show (-1 : Int64).toBitVec = BitVec.allOnes 64 by decide]
  apply BitVec.eq_of_getLsbD_eq
  intro i hi
  rw [BitVec.getLsbD_and, BitVec.getLsbD_xor, BitVec.getLsbD_ofNat, BitVec.getLsbD_ofNat, BitVec.getLsbD_ofNat, BitVec.getLsbD_allOnes, e i hi, Nat.testBit_two_pow]
  simp [hi]
theorem jclr32 {m c k : Nat} (e : ∀ i, i < 32 → k.testBit i = (m.testBit i && !decide (c = i))) : nI m &&& (nI (2 ^ c) ^^^ (-1)) = nI k := by
  apply Int32.toBitVec_inj.mp
  rw [Int32.toBitVec_and, Int32.toBitVec_xor, show (-1 : Int32).toBitVec = BitVec.allOnes 32 by decide]
  show BitVec.ofNat 32 m &&& (BitVec.ofNat 32 (2 ^ c) ^^^ BitVec.allOnes 32) = BitVec.ofNat 32 k
  apply BitVec.eq_of_getLsbD_eq
  intro i hi
  rw [BitVec.getLsbD_and, BitVec.getLsbD_xor, BitVec.getLsbD_ofNat, BitVec.getLsbD_ofNat, BitVec.getLsbD_ofNat, BitVec.getLsbD_allOnes, e i hi, Nat.testBit_two_pow]
  simp [hi]
theorem jnm_c {V : Nat → Int32} {c : Nat} : ∀ i, i < 64 → (jnm (upd V (18 + c) (nI 0)) 64).testBit i = ((jnm V 64).testBit i && !decide (c = i)) := by
  intro i hi
  rw [jnm_b, jnm_b]
  by_cases e : c = i
  · subst e; rw [pk_us, decide_eq_false (show ¬ nI 0 = nI 1 by decide)]; simp
  · rw [pk_un (by omega), decide_eq_false e]; simp
theorem jsN_c {V : Nat → Int32} {n b : Nat} : ∀ i, i < 32 → (jsN (upd V (146 + 5 * b + 4) (nI 0)) n).testBit i = ((jsN V n).testBit i && !decide (b = i)) := by
  intro i hi
  rw [jsN_b, jsN_b]
  by_cases e : b = i
  · subst e; rw [pk_us, decide_eq_false (show ¬ nI 0 = nI 1 by decide)]; simp
  · rw [pk_un (by omega), decide_eq_false e]; simp
theorem jsN_oc {V : Nat → Int32} {n b : Nat} (hb : b < n) : jsN (upd V (146 + 5 * b + 4) (nI 1)) n = jsN (upd V (146 + 5 * b + 4) (nI 0)) n ||| 2 ^ b := by
  apply Nat.eq_of_testBit_eq
  intro i
  rw [Nat.testBit_or, jsN_b, jsN_b, Nat.testBit_two_pow]
  by_cases e : b = i
  · subst e; rw [pk_us]; simp [hb]
  · rw [pk_un (by omega), pk_un (by omega)]; simp [e]
section
variable {F : Nat → Nat → Int32} {N : Nat → Nat → Int64} {G : Nat → Nat → Int32} {w : Nat} {V : Nat → Int32} {n : Nat} {h0 : Int32} {t : Nat}
theorem jI_n1 (k : jI F N G w V n h0 t) (hv : ¬ V (146 + 5 * n + 4) = nI 1) : jI (f2 F w 5 (nI (n + 1))) N G w (upd V 2 (nI (n + 1))) (n + 1) h0 t := by
  refine ⟨?_, ?_, ?_, ?_, ?_, ?_, ?_, ?_, ?_, ?_, ?_, ?_, ?_, ?_⟩
  · rw [f2_n _ _ (Or.inr (by decide))]; exact jI_0 k
  · rw [jnm_u (by omega)]; exact jI_m k
  · rw [f2_n _ _ (Or.inr (by decide)), pk_un (by omega)]; exact jI_4 k
  · rw [f2_s]
  · rw [f2_n _ _ (Or.inr (by decide)), jsN_u (fun o => by omega), jsN_1, if_neg hv, Nat.or_zero]; exact jI_c k
  · rw [f2_n _ _ (Or.inr (by decide)), pk_un (by omega)]; exact jI_z k
  · exact jI_t k
  · rw [jth_u (by omega)]; exact jI_a1 k
  · rw [jhu_u (by omega)]; exact jI_a2 k
  · rw [jbf_u (fun o => by omega)]; exact jI_a3 k
  · rw [jbf_u (fun o => by omega)]; exact jI_a4 k
  · rw [jbf_u (fun o => by omega)]; exact jI_a5 k
  · rw [jbf_u (fun o => by omega)]; exact jI_a6 k
  · rw [jspt_u (by omega)]; exact jI_a7 k
theorem eX2_setNet {c : Nat} {b : Bool} (hw : zw w) (hI : jI F N G w V n h0 t) (hc : c < 64) : Mx mX2_setNet [.ref w, .int (nI c), .int (jB b)] (rC F N G) none (jC F N G w (upd V (18 + c) (jB b)) n h0 t) := by
  refine mx_of (L := [some (.ref w), some (.int (nI c)), some (.int (jB b))]) (by decide) (fun _ => rfl) (fun _ => Nat.le_of_ble_eq_true rfl) ?_
  cases b
  · refine fx_aload_n dX2_setNet_0 rfl rfl ?_
    refine fx_iload_n dX2_setNet_1 rfl rfl ?_
    refine fx_if_eq (tgt := 16) dX2_setNet_2 (by decide) rfl (fun hc2 => ?_) (fun hc2 => ?_)
    · refine fx_aload_n dX2_setNet_16 rfl rfl ?_
      refine fx_get dX2_setNet_17 kX2_43 (a2 hw) rfl ?_
      rw [jI_m hI]
      refine fx_lconst (v := 1) dX2_setNet_20 (by decide) ?_
      refine fx_iload_n dX2_setNet_21 rfl rfl ?_
      refine fx_lshl dX2_setNet_22 ?_
      rw [jl1, wb_shl 1 hc, Nat.one_mul]
      refine fx_ldc2 dX2_setNet_23 qX2_66 ?_
      refine fx_lxor dX2_setNet_26 ?_
      refine fx_land dX2_setNet_27 ?_
      rw [jclr jnm_c]
      refine fx_put dX2_setNet_28 kX2_43 (a2 hw) (Nat.le_of_ble_eq_true rfl) (fun _ => rfl) rfl rfl (u2_1 hw) ?_
      exact fx_vreq dX2_setNet_31 rfl (j_can (jI_wm (x := nI 0) hI hc rfl) (jFr_n jFr_r (Or.inl rfl)))
    · exact absurd (by decide) hc2
  · refine fx_aload_n dX2_setNet_0 rfl rfl ?_
    refine fx_iload_n dX2_setNet_1 rfl rfl ?_
    refine fx_if_eq (tgt := 16) dX2_setNet_2 (by decide) rfl (fun hc2 => ?_) (fun hc2 => ?_)
    · exact absurd hc2 (by decide)
    · refine fx_aload_n dX2_setNet_5 rfl rfl ?_
      refine fx_get dX2_setNet_6 kX2_43 (a2 hw) rfl ?_
      rw [jI_m hI]
      refine fx_lconst (v := 1) dX2_setNet_9 (by decide) ?_
      refine fx_iload_n dX2_setNet_10 rfl rfl ?_
      refine fx_lshl dX2_setNet_11 ?_
      rw [jl1, wb_shl 1 hc, Nat.one_mul]
      refine fx_lor dX2_setNet_12 ?_
      rw [wb_or (jnm_lt V 64) (Nat.pow_lt_pow_right (by decide) hc), ← jnm_s hc]
      refine fx_goto (tgt := 28) dX2_setNet_13 (by decide) ?_
      refine fx_put dX2_setNet_28 kX2_43 (a2 hw) (Nat.le_of_ble_eq_true rfl) (fun _ => rfl) rfl rfl (u2_1 hw) ?_
      exact fx_vreq dX2_setNet_31 rfl (j_can (jI_wm (x := nI 1) hI hc rfl) (jFr_n jFr_r (Or.inl rfl)))
theorem eX2_setTrait {b f : Nat} {v : Int32} (hw : zw w) (hI : jI F N G w V n h0 t) (hn : n ≤ 8) (hb : b < n) (hf : f ≤ 4) (hv : f = 4 → v = nI 0 ∨ v = nI 1) : Mx mX2_setTrait [.ref w, .int (nI b), .int (nI f), .int v] (rC F N G) none (jC F N G w (upd V (146 + 5 * b + f) v) n h0 t) := by
  refine mx_of (L := [some (.ref w), some (.int (nI b)), some (.int (nI f)), some (.int v)]) (by decide) (fun _ => rfl) (fun _ => Nat.le_of_ble_eq_true rfl) ?_
  have T : ∀ q : Nat, Fx mX2_setTrait (none, jC F N G w (upd V (146 + 5 * b + f) v) n h0 t) q [some (.ref w), some (.int (nI b)), some (.int (nI f)), some (.int v)] [] (rC F N G) → (q = 32 ∧ f = 0 ∨ q = 42 ∧ f = 1 ∨ q = 52 ∧ f = 2 ∨ q = 62 ∧ f = 3) → Fx mX2_setTrait (none, jC F N G w (upd V (146 + 5 * b + f) v) n h0 t) 0 [some (.ref w), some (.int (nI b)), some (.int (nI f)), some (.int v)] [] (rC F N G) := by
    intro q k hq
    refine fx_iload_n dX2_setTrait_0 rfl rfl ?_
    rcases hq with ⟨rfl, rfl⟩ | ⟨rfl, rfl⟩ | ⟨rfl, rfl⟩ | ⟨rfl, rfl⟩ <;> exact fx_tableIn dX2_setTrait_1 (by decide) (by decide) rfl (by decide) k
  rcases (show f = 0 ∨ f = 1 ∨ f = 2 ∨ f = 3 ∨ f = 4 by omega) with rfl | rfl | rfl | rfl | rfl
  · refine T 32 ?_ (by omega)
    refine fx_aload_n dX2_setTrait_32 rfl rfl ?_
    refine fx_get dX2_setTrait_33 kX2_18 (a2 hw) rfl ?_
    refine fx_iload_n dX2_setTrait_36 rfl rfl ?_
    refine fx_iload_n dX2_setTrait_37 rfl rfl ?_
    refine fx_iast dX2_setTrait_38 (a2_3 hw) (vp_in_nI (by omega) (by decide)) (w2_3 hw) ?_
    rw [nI_clamp (by omega)]
    refine fx_goto (tgt := 90) dX2_setTrait_39 (by decide) ?_
    exact fx_vreq dX2_setTrait_90 rfl (j_can (jI_w0 hI (by omega)) (jFr_g (j := 3) jFr_r (by decide)))
  · refine T 42 ?_ (by omega)
    refine fx_aload_n dX2_setTrait_42 rfl rfl ?_
    refine fx_get dX2_setTrait_43 kX2_21 (a2 hw) rfl ?_
    refine fx_iload_n dX2_setTrait_46 rfl rfl ?_
    refine fx_iload_n dX2_setTrait_47 rfl rfl ?_
    refine fx_iast dX2_setTrait_48 (a2_4 hw) (vp_in_nI (by omega) (by decide)) (w2_4 hw) ?_
    rw [nI_clamp (by omega)]
    refine fx_goto (tgt := 90) dX2_setTrait_49 (by decide) ?_
    exact fx_vreq dX2_setTrait_90 rfl (j_can (jI_w1 hI (by omega)) (jFr_g (j := 4) jFr_r (by decide)))
  · refine T 52 ?_ (by omega)
    refine fx_aload_n dX2_setTrait_52 rfl rfl ?_
    refine fx_get dX2_setTrait_53 kX2_24 (a2 hw) rfl ?_
    refine fx_iload_n dX2_setTrait_56 rfl rfl ?_
    refine fx_iload_n dX2_setTrait_57 rfl rfl ?_
    refine fx_iast dX2_setTrait_58 (a2_5 hw) (vp_in_nI (by omega) (by decide)) (w2_5 hw) ?_
    rw [nI_clamp (by omega)]
    refine fx_goto (tgt := 90) dX2_setTrait_59 (by decide) ?_
    exact fx_vreq dX2_setTrait_90 rfl (j_can (jI_w2 hI (by omega)) (jFr_g (j := 5) jFr_r (by decide)))
  · refine T 62 ?_ (by omega)
    refine fx_aload_n dX2_setTrait_62 rfl rfl ?_
    refine fx_get dX2_setTrait_63 kX2_27 (a2 hw) rfl ?_
    refine fx_iload_n dX2_setTrait_66 rfl rfl ?_
    refine fx_iload_n dX2_setTrait_67 rfl rfl ?_
    refine fx_iast dX2_setTrait_68 (a2_6 hw) (vp_in_nI (by omega) (by decide)) (w2_6 hw) ?_
    rw [nI_clamp (by omega)]
    refine fx_goto (tgt := 90) dX2_setTrait_69 (by decide) ?_
    exact fx_vreq dX2_setTrait_90 rfl (j_can (jI_w3 hI (by omega)) (jFr_g (j := 6) jFr_r (by decide)))
  · refine fx_iload_n dX2_setTrait_0 rfl rfl ?_
    refine fx_tableOut (tgt := 72) dX2_setTrait_1 (Or.inr (by decide)) (by decide) ?_
    rcases hv rfl with rfl | rfl
    · refine fx_aload_n dX2_setTrait_72 rfl rfl ?_
      refine fx_aload_n dX2_setTrait_73 rfl rfl ?_
      refine fx_get dX2_setTrait_74 kX2_50 (a2 hw) rfl ?_
      rw [jI_c hI]
      refine fx_iconst (v := nI 1) dX2_setTrait_77 (by decide) ?_
      refine fx_iload_n dX2_setTrait_78 rfl rfl ?_
      refine fx_ishl dX2_setTrait_79 ?_
      rw [nI_shl1 b (by omega)]
      refine fx_iconst (v := (-1)) dX2_setTrait_80 (by decide) ?_
      refine fx_ixor dX2_setTrait_81 ?_
      refine fx_iand dX2_setTrait_82 ?_
      rw [jclr32 jsN_c]
      refine fx_iload_n dX2_setTrait_83 rfl rfl ?_
      refine fx_iload_n dX2_setTrait_84 rfl rfl ?_
      refine fx_ishl dX2_setTrait_85 ?_
      rw [show nI 0 <<< (nI b &&& 31) = nI 0 from (show ∀ b, b < 8 → nI 0 <<< (nI b &&& 31) = nI 0 by decide +kernel) b (by omega)]
      refine fx_ior dX2_setTrait_86 ?_
      rw [nI_or, Nat.or_zero]
      refine fx_put dX2_setTrait_87 kX2_50 (a2 hw) (Nat.le_of_ble_eq_true rfl) (fun _ => rfl) rfl rfl (u2_10 hw) ?_
      exact fx_vreq dX2_setTrait_90 rfl (j_can (jI_wc hI rfl) (jFr_f (j := 10) jFr_r (by decide)))
    · refine fx_aload_n dX2_setTrait_72 rfl rfl ?_
      refine fx_aload_n dX2_setTrait_73 rfl rfl ?_
      refine fx_get dX2_setTrait_74 kX2_50 (a2 hw) rfl ?_
      rw [jI_c hI]
      refine fx_iconst (v := nI 1) dX2_setTrait_77 (by decide) ?_
      refine fx_iload_n dX2_setTrait_78 rfl rfl ?_
      refine fx_ishl dX2_setTrait_79 ?_
      rw [nI_shl1 b (by omega)]
      refine fx_iconst (v := (-1)) dX2_setTrait_80 (by decide) ?_
      refine fx_ixor dX2_setTrait_81 ?_
      refine fx_iand dX2_setTrait_82 ?_
      rw [jclr32 jsN_c]
      refine fx_iload_n dX2_setTrait_83 rfl rfl ?_
      refine fx_iload_n dX2_setTrait_84 rfl rfl ?_
      refine fx_ishl dX2_setTrait_85 ?_
      rw [nI_shl1 b (by omega)]
      refine fx_ior dX2_setTrait_86 ?_
      rw [nI_or, ← jsN_oc hb]
      refine fx_put dX2_setTrait_87 kX2_50 (a2 hw) (Nat.le_of_ble_eq_true rfl) (fun _ => rfl) rfl rfl (u2_10 hw) ?_
      exact fx_vreq dX2_setTrait_90 rfl (j_can (jI_wc hI rfl) (jFr_f (j := 10) jFr_r (by decide)))
theorem eX2_addBell {k c : Int32} (hw : zw w) (hI : jI F N G w V n h0 t) (hn : n < 8) : Mx mX2_addBell [.ref w, .int k, .int c] (rC F N G) (some (.int (nI n))) (jC F N G w (jcome V n k c (nI 0) (nI 10)) (n + 1) h0 t) := by
  refine mx_of (L := [some (.ref w), some (.int k), some (.int c), none]) (by decide) (fun _ => rfl) (fun _ => Nat.le_of_ble_eq_true rfl) ?_
  have k1 := jI_w0 (x := k) hI hn
  have k2 := jI_w1 (x := c) k1 hn
  have k3 := jI_w2 (x := nI 0) k2 hn
  have k4 := jI_w3 (x := nI 10) k3 hn
  have k5 := jI_wc (b := n) (x := nI 0) k4 rfl
  have k6 := jI_n1 k5 (by rw [pk_us]; decide)
  have hW := j_can (F := F) (N := N) (G := G) k6 (jFr_f (j := 5) (jFr_f (j := 10) (jFr_g (j := 6) (jFr_g (j := 5) (jFr_g (j := 4) (jFr_g (j := 3) jFr_r (by decide)) (by decide)) (by decide)) (by decide)) (by decide)) (by decide))
  refine fx_aload_n dX2_addBell_0 rfl rfl ?_
  refine fx_get dX2_addBell_1 kX2_47 (a2 hw) rfl ?_
  rw [jI_5 hI]
  refine fs_istore_n_3 dX2_addBell_4 rfl (by decide) ?_
  refine fx_iload_n dX2_addBell_5 rfl rfl ?_
  refine fx_bipush (v := nI 8) dX2_addBell_6 (by decide) ?_
  refine fx_icmp_ge (tgt := 64) dX2_addBell_8 (by decide) rfl (fun hc8 => ?_) (fun hc8 => ?_)
  · exact absurd hc8 (nI_ge hn (by decide))
  · refine fx_aload_n dX2_addBell_11 rfl rfl ?_
    refine fx_get dX2_addBell_12 kX2_18 (a2 hw) rfl ?_
    refine fx_iload_n dX2_addBell_15 rfl rfl ?_
    refine fx_iload_n dX2_addBell_16 rfl rfl ?_
    refine fx_iast dX2_addBell_17 (a2_3 hw) (vp_in_nI hn (by decide)) (w2_3 hw) ?_
    rw [nI_clamp (by omega)]
    refine fx_aload_n dX2_addBell_18 rfl rfl ?_
    refine fx_get dX2_addBell_19 kX2_21 (a2 hw) rfl ?_
    refine fx_iload_n dX2_addBell_22 rfl rfl ?_
    refine fx_iload_n dX2_addBell_23 rfl rfl ?_
    refine fx_iast dX2_addBell_24 (a2_4 hw) (vp_in_nI hn (by decide)) (w2_4 hw) ?_
    rw [nI_clamp (by omega)]
    refine fx_aload_n dX2_addBell_25 rfl rfl ?_
    refine fx_get dX2_addBell_26 kX2_24 (a2 hw) rfl ?_
    refine fx_iload_n dX2_addBell_29 rfl rfl ?_
    refine fx_iconst (v := nI 0) dX2_addBell_30 (by decide) ?_
    refine fx_iast dX2_addBell_31 (a2_5 hw) (vp_in_nI hn (by decide)) (w2_5 hw) ?_
    rw [nI_clamp (by omega)]
    refine fx_aload_n dX2_addBell_32 rfl rfl ?_
    refine fx_get dX2_addBell_33 kX2_27 (a2 hw) rfl ?_
    refine fx_iload_n dX2_addBell_36 rfl rfl ?_
    refine fx_bipush (v := nI 10) dX2_addBell_37 (by decide) ?_
    refine fx_iast dX2_addBell_39 (a2_6 hw) (vp_in_nI hn (by decide)) (w2_6 hw) ?_
    rw [nI_clamp (by omega)]
    refine fx_aload_n dX2_addBell_40 rfl rfl ?_
    refine fx_dup dX2_addBell_41 rfl ?_
    refine fx_get dX2_addBell_42 kX2_50 (a2 hw) rfl ?_
    rw [jI_c k4]
    refine fx_iconst (v := nI 1) dX2_addBell_45 (by decide) ?_
    refine fx_iload_n dX2_addBell_46 rfl rfl ?_
    refine fx_ishl dX2_addBell_47 ?_
    rw [nI_shl1 n (by omega)]
    refine fx_iconst (v := (-1)) dX2_addBell_48 (by decide) ?_
    refine fx_ixor dX2_addBell_49 ?_
    refine fx_iand dX2_addBell_50 ?_
    rw [jclr32 jsN_c]
    refine fx_put dX2_addBell_51 kX2_50 (a2 hw) (Nat.le_of_ble_eq_true rfl) (fun _ => rfl) rfl rfl (u2_10 hw) ?_
    refine fx_aload_n dX2_addBell_54 rfl rfl ?_
    refine fx_dup dX2_addBell_55 rfl ?_
    refine fx_get dX2_addBell_56 kX2_47 (a2 hw) rfl ?_
    rw [jI_5 k5]
    refine fx_iconst (v := nI 1) dX2_addBell_59 (by decide) ?_
    refine fx_iadd dX2_addBell_60 ?_
    rw [nI_add]
    refine fx_put dX2_addBell_61 kX2_47 (a2 hw) (Nat.le_of_ble_eq_true rfl) (fun _ => rfl) rfl rfl (u2_5 hw) ?_
    refine fx_iload_n dX2_addBell_64 rfl rfl ?_
    exact fx_ireq dX2_addBell_65 rfl rfl rfl hW
theorem eX2_draw (hw : zw w) (hI : jI F N G w V n h0 t) : Mx mX2_draw [.ref w] (rC F N G) (some (.int (nI (jq (V 3))))) (jC F N G w (upd V 3 (jz (V 3))) n h0 t) := by
  refine mx_of (L := [some (.ref w)]) (by decide) (fun _ => rfl) (fun _ => Nat.le_of_ble_eq_true rfl) ?_
  obtain ⟨e1, e2⟩ := jq_e (V 3)
  have k1 := jI_wz (x := jz (V 3)) hI
  refine fx_aload_n dX2_draw_0 rfl rfl ?_
  refine fx_aload_n dX2_draw_1 rfl rfl ?_
  refine fx_get dX2_draw_2 kX2_37 (a2 hw) rfl ?_
  rw [jI_z hI]
  refine fx_ldc dX2_draw_5 qX2_116 ?_
  refine fx_imul dX2_draw_7 ?_
  refine fx_sipush (v := nI 12345) dX2_draw_8 (by decide) ?_
  refine fx_iadd dX2_draw_11 ?_
  refine fx_as (y := jz (V 3)) rfl ?_
  refine fx_put dX2_draw_12 kX2_37 (a2 hw) (Nat.le_of_ble_eq_true rfl) (fun _ => rfl) rfl rfl (u2_11 hw) ?_
  refine fx_aload_n dX2_draw_15 rfl rfl ?_
  refine fx_get dX2_draw_16 kX2_37 (a2 hw) rfl ?_
  rw [f2_s]
  refine fx_bipush (v := nI 8) dX2_draw_19 (by decide) ?_
  refine fx_iushr dX2_draw_21 ?_
  exact fx_ireq dX2_draw_22 rfl rfl e1 (j_can k1 (jFr_f (j := 11) jFr_r (by decide)))
end
