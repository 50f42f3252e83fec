/-! ===== pairs: go, thunder, ahead, when, caught, still ===== -/
set_option maxRecDepth 100000
section
variable {V V' : Nat → Int32} {n : Nat} {t : Nat}
theorem jhv_o {i : Nat} (hi : i < 146) : ∀ b, jhv V n b i = V i := by
  intro b
  induction b with
  | zero => rfl
  | succ b ih =>
    rw [jhv_1]
    by_cases q : jhv V n b (146 + 5 * b + 4) = nI 1
    · rw [if_pos q]; exact ih
    · rw [if_neg q, pk_un (by omega), pk_un (by omega)]; exact ih
theorem jhour_o {i : Nat} (h1 : 1 ≤ i) (hi : i < 146) : jhour V n i = V i := by
  unfold jhour
  rw [pk_un (by omega), jhv_o hi]
theorem jhour_0 {a : Nat} (h : V 0 = nI a) : jhour V n 0 = nI (a + 1) := by
  unfold jhour
  rw [pk_us, jhv_o (by decide), h, nI_add]
theorem jhrs_o {i : Nat} (h1 : 1 ≤ i) (hi : i < 146) : ∀ k, jhrs V n k i = V i := by
  intro k
  induction k with
  | zero => rfl
  | succ k ih => exact (jhour_o h1 hi).trans ih
theorem jhrs_0 {a : Nat} (h : V 0 = nI a) : ∀ k, jhrs V n k 0 = nI (a + k) := by
  intro k
  induction k with
  | zero => exact h
  | succ k ih => exact jhour_0 ih
theorem jstr_o {i : Nat} (h1 : i ≠ 3) (hi : i < 146) : jstr V n i = V i := by
  unfold jstr
  rw [pk_un (by omega), pk_un (by omega)]
theorem jths_o {i : Nat} (h1 : 1 ≤ i) (h3 : i ≠ 3) (hi : i < 146) : ∀ k, jths V n k i = V i := by
  intro k
  induction k with
  | zero => rfl
  | succ k ih => exact ((jhour_o h1 hi).trans (jstr_o h3 hi)).trans ih
theorem jths_0 {a : Nat} (h : V 0 = nI a) : ∀ k, jths V n k 0 = nI (a + k) := by
  intro k
  induction k with
  | zero => exact h
  | succ k ih => exact jhour_0 ((jstr_o (by decide) (by decide)).trans ih)
def jgt (V : Nat → Int32) (n t : Nat) : Nat → Nat
  | 0 => t
  | k + 1 => jtd (jhrs V n k) n (jgt V n t k) n
theorem jgt_lt (hV : jW V n) (ht : t < 2 ^ 64) : ∀ k, jgt V n t k < 2 ^ 64 := by
  intro k
  induction k with
  | zero => exact ht
  | succ k ih => exact jtd_lt (jW_hrs hV k) ih n (Nat.le_refl n)
def jgu (V : Nat → Int32) (n t : Nat) : Nat → Nat
  | 0 => t
  | k + 1 => jtd (jstr (jths V n k) n) n (jgu V n t k) n
theorem jgu_lt (hV : jW V n) (hn : 0 < n) (ht : t < 2 ^ 64) : ∀ k, jgu V n t k < 2 ^ 64 := by
  intro k
  induction k with
  | zero => exact ht
  | succ k ih => exact jtd_lt (jW_str (jW_ths hV hn k) hn) ih n (Nat.le_refl n)
theorem jE_sN (e : jE V V') : ∀ b, jsN V b = jsN V' b := by
  intro b
  induction b with
  | zero => rfl
  | succ b ih => rw [jsN_1, jsN_1, ih, e (146 + 5 * b + 4) (by omega)]
theorem jta_v {h : Int32} {b r : Nat} (hV : jW V n) (ht : t < 2 ^ 64) (hr : r < 1000) : (jta V n h t b r 0).1 = if jcv V n b r < 1000 then nI (jcv V n b r) else (-1) := by
  have hj := jcnt_le n b r V
  rw [jta_e hV ht b r 0]
  unfold jcv
  rw [Nat.zero_add, show jhrs V n 0 = V from rfl]
  by_cases q : jhrs V n (jcnt V n b r) (146 + 5 * b + 4) = nI 1
  · rw [if_pos q, if_pos q, if_pos (by omega)]
  · rw [if_neg q, if_neg q, if_neg (by decide)]
end
section
variable {F : Nat → Nat → Int32} {N : Nat → Nat → Int64} {G : Nat → Nat → Int32} {w : Nat} {V V2 : Nat → Int32} {n n2 : Nat} {h h2 : Int32} {t t2 : Nat}
theorem jT1 (k : jI F N G 9 V n h t) : G 10 = jth V := jI_a1 k
theorem jT2 (k : jI F N G 9 V n h t) : G 11 = jhu V := jI_a2 k
theorem jT3 (k : jI F N G 9 V n h t) : G 12 = jbf V 0 := jI_a3 k
theorem jT4 (k : jI F N G 9 V n h t) : G 13 = jbf V 1 := jI_a4 k
theorem jT5 (k : jI F N G 9 V n h t) : G 14 = jbf V 2 := jI_a5 k
theorem jT6 (k : jI F N G 9 V n h t) : G 15 = jbf V 3 := jI_a6 k
theorem jT7 (k : jI F N G 9 V n h t) : G 16 = jspt V := jI_a7 k
theorem jG_step (hw : zw w) (hV : jW V n) (ht : t < 2 ^ 64) : Mx mX2_hourGoes [.ref w] (jC F N G w V n h t) (some (.int (jB (jmov V n)))) (jC F N G w (jhour V n) n (jmin (h + nI 1) (nI 99999)) (jtd V n t n)) := by
  have q := eX2_hourGoes hw (jI_p (F := F) (N := N) (G := G) (w := w) (V := V) (n := n) (h := h) (t := t)) hV ht
  rw [jC_C, ← jC_v jE_hv_hour] at q
  exact q
theorem jG_str (hw : zw w) (hV : jW V n) (hn : 0 < n) : Mx mX2_strike [.ref w] (jC F N G w V n h t) none (jC F N G w (jstr V n) n h t) := by
  have q := eX2_strike hw (jI_p (F := F) (N := N) (G := G) (w := w) (V := V) (n := n) (h := h) (t := t)) hV hn
  rw [jC_C] at q
  exact q
theorem jBe0 (hI : jI F N G 1 V n h t) (hT : jI F N G 9 V2 n2 h2 t2) : Mx mX2_becomes [.ref 9, .ref 1] (rC F N G) none (jC F N G 9 V n h 0) := eX2_becomes zw9 zw1 (Or.inl (by decide)) hI hT
theorem jBe (hI : jI F N G 1 V n h t) : Mx mX2_becomes [.ref 9, .ref 1] (jC F N G 9 V2 n2 h2 t2) none (jC F N G 9 V n h 0) := by
  have q := eX2_becomes zw9 zw1 (Or.inl (by decide)) (jI_fr hI (jFr_p (V := V2) (n := n2) (h := h2) (t := t2)) (Or.inr (by decide))) (jI_p (F := F) (N := N) (G := G) (w := 9) (V := V2) (n := n2) (h := h2) (t := t2))
  rw [jC_C] at q
  exact q
theorem jRu {m : Nat} (hm : m < 1000) (hV : jW V n) (ht : t < 2 ^ 64) : Mx mX2_runHours [.ref 9, .int (nI m)] (jC F N G 9 V n h t) none (jC F N G 9 (jrS V n h t m).2.1 n (jrS V n h t m).2.2.1 (jrS V n h t m).2.2.2) := by
  have q : Mx mX2_runHours [.ref 9, .int (nI m)] (jC F N G 9 V n h t) none (jC (pF F 9 V n h) (pN N 9 V t) (pG G 9 V) 9 (jrS V n h t m).2.1 n (jrS V n h t m).2.2.1 (jrS V n h t m).2.2.2) := eX2_runHours hm zw9 jI_p hV ht
  rw [jC_C] at q
  exact q
theorem jTi {b m : Nat} (hm : m < 1000) (hb : b < n) (hV : jW V n) (ht : t < 2 ^ 64) : Mx mX2_tillCaught [.ref 9, .int (nI b), .int (nI m)] (jC F N G 9 V n h t) (some (.int (if jcv V n b m < 1000 then nI (jcv V n b m) else (-1)))) (jC F N G 9 (jrS V n h t (jta V n h t b m 0).2).2.1 n (jrS V n h t (jta V n h t b m 0).2).2.2.1 (jrS V n h t (jta V n h t b m 0).2).2.2.2) := by
  have q : Mx mX2_tillCaught [.ref 9, .int (nI b), .int (nI m)] (jC F N G 9 V n h t) (some (.int (jta V n h t b m 0).1)) (jC (pF F 9 V n h) (pN N 9 V t) (pG G 9 V) 9 (jrS V n h t (jta V n h t b m 0).2).2.1 n (jrS V n h t (jta V n h t b m 0).2).2.2.1 (jrS V n h t (jta V n h t b m 0).2).2.2.2) := eX2_tillCaught hm hb zw9 jI_p hV ht
  rw [jC_C, jta_v hV ht hm] at q
  exact q
theorem jTn {b : Nat} : Mx mX2_tillCaught [.ref 9, .int (nI b), .int (-1)] (jC F N G 9 V n h t) (some (.int (-1))) (jC F N G 9 V n h t) := by
  have q : Mx mX2_tillCaught [.ref 9, .int (nI b), .int (-1)] (jC F N G 9 V n h t) (some (.int (-1))) (jC (pF F 9 V n h) (pN N 9 V t) (pG G 9 V) 9 V n h t) := eX2_tillCaught_n jI_p
  rw [jC_C] at q
  exact q
/-- a finding behind a trial -/
theorem jFi9 {k : Nat} (hk : k < 7) : Mx mX3_finding [.ref 0, .int (nI k)] (jC F N G 9 V n h t) (some (.int (jfd k))) (rC (pF F 9 V n h) (pN N 9 V t) (ga (pG G 9 V) 36 (jf1 (G 36) k))) := by
  have q := eX3_finding (F := pF F 9 V n h) (N := pN N 9 V t) (G := pG G 9 V) hk
  rw [show pG G 9 V 36 = G 36 from rfl] at q
  exact q
end
theorem jbt_f' {b : Bool} (h : ¬ b = true) : b = false := by cases b; rfl; exact absurd rfl h
section
variable {F4 F4' : Nat → Int32} {G4 : Nat → Nat → Int32} {F : Nat → Nat → Int32} {N : Nat → Nat → Int64} {G : Nat → Nat → Int32}
theorem jR_tf {V A : Nat → Int32} {n t k : Nat} {h : Int32} (R : jR F4 G4 F N G) (hA : ∀ k, 186 ≤ k → A k = 0) (e : ∀ j, j ≠ 7 → F4' j = F4 j) (hk : k < 7) : jR F4' (ga (ga G4 3 A) 4 (jfc (G4 4) k)) (pF F 9 V n h) (pN N 9 V t) (ga (pG G 9 V) 36 (jf1 (G 36) k)) := by
  have q := jR_f (jR_t (V := V) (n := n) (t := t) (h := h) R hA e) hk
  rw [show ga G4 3 A 4 = G4 4 from ga_n _ _ (by decide), show pG G 9 V 36 = G 36 from rfl] at q
  exact q
theorem jR_9 (R : jR F4 G4 F N G) : ∀ k, 186 ≤ k → G4 1 k = 0 := by
  obtain ⟨⟨n, t, hW, -⟩, -⟩ := R
  exact hW.2.2.2.2.2.2.2
theorem eX3_go_n {a : Int32} (h : jwi a (nI 1) (nI 24) = false) : Mx mX3_go [.ref 0, .int a] (rC F N G) (some (.int (jfd 0))) (rC F N (ga G 36 (jf1 (G 36) 0))) := by
  refine mx_of (L := [some (.ref 0), some (.int a), none]) (by decide) (fun _ => rfl) (fun _ => Nat.le_of_ble_eq_true rfl) ?_
  refine fx_iload_n dX3_go_0 rfl rfl ?_
  refine fx_iconst (v := nI 1) dX3_go_1 (by decide) ?_
  refine fx_icmp_lt (tgt := 11) dX3_go_2 (by decide) rC_l (fun hc2 => ?_) (fun hc2 => ?_)
  · refine fx_aload_n dX3_go_11 rfl rfl ?_
    refine fx_iconst (v := nI 0) dX3_go_12 (by decide) ?_
    refine fx_callVv dX3_go_13 vX3_finding lX3_51 (by decide) rfl (Nat.le_of_ble_eq_true rfl) (eX3_finding (k := 0) (by decide)) rfl ?_
    exact fx_ireq dX3_go_16 rfl rfl rfl rfl
  · refine fx_iload_n dX3_go_5 rfl rfl ?_
    refine fx_bipush (v := nI 24) dX3_go_6 (by decide) ?_
    refine fx_icmp_le (tgt := 17) dX3_go_8 (by decide) rC_l (fun hc8 => ?_) (fun hc8 => ?_)
    · exact jtf h (jwi_in hc2 (Int32.not_lt.mpr hc8))
    · refine fx_aload_n dX3_go_11 rfl rfl ?_
      refine fx_iconst (v := nI 0) dX3_go_12 (by decide) ?_
      refine fx_callVv dX3_go_13 vX3_finding lX3_51 (by decide) rfl (Nat.le_of_ble_eq_true rfl) (eX3_finding (k := 0) (by decide)) rfl ?_
      exact fx_ireq dX3_go_16 rfl rfl rfl rfl
theorem P_go (R : jR F4 G4 F N G) (a : Int32) : jP mX4_go mX3_go [.int a] F4 G4 F N G := by
  by_cases h : jwi a (nI 1) (nI 24) = false
  · exact ⟨_, _, _, _, _, _, eX4_go_n h, eX3_go_n h, jR_f R (by decide)⟩
  · obtain ⟨k, hk1, hk2, rfl⟩ := jwi1_of (k := 24) (by decide) (jbt_t h)
    have R0 := R
    obtain ⟨⟨n, t, hW, hS, ⟨t0, ht0, e0⟩, ht, hI⟩, -⟩ := R
    have hn8 := hW.2.1
    by_cases hs : 99999 < t0 + k
    · refine ⟨_, _, _, _, _, _, eX4_go_s e0 ht0 (jbt_t h) hk2 hs, ?_, jR_f R0 (by decide)⟩
      refine mx_of (L := [some (.ref 0), some (.int (nI k)), none]) (by decide) (fun _ => rfl) (fun _ => Nat.le_of_ble_eq_true rfl) ?_
      refine fx_iload_n dX3_go_0 rfl rfl ?_
      refine fx_iconst (v := nI 1) dX3_go_1 (by decide) ?_
      refine fx_icmp_lt (tgt := 11) dX3_go_2 (by decide) rC_l (fun hc2 => ?_) (fun hc2 => ?_)
      · exact absurd hc2 (nI_nlt hk1 (by omega))
      · refine fx_iload_n dX3_go_5 rfl rfl ?_
        refine fx_bipush (v := nI 24) dX3_go_6 (by decide) ?_
        refine fx_icmp_le (tgt := 17) dX3_go_8 (by decide) rC_l (fun hc8 => ?_) (fun hc8 => ?_)
        · refine fx_aload_n dX3_go_17 rfl rfl ?_
          refine fx_get dX3_go_18 kX3_10 rfl rfl ?_
          refine fx_get dX3_go_21 kX3_117 rfl rfl ?_
          rw [jI_0 hI, e0]
          refine fx_iload_n dX3_go_24 rfl rfl ?_
          refine fx_iadd dX3_go_25 ?_
          rw [nI_add]
          refine fx_ldc dX3_go_26 qX3_120 ?_
          rw [j99999]
          refine fx_icmp_le (tgt := 37) dX3_go_28 (by decide) rC_l (fun hc28 => ?_) (fun hc28 => ?_)
          · exact absurd hc28 (nI_ge hs (by omega))
          · refine fx_aload_n dX3_go_31 rfl rfl ?_
            refine fx_iconst (v := nI 4) dX3_go_32 (by decide) ?_
            refine fx_callVv dX3_go_33 vX3_finding lX3_51 (by decide) rfl (Nat.le_of_ble_eq_true rfl) (eX3_finding (k := 4) (by decide)) rfl ?_
            exact fx_ireq dX3_go_36 rfl rfl rfl rfl
        · exact absurd (nI_le hk2 (by decide)) hc8
    · have hb := jsN_256 (V := jhrs (G4 1) n k) hn8
      have hIk := jI_p (F := F) (N := N) (G := G) (w := 1) (V := jhrs (G4 1) n k) (n := n) (h := nI (t0 + k)) (t := jgt (G4 1) n t k)
      refine ⟨_, _, _, _, _, _, eX4_go_y R0.2.2.2.1.1 hW e0 (jbt_t h) hk2 (by omega), ?_, jR_w (t := jgt (G4 1) n t k) (h := nI (t0 + k)) R0 (jW_hrs hW k) (fun s hs => by rw [jhrs_o (by omega) (by omega)]; exact hS s hs) ⟨t0 + k, by omega, jhrs_0 e0 k⟩ (jgt_lt hW ht k) (jhrs_0 e0 k).symm (fun j hj => pk_un hj)⟩
      refine mx_of (L := [some (.ref 0), some (.int (nI k)), none]) (by decide) (fun _ => rfl) (fun _ => Nat.le_of_ble_eq_true rfl) ?_
      have H : ∀ (q i : Nat), i + q = k → Fx mX3_go (some (.int (nI (jp (jsN (jhrs (G4 1) n k) n)))), jC F N G 1 (jhrs (G4 1) n k) n (nI (t0 + k)) (jgt (G4 1) n t k)) 39 [some (.ref 0), some (.int (nI k)), some (.int (nI i))] [] (jC F N G 1 (jhrs (G4 1) n i) n (nI (t0 + i)) (jgt (G4 1) n t i)) := by
        intro q
        induction q with
        | zero =>
          intro i hi
          have hi' : i = k := by omega
          subst hi'
          refine fx_iload_n dX3_go_39 rfl rfl ?_
          refine fx_iload_n dX3_go_40 rfl rfl ?_
          refine fx_icmp_ge (tgt := 58) dX3_go_41 (by decide) rC_l (fun hc41 => ?_) (fun hc41 => ?_)
          · refine fx_aload_n dX3_go_58 rfl rfl ?_
            refine fx_get dX3_go_59 kX3_10 rfl rfl ?_
            refine fx_get dX3_go_62 kX3_125 rfl rfl ?_
            rw [jI_c hIk]
            refine fx_callSv dX3_go_65 sJ6_bitCount_0f7a4 lX3_128 (by decide) (Nat.le_of_ble_eq_true rfl) (eJ6_bitCount_0f7a4 hb) rfl ?_
            exact fx_ireq dX3_go_68 rfl rfl rfl rfl
          · exact absurd (Int32.le_refl _) hc41
        | succ q ih =>
          intro i hi
          have ih1 := ih (i + 1) (by omega)
          have eG := jG_step (F := F) (N := N) (G := G) (h := nI (t0 + i)) zw1 (jW_hrs hW i) (jgt_lt hW ht i)
          rw [nI_add, jmin_n (by omega) (by decide), Nat.min_eq_left (by omega)] at eG
          refine fx_iload_n dX3_go_39 rfl rfl ?_
          refine fx_iload_n dX3_go_40 rfl rfl ?_
          refine fx_icmp_ge (tgt := 58) dX3_go_41 (by decide) rC_l (fun hc41 => ?_) (fun hc41 => ?_)
          · exact absurd hc41 (nI_ge (by omega) (by omega))
          · refine fx_aload_n dX3_go_44 rfl rfl ?_
            refine fx_get dX3_go_45 kX3_10 rfl rfl ?_
            refine fx_callVv dX3_go_48 vX2_hourGoes lX3_121 (by decide) rfl (Nat.le_of_ble_eq_true rfl) eG rfl ?_
            refine fx_pop dX3_go_51 rfl ?_
            refine fs_iinc_2 (w := nI 1) dX3_go_52 (by decide) rfl (by decide) ?_
            refine fx_goto (tgt := 39) dX3_go_55 (by decide) ?_
            rw [nI_add]
            exact ih1
      have H0 := H k 0 (by omega)
      rw [j_can hI jFr_r, e0]
      refine fx_iload_n dX3_go_0 rfl rfl ?_
      refine fx_iconst (v := nI 1) dX3_go_1 (by decide) ?_
      refine fx_icmp_lt (tgt := 11) dX3_go_2 (by decide) rC_l (fun hc2 => ?_) (fun hc2 => ?_)
      · exact absurd hc2 (nI_nlt hk1 (by omega))
      · refine fx_iload_n dX3_go_5 rfl rfl ?_
        refine fx_bipush (v := nI 24) dX3_go_6 (by decide) ?_
        refine fx_icmp_le (tgt := 17) dX3_go_8 (by decide) rC_l (fun hc8 => ?_) (fun hc8 => ?_)
        · refine fx_aload_n dX3_go_17 rfl rfl ?_
          refine fx_get dX3_go_18 kX3_10 rfl rfl ?_
          refine fx_get dX3_go_21 kX3_117 rfl rfl ?_
          rw [show pF F 1 (G4 1) n (nI t0) 1 0 = nI t0 from rfl]
          refine fx_iload_n dX3_go_24 rfl rfl ?_
          refine fx_iadd dX3_go_25 ?_
          rw [nI_add]
          refine fx_ldc dX3_go_26 qX3_120 ?_
          rw [j99999]
          refine fx_icmp_le (tgt := 37) dX3_go_28 (by decide) rC_l (fun hc28 => ?_) (fun hc28 => ?_)
          · refine fx_iconst (v := nI 0) dX3_go_37 (by decide) ?_
            refine fs_istore_n_2 dX3_go_38 rfl (by decide) ?_
            exact H0
          · exact absurd (nI_le (by omega) (by omega)) hc28
        · exact absurd (nI_le hk2 (by decide)) hc8
theorem eX3_thunder_n {a : Int32} (h : jwi a (nI 1) (nI 20) = false) : Mx mX3_thunder [.ref 0, .int a] (rC F N G) (some (.int (jfd 0))) (rC F N (ga G 36 (jf1 (G 36) 0))) := by
  refine mx_of (L := [some (.ref 0), some (.int a), none]) (by decide) (fun _ => rfl) (fun _ => Nat.le_of_ble_eq_true rfl) ?_
  refine fx_iload_n dX3_thunder_0 rfl rfl ?_
  refine fx_iconst (v := nI 1) dX3_thunder_1 (by decide) ?_
  refine fx_icmp_lt (tgt := 11) dX3_thunder_2 (by decide) rC_l (fun hc2 => ?_) (fun hc2 => ?_)
  · refine fx_aload_n dX3_thunder_11 rfl rfl ?_
    refine fx_iconst (v := nI 0) dX3_thunder_12 (by decide) ?_
    refine fx_callVv dX3_thunder_13 vX3_finding lX3_51 (by decide) rfl (Nat.le_of_ble_eq_true rfl) (eX3_finding (k := 0) (by decide)) rfl ?_
    exact fx_ireq dX3_thunder_16 rfl rfl rfl rfl
  · refine fx_iload_n dX3_thunder_5 rfl rfl ?_
    refine fx_bipush (v := nI 20) dX3_thunder_6 (by decide) ?_
    refine fx_icmp_le (tgt := 17) dX3_thunder_8 (by decide) rC_l (fun hc8 => ?_) (fun hc8 => ?_)
    · exact jtf h (jwi_in hc2 (Int32.not_lt.mpr hc8))
    · refine fx_aload_n dX3_thunder_11 rfl rfl ?_
      refine fx_iconst (v := nI 0) dX3_thunder_12 (by decide) ?_
      refine fx_callVv dX3_thunder_13 vX3_finding lX3_51 (by decide) rfl (Nat.le_of_ble_eq_true rfl) (eX3_finding (k := 0) (by decide)) rfl ?_
      exact fx_ireq dX3_thunder_16 rfl rfl rfl rfl
theorem P_thunder (R : jR F4 G4 F N G) (a : Int32) : jP mX4_thunder mX3_thunder [.int a] F4 G4 F N G := by
  by_cases h : jwi a (nI 1) (nI 20) = false
  · exact ⟨_, _, _, _, _, _, eX4_thunder_n h, eX3_thunder_n h, jR_f R (by decide)⟩
  · obtain ⟨k, hk1, hk2, rfl⟩ := jwi1_of (k := 20) (by decide) (jbt_t h)
    have R0 := R
    obtain ⟨⟨n, t, hW, hS, ⟨t0, ht0, e0⟩, ht, hI⟩, -⟩ := R
    have hn8 := hW.2.1
    by_cases hs : n = 0 ∨ 99999 < t0 + k
    · refine ⟨_, _, _, _, _, _, eX4_thunder_s hW e0 ht0 (jbt_t h) hk2 hs, ?_, jR_f R0 (by decide)⟩
      refine mx_of (L := [some (.ref 0), some (.int (nI k)), none]) (by decide) (fun _ => rfl) (fun _ => Nat.le_of_ble_eq_true rfl) ?_
      by_cases h0 : n = 0
      · subst h0
        refine fx_iload_n dX3_thunder_0 rfl rfl ?_
        refine fx_iconst (v := nI 1) dX3_thunder_1 (by decide) ?_
        refine fx_icmp_lt (tgt := 11) dX3_thunder_2 (by decide) rC_l (fun hc2 => ?_) (fun hc2 => ?_)
        · exact absurd hc2 (nI_nlt hk1 (by omega))
        · refine fx_iload_n dX3_thunder_5 rfl rfl ?_
          refine fx_bipush (v := nI 20) dX3_thunder_6 (by decide) ?_
          refine fx_icmp_le (tgt := 17) dX3_thunder_8 (by decide) rC_l (fun hc8 => ?_) (fun hc8 => ?_)
          · refine fx_aload_n dX3_thunder_17 rfl rfl ?_
            refine fx_get dX3_thunder_18 kX3_10 rfl rfl ?_
            refine fx_get dX3_thunder_21 kX3_84 rfl rfl ?_
            rw [jI_5 hI]
            refine fx_if_eq (tgt := 41) dX3_thunder_24 (by decide) rC_l (fun hc24 => ?_) (fun hc24 => ?_)
            · refine fx_aload_n dX3_thunder_41 rfl rfl ?_
              refine fx_iconst (v := nI 4) dX3_thunder_42 (by decide) ?_
              refine fx_callVv dX3_thunder_43 vX3_finding lX3_51 (by decide) rfl (Nat.le_of_ble_eq_true rfl) (eX3_finding (k := 4) (by decide)) rfl ?_
              exact fx_ireq dX3_thunder_46 rfl rfl rfl rfl
            · exact absurd nI_0 hc24
          · exact absurd (nI_le hk2 (by decide)) hc8
      · have hs2 : 99999 < t0 + k := hs.resolve_left h0
        refine fx_iload_n dX3_thunder_0 rfl rfl ?_
        refine fx_iconst (v := nI 1) dX3_thunder_1 (by decide) ?_
        refine fx_icmp_lt (tgt := 11) dX3_thunder_2 (by decide) rC_l (fun hc2 => ?_) (fun hc2 => ?_)
        · exact absurd hc2 (nI_nlt hk1 (by omega))
        · refine fx_iload_n dX3_thunder_5 rfl rfl ?_
          refine fx_bipush (v := nI 20) dX3_thunder_6 (by decide) ?_
          refine fx_icmp_le (tgt := 17) dX3_thunder_8 (by decide) rC_l (fun hc8 => ?_) (fun hc8 => ?_)
          · refine fx_aload_n dX3_thunder_17 rfl rfl ?_
            refine fx_get dX3_thunder_18 kX3_10 rfl rfl ?_
            refine fx_get dX3_thunder_21 kX3_84 rfl rfl ?_
            rw [jI_5 hI]
            refine fx_if_eq (tgt := 41) dX3_thunder_24 (by decide) rC_l (fun hc24 => ?_) (fun hc24 => ?_)
            · exact absurd hc24 (nI_ne0 (by omega) (by omega))
            · refine fx_aload_n dX3_thunder_27 rfl rfl ?_
              refine fx_get dX3_thunder_28 kX3_10 rfl rfl ?_
              refine fx_get dX3_thunder_31 kX3_117 rfl rfl ?_
              rw [jI_0 hI, e0]
              refine fx_iload_n dX3_thunder_34 rfl rfl ?_
              refine fx_iadd dX3_thunder_35 ?_
              rw [nI_add]
              refine fx_ldc dX3_thunder_36 qX3_120 ?_
              rw [j99999]
              refine fx_icmp_le (tgt := 47) dX3_thunder_38 (by decide) rC_l (fun hc38 => ?_) (fun hc38 => ?_)
              · exact absurd hc38 (nI_ge hs2 (by omega))
              · refine fx_aload_n dX3_thunder_41 rfl rfl ?_
                refine fx_iconst (v := nI 4) dX3_thunder_42 (by decide) ?_
                refine fx_callVv dX3_thunder_43 vX3_finding lX3_51 (by decide) rfl (Nat.le_of_ble_eq_true rfl) (eX3_finding (k := 4) (by decide)) rfl ?_
                exact fx_ireq dX3_thunder_46 rfl rfl rfl rfl
          · exact absurd (nI_le hk2 (by decide)) hc8
    · have hn : 0 < n := by omega
      have hs2 : t0 + k ≤ 99999 := by omega
      have hb := jsN_256 (V := jths (G4 1) n k) hn8
      have hIk := jI_p (F := F) (N := N) (G := G) (w := 1) (V := jths (G4 1) n k) (n := n) (h := nI (t0 + k)) (t := jgu (G4 1) n t k)
      obtain ⟨m, em⟩ := eX4_thunder_y (F := F4) R0.2.2.2.1.1 hW hn e0 (jbt_t h) hk2 hs2
      refine ⟨_, _, _, _, _, _, em, ?_, jR_w (t := jgu (G4 1) n t k) (h := nI (t0 + k)) R0 (jW_ths hW hn k) (fun s hs => by rw [jths_o (by omega) (by omega) (by omega)]; exact hS s hs) ⟨t0 + k, by omega, jths_0 e0 k⟩ (jgu_lt hW hn ht k) (jths_0 e0 k).symm (fun j hj => pk_un hj)⟩
      refine mx_of (L := [some (.ref 0), some (.int (nI k)), none]) (by decide) (fun _ => rfl) (fun _ => Nat.le_of_ble_eq_true rfl) ?_
      have H : ∀ (q i : Nat), i + q = k → Fx mX3_thunder (some (.int (nI (jp (jsN (jths (G4 1) n k) n)))), jC F N G 1 (jths (G4 1) n k) n (nI (t0 + k)) (jgu (G4 1) n t k)) 49 [some (.ref 0), some (.int (nI k)), some (.int (nI i))] [] (jC F N G 1 (jths (G4 1) n i) n (nI (t0 + i)) (jgu (G4 1) n t i)) := by
        intro q
        induction q with
        | zero =>
          intro i hi
          have hi' : i = k := by omega
          subst hi'
          refine fx_iload_n dX3_thunder_49 rfl rfl ?_
          refine fx_iload_n dX3_thunder_50 rfl rfl ?_
          refine fx_icmp_ge (tgt := 75) dX3_thunder_51 (by decide) rC_l (fun hc51 => ?_) (fun hc51 => ?_)
          · refine fx_aload_n dX3_thunder_75 rfl rfl ?_
            refine fx_get dX3_thunder_76 kX3_10 rfl rfl ?_
            refine fx_get dX3_thunder_79 kX3_125 rfl rfl ?_
            rw [jI_c hIk]
            refine fx_callSv dX3_thunder_82 sJ6_bitCount_0f7a4 lX3_128 (by decide) (Nat.le_of_ble_eq_true rfl) (eJ6_bitCount_0f7a4 hb) rfl ?_
            exact fx_ireq dX3_thunder_85 rfl rfl rfl rfl
          · exact absurd (Int32.le_refl _) hc51
        | succ q ih =>
          intro i hi
          have ih1 := ih (i + 1) (by omega)
          have eG := jG_step (F := F) (N := N) (G := G) (h := nI (t0 + i)) zw1 (jW_str (jW_ths hW hn i) hn) (jgu_lt hW hn ht i)
          rw [nI_add, jmin_n (by omega) (by decide), Nat.min_eq_left (by omega)] at eG
          refine fx_iload_n dX3_thunder_49 rfl rfl ?_
          refine fx_iload_n dX3_thunder_50 rfl rfl ?_
          refine fx_icmp_ge (tgt := 75) dX3_thunder_51 (by decide) rC_l (fun hc51 => ?_) (fun hc51 => ?_)
          · exact absurd hc51 (nI_ge (by omega) (by omega))
          · refine fx_aload_n dX3_thunder_54 rfl rfl ?_
            refine fx_get dX3_thunder_55 kX3_10 rfl rfl ?_
            refine fx_callVn dX3_thunder_58 vX2_strike lX3_212 (by decide) rfl (Nat.le_of_ble_eq_true rfl) (jG_str zw1 (jW_ths hW hn i) hn) rfl ?_
            refine fx_aload_n dX3_thunder_61 rfl rfl ?_
            refine fx_get dX3_thunder_62 kX3_10 rfl rfl ?_
            refine fx_callVv dX3_thunder_65 vX2_hourGoes lX3_121 (by decide) rfl (Nat.le_of_ble_eq_true rfl) eG rfl ?_
            refine fx_pop dX3_thunder_68 rfl ?_
            refine fs_iinc_2 (w := nI 1) dX3_thunder_69 (by decide) rfl (by decide) ?_
            refine fx_goto (tgt := 49) dX3_thunder_72 (by decide) ?_
            rw [nI_add]
            exact ih1
      have H0 := H k 0 (by omega)
      rw [j_can hI jFr_r, e0]
      refine fx_iload_n dX3_thunder_0 rfl rfl ?_
      refine fx_iconst (v := nI 1) dX3_thunder_1 (by decide) ?_
      refine fx_icmp_lt (tgt := 11) dX3_thunder_2 (by decide) rC_l (fun hc2 => ?_) (fun hc2 => ?_)
      · exact absurd hc2 (nI_nlt hk1 (by omega))
      · refine fx_iload_n dX3_thunder_5 rfl rfl ?_
        refine fx_bipush (v := nI 20) dX3_thunder_6 (by decide) ?_
        refine fx_icmp_le (tgt := 17) dX3_thunder_8 (by decide) rC_l (fun hc8 => ?_) (fun hc8 => ?_)
        · refine fx_aload_n dX3_thunder_17 rfl rfl ?_
          refine fx_get dX3_thunder_18 kX3_10 rfl rfl ?_
          refine fx_get dX3_thunder_21 kX3_84 rfl rfl ?_
          rw [show pF F 1 (G4 1) n (nI t0) 1 5 = nI n from rfl]
          refine fx_if_eq (tgt := 41) dX3_thunder_24 (by decide) rC_l (fun hc24 => ?_) (fun hc24 => ?_)
          · exact absurd hc24 (nI_ne0 (by omega) (by omega))
          · refine fx_aload_n dX3_thunder_27 rfl rfl ?_
            refine fx_get dX3_thunder_28 kX3_10 rfl rfl ?_
            refine fx_get dX3_thunder_31 kX3_117 rfl rfl ?_
            rw [show pF F 1 (G4 1) n (nI t0) 1 0 = nI t0 from rfl]
            refine fx_iload_n dX3_thunder_34 rfl rfl ?_
            refine fx_iadd dX3_thunder_35 ?_
            rw [nI_add]
            refine fx_ldc dX3_thunder_36 qX3_120 ?_
            rw [j99999]
            refine fx_icmp_le (tgt := 47) dX3_thunder_38 (by decide) rC_l (fun hc38 => ?_) (fun hc38 => ?_)
            · refine fx_iconst (v := nI 0) dX3_thunder_47 (by decide) ?_
              refine fs_istore_n_2 dX3_thunder_48 rfl (by decide) ?_
              exact H0
            · exact absurd (nI_le (by omega) (by omega)) hc38
        · exact absurd (nI_le hk2 (by decide)) hc8
theorem P_ahead (R : jR F4 G4 F N G) (a b : Int32) : jP mX4_ahead mX3_ahead [.int a, .int b] F4 G4 F N G := by
  have R0 := R
  obtain ⟨⟨n, t, hW, hS, hH, ht, hI⟩, ⟨V2, n2, h2, t2, i2⟩, -, ⟨c1, c2, c3⟩, -⟩ := R
  have hn8 := hW.2.1
  by_cases h : jwi a (nI 0) (nI n - nI 1) = false ∨ jwi b (nI 0) (nI 60) = false
  · refine ⟨_, _, _, _, _, _, eX4_ahead_n hW h, ?_, jR_f R0 (by decide)⟩
    refine mx_of (L := [some (.ref 0), some (.int a), some (.int b)]) (by decide) (fun _ => rfl) (fun _ => Nat.le_of_ble_eq_true rfl) ?_
    refine fx_aload_n dX3_ahead_0 rfl rfl ?_
    refine fx_iload_n dX3_ahead_1 rfl rfl ?_
    refine fx_callVv dX3_ahead_2 vX3_isBell lX3_91 (by decide) rfl (Nat.le_of_ble_eq_true rfl) (eX3_isBell hI hn8) rfl ?_
    refine fx_if_eq (tgt := 18) dX3_ahead_5 (by decide) rC_l (fun hc5 => ?_) (fun hc5 => ?_)
    · refine fx_aload_n dX3_ahead_18 rfl rfl ?_
      refine fx_iconst (v := nI 0) dX3_ahead_19 (by decide) ?_
      refine fx_callVv dX3_ahead_20 vX3_finding lX3_51 (by decide) rfl (Nat.le_of_ble_eq_true rfl) (eX3_finding (k := 0) (by decide)) rfl ?_
      exact fx_ireq dX3_ahead_23 rfl rfl rfl rfl
    · refine fx_iload_n dX3_ahead_8 rfl rfl ?_
      refine fx_if_lt (tgt := 18) dX3_ahead_9 (by decide) rC_l (fun hc9 => ?_) (fun hc9 => ?_)
      · refine fx_aload_n dX3_ahead_18 rfl rfl ?_
        refine fx_iconst (v := nI 0) dX3_ahead_19 (by decide) ?_
        refine fx_callVv dX3_ahead_20 vX3_finding lX3_51 (by decide) rfl (Nat.le_of_ble_eq_true rfl) (eX3_finding (k := 0) (by decide)) rfl ?_
        exact fx_ireq dX3_ahead_23 rfl rfl rfl rfl
      · refine fx_iload_n dX3_ahead_12 rfl rfl ?_
        refine fx_bipush (v := nI 60) dX3_ahead_13 (by decide) ?_
        refine fx_icmp_le (tgt := 24) dX3_ahead_15 (by decide) rC_l (fun hc15 => ?_) (fun hc15 => ?_)
        · exact h.elim (fun q => jtf q (nI_ne0' hc5)) (fun q => jtf q (jwi_in (by rw [nI_0]; exact hc9) (Int32.not_lt.mpr hc15)))
        · refine fx_aload_n dX3_ahead_18 rfl rfl ?_
          refine fx_iconst (v := nI 0) dX3_ahead_19 (by decide) ?_
          refine fx_callVv dX3_ahead_20 vX3_finding lX3_51 (by decide) rfl (Nat.le_of_ble_eq_true rfl) (eX3_finding (k := 0) (by decide)) rfl ?_
          exact fx_ireq dX3_ahead_23 rfl rfl rfl rfl
  · obtain ⟨c, hc, rfl⟩ := jbell_of hn8 (jbt_t (fun q => h (Or.inl q)))
    obtain ⟨m, hm, rfl⟩ := jwi_of (k := 60) (by decide) (jbt_t (fun q => h (Or.inr q)))
    have eE := (jrS_E (h := G4 1 0) (t := 0) hW (by decide) m).1 (146 + 5 * c + 1) (by omega)
    have hIk := jI_p (F := F) (N := N) (G := G) (w := 9) (V := (jrS (G4 1) n (G4 1 0) 0 m).2.1) (n := n) (h := (jrS (G4 1) n (G4 1 0) 0 m).2.2.1) (t := (jrS (G4 1) n (G4 1 0) 0 m).2.2.2)
    refine ⟨_, _, _, _, _, _, eX4_ahead_y c1 hW hc hm c3, ?_, jR_t (V := (jrS (G4 1) n (G4 1 0) 0 m).2.1) (n := n) (h := (jrS (G4 1) n (G4 1 0) 0 m).2.2.1) (t := (jrS (G4 1) n (G4 1 0) 0 m).2.2.2) R0 (jR_9 R0) (fun j hj => pk_un hj)⟩
    refine mx_of (L := [some (.ref 0), some (.int (nI c)), some (.int (nI m))]) (by decide) (fun _ => rfl) (fun _ => Nat.le_of_ble_eq_true rfl) ?_
    refine fx_aload_n dX3_ahead_0 rfl rfl ?_
    refine fx_iload_n dX3_ahead_1 rfl rfl ?_
    refine fx_callVv dX3_ahead_2 vX3_isBell lX3_91 (by decide) rfl (Nat.le_of_ble_eq_true rfl) (eX3_isBell hI hn8) rfl ?_
    refine fx_if_eq (tgt := 18) dX3_ahead_5 (by decide) rC_l (fun hc5 => ?_) (fun hc5 => ?_)
    · exact absurd (nI_eq0' hc5) (fun q => h (Or.inl q))
    · refine fx_iload_n dX3_ahead_8 rfl rfl ?_
      refine fx_if_lt (tgt := 18) dX3_ahead_9 (by decide) rC_l (fun hc9 => ?_) (fun hc9 => ?_)
      · exact absurd hc9 (nI_pos (by omega))
      · refine fx_iload_n dX3_ahead_12 rfl rfl ?_
        refine fx_bipush (v := nI 60) dX3_ahead_13 (by decide) ?_
        refine fx_icmp_le (tgt := 24) dX3_ahead_15 (by decide) rC_l (fun hc15 => ?_) (fun hc15 => ?_)
        · refine fx_aload_n dX3_ahead_24 rfl rfl ?_
          refine fx_get dX3_ahead_25 kX3_16 rfl rfl ?_
          refine fx_aload_n dX3_ahead_28 rfl rfl ?_
          refine fx_get dX3_ahead_29 kX3_10 rfl rfl ?_
          refine fx_callVn dX3_ahead_32 vX2_becomes lX3_154 (by decide) rfl (Nat.le_of_ble_eq_true rfl) (jBe0 hI i2) rfl ?_
          refine fx_aload_n dX3_ahead_35 rfl rfl ?_
          refine fx_get dX3_ahead_36 kX3_16 rfl rfl ?_
          refine fx_iload_n dX3_ahead_39 rfl rfl ?_
          refine fx_callVn dX3_ahead_40 vX2_runHours lX3_158 (by decide) rfl (Nat.le_of_ble_eq_true rfl) (jRu (by omega) hW (by decide)) rfl ?_
          refine fx_aload_n dX3_ahead_43 rfl rfl ?_
          refine fx_get dX3_ahead_44 kX3_16 rfl rfl ?_
          refine fx_get dX3_ahead_47 kX3_97 rfl rfl ?_
          refine fx_iload_n dX3_ahead_50 rfl rfl ?_
          refine fx_iald dX3_ahead_51 rfl (vp_in_nI (by omega) (by decide)) ?_
          rw [nI_clamp (by omega), jT4 hIk, jbf_e (by omega), eE]
          exact fx_ireq dX3_ahead_52 rfl rfl rfl rfl
        · exact absurd (nI_le hm (by decide)) hc15
theorem P_caught (R : jR F4 G4 F N G) (a : Int32) : jP mX4_caught mX3_caught [.int a] F4 G4 F N G := by
  have R0 := R
  obtain ⟨⟨n, t, hW, hS, hH, ht, hI⟩, ⟨V2, n2, h2, t2, i2⟩, -, ⟨c1, c2, c3⟩, -⟩ := R
  have hn8 := hW.2.1
  by_cases h : jwi a (nI 0) (nI 60) = false
  · refine ⟨_, _, _, _, _, _, eX4_caught_n h, ?_, jR_f R0 (by decide)⟩
    refine mx_of (L := [some (.ref 0), some (.int a)]) (by decide) (fun _ => rfl) (fun _ => Nat.le_of_ble_eq_true rfl) ?_
    refine fx_iload_n dX3_caught_0 rfl rfl ?_
    refine fx_if_lt (tgt := 10) dX3_caught_1 (by decide) rC_l (fun hc1 => ?_) (fun hc1 => ?_)
    · refine fx_aload_n dX3_caught_10 rfl rfl ?_
      refine fx_iconst (v := nI 0) dX3_caught_11 (by decide) ?_
      refine fx_callVv dX3_caught_12 vX3_finding lX3_51 (by decide) rfl (Nat.le_of_ble_eq_true rfl) (eX3_finding (k := 0) (by decide)) rfl ?_
      exact fx_ireq dX3_caught_15 rfl rfl rfl rfl
    · refine fx_iload_n dX3_caught_4 rfl rfl ?_
      refine fx_bipush (v := nI 60) dX3_caught_5 (by decide) ?_
      refine fx_icmp_le (tgt := 16) dX3_caught_7 (by decide) rC_l (fun hc7 => ?_) (fun hc7 => ?_)
      · exact jtf h (jwi_in (by rw [nI_0]; exact hc1) (Int32.not_lt.mpr hc7))
      · refine fx_aload_n dX3_caught_10 rfl rfl ?_
        refine fx_iconst (v := nI 0) dX3_caught_11 (by decide) ?_
        refine fx_callVv dX3_caught_12 vX3_finding lX3_51 (by decide) rfl (Nat.le_of_ble_eq_true rfl) (eX3_finding (k := 0) (by decide)) rfl ?_
        exact fx_ireq dX3_caught_15 rfl rfl rfl rfl
  · obtain ⟨m, hm, rfl⟩ := jwi_of (k := 60) (by decide) (jbt_t h)
    have eE := jE_sN (jrS_E (h := G4 1 0) (t := 0) hW (by decide) m).1 n
    have hIk := jI_p (F := F) (N := N) (G := G) (w := 9) (V := (jrS (G4 1) n (G4 1 0) 0 m).2.1) (n := n) (h := (jrS (G4 1) n (G4 1 0) 0 m).2.2.1) (t := (jrS (G4 1) n (G4 1 0) 0 m).2.2.2)
    refine ⟨_, _, _, _, _, _, eX4_caught_y c1 hW hm c3, ?_, jR_t (V := (jrS (G4 1) n (G4 1 0) 0 m).2.1) (n := n) (h := (jrS (G4 1) n (G4 1 0) 0 m).2.2.1) (t := (jrS (G4 1) n (G4 1 0) 0 m).2.2.2) R0 (jR_9 R0) (fun j hj => pk_un hj)⟩
    refine mx_of (L := [some (.ref 0), some (.int (nI m))]) (by decide) (fun _ => rfl) (fun _ => Nat.le_of_ble_eq_true rfl) ?_
    refine fx_iload_n dX3_caught_0 rfl rfl ?_
    refine fx_if_lt (tgt := 10) dX3_caught_1 (by decide) rC_l (fun hc1 => ?_) (fun hc1 => ?_)
    · exact absurd hc1 (nI_pos (by omega))
    · refine fx_iload_n dX3_caught_4 rfl rfl ?_
      refine fx_bipush (v := nI 60) dX3_caught_5 (by decide) ?_
      refine fx_icmp_le (tgt := 16) dX3_caught_7 (by decide) rC_l (fun hc7 => ?_) (fun hc7 => ?_)
      · refine fx_aload_n dX3_caught_16 rfl rfl ?_
        refine fx_get dX3_caught_17 kX3_16 rfl rfl ?_
        refine fx_aload_n dX3_caught_20 rfl rfl ?_
        refine fx_get dX3_caught_21 kX3_10 rfl rfl ?_
        refine fx_callVn dX3_caught_24 vX2_becomes lX3_154 (by decide) rfl (Nat.le_of_ble_eq_true rfl) (jBe0 hI i2) rfl ?_
        refine fx_aload_n dX3_caught_27 rfl rfl ?_
        refine fx_get dX3_caught_28 kX3_16 rfl rfl ?_
        refine fx_iload_n dX3_caught_31 rfl rfl ?_
        refine fx_callVn dX3_caught_32 vX2_runHours lX3_158 (by decide) rfl (Nat.le_of_ble_eq_true rfl) (jRu (by omega) hW (by decide)) rfl ?_
        refine fx_aload_n dX3_caught_35 rfl rfl ?_
        refine fx_get dX3_caught_36 kX3_16 rfl rfl ?_
        refine fx_get dX3_caught_39 kX3_125 rfl rfl ?_
        rw [jI_c hIk, eE]
        exact fx_ireq dX3_caught_42 rfl rfl rfl rfl
      · exact absurd (nI_le hm (by decide)) hc7
theorem P_when (R : jR F4 G4 F N G) (a : Int32) : jP mX4_when mX3_when [.int a] F4 G4 F N G := by
  have R0 := R
  obtain ⟨⟨n, t, hW, hS, hH, ht, hI⟩, ⟨V2, n2, h2, t2, i2⟩, -, ⟨c1, c2, c3⟩, -⟩ := R
  have hn8 := hW.2.1
  by_cases h : jwi a (nI 0) (nI n - nI 1) = false
  · refine ⟨_, _, _, _, _, _, eX4_when_n hW h, ?_, jR_f R0 (by decide)⟩
    refine mx_of (L := [some (.ref 0), some (.int a), none]) (by decide) (fun _ => rfl) (fun _ => Nat.le_of_ble_eq_true rfl) ?_
    refine fx_aload_n dX3_when_0 rfl rfl ?_
    refine fx_iload_n dX3_when_1 rfl rfl ?_
    refine fx_callVv dX3_when_2 vX3_isBell lX3_91 (by decide) rfl (Nat.le_of_ble_eq_true rfl) (eX3_isBell hI hn8) rfl ?_
    refine fx_if_ne (tgt := 14) dX3_when_5 (by decide) rC_l (fun hc5 => ?_) (fun hc5 => ?_)
    · exact jtf h (nI_ne0' hc5)
    · refine fx_aload_n dX3_when_8 rfl rfl ?_
      refine fx_iconst (v := nI 0) dX3_when_9 (by decide) ?_
      refine fx_callVv dX3_when_10 vX3_finding lX3_51 (by decide) rfl (Nat.le_of_ble_eq_true rfl) (eX3_finding (k := 0) (by decide)) rfl ?_
      exact fx_ireq dX3_when_13 rfl rfl rfl rfl
  · obtain ⟨c, hc, rfl⟩ := jbell_of hn8 (jbt_t h)
    have eT := jTi (F := F) (N := N) (G := G) (h := G4 1 0) (t := 0) (m := 60) (by decide) hc hW (by decide)
    rcases jcv_lt (G4 1) n c 60 (by decide) with q | q
    · rw [if_pos q] at eT
      refine ⟨_, _, _, _, _, _, eX4_when_y c1 hW hc c3 q, ?_, jR_t (V := (jrS (G4 1) n (G4 1 0) 0 (jta (G4 1) n (G4 1 0) 0 c 60 0).2).2.1) (n := n) (h := (jrS (G4 1) n (G4 1 0) 0 (jta (G4 1) n (G4 1 0) 0 c 60 0).2).2.2.1) (t := (jrS (G4 1) n (G4 1 0) 0 (jta (G4 1) n (G4 1 0) 0 c 60 0).2).2.2.2) R0 (jR_9 R0) (fun j hj => pk_un hj)⟩
      refine mx_of (L := [some (.ref 0), some (.int (nI c)), none]) (by decide) (fun _ => rfl) (fun _ => Nat.le_of_ble_eq_true rfl) ?_
      refine fx_aload_n dX3_when_0 rfl rfl ?_
      refine fx_iload_n dX3_when_1 rfl rfl ?_
      refine fx_callVv dX3_when_2 vX3_isBell lX3_91 (by decide) rfl (Nat.le_of_ble_eq_true rfl) (eX3_isBell hI hn8) rfl ?_
      refine fx_if_ne (tgt := 14) dX3_when_5 (by decide) rC_l (fun hc5 => ?_) (fun hc5 => ?_)
      · refine fx_aload_n dX3_when_14 rfl rfl ?_
        refine fx_get dX3_when_15 kX3_16 rfl rfl ?_
        refine fx_aload_n dX3_when_18 rfl rfl ?_
        refine fx_get dX3_when_19 kX3_10 rfl rfl ?_
        refine fx_callVn dX3_when_22 vX2_becomes lX3_154 (by decide) rfl (Nat.le_of_ble_eq_true rfl) (jBe0 hI i2) rfl ?_
        refine fx_aload_n dX3_when_25 rfl rfl ?_
        refine fx_get dX3_when_26 kX3_16 rfl rfl ?_
        refine fx_iload_n dX3_when_29 rfl rfl ?_
        refine fx_bipush (v := nI 60) dX3_when_30 (by decide) ?_
        refine fx_callVv dX3_when_32 vX2_tillCaught lX3_162 (by decide) rfl (Nat.le_of_ble_eq_true rfl) eT rfl ?_
        refine fs_istore_n_2 dX3_when_35 rfl (by decide) ?_
        refine fx_iload_n dX3_when_36 rfl rfl ?_
        refine fx_if_ge (tgt := 48) dX3_when_37 (by decide) rC_l (fun hc37 => ?_) (fun hc37 => ?_)
        · refine fx_iload_n dX3_when_48 rfl rfl ?_
          exact fx_ireq dX3_when_49 rfl rfl rfl rfl
        · exact absurd (nI_pos' (by omega)) hc37
      · exact absurd (nI_eq0' hc5) h
    · rw [if_neg (by omega)] at eT
      refine ⟨_, _, _, _, _, _, eX4_when_z c1 hW hc c3 q, ?_, jR_tf (V := (jrS (G4 1) n (G4 1 0) 0 (jta (G4 1) n (G4 1 0) 0 c 60 0).2).2.1) (n := n) (h := (jrS (G4 1) n (G4 1 0) 0 (jta (G4 1) n (G4 1 0) 0 c 60 0).2).2.2.1) (t := (jrS (G4 1) n (G4 1 0) 0 (jta (G4 1) n (G4 1 0) 0 c 60 0).2).2.2.2) R0 (jR_9 R0) (fun j hj => pk_un hj) (by decide)⟩
      refine mx_of (L := [some (.ref 0), some (.int (nI c)), none]) (by decide) (fun _ => rfl) (fun _ => Nat.le_of_ble_eq_true rfl) ?_
      refine fx_aload_n dX3_when_0 rfl rfl ?_
      refine fx_iload_n dX3_when_1 rfl rfl ?_
      refine fx_callVv dX3_when_2 vX3_isBell lX3_91 (by decide) rfl (Nat.le_of_ble_eq_true rfl) (eX3_isBell hI hn8) rfl ?_
      refine fx_if_ne (tgt := 14) dX3_when_5 (by decide) rC_l (fun hc5 => ?_) (fun hc5 => ?_)
      · refine fx_aload_n dX3_when_14 rfl rfl ?_
        refine fx_get dX3_when_15 kX3_16 rfl rfl ?_
        refine fx_aload_n dX3_when_18 rfl rfl ?_
        refine fx_get dX3_when_19 kX3_10 rfl rfl ?_
        refine fx_callVn dX3_when_22 vX2_becomes lX3_154 (by decide) rfl (Nat.le_of_ble_eq_true rfl) (jBe0 hI i2) rfl ?_
        refine fx_aload_n dX3_when_25 rfl rfl ?_
        refine fx_get dX3_when_26 kX3_16 rfl rfl ?_
        refine fx_iload_n dX3_when_29 rfl rfl ?_
        refine fx_bipush (v := nI 60) dX3_when_30 (by decide) ?_
        refine fx_callVv dX3_when_32 vX2_tillCaught lX3_162 (by decide) rfl (Nat.le_of_ble_eq_true rfl) eT rfl ?_
        refine fs_istore_n_2 dX3_when_35 rfl (by decide) ?_
        refine fx_iload_n dX3_when_36 rfl rfl ?_
        refine fx_if_ge (tgt := 48) dX3_when_37 (by decide) rC_l (fun hc37 => ?_) (fun hc37 => ?_)
        · exact absurd hc37 (by decide)
        · refine fx_aload_n dX3_when_40 rfl rfl ?_
          refine fx_iconst (v := nI 3) dX3_when_41 (by decide) ?_
          refine fx_callVv dX3_when_42 vX3_finding lX3_51 (by decide) rfl (Nat.le_of_ble_eq_true rfl) (jFi9 (k := 3) (by decide)) rfl ?_
          refine fx_goto (tgt := 49) dX3_when_45 (by decide) ?_
          exact fx_ireq dX3_when_49 rfl rfl rfl rfl
      · exact absurd (nI_eq0' hc5) h
theorem P_still (R : jR F4 G4 F N G) : jP mX4_still mX3_still [] F4 G4 F N G := by
  have R0 := R
  obtain ⟨⟨n, t, hW, hS, hH, ht, hI⟩, ⟨V2, n2, h2, t2, i2⟩, -, ⟨c1, c2, c3⟩, -⟩ := R
  have hn8 := hW.2.1
  have e4 := eX4_still (F := F4) c1 hW c3
  have H : ∀ (r i : Nat) (V : Nat → Int32) (hh : Int32) (tt : Nat), i + r = 60 → jW V n → tt < 2 ^ 64 → (jmov (jhrs V n (jst V n r)) n = false → ∃ (V' : Nat → Int32) (h' : Int32) (t' : Nat), Fx mX3_still (some (.int (nI (i + jst V n r))), jC F N G 9 V' n h' t') 13 [some (.ref 0), some (.int (nI i))] [] (jC F N G 9 V n hh tt)) ∧ (jmov (jhrs V n (jst V n r)) n = true → ∃ (V' : Nat → Int32) (h' : Int32) (t' : Nat), Fx mX3_still (some (.int (jfd 3)), rC (pF F 9 V' n h') (pN N 9 V' t') (ga (pG G 9 V') 36 (jf1 (G 36) 3))) 13 [some (.ref 0), some (.int (nI i))] [] (jC F N G 9 V n hh tt)) := by
    intro r
    induction r with
    | zero =>
      intro i V hh tt hi hV htt
      have eG := jG_step (F := F) (N := N) (G := G) (h := hh) zw9 hV htt
      have hi' : i = 60 := by omega
      subst hi'
      rw [show jst V n 0 = 0 from rfl, show jhrs V n 0 = V from rfl]
      cases hm : jmov V n
      · rw [hm] at eG
        refine ⟨fun _ => ⟨jhour V n, jmin (hh + nI 1) (nI 99999), jtd V n tt n, ?_⟩, fun q => absurd q (by decide)⟩
        refine fx_iload_n dX3_still_13 rfl rfl ?_
        refine fx_bipush (v := nI 60) dX3_still_14 (by decide) ?_
        refine fx_icmp_gt (tgt := 37) dX3_still_16 (by decide) rC_l (fun hc16 => ?_) (fun hc16 => ?_)
        · exact absurd hc16 (by decide)
        · refine fx_aload_n dX3_still_19 rfl rfl ?_
          refine fx_get dX3_still_20 kX3_16 rfl rfl ?_
          refine fx_callVv dX3_still_23 vX2_hourGoes lX3_121 (by decide) rfl (Nat.le_of_ble_eq_true rfl) eG rfl ?_
          refine fx_if_ne (tgt := 31) dX3_still_26 (by decide) rC_l (fun hc26 => ?_) (fun hc26 => ?_)
          · exact absurd rfl hc26
          · refine fx_iload_n dX3_still_29 rfl rfl ?_
            exact fx_ireq dX3_still_30 rfl rfl rfl rfl
      · rw [hm] at eG
        refine ⟨fun q => absurd q (by decide), fun _ => ⟨jhour V n, jmin (hh + nI 1) (nI 99999), jtd V n tt n, ?_⟩⟩
        refine fx_iload_n dX3_still_13 rfl rfl ?_
        refine fx_bipush (v := nI 60) dX3_still_14 (by decide) ?_
        refine fx_icmp_gt (tgt := 37) dX3_still_16 (by decide) rC_l (fun hc16 => ?_) (fun hc16 => ?_)
        · exact absurd hc16 (by decide)
        · refine fx_aload_n dX3_still_19 rfl rfl ?_
          refine fx_get dX3_still_20 kX3_16 rfl rfl ?_
          refine fx_callVv dX3_still_23 vX2_hourGoes lX3_121 (by decide) rfl (Nat.le_of_ble_eq_true rfl) eG rfl ?_
          refine fx_if_ne (tgt := 31) dX3_still_26 (by decide) rC_l (fun hc26 => ?_) (fun hc26 => ?_)
          · refine fs_iinc_1 (w := nI 1) dX3_still_31 (by decide) rfl (by decide) ?_
            refine fx_goto (tgt := 13) dX3_still_34 (by decide) ?_
            refine fx_iload_n dX3_still_13 rfl rfl ?_
            refine fx_bipush (v := nI 60) dX3_still_14 (by decide) ?_
            refine fx_icmp_gt (tgt := 37) dX3_still_16 (by decide) rC_l (fun _ => ?_) (fun q => absurd (by decide) q)
            refine fx_aload_n dX3_still_37 rfl rfl ?_
            refine fx_iconst (v := nI 3) dX3_still_38 (by decide) ?_
            refine fx_callVv dX3_still_39 vX3_finding lX3_51 (by decide) rfl (Nat.le_of_ble_eq_true rfl) (jFi9 (k := 3) (by decide)) rfl ?_
            exact fx_ireq dX3_still_42 rfl rfl rfl rfl
          · exact absurd hc26 (by decide)
    | succ r ih =>
      intro i V hh tt hi hV htt
      have eG := jG_step (F := F) (N := N) (G := G) (h := hh) zw9 hV htt
      have e1 : jst V n (r + 1) = if jmov V n = true then jst (jhour V n) n r + 1 else 0 := rfl
      cases hm : jmov V n
      · have e2 : jst V n (r + 1) = 0 := by rw [e1, hm]; rfl
        rw [hm] at eG
        rw [e2, show jhrs V n 0 = V from rfl, hm]
        refine ⟨fun _ => ⟨jhour V n, jmin (hh + nI 1) (nI 99999), jtd V n tt n, ?_⟩, fun q => absurd q (by decide)⟩
        refine fx_iload_n dX3_still_13 rfl rfl ?_
        refine fx_bipush (v := nI 60) dX3_still_14 (by decide) ?_
        refine fx_icmp_gt (tgt := 37) dX3_still_16 (by decide) rC_l (fun hc16 => ?_) (fun hc16 => ?_)
        · exact absurd hc16 (nI_nlt (by omega) (by decide))
        · refine fx_aload_n dX3_still_19 rfl rfl ?_
          refine fx_get dX3_still_20 kX3_16 rfl rfl ?_
          refine fx_callVv dX3_still_23 vX2_hourGoes lX3_121 (by decide) rfl (Nat.le_of_ble_eq_true rfl) eG rfl ?_
          refine fx_if_ne (tgt := 31) dX3_still_26 (by decide) rC_l (fun hc26 => ?_) (fun hc26 => ?_)
          · exact absurd rfl hc26
          · refine fx_iload_n dX3_still_29 rfl rfl ?_
            exact fx_ireq dX3_still_30 rfl rfl rfl rfl
      · have e2 : jst V n (r + 1) = jst (jhour V n) n r + 1 := by rw [e1, hm]; rfl
        rw [hm] at eG
        rw [e2, ← jhrs_1 V n (jst (jhour V n) n r), show i + (jst (jhour V n) n r + 1) = (i + 1) + jst (jhour V n) n r by omega]
        obtain ⟨k1, k2⟩ := ih (i + 1) (jhour V n) (jmin (hh + nI 1) (nI 99999)) (jtd V n tt n) (by omega) (jW_hour hV) (jtd_lt hV htt n (Nat.le_refl n))
        refine ⟨fun q => ?_, fun q => ?_⟩
        · obtain ⟨V', h', t', ih1⟩ := k1 q
          refine ⟨V', h', t', ?_⟩
          refine fx_iload_n dX3_still_13 rfl rfl ?_
          refine fx_bipush (v := nI 60) dX3_still_14 (by decide) ?_
          refine fx_icmp_gt (tgt := 37) dX3_still_16 (by decide) rC_l (fun hc16 => ?_) (fun hc16 => ?_)
          · exact absurd hc16 (nI_nlt (by omega) (by decide))
          · refine fx_aload_n dX3_still_19 rfl rfl ?_
            refine fx_get dX3_still_20 kX3_16 rfl rfl ?_
            refine fx_callVv dX3_still_23 vX2_hourGoes lX3_121 (by decide) rfl (Nat.le_of_ble_eq_true rfl) eG rfl ?_
            refine fx_if_ne (tgt := 31) dX3_still_26 (by decide) rC_l (fun hc26 => ?_) (fun hc26 => ?_)
            · refine fs_iinc_1 (w := nI 1) dX3_still_31 (by decide) rfl (by decide) ?_
              refine fx_goto (tgt := 13) dX3_still_34 (by decide) ?_
              rw [nI_add]
              exact ih1
            · exact absurd hc26 (by decide)
        · obtain ⟨V', h', t', ih1⟩ := k2 q
          refine ⟨V', h', t', ?_⟩
          refine fx_iload_n dX3_still_13 rfl rfl ?_
          refine fx_bipush (v := nI 60) dX3_still_14 (by decide) ?_
          refine fx_icmp_gt (tgt := 37) dX3_still_16 (by decide) rC_l (fun hc16 => ?_) (fun hc16 => ?_)
          · exact absurd hc16 (nI_nlt (by omega) (by decide))
          · refine fx_aload_n dX3_still_19 rfl rfl ?_
            refine fx_get dX3_still_20 kX3_16 rfl rfl ?_
            refine fx_callVv dX3_still_23 vX2_hourGoes lX3_121 (by decide) rfl (Nat.le_of_ble_eq_true rfl) eG rfl ?_
            refine fx_if_ne (tgt := 31) dX3_still_26 (by decide) rC_l (fun hc26 => ?_) (fun hc26 => ?_)
            · refine fs_iinc_1 (w := nI 1) dX3_still_31 (by decide) rfl (by decide) ?_
              refine fx_goto (tgt := 13) dX3_still_34 (by decide) ?_
              rw [nI_add]
              exact ih1
            · exact absurd hc26 (by decide)
  obtain ⟨k1, k2⟩ := H 60 0 (G4 1) (G4 1 0) 0 (by omega) hW (by decide)
  rw [Nat.zero_add] at k1
  by_cases hs : jsv (G4 1) n = true
  · rw [if_pos hs, if_pos hs, hs] at e4
    obtain ⟨V', h', t', H0⟩ := k2 hs
    refine ⟨_, _, _, _, _, _, e4, ?_, jR_tf (V := V') (n := n) (h := h') (t := t') R0 (jR_9 R0) (fun j hj => pk_un hj) (by decide)⟩
    refine mx_of (L := [some (.ref 0), none]) (by decide) (fun _ => rfl) (fun _ => Nat.le_of_ble_eq_true rfl) ?_
    refine fx_aload_n dX3_still_0 rfl rfl ?_
    refine fx_get dX3_still_1 kX3_16 rfl rfl ?_
    refine fx_aload_n dX3_still_4 rfl rfl ?_
    refine fx_get dX3_still_5 kX3_10 rfl rfl ?_
    refine fx_callVn dX3_still_8 vX2_becomes lX3_154 (by decide) rfl (Nat.le_of_ble_eq_true rfl) (jBe0 hI i2) rfl ?_
    refine fx_iconst (v := nI 0) dX3_still_11 (by decide) ?_
    refine fs_istore_n_1 dX3_still_12 rfl (by decide) ?_
    exact H0
  · rw [if_neg hs, if_neg hs] at e4
    obtain ⟨V', h', t', H0⟩ := k1 (jbt_f' hs)
    refine ⟨_, _, _, _, _, _, e4, ?_, jR_t (V := V') (n := n) (h := h') (t := t') R0 (jR_9 R0) (fun j hj => pk_un hj)⟩
    refine mx_of (L := [some (.ref 0), none]) (by decide) (fun _ => rfl) (fun _ => Nat.le_of_ble_eq_true rfl) ?_
    refine fx_aload_n dX3_still_0 rfl rfl ?_
    refine fx_get dX3_still_1 kX3_16 rfl rfl ?_
    refine fx_aload_n dX3_still_4 rfl rfl ?_
    refine fx_get dX3_still_5 kX3_10 rfl rfl ?_
    refine fx_callVn dX3_still_8 vX2_becomes lX3_154 (by decide) rfl (Nat.le_of_ble_eq_true rfl) (jBe0 hI i2) rfl ?_
    refine fx_iconst (v := nI 0) dX3_still_11 (by decide) ?_
    refine fs_istore_n_1 dX3_still_12 rfl (by decide) ?_
    exact H0
end
