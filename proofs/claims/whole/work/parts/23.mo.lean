/-! ===== the reference: public methods, sixth part: thunder, sheets, tape ===== -/
set_option maxRecDepth 100000
/-- a stroke: z two draws on; the bell is at the cell, if it is free -/
def jstr (V : Nat → Int32) (n : Nat) : Nat → Int32 := upd (upd V 3 (jz (jz (V 3)))) (146 + 5 * (jq (V 3) % n) + 1) (if V (146 + 5 * (jq (V 3) % n) + 4) = nI 1 then V (146 + 5 * (jq (V 3) % n) + 1) else nI (jq (jz (V 3)) % 64))
def jths (V : Nat → Int32) (n : Nat) : Nat → Nat → Int32
  | 0 => V
  | k + 1 => jhour (jstr (jths V n k) n) n
theorem jW_z {V : Nat → Int32} {n : Nat} {x : Int32} (h : jW V n) : jW (upd V 3 x) n := by
  obtain ⟨h1, h2, h3, h4, h5, h6, h7, h8⟩ := h
  refine ⟨by rw [pk_un (by omega)]; exact h1, h2, fun o ho => ?_, fun q hq => by rw [pk_un (by omega)]; exact h4 q hq, fun q hq => by rw [pk_un (by omega)]; exact h5 q hq, fun q hq => by rw [pk_un (by omega)]; exact h6 q hq, by rw [pk_un (by omega)]; exact h7, fun k hk => by rw [pk_un (by omega)]; exact h8 k hk⟩
  rw [pk_un (by omega), pk_un (by omega), pk_un (by omega), pk_un (by omega), pk_un (by omega)]
  exact h3 o ho
theorem jW_str {V : Nat → Int32} {n : Nat} (h : jW V n) (hn : 0 < n) : jW (jstr V n) n := by
  have hb : jq (V 3) % n < n := Nat.mod_lt _ hn
  obtain ⟨-, ⟨c, hc, e⟩, -⟩ := h.2.2.1 _ hb
  unfold jstr
  refine jW_f (jW_z h) hb (by decide) ?_
  by_cases q : V (146 + 5 * (jq (V 3) % n) + 4) = nI 1
  · rw [if_pos q, e]; exact jgood_1 hc
  · rw [if_neg q]; exact jgood_1 (Nat.mod_lt _ (by decide))
theorem jW_ths {V : Nat → Int32} {n : Nat} (h : jW V n) (hn : 0 < n) : ∀ k, jW (jths V n k) n := by
  intro k
  induction k with
  | zero => exact h
  | succ k ih => exact jW_hour (jW_str ih hn)
section
variable {F : Nat → Int32} {G : Nat → Nat → Int32} {n : Nat}
theorem eX4_thunder_n {a : Int32} (h : jwi a (nI 1) (nI 20) = false) : Mx mX4_thunder [.ref 0, .int a] (rM F G) (some (.int (jfd 0))) (rMn F G 0) := by
  refine mx_of (L := [some (.ref 0), some (.int a), none, none, none]) (by decide) (fun _ => rfl) (fun _ => Nat.le_of_ble_eq_true rfl) ?_
  refine fx_iload_n dX4_thunder_0 rfl rfl ?_
  refine fx_iconst (v := nI 1) dX4_thunder_1 (by decide) ?_
  refine fx_bipush (v := nI 20) dX4_thunder_2 (by decide) ?_
  refine fx_callSv dX4_thunder_4 sX4_within lX4_74 (by decide) (Nat.le_of_ble_eq_true rfl) eX4_within rfl ?_
  refine fx_if_ne (tgt := 17) dX4_thunder_7 (by decide) rfl (fun hc7 => ?_) (fun hc7 => ?_)
  · exact jtf h (nI_ne0' hc7)
  · refine fx_aload_n dX4_thunder_10 rfl rfl ?_
    refine fx_ldc dX4_thunder_11 qX4_69 ?_
    refine fx_callVv dX4_thunder_13 vX4_finding lX4_88 (by decide) rfl (Nat.le_of_ble_eq_true rfl) (eX4_finding (k := 0) (by decide) (by decide)) rfl ?_
    exact fx_ireq dX4_thunder_16 rfl rfl rfl rfl
theorem eX4_thunder_s {k t : Nat} (hV : jW (G 1) n) (h0 : G 1 0 = nI t) (ht : t ≤ 99999) (hk : jwi (nI k) (nI 1) (nI 20) = true) (hk2 : k ≤ 20) (h : n = 0 ∨ 99999 < t + k) : Mx mX4_thunder [.ref 0, .int (nI k)] (rM F G) (some (.int (jfd 4))) (rMn F G 4) := by
  refine mx_of (L := [some (.ref 0), some (.int (nI k)), none, none, none]) (by decide) (fun _ => rfl) (fun _ => Nat.le_of_ble_eq_true rfl) ?_
  have hn8 := hV.2.1
  refine fx_iload_n dX4_thunder_0 rfl rfl ?_
  refine fx_iconst (v := nI 1) dX4_thunder_1 (by decide) ?_
  refine fx_bipush (v := nI 20) dX4_thunder_2 (by decide) ?_
  refine fx_callSv dX4_thunder_4 sX4_within lX4_74 (by decide) (Nat.le_of_ble_eq_true rfl) eX4_within rfl ?_
  rw [hk]
  refine fx_if_ne (tgt := 17) dX4_thunder_7 (by decide) rfl (fun hc7 => ?_) (fun hc7 => ?_)
  · refine fx_aload_n dX4_thunder_17 rfl rfl ?_
    refine fx_get dX4_thunder_18 kX4_9 rfl rfl ?_
    refine fx_iconst (v := nI 2) dX4_thunder_21 (by decide) ?_
    refine fx_iald dX4_thunder_22 rfl (vp_in_nI (by decide) (by decide)) ?_
    rw [nI_clamp (n := 2) (by decide), hV.1]
    refine fx_if_eq (tgt := 39) dX4_thunder_23 (by decide) rfl (fun hc23 => ?_) (fun hc23 => ?_)
    · refine fx_aload_n dX4_thunder_39 rfl rfl ?_
      refine fx_ldc dX4_thunder_40 qX4_173 ?_
      refine fx_callVv dX4_thunder_42 vX4_finding lX4_88 (by decide) rfl (Nat.le_of_ble_eq_true rfl) (eX4_finding (k := 4) (by decide) (by decide)) rfl ?_
      exact fx_ireq dX4_thunder_45 rfl rfl rfl rfl
    · refine fx_aload_n dX4_thunder_26 rfl rfl ?_
      refine fx_get dX4_thunder_27 kX4_9 rfl rfl ?_
      refine fx_iconst (v := nI 0) dX4_thunder_30 (by decide) ?_
      refine fx_iald dX4_thunder_31 rfl (vp_in_nI (by decide) (by decide)) ?_
      rw [nI_clamp (n := 0) (by decide), h0]
      refine fx_iload_n dX4_thunder_32 rfl rfl ?_
      refine fx_iadd dX4_thunder_33 ?_
      rw [nI_add]
      refine fx_ldc dX4_thunder_34 qX4_172 ?_
      rw [j99999]
      refine fx_icmp_le (tgt := 46) dX4_thunder_36 (by decide) rfl (fun hc36 => ?_) (fun hc36 => ?_)
      · exact h.elim (fun q => absurd (by rw [q]; decide) hc23) (fun q => absurd hc36 (nI_ge q (by omega)))
      · refine fx_aload_n dX4_thunder_39 rfl rfl ?_
        refine fx_ldc dX4_thunder_40 qX4_173 ?_
        refine fx_callVv dX4_thunder_42 vX4_finding lX4_88 (by decide) rfl (Nat.le_of_ble_eq_true rfl) (eX4_finding (k := 4) (by decide) (by decide)) rfl ?_
        exact fx_ireq dX4_thunder_45 rfl rfl rfl rfl
  · exact absurd hc7 (by decide)
theorem eX4_thunder_y {k t : Nat} (hK : jK G) (hV : jW (G 1) n) (hn : 0 < n) (h0 : G 1 0 = nI t) (hk : jwi (nI k) (nI 1) (nI 20) = true) (hk2 : k ≤ 20) (h : t + k ≤ 99999) : ∃ m : Int32, Mx mX4_thunder [.ref 0, .int (nI k)] (rM F G) (some (.int (nI (jp (jsN (jths (G 1) n k) n))))) (rM (upd F 7 m) (ga G 1 (jths (G 1) n k))) := by
  have hn8 := hV.2.1
  have H : ∀ (r i : Nat), i + r = k → ∀ (m : Int32) (x3 x4 : Option Value), ∃ m' : Int32, Fx mX4_thunder (some (.int (nI (jp (jsN (jths (G 1) n k) n)))), rM (upd F 7 m') (ga G 1 (jths (G 1) n k))) 48 [some (.ref 0), some (.int (nI k)), some (.int (nI i)), x3, x4] [] (rM (upd F 7 m) (ga G 1 (jths (G 1) n i))) := by
    intro r
    induction r with
    | zero =>
      intro i hi m x3 x4
      have hi' : i = k := by omega
      subst hi'
      refine ⟨m, ?_⟩
      have eC := eX4_caughtNow (F := upd F 7 m) (G := ga G 1 (jths (G 1) n i)) (n := n) (by rw [ga_s]; exact jW_ths hV hn i)
      rw [ga_s] at eC
      refine fx_iload_n dX4_thunder_48 rfl rfl ?_
      refine fx_iload_n dX4_thunder_49 rfl rfl ?_
      refine fx_icmp_ge (tgt := 111) dX4_thunder_50 (by decide) rfl (fun hc50 => ?_) (fun hc50 => ?_)
      · refine fx_aload_n dX4_thunder_111 rfl rfl ?_
        refine fx_callVv dX4_thunder_112 vX4_caughtNow lX4_178 (by decide) rfl (Nat.le_of_ble_eq_true rfl) eC rfl ?_
        refine fx_callSv dX4_thunder_115 sX4_bits lX4_182 (by decide) (Nat.le_of_ble_eq_true rfl) (eX4_bits (jsN_256 hn8)) rfl ?_
        exact fx_ireq dX4_thunder_118 rfl rfl rfl rfl
      · exact absurd (Int32.le_refl _) hc50
    | succ r ih =>
      intro i hi m x3 x4
      have hW := jW_ths hV hn i
      generalize hA : jths (G 1) n i = A at hW
      have hb : jq (A 3) % n < n := Nat.mod_lt _ hn
      have eH := eX4_hour (F := upd F 7 m) (G := ga G 1 (jstr A n)) (n := n) (hK.ga (by decide)) (by rw [ga_s]; exact jW_str hW hn)
      rw [ga_s, upd_upd, ga_ga] at eH
      obtain ⟨m', K⟩ := ih (i + 1) (by omega) (jB (jmov (jstr A n) n)) (some (.int (nI (jq (A 3) % n)))) (some (.int (nI (jq (jz (A 3)) % 64))))
      refine ⟨m', ?_⟩
      rw [show jths (G 1) n (i + 1) = jhour (jstr A n) n by rw [← hA]; rfl] at K
      have eD1 := eX4_drawn (F := upd F 7 m) (G := ga G 1 A) (m := n) hn (by omega)
      rw [ga_s, ga_ga] at eD1
      have eD2 := eX4_drawn (F := upd F 7 m) (G := ga G 1 (upd A 3 (jz (A 3)))) (m := 64) (by decide) (by decide)
      rw [ga_s, ga_ga, pk_us, upd_upd] at eD2
      have eI := eX4_isCaught (F := upd F 7 m) (G := ga G 1 (upd A 3 (jz (jz (A 3))))) (b := jq (A 3) % n) (by omega)
      rw [ga_s, pk_un (by omega)] at eI
      have eB := eM_bell (F := upd F 7 m) (G := ga G 1 (upd A 3 (jz (jz (A 3))))) (b := jq (A 3) % n) (f := 1) (by omega) (by decide)
      rw [ga_s, pk_un (by omega)] at eB
      by_cases hcg : A (146 + 5 * (jq (A 3) % n) + 4) = nI 1
      · have eS : jstr A n = upd (upd A 3 (jz (jz (A 3)))) (146 + 5 * (jq (A 3) % n) + 1) (A (146 + 5 * (jq (A 3) % n) + 1)) := by unfold jstr; rw [if_pos hcg]
        refine fx_iload_n dX4_thunder_48 rfl rfl ?_
        refine fx_iload_n dX4_thunder_49 rfl rfl ?_
        refine fx_icmp_ge (tgt := 111) dX4_thunder_50 (by decide) rfl (fun hc50 => ?_) (fun hc50 => ?_)
        · exact absurd hc50 (nI_ge (by omega) (by omega))
        · refine fx_aload_n dX4_thunder_53 rfl rfl ?_
          refine fx_aload_n dX4_thunder_54 rfl rfl ?_
          refine fx_get dX4_thunder_55 kX4_9 rfl rfl ?_
          refine fx_iconst (v := nI 2) dX4_thunder_58 (by decide) ?_
          refine fx_iald dX4_thunder_59 rfl (vp_in_nI (by decide) (by decide)) ?_
          rw [nI_clamp (n := 2) (by decide), ga_s, hW.1]
          refine fx_callVv dX4_thunder_60 vX4_drawn lX4_255 (by decide) rfl (Nat.le_of_ble_eq_true rfl) eD1 rfl ?_
          refine fs_istore_n_3 dX4_thunder_63 rfl (by decide) ?_
          refine fx_aload_n dX4_thunder_64 rfl rfl ?_
          refine fx_bipush (v := nI 64) dX4_thunder_65 (by decide) ?_
          refine fx_callVv dX4_thunder_67 vX4_drawn lX4_255 (by decide) rfl (Nat.le_of_ble_eq_true rfl) eD2 rfl ?_
          refine fs_istore_4 dX4_thunder_70 rfl (by decide) ?_
          refine fx_aload_n dX4_thunder_72 rfl rfl ?_
          refine fx_get dX4_thunder_73 kX4_9 rfl rfl ?_
          refine fx_iload_n dX4_thunder_76 rfl rfl ?_
          refine fx_iconst (v := nI 1) dX4_thunder_77 (by decide) ?_
          refine fx_callSv dX4_thunder_78 sX4_at lX4_98 (by decide) (Nat.le_of_ble_eq_true rfl) eX4_at rfl ?_
          refine fx_aload_n dX4_thunder_81 rfl rfl ?_
          refine fx_iload_n dX4_thunder_82 rfl rfl ?_
          refine fx_callVv dX4_thunder_83 vX4_isCaught lX4_115 (by decide) rfl (Nat.le_of_ble_eq_true rfl) eI rfl ?_
          rw [decide_eq_true hcg]
          refine fx_if_eq (tgt := 98) dX4_thunder_86 (by decide) rfl (fun hc86 => ?_) (fun hc86 => ?_)
          · exact absurd hc86 (by decide)
          · refine fx_aload_n dX4_thunder_89 rfl rfl ?_
            refine fx_iload_n dX4_thunder_90 rfl rfl ?_
            refine fx_iconst (v := nI 1) dX4_thunder_91 (by decide) ?_
            refine fx_callVv dX4_thunder_92 vX4_bellIs lX4_101 (by decide) rfl (Nat.le_of_ble_eq_true rfl) eB rfl ?_
            refine fx_goto (tgt := 100) dX4_thunder_95 (by decide) ?_
            refine fx_iast dX4_thunder_100 rfl (jat_in (by omega) (by decide)) (w4_1 ..) ?_
            rw [jat_c (by omega) (by decide), ga_s, ga_ga, ← eS]
            refine fx_aload_n dX4_thunder_101 rfl rfl ?_
            refine fx_callVn dX4_thunder_102 vX4_hour lX4_169 (by decide) rfl (Nat.le_of_ble_eq_true rfl) eH rfl ?_
            refine fs_iinc_2 (w := nI 1) dX4_thunder_105 (by decide) rfl (by decide) ?_
            refine fx_goto (tgt := 48) dX4_thunder_108 (by decide) ?_
            rw [nI_add]
            exact K
      · have eS : jstr A n = upd (upd A 3 (jz (jz (A 3)))) (146 + 5 * (jq (A 3) % n) + 1) (nI (jq (jz (A 3)) % 64)) := by unfold jstr; rw [if_neg hcg]
        refine fx_iload_n dX4_thunder_48 rfl rfl ?_
        refine fx_iload_n dX4_thunder_49 rfl rfl ?_
        refine fx_icmp_ge (tgt := 111) dX4_thunder_50 (by decide) rfl (fun hc50 => ?_) (fun hc50 => ?_)
        · exact absurd hc50 (nI_ge (by omega) (by omega))
        · refine fx_aload_n dX4_thunder_53 rfl rfl ?_
          refine fx_aload_n dX4_thunder_54 rfl rfl ?_
          refine fx_get dX4_thunder_55 kX4_9 rfl rfl ?_
          refine fx_iconst (v := nI 2) dX4_thunder_58 (by decide) ?_
          refine fx_iald dX4_thunder_59 rfl (vp_in_nI (by decide) (by decide)) ?_
          rw [nI_clamp (n := 2) (by decide), ga_s, hW.1]
          refine fx_callVv dX4_thunder_60 vX4_drawn lX4_255 (by decide) rfl (Nat.le_of_ble_eq_true rfl) eD1 rfl ?_
          refine fs_istore_n_3 dX4_thunder_63 rfl (by decide) ?_
          refine fx_aload_n dX4_thunder_64 rfl rfl ?_
          refine fx_bipush (v := nI 64) dX4_thunder_65 (by decide) ?_
          refine fx_callVv dX4_thunder_67 vX4_drawn lX4_255 (by decide) rfl (Nat.le_of_ble_eq_true rfl) eD2 rfl ?_
          refine fs_istore_4 dX4_thunder_70 rfl (by decide) ?_
          refine fx_aload_n dX4_thunder_72 rfl rfl ?_
          refine fx_get dX4_thunder_73 kX4_9 rfl rfl ?_
          refine fx_iload_n dX4_thunder_76 rfl rfl ?_
          refine fx_iconst (v := nI 1) dX4_thunder_77 (by decide) ?_
          refine fx_callSv dX4_thunder_78 sX4_at lX4_98 (by decide) (Nat.le_of_ble_eq_true rfl) eX4_at rfl ?_
          refine fx_aload_n dX4_thunder_81 rfl rfl ?_
          refine fx_iload_n dX4_thunder_82 rfl rfl ?_
          refine fx_callVv dX4_thunder_83 vX4_isCaught lX4_115 (by decide) rfl (Nat.le_of_ble_eq_true rfl) eI rfl ?_
          rw [decide_eq_false hcg]
          refine fx_if_eq (tgt := 98) dX4_thunder_86 (by decide) rfl (fun hc86 => ?_) (fun hc86 => ?_)
          · refine fx_iload dX4_thunder_98 rfl ?_
            refine fx_iast dX4_thunder_100 rfl (jat_in (by omega) (by decide)) (w4_1 ..) ?_
            rw [jat_c (by omega) (by decide), ga_s, ga_ga, ← eS]
            refine fx_aload_n dX4_thunder_101 rfl rfl ?_
            refine fx_callVn dX4_thunder_102 vX4_hour lX4_169 (by decide) rfl (Nat.le_of_ble_eq_true rfl) eH rfl ?_
            refine fs_iinc_2 (w := nI 1) dX4_thunder_105 (by decide) rfl (by decide) ?_
            refine fx_goto (tgt := 48) dX4_thunder_108 (by decide) ?_
            rw [nI_add]
            exact K
          · exact absurd rfl hc86
  obtain ⟨m', K⟩ := H k 0 (by omega) (F 7) none none
  rw [show jths (G 1) n 0 = G 1 from rfl, upd_id, ga_id] at K
  refine ⟨m', mx_of (L := [some (.ref 0), some (.int (nI k)), none, none, none]) (by decide) (fun _ => rfl) (fun _ => Nat.le_of_ble_eq_true rfl) ?_⟩
  refine fx_iload_n dX4_thunder_0 rfl rfl ?_
  refine fx_iconst (v := nI 1) dX4_thunder_1 (by decide) ?_
  refine fx_bipush (v := nI 20) dX4_thunder_2 (by decide) ?_
  refine fx_callSv dX4_thunder_4 sX4_within lX4_74 (by decide) (Nat.le_of_ble_eq_true rfl) eX4_within rfl ?_
  rw [hk]
  refine fx_if_ne (tgt := 17) dX4_thunder_7 (by decide) rfl (fun hc7 => ?_) (fun hc7 => ?_)
  · refine fx_aload_n dX4_thunder_17 rfl rfl ?_
    refine fx_get dX4_thunder_18 kX4_9 rfl rfl ?_
    refine fx_iconst (v := nI 2) dX4_thunder_21 (by decide) ?_
    refine fx_iald dX4_thunder_22 rfl (vp_in_nI (by decide) (by decide)) ?_
    rw [nI_clamp (n := 2) (by decide), hV.1]
    refine fx_if_eq (tgt := 39) dX4_thunder_23 (by decide) rfl (fun hc23 => ?_) (fun hc23 => ?_)
    · exact absurd hc23 (nI_ne0 hn (by omega))
    · refine fx_aload_n dX4_thunder_26 rfl rfl ?_
      refine fx_get dX4_thunder_27 kX4_9 rfl rfl ?_
      refine fx_iconst (v := nI 0) dX4_thunder_30 (by decide) ?_
      refine fx_iald dX4_thunder_31 rfl (vp_in_nI (by decide) (by decide)) ?_
      rw [nI_clamp (n := 0) (by decide), h0]
      refine fx_iload_n dX4_thunder_32 rfl rfl ?_
      refine fx_iadd dX4_thunder_33 ?_
      rw [nI_add]
      refine fx_ldc dX4_thunder_34 qX4_172 ?_
      rw [j99999]
      refine fx_icmp_le (tgt := 46) dX4_thunder_36 (by decide) rfl (fun hc36 => ?_) (fun hc36 => ?_)
      · refine fx_iconst (v := nI 0) dX4_thunder_46 (by decide) ?_
        refine fs_istore_n_2 dX4_thunder_47 rfl (by decide) ?_
        exact K
      · exact absurd (nI_le h (by decide)) hc36
  · exact absurd hc7 (by decide)
/-! sheets -/
theorem eX4_cutTo {v b : Int32} {h : zH} : Mx mX4_cutTo [.int v, .int b] h (some (.int (if b = nI 8 then v.toInt8.toInt32 else if b = nI 16 then v.toInt16.toInt32 else v))) h := by
  refine mx_of (L := [some (.int v), some (.int b)]) (by decide) (fun _ => rfl) (fun _ => Nat.le_of_ble_eq_true rfl) ?_
  refine fx_iload_n dX4_cutTo_0 rfl rfl ?_
  refine fx_bipush (v := nI 8) dX4_cutTo_1 (by decide) ?_
  refine fx_icmp_ne (tgt := 11) dX4_cutTo_3 (by decide) rfl (fun hc3 => ?_) (fun hc3 => ?_)
  · refine fx_iload_n dX4_cutTo_11 rfl rfl ?_
    refine fx_bipush (v := nI 16) dX4_cutTo_12 (by decide) ?_
    refine fx_icmp_ne (tgt := 22) dX4_cutTo_14 (by decide) rfl (fun hc14 => ?_) (fun hc14 => ?_)
    · refine fx_iload_n dX4_cutTo_22 rfl rfl ?_
      exact fx_ireq dX4_cutTo_23 rfl rfl (by first | exact (if_pos hc3).symm | exact ((if_neg hc3).trans (if_pos hc14)).symm | exact ((if_neg hc3).trans (if_neg hc14)).symm) rfl
    · refine fx_iload_n dX4_cutTo_17 rfl rfl ?_
      refine fx_i2s dX4_cutTo_18 ?_
      refine fx_goto (tgt := 23) dX4_cutTo_19 (by decide) ?_
      exact fx_ireq dX4_cutTo_23 rfl rfl (by first | exact (if_pos hc3).symm | exact ((if_neg hc3).trans (if_pos hc14)).symm | exact ((if_neg hc3).trans (if_neg hc14)).symm) rfl
  · refine fx_iload_n dX4_cutTo_6 rfl rfl ?_
    refine fx_i2b dX4_cutTo_7 ?_
    refine fx_goto (tgt := 23) dX4_cutTo_8 (by decide) ?_
    exact fx_ireq dX4_cutTo_23 rfl rfl (by first | exact (if_pos hc3).symm | exact ((if_neg hc3).trans (if_pos hc14)).symm | exact ((if_neg hc3).trans (if_neg hc14)).symm) rfl
def jwd (b : Int32) : Bool := decide (b = 0) || (decide (b = nI 8) || (decide (b = nI 16) || decide (b = nI 32)))
theorem eX4_sheet_n {a b c : Int32} (h : jwi a (nI 0) (nI 3) = false ∨ jwd b = false) : Mx mX4_sheet [.ref 0, .int a, .int b, .int c] (rM F G) (some (.int (jfd 0))) (rMn F G 0) := by
  refine mx_of (L := [some (.ref 0), some (.int a), some (.int b), some (.int c), none]) (by decide) (fun _ => rfl) (fun _ => Nat.le_of_ble_eq_true rfl) ?_
  have K : jwd b = true → jwi a (nI 0) (nI 3) = true → False := fun q1 q2 => h.elim (fun z => jtf z q2) (fun z => jtf z q1)
  refine fx_iload_n dX4_sheet_0 rfl rfl ?_
  refine fx_callSv dX4_sheet_1 sX4_isSheet lX4_211 (by decide) (Nat.le_of_ble_eq_true rfl) eX4_isSheet rfl ?_
  refine fx_if_eq (tgt := 29) dX4_sheet_4 (by decide) rfl (fun hc4 => ?_) (fun hc4 => ?_)
  · refine fx_aload_n dX4_sheet_29 rfl rfl ?_
    refine fx_ldc dX4_sheet_30 qX4_69 ?_
    refine fx_callVv dX4_sheet_32 vX4_finding lX4_88 (by decide) rfl (Nat.le_of_ble_eq_true rfl) (eX4_finding (k := 0) (by decide) (by decide)) rfl ?_
    exact fx_ireq dX4_sheet_35 rfl rfl rfl rfl
  · refine fx_iload_n dX4_sheet_7 rfl rfl ?_
    refine fx_if_eq (tgt := 36) dX4_sheet_8 (by decide) rfl (fun hc8 => ?_) (fun hc8 => ?_)
    · first | exact (K (by unfold jwd; rw [decide_eq_true hc8]; rfl) (nI_ne0' hc4)).elim | exact (K (by unfold jwd; rw [decide_eq_true hc14, Bool.true_or, Bool.or_true]) (nI_ne0' hc4)).elim | exact (K (by unfold jwd; rw [decide_eq_true hc20, Bool.true_or, Bool.or_true, Bool.or_true]) (nI_ne0' hc4)).elim | exact (K (by unfold jwd; rw [decide_eq_true hc26, Bool.or_true, Bool.or_true, Bool.or_true]) (nI_ne0' hc4)).elim
    · refine fx_iload_n dX4_sheet_11 rfl rfl ?_
      refine fx_bipush (v := nI 8) dX4_sheet_12 (by decide) ?_
      refine fx_icmp_eq (tgt := 36) dX4_sheet_14 (by decide) rfl (fun hc14 => ?_) (fun hc14 => ?_)
      · first | exact (K (by unfold jwd; rw [decide_eq_true hc8]; rfl) (nI_ne0' hc4)).elim | exact (K (by unfold jwd; rw [decide_eq_true hc14, Bool.true_or, Bool.or_true]) (nI_ne0' hc4)).elim | exact (K (by unfold jwd; rw [decide_eq_true hc20, Bool.true_or, Bool.or_true, Bool.or_true]) (nI_ne0' hc4)).elim | exact (K (by unfold jwd; rw [decide_eq_true hc26, Bool.or_true, Bool.or_true, Bool.or_true]) (nI_ne0' hc4)).elim
      · refine fx_iload_n dX4_sheet_17 rfl rfl ?_
        refine fx_bipush (v := nI 16) dX4_sheet_18 (by decide) ?_
        refine fx_icmp_eq (tgt := 36) dX4_sheet_20 (by decide) rfl (fun hc20 => ?_) (fun hc20 => ?_)
        · first | exact (K (by unfold jwd; rw [decide_eq_true hc8]; rfl) (nI_ne0' hc4)).elim | exact (K (by unfold jwd; rw [decide_eq_true hc14, Bool.true_or, Bool.or_true]) (nI_ne0' hc4)).elim | exact (K (by unfold jwd; rw [decide_eq_true hc20, Bool.true_or, Bool.or_true, Bool.or_true]) (nI_ne0' hc4)).elim | exact (K (by unfold jwd; rw [decide_eq_true hc26, Bool.or_true, Bool.or_true, Bool.or_true]) (nI_ne0' hc4)).elim
        · refine fx_iload_n dX4_sheet_23 rfl rfl ?_
          refine fx_bipush (v := nI 32) dX4_sheet_24 (by decide) ?_
          refine fx_icmp_eq (tgt := 36) dX4_sheet_26 (by decide) rfl (fun hc26 => ?_) (fun hc26 => ?_)
          · first | exact (K (by unfold jwd; rw [decide_eq_true hc8]; rfl) (nI_ne0' hc4)).elim | exact (K (by unfold jwd; rw [decide_eq_true hc14, Bool.true_or, Bool.or_true]) (nI_ne0' hc4)).elim | exact (K (by unfold jwd; rw [decide_eq_true hc20, Bool.true_or, Bool.or_true, Bool.or_true]) (nI_ne0' hc4)).elim | exact (K (by unfold jwd; rw [decide_eq_true hc26, Bool.or_true, Bool.or_true, Bool.or_true]) (nI_ne0' hc4)).elim
          · refine fx_aload_n dX4_sheet_29 rfl rfl ?_
            refine fx_ldc dX4_sheet_30 qX4_69 ?_
            refine fx_callVv dX4_sheet_32 vX4_finding lX4_88 (by decide) rfl (Nat.le_of_ble_eq_true rfl) (eX4_finding (k := 0) (by decide) (by decide)) rfl ?_
            exact fx_ireq dX4_sheet_35 rfl rfl rfl rfl
theorem jwd_or {b : Int32} (h : jwd b = true) : b = 0 ∨ b = nI 8 ∨ b = nI 16 ∨ b = nI 32 := by
  unfold jwd at h
  simp only [Bool.or_eq_true, decide_eq_true_eq] at h
  exact h
theorem eX4_sheet_z {a b c : Int32} (ha : jwi a (nI 0) (nI 3) = true) (hb : jwd b = true) (hc : c < 0) : Mx mX4_sheet [.ref 0, .int a, .int b, .int c] (rM F G) (some (.int (jfd 6))) (rMn F G 6) := by
  refine mx_of (L := [some (.ref 0), some (.int a), some (.int b), some (.int c), none]) (by decide) (fun _ => rfl) (fun _ => Nat.le_of_ble_eq_true rfl) ?_
  have hb4 := jwd_or hb
  have K : Fx mX4_sheet (some (.int (jfd 6)), rMn F G 6) 36 [some (.ref 0), some (.int a), some (.int b), some (.int c), none] [] (rM F G) := by
    refine fx_iload_n dX4_sheet_36 rfl rfl ?_
    refine fx_if_ge (tgt := 48) dX4_sheet_37 (by decide) rfl (fun hc37 => ?_) (fun hc37 => ?_)
    · exact absurd hc (Int32.not_lt.mpr hc37)
    · refine fx_aload_n dX4_sheet_40 rfl rfl ?_
      refine fx_ldcw dX4_sheet_41 qX4_340 ?_
      refine fx_callVv dX4_sheet_44 vX4_finding lX4_88 (by decide) rfl (Nat.le_of_ble_eq_true rfl) (eX4_finding (k := 6) (by decide) (by decide)) rfl ?_
      exact fx_ireq dX4_sheet_47 rfl rfl rfl rfl
  refine fx_iload_n dX4_sheet_0 rfl rfl ?_
  refine fx_callSv dX4_sheet_1 sX4_isSheet lX4_211 (by decide) (Nat.le_of_ble_eq_true rfl) eX4_isSheet rfl ?_
  rw [ha]
  refine fx_if_eq (tgt := 29) dX4_sheet_4 (by decide) rfl (fun hc4 => ?_) (fun hc4 => ?_)
  · exact absurd hc4 (by decide)
  · refine fx_iload_n dX4_sheet_7 rfl rfl ?_
    refine fx_if_eq (tgt := 36) dX4_sheet_8 (by decide) rfl (fun hc8 => ?_) (fun hc8 => ?_)
    · exact K
    · refine fx_iload_n dX4_sheet_11 rfl rfl ?_
      refine fx_bipush (v := nI 8) dX4_sheet_12 (by decide) ?_
      refine fx_icmp_eq (tgt := 36) dX4_sheet_14 (by decide) rfl (fun hc14 => ?_) (fun hc14 => ?_)
      · exact K
      · refine fx_iload_n dX4_sheet_17 rfl rfl ?_
        refine fx_bipush (v := nI 16) dX4_sheet_18 (by decide) ?_
        refine fx_icmp_eq (tgt := 36) dX4_sheet_20 (by decide) rfl (fun hc20 => ?_) (fun hc20 => ?_)
        · exact K
        · refine fx_iload_n dX4_sheet_23 rfl rfl ?_
          refine fx_bipush (v := nI 32) dX4_sheet_24 (by decide) ?_
          refine fx_icmp_eq (tgt := 36) dX4_sheet_26 (by decide) rfl (fun hc26 => ?_) (fun hc26 => ?_)
          · exact K
          · exact absurd hb4 (fun q => q.elim hc8 (fun q => q.elim hc14 (fun q => q.elim hc20 hc26)))
theorem eX4_sheet_b {a b c : Int32} (ha : jwi a (nI 0) (nI 3) = true) (hb : jwd b = true) (h0 : ¬ c < 0) (hc : nI 40 < c) : Mx mX4_sheet [.ref 0, .int a, .int b, .int c] (rM F G) (some (.int (jfd 0))) (rMn F G 0) := by
  refine mx_of (L := [some (.ref 0), some (.int a), some (.int b), some (.int c), none]) (by decide) (fun _ => rfl) (fun _ => Nat.le_of_ble_eq_true rfl) ?_
  have hb4 := jwd_or hb
  have K : Fx mX4_sheet (some (.int (jfd 0)), rMn F G 0) 36 [some (.ref 0), some (.int a), some (.int b), some (.int c), none] [] (rM F G) := by
    refine fx_iload_n dX4_sheet_36 rfl rfl ?_
    refine fx_if_ge (tgt := 48) dX4_sheet_37 (by decide) rfl (fun hc37 => ?_) (fun hc37 => ?_)
    · refine fx_iload_n dX4_sheet_48 rfl rfl ?_
      refine fx_bipush (v := nI 40) dX4_sheet_49 (by decide) ?_
      refine fx_icmp_le (tgt := 61) dX4_sheet_51 (by decide) rfl (fun hc51 => ?_) (fun hc51 => ?_)
      · exact absurd hc51 (Int32.not_le.mpr hc)
      · refine fx_aload_n dX4_sheet_54 rfl rfl ?_
        refine fx_ldc dX4_sheet_55 qX4_69 ?_
        refine fx_callVv dX4_sheet_57 vX4_finding lX4_88 (by decide) rfl (Nat.le_of_ble_eq_true rfl) (eX4_finding (k := 0) (by decide) (by decide)) rfl ?_
        exact fx_ireq dX4_sheet_60 rfl rfl rfl rfl
    · exact absurd (Int32.not_lt.mp h0) hc37
  refine fx_iload_n dX4_sheet_0 rfl rfl ?_
  refine fx_callSv dX4_sheet_1 sX4_isSheet lX4_211 (by decide) (Nat.le_of_ble_eq_true rfl) eX4_isSheet rfl ?_
  rw [ha]
  refine fx_if_eq (tgt := 29) dX4_sheet_4 (by decide) rfl (fun hc4 => ?_) (fun hc4 => ?_)
  · exact absurd hc4 (by decide)
  · refine fx_iload_n dX4_sheet_7 rfl rfl ?_
    refine fx_if_eq (tgt := 36) dX4_sheet_8 (by decide) rfl (fun hc8 => ?_) (fun hc8 => ?_)
    · exact K
    · refine fx_iload_n dX4_sheet_11 rfl rfl ?_
      refine fx_bipush (v := nI 8) dX4_sheet_12 (by decide) ?_
      refine fx_icmp_eq (tgt := 36) dX4_sheet_14 (by decide) rfl (fun hc14 => ?_) (fun hc14 => ?_)
      · exact K
      · refine fx_iload_n dX4_sheet_17 rfl rfl ?_
        refine fx_bipush (v := nI 16) dX4_sheet_18 (by decide) ?_
        refine fx_icmp_eq (tgt := 36) dX4_sheet_20 (by decide) rfl (fun hc20 => ?_) (fun hc20 => ?_)
        · exact K
        · refine fx_iload_n dX4_sheet_23 rfl rfl ?_
          refine fx_bipush (v := nI 32) dX4_sheet_24 (by decide) ?_
          refine fx_icmp_eq (tgt := 36) dX4_sheet_26 (by decide) rfl (fun hc26 => ?_) (fun hc26 => ?_)
          · exact K
          · exact absurd hb4 (fun q => q.elim hc8 (fun q => q.elim hc14 (fun q => q.elim hc20 hc26)))
/-- row j of the numbers is 0 from place 0 to i -/
def jzr (a : Nat → Int32) (j i : Nat) : Nat → Int32 := fun k => if 40 * j ≤ k ∧ k < 40 * j + i then nI 0 else a k
theorem jzr_s (a : Nat → Int32) (j i : Nat) : upd (jzr a j i) (40 * j + i) (nI 0) = jzr a j (i + 1) := by
  funext k
  unfold upd jzr
  by_cases e : k = 40 * j + i
  · rw [if_pos e, if_pos (by omega)]
  · rw [if_neg e]
    by_cases q : 40 * j ≤ k ∧ k < 40 * j + i
    · rw [if_pos q, if_pos (by omega)]
    · rw [if_neg q, if_neg (by omega)]
theorem jzr_0 (a : Nat → Int32) (j : Nat) : jzr a j 0 = a := by
  funext k
  unfold jzr
  rw [if_neg (by omega)]
theorem eX4_sheet_y {j m : Nat} {b : Int32} (hj : j ≤ 3) (hb : jwd b = true) (hm : m ≤ 40) : Mx mX4_sheet [.ref 0, .int (nI j), .int b, .int (nI m)] (rM F G) (some (.int (if b = 0 then nI 0 else nI m))) (rM F (ga (ga (ga G 11 (upd (G 11) j b)) 12 (upd (G 12) j (if b = 0 then nI 0 else nI m))) 13 (jzr (G 13) j 40))) := by
  refine mx_of (L := [some (.ref 0), some (.int (nI j)), some (.int b), some (.int (nI m)), none]) (by decide) (fun _ => rfl) (fun _ => Nat.le_of_ble_eq_true rfl) ?_
  have hb4 := jwd_or hb
  generalize hx : (if b = 0 then nI 0 else nI m) = x
  have H : ∀ (k i : Nat), i + k = 40 → Fx mX4_sheet (some (.int x), rM F (ga (ga (ga G 11 (upd (G 11) j b)) 12 (upd (G 12) j x)) 13 (jzr (G 13) j 40))) 86 [some (.ref 0), some (.int (nI j)), some (.int b), some (.int (nI m)), some (.int (nI i))] [] (rM F (ga (ga (ga G 11 (upd (G 11) j b)) 12 (upd (G 12) j x)) 13 (jzr (G 13) j i))) := by
    intro k
    induction k with
    | zero =>
      intro i hi
      have hi' : i = 40 := by omega
      subst hi'
      refine fx_iload dX4_sheet_86 rfl ?_
      refine fx_bipush (v := nI 40) dX4_sheet_88 (by decide) ?_
      refine fx_icmp_ge (tgt := 112) dX4_sheet_90 (by decide) rfl (fun hc90 => ?_) (fun hc90 => ?_)
      · refine fx_aload_n dX4_sheet_112 rfl rfl ?_
        refine fx_get dX4_sheet_113 kX4_60 rfl rfl ?_
        refine fx_iload_n dX4_sheet_116 rfl rfl ?_
        refine fx_iald dX4_sheet_117 rfl (vp_in_nI (by omega) (by omega)) ?_
        rw [nI_clamp (by omega), ga_n _ _ (show (12 : Nat) ≠ 13 by decide), ga_s, pk_us]
        exact fx_ireq dX4_sheet_118 rfl rfl rfl rfl
      · exact absurd (Int32.le_refl _) hc90
    | succ k ih =>
      intro i hi
      have ih1 := ih (i + 1) (by omega)
      rw [← jzr_s (G 13) j i] at ih1
      refine fx_iload dX4_sheet_86 rfl ?_
      refine fx_bipush (v := nI 40) dX4_sheet_88 (by decide) ?_
      refine fx_icmp_ge (tgt := 112) dX4_sheet_90 (by decide) rfl (fun hc90 => ?_) (fun hc90 => ?_)
      · exact absurd hc90 (nI_ge (by omega) (by omega))
      · refine fx_aload_n dX4_sheet_93 rfl rfl ?_
        refine fx_get dX4_sheet_94 kX4_63 rfl rfl ?_
        refine fx_bipush (v := nI 40) dX4_sheet_97 (by decide) ?_
        refine fx_iload_n dX4_sheet_99 rfl rfl ?_
        refine fx_imul dX4_sheet_100 ?_
        refine fx_iload dX4_sheet_101 rfl ?_
        refine fx_iadd dX4_sheet_103 ?_
        rw [pk_mul, nI_add]
        refine fx_iconst (v := nI 0) dX4_sheet_104 (by decide) ?_
        refine fx_iast dX4_sheet_105 rfl (vp_in_nI (by omega) (by omega)) (w4_13 ..) ?_
        rw [nI_clamp (by omega), ga_s, ga_ga]
        refine fs_iinc_4 (w := nI 1) dX4_sheet_106 (by decide) rfl (by decide) ?_
        refine fx_goto (tgt := 86) dX4_sheet_109 (by decide) ?_
        rw [nI_add]
        exact ih1
  have H0 := H 40 0 (by omega)
  rw [jzr_0] at H0
  have J82 : Fx mX4_sheet (some (.int x), rM F (ga (ga (ga G 11 (upd (G 11) j b)) 12 (upd (G 12) j x)) 13 (jzr (G 13) j 40))) 82 [some (.ref 0), some (.int (nI j)), some (.int b), some (.int (nI m)), none] [.int x, .int (nI j), .ref 12] (rM F (ga G 11 (upd (G 11) j b))) := by
    have eZ : ga (ga (ga G 11 (upd (G 11) j b)) 12 (upd (G 12) j x)) 13 (G 13) = ga (ga G 11 (upd (G 11) j b)) 12 (upd (G 12) j x) := by
      rw [ga_comm _ _ _ (show (12 : Nat) ≠ 13 by decide), ga_comm _ _ _ (show (11 : Nat) ≠ 13 by decide), ga_id]
    rw [eZ] at H0
    refine fx_iast dX4_sheet_82 rfl (vp_in_nI (by omega) (by omega)) (w4_12 ..) ?_
    rw [nI_clamp (by omega), ga_n _ _ (show (12 : Nat) ≠ 11 by decide)]
    refine fx_iconst (v := nI 0) dX4_sheet_83 (by decide) ?_
    refine fs_istore_4 dX4_sheet_84 rfl (by decide) ?_
    exact H0
  have K : Fx mX4_sheet (some (.int x), rM F (ga (ga (ga G 11 (upd (G 11) j b)) 12 (upd (G 12) j x)) 13 (jzr (G 13) j 40))) 36 [some (.ref 0), some (.int (nI j)), some (.int b), some (.int (nI m)), none] [] (rM F G) := by
    refine fx_iload_n dX4_sheet_36 rfl rfl ?_
    refine fx_if_ge (tgt := 48) dX4_sheet_37 (by decide) rfl (fun hc37 => ?_) (fun hc37 => ?_)
    · refine fx_iload_n dX4_sheet_48 rfl rfl ?_
      refine fx_bipush (v := nI 40) dX4_sheet_49 (by decide) ?_
      refine fx_icmp_le (tgt := 61) dX4_sheet_51 (by decide) rfl (fun hc51 => ?_) (fun hc51 => ?_)
      · refine fx_aload_n dX4_sheet_61 rfl rfl ?_
        refine fx_get dX4_sheet_62 kX4_57 rfl rfl ?_
        refine fx_iload_n dX4_sheet_65 rfl rfl ?_
        refine fx_iload_n dX4_sheet_66 rfl rfl ?_
        refine fx_iast dX4_sheet_67 rfl (vp_in_nI (by omega) (by omega)) (w4_11 ..) ?_
        rw [nI_clamp (by omega)]
        refine fx_aload_n dX4_sheet_68 rfl rfl ?_
        refine fx_get dX4_sheet_69 kX4_60 rfl rfl ?_
        refine fx_iload_n dX4_sheet_72 rfl rfl ?_
        refine fx_iload_n dX4_sheet_73 rfl rfl ?_
        refine fx_if_ne (tgt := 81) dX4_sheet_74 (by decide) rfl (fun hc74 => ?_) (fun hc74 => ?_)
        · refine fx_iload_n dX4_sheet_81 rfl rfl ?_
          first | (rw [if_pos hc74] at hx; exact fx_eq J82 rfl (by rw [hx]) rfl) | (rw [if_neg hc74] at hx; exact fx_eq J82 rfl (by rw [hx]) rfl)
        · refine fx_iconst (v := nI 0) dX4_sheet_77 (by decide) ?_
          refine fx_goto (tgt := 82) dX4_sheet_78 (by decide) ?_
          first | (rw [if_pos hc74] at hx; exact fx_eq J82 rfl (by rw [hx]) rfl) | (rw [if_neg hc74] at hx; exact fx_eq J82 rfl (by rw [hx]) rfl)
      · exact absurd (nI_le hm (by decide)) hc51
    · exact absurd (nI_pos' (by omega)) hc37
  refine fx_iload_n dX4_sheet_0 rfl rfl ?_
  refine fx_callSv dX4_sheet_1 sX4_isSheet lX4_211 (by decide) (Nat.le_of_ble_eq_true rfl) eX4_isSheet rfl ?_
  rw [jwi_n (by omega) (by decide)]
  refine fx_if_eq (tgt := 29) dX4_sheet_4 (by decide) rfl (fun hc4 => ?_) (fun hc4 => ?_)
  · exact absurd hc4 (by decide)
  · refine fx_iload_n dX4_sheet_7 rfl rfl ?_
    refine fx_if_eq (tgt := 36) dX4_sheet_8 (by decide) rfl (fun hc8 => ?_) (fun hc8 => ?_)
    · exact K
    · refine fx_iload_n dX4_sheet_11 rfl rfl ?_
      refine fx_bipush (v := nI 8) dX4_sheet_12 (by decide) ?_
      refine fx_icmp_eq (tgt := 36) dX4_sheet_14 (by decide) rfl (fun hc14 => ?_) (fun hc14 => ?_)
      · exact K
      · refine fx_iload_n dX4_sheet_17 rfl rfl ?_
        refine fx_bipush (v := nI 16) dX4_sheet_18 (by decide) ?_
        refine fx_icmp_eq (tgt := 36) dX4_sheet_20 (by decide) rfl (fun hc20 => ?_) (fun hc20 => ?_)
        · exact K
        · refine fx_iload_n dX4_sheet_23 rfl rfl ?_
          refine fx_bipush (v := nI 32) dX4_sheet_24 (by decide) ?_
          refine fx_icmp_eq (tgt := 36) dX4_sheet_26 (by decide) rfl (fun hc26 => ?_) (fun hc26 => ?_)
          · exact K
          · exact absurd hb4 (fun q => q.elim hc8 (fun q => q.elim hc14 (fun q => q.elim hc20 hc26)))
theorem eX4_write_n {a b c : Int32} (h : jwi a (nI 0) (nI 3) = false) : Mx mX4_write [.ref 0, .int a, .int b, .int c] (rM F G) (some (.int (jfd 0))) (rMn F G 0) := by
  refine mx_of (L := [some (.ref 0), some (.int a), some (.int b), some (.int c)]) (by decide) (fun _ => rfl) (fun _ => Nat.le_of_ble_eq_true rfl) ?_
  refine fx_iload_n dX4_write_0 rfl rfl ?_
  refine fx_callSv dX4_write_1 sX4_isSheet lX4_211 (by decide) (Nat.le_of_ble_eq_true rfl) eX4_isSheet rfl ?_
  rw [h]
  refine fx_if_ne (tgt := 14) dX4_write_4 (by decide) rfl (fun hc4 => ?_) (fun hc4 => ?_)
  · exact absurd rfl hc4
  · refine fx_aload_n dX4_write_7 rfl rfl ?_
    refine fx_ldc dX4_write_8 qX4_69 ?_
    refine fx_callVv dX4_write_10 vX4_finding lX4_88 (by decide) rfl (Nat.le_of_ble_eq_true rfl) (eX4_finding (k := 0) (by decide) (by decide)) rfl ?_
    exact fx_ireq dX4_write_13 rfl rfl rfl rfl
theorem eX4_write_m {j : Nat} {b c : Int32} (hj : j ≤ 3) (h : G 11 j = 0) : Mx mX4_write [.ref 0, .int (nI j), .int b, .int c] (rM F G) (some (.int (jfd 5))) (rMn F G 5) := by
  refine mx_of (L := [some (.ref 0), some (.int (nI j)), some (.int b), some (.int c)]) (by decide) (fun _ => rfl) (fun _ => Nat.le_of_ble_eq_true rfl) ?_
  refine fx_iload_n dX4_write_0 rfl rfl ?_
  refine fx_callSv dX4_write_1 sX4_isSheet lX4_211 (by decide) (Nat.le_of_ble_eq_true rfl) eX4_isSheet rfl ?_
  rw [jwi_n (by omega) (by decide)]
  refine fx_if_ne (tgt := 14) dX4_write_4 (by decide) rfl (fun hc4 => ?_) (fun hc4 => ?_)
  · refine fx_aload_n dX4_write_14 rfl rfl ?_
    refine fx_get dX4_write_15 kX4_57 rfl rfl ?_
    refine fx_iload_n dX4_write_18 rfl rfl ?_
    refine fx_iald dX4_write_19 rfl (vp_in_nI (by omega) (by omega)) ?_
    rw [nI_clamp (by omega), h]
    refine fx_if_ne (tgt := 30) dX4_write_20 (by decide) rfl (fun hc20 => ?_) (fun hc20 => ?_)
    · exact absurd rfl hc20
    · refine fx_aload_n dX4_write_23 rfl rfl ?_
      refine fx_ldc dX4_write_24 qX4_214 ?_
      refine fx_callVv dX4_write_26 vX4_finding lX4_88 (by decide) rfl (Nat.le_of_ble_eq_true rfl) (eX4_finding (k := 5) (by decide) (by decide)) rfl ?_
      exact fx_ireq dX4_write_29 rfl rfl rfl rfl
  · exact absurd hc4 (by decide)
theorem eX4_write_b {j : Nat} {b c : Int32} (hS : jS G) (hj : j ≤ 3) (h : ¬ G 11 j = 0) (hb : jwi b (nI 0) (nI (jsz G j) - nI 1) = false) : Mx mX4_write [.ref 0, .int (nI j), .int b, .int c] (rM F G) (some (.int (jfd 0))) (rMn F G 0) := by
  refine mx_of (L := [some (.ref 0), some (.int (nI j)), some (.int b), some (.int c)]) (by decide) (fun _ => rfl) (fun _ => Nat.le_of_ble_eq_true rfl) ?_
  obtain ⟨ez, hz⟩ := jsz_e hS (show j < 4 by omega)
  refine fx_iload_n dX4_write_0 rfl rfl ?_
  refine fx_callSv dX4_write_1 sX4_isSheet lX4_211 (by decide) (Nat.le_of_ble_eq_true rfl) eX4_isSheet rfl ?_
  rw [jwi_n (by omega) (by decide)]
  refine fx_if_ne (tgt := 14) dX4_write_4 (by decide) rfl (fun hc4 => ?_) (fun hc4 => ?_)
  · refine fx_aload_n dX4_write_14 rfl rfl ?_
    refine fx_get dX4_write_15 kX4_57 rfl rfl ?_
    refine fx_iload_n dX4_write_18 rfl rfl ?_
    refine fx_iald dX4_write_19 rfl (vp_in_nI (by omega) (by omega)) ?_
    rw [nI_clamp (by omega)]
    refine fx_if_ne (tgt := 30) dX4_write_20 (by decide) rfl (fun hc20 => ?_) (fun hc20 => ?_)
    · refine fx_iload_n dX4_write_30 rfl rfl ?_
      refine fx_iconst (v := nI 0) dX4_write_31 (by decide) ?_
      refine fx_aload_n dX4_write_32 rfl rfl ?_
      refine fx_get dX4_write_33 kX4_60 rfl rfl ?_
      refine fx_iload_n dX4_write_36 rfl rfl ?_
      refine fx_iald dX4_write_37 rfl (vp_in_nI (by omega) (by omega)) ?_
      rw [nI_clamp (by omega), ez]
      refine fx_iconst (v := nI 1) dX4_write_38 (by decide) ?_
      refine fx_isub dX4_write_39 ?_
      refine fx_callSv dX4_write_40 sX4_within lX4_74 (by decide) (Nat.le_of_ble_eq_true rfl) eX4_within rfl ?_
      rw [hb]
      refine fx_if_ne (tgt := 53) dX4_write_43 (by decide) rfl (fun hc43 => ?_) (fun hc43 => ?_)
      · exact absurd rfl hc43
      · refine fx_aload_n dX4_write_46 rfl rfl ?_
        refine fx_ldc dX4_write_47 qX4_69 ?_
        refine fx_callVv dX4_write_49 vX4_finding lX4_88 (by decide) rfl (Nat.le_of_ble_eq_true rfl) (eX4_finding (k := 0) (by decide) (by decide)) rfl ?_
        exact fx_ireq dX4_write_52 rfl rfl rfl rfl
    · exact absurd hc20 h
  · exact absurd hc4 (by decide)
def jcut (v b : Int32) : Int32 := if b = nI 8 then v.toInt8.toInt32 else if b = nI 16 then v.toInt16.toInt32 else v
theorem eX4_write_y {j i : Nat} {c : Int32} (hS : jS G) (hj : j ≤ 3) (h : ¬ G 11 j = 0) (hi : i < jsz G j) : Mx mX4_write [.ref 0, .int (nI j), .int (nI i), .int c] (rM F G) (some (.int (nI 1))) (rM F (ga G 13 (upd (G 13) (40 * j + i) (jcut c (G 11 j))))) := by
  refine mx_of (L := [some (.ref 0), some (.int (nI j)), some (.int (nI i)), some (.int c)]) (by decide) (fun _ => rfl) (fun _ => Nat.le_of_ble_eq_true rfl) ?_
  obtain ⟨ez, hz⟩ := jsz_e hS (show j < 4 by omega)
  refine fx_iload_n dX4_write_0 rfl rfl ?_
  refine fx_callSv dX4_write_1 sX4_isSheet lX4_211 (by decide) (Nat.le_of_ble_eq_true rfl) eX4_isSheet rfl ?_
  rw [jwi_n (by omega) (by decide)]
  refine fx_if_ne (tgt := 14) dX4_write_4 (by decide) rfl (fun hc4 => ?_) (fun hc4 => ?_)
  · refine fx_aload_n dX4_write_14 rfl rfl ?_
    refine fx_get dX4_write_15 kX4_57 rfl rfl ?_
    refine fx_iload_n dX4_write_18 rfl rfl ?_
    refine fx_iald dX4_write_19 rfl (vp_in_nI (by omega) (by omega)) ?_
    rw [nI_clamp (by omega)]
    refine fx_if_ne (tgt := 30) dX4_write_20 (by decide) rfl (fun hc20 => ?_) (fun hc20 => ?_)
    · refine fx_iload_n dX4_write_30 rfl rfl ?_
      refine fx_iconst (v := nI 0) dX4_write_31 (by decide) ?_
      refine fx_aload_n dX4_write_32 rfl rfl ?_
      refine fx_get dX4_write_33 kX4_60 rfl rfl ?_
      refine fx_iload_n dX4_write_36 rfl rfl ?_
      refine fx_iald dX4_write_37 rfl (vp_in_nI (by omega) (by omega)) ?_
      rw [nI_clamp (by omega), ez]
      refine fx_iconst (v := nI 1) dX4_write_38 (by decide) ?_
      refine fx_isub dX4_write_39 ?_
      rw [pk_sub (by omega)]
      refine fx_callSv dX4_write_40 sX4_within lX4_74 (by decide) (Nat.le_of_ble_eq_true rfl) eX4_within rfl ?_
      rw [jwi_n (by omega) (by omega)]
      refine fx_if_ne (tgt := 53) dX4_write_43 (by decide) rfl (fun hc43 => ?_) (fun hc43 => ?_)
      · refine fx_aload_n dX4_write_53 rfl rfl ?_
        refine fx_get dX4_write_54 kX4_63 rfl rfl ?_
        refine fx_bipush (v := nI 40) dX4_write_57 (by decide) ?_
        refine fx_iload_n dX4_write_59 rfl rfl ?_
        refine fx_imul dX4_write_60 ?_
        refine fx_iload_n dX4_write_61 rfl rfl ?_
        refine fx_iadd dX4_write_62 ?_
        rw [pk_mul, nI_add]
        refine fx_iload_n dX4_write_63 rfl rfl ?_
        refine fx_aload_n dX4_write_64 rfl rfl ?_
        refine fx_get dX4_write_65 kX4_57 rfl rfl ?_
        refine fx_iload_n dX4_write_68 rfl rfl ?_
        refine fx_iald dX4_write_69 rfl (vp_in_nI (by omega) (by omega)) ?_
        rw [nI_clamp (by omega)]
        refine fx_callSv dX4_write_70 sX4_cutTo lX4_341 (by decide) (Nat.le_of_ble_eq_true rfl) eX4_cutTo rfl ?_
        refine fx_iast dX4_write_73 rfl (vp_in_nI (by omega) (by omega)) (w4_13 ..) ?_
        rw [nI_clamp (by omega)]
        refine fx_iconst (v := nI 1) dX4_write_74 (by decide) ?_
        exact fx_ireq dX4_write_75 rfl rfl rfl rfl
      · exact absurd hc43 (by decide)
    · exact absurd hc20 h
  · exact absurd hc4 (by decide)
end
