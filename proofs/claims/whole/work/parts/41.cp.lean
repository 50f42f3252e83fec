/-! ===== pairs: now, count, status, seed, hold, as, image, undo, tear, wipe, stock, changes, ring, rings, peals, wanted ===== -/
set_option maxRecDepth 100000
theorem jnets_p {V : Nat → Int32} : jpop 64 (jnm V 64) = jnets V 64 := by
  have H : ∀ k, k ≤ 64 → jcb (jnm V 64) k = jnets V k := by
    intro k
    induction k with
    | zero => intro _; rfl
    | succ k ih =>
      intro hk
      have e : jnets V (k + 1) = jnets V k + (if V (18 + k) = nI 1 then 1 else 0) := rfl
      rw [e, jcb_1, ih (by omega), jnm_b, decide_eq_true (show k < 64 by omega), Bool.true_and]
      by_cases q : V (18 + k) = nI 1
      · rw [decide_eq_true q, if_pos q, if_pos rfl]
      · rw [decide_eq_false q, if_neg q, if_neg (by decide)]
  rw [← jcb_p, H 64 (Nat.le_refl _)]
theorem jwt_c {V : Nat → Int32} {n : Nat} : ∀ b, b ≤ n → jwt V (jsN V n) b = jcw V b := by
  intro b
  induction b with
  | zero => intro _; rfl
  | succ b ih =>
    intro hb
    have e1 : jwt V (jsN V n) (b + 1) = if (jsN V n).testBit b = true then jwt V (jsN V n) b + V (146 + 5 * b + 3) else jwt V (jsN V n) b := rfl
    have e2 : jcw V (b + 1) = jcw V b + (if V (146 + 5 * b + 4) = nI 1 then V (146 + 5 * b + 3) else nI 0) := rfl
    rw [e1, e2, ih (by omega), jsN_b, decide_eq_true (show b < n by omega), Bool.true_and]
    by_cases q : V (146 + 5 * b + 4) = nI 1
    · rw [decide_eq_true q, if_pos q, if_pos rfl]
    · rw [decide_eq_false q, if_neg q, if_neg (by decide), nI_0, Int32.add_zero]
theorem jwt_a {V : Nat → Int32} : ∀ b, b ≤ 8 → jwt V (2 ^ 64 - 1) b = jaw V b := by
  intro b
  induction b with
  | zero => intro _; rfl
  | succ b ih =>
    intro hb
    have e1 : jwt V (2 ^ 64 - 1) (b + 1) = if (2 ^ 64 - 1).testBit b = true then jwt V (2 ^ 64 - 1) b + V (146 + 5 * b + 3) else jwt V (2 ^ 64 - 1) b := rfl
    have e2 : jaw V (b + 1) = jaw V b + V (146 + 5 * b + 3) := rfl
    rw [e1, e2, ih (by omega), Nat.testBit_two_pow_sub_one, decide_eq_true (show b < 64 by omega), if_pos rfl]
theorem jspn_e (V : Nat → Int32) : ∀ s, jspn V s = jsp V s := by
  intro s
  induction s with
  | zero => rfl
  | succ s ih =>
    show jspn V s + _ = jsp V s + _
    rw [ih]
theorem jm1_ok {v : Int32} {k : Nat} (hk : k < 2 ^ 31) (h : jwi v (-1) (nI k) = true) : v = (-1) ∨ ∃ c, c ≤ k ∧ v = nI c := by
  by_cases q : v < 0
  · left
    unfold jwi at h
    rw [Bool.and_eq_true, decide_eq_true_eq, decide_eq_true_eq] at h
    have h1 := Int32.le_iff_toInt_le.mp h.1
    have h2 := Int32.lt_iff_toInt_lt.mp q
    apply Int32.toInt_inj.mp
    rw [show (-1 : Int32).toInt = -1 by decide] at *
    rw [show (0 : Int32).toInt = 0 by decide] at h2
    omega
  · right
    unfold jwi at h
    rw [Bool.and_eq_true, decide_eq_true_eq, decide_eq_true_eq] at h
    obtain ⟨c, hc, rfl⟩ := nI_of q
    exact ⟨c, (nI_leI hc hk).mp h.2, rfl⟩
theorem jlt7 {v : Int32} (h : v < nI 7) : ¬ nI 6 < v := fun q => by
  have h1 := Int32.lt_iff_toInt_lt.mp h
  have h2 := Int32.lt_iff_toInt_lt.mp q
  rw [show (nI 7).toInt = 7 by decide] at h1
  rw [show (nI 6).toInt = 6 by decide] at h2
  omega
theorem jW_sp {V : Nat → Int32} {n i : Nat} {x : Int32} (h : jW V n) (hi : 4 ≤ i) (hi2 : i < 14) : jW (upd V i x) n := by
  obtain ⟨h1, h2, h3, h4, h5, h6, h7, h8⟩ := h
  refine ⟨by rw [pk_un (by omega)]; exact h1, h2, fun o ho => ?_, fun q hq => by rw [pk_un (by omega)]; exact h4 q hq, fun q hq => by rw [pk_un (by omega)]; exact h5 q hq, fun q hq => by rw [pk_un (by omega)]; exact h6 q hq, by rw [pk_un (by omega)]; exact h7, fun k hk => by rw [pk_un (by omega)]; exact h8 k hk⟩
  rw [pk_un (by omega), pk_un (by omega), pk_un (by omega), pk_un (by omega), pk_un (by omega)]
  exact h3 o ho
theorem jSp_s {V : Nat → Int32} {n c : Nat} {x : Int32} (h : jSp V n) (hx : x = (-1) ∨ ∃ b, b < n ∧ x = nI b) : jSp (upd V (4 + c) x) n := fun s hs => by
  by_cases e : s = c
  · subst e; rw [pk_us]; exact hx
  · rw [pk_un (by omega)]; exact h s hs
section
variable {F F' : Nat → Nat → Int32} {N N' : Nat → Nat → Int64} {G G' : Nat → Nat → Int32} {w : Nat} {V : Nat → Int32} {n : Nat} {h : Int32} {t : Nat}
/-- what lies elsewhere is changed -/
theorem jI_else (k : jI F N G w V n h t) (e1 : ∀ s, F' w s = F w s) (e2 : ∀ s, N' w s = N w s) (e3 : ∀ j, 1 ≤ j → j ≤ 7 → G' (w + j) = G (w + j)) : jI F' N' G' w V n h t := by
  obtain ⟨k1, k2, k3, k4, k5, k6, k7, k8, k9, k10, k11, k12, k13, k14⟩ := k
  refine ⟨by rw [e1]; exact k1, by rw [e2]; exact k2, by rw [e1]; exact k3, by rw [e1]; exact k4, by rw [e1]; exact k5, by rw [e1]; exact k6, by rw [e2]; exact k7, ?_, ?_, ?_, ?_, ?_, ?_, ?_⟩
  · rw [e3 1 (by decide) (by decide)]; exact k8
  · rw [e3 2 (by decide) (by decide)]; exact k9
  · rw [e3 3 (by decide) (by decide)]; exact k10
  · rw [e3 4 (by decide) (by decide)]; exact k11
  · rw [e3 5 (by decide) (by decide)]; exact k12
  · rw [e3 6 (by decide) (by decide)]; exact k13
  · rw [e3 7 (by decide) (by decide)]; exact k14
theorem jI_f0 {p j : Nat} {v : Int32} (k : jI F N G w V n h t) (hp : p ≠ w) : jI (f2 F p j v) N G w V n h t :=
  jI_else k (fun s => f2_n _ _ (Or.inl (fun q => hp q.symm))) (fun _ => rfl) (fun _ _ _ => rfl)
end
theorem jcl_s (x k : Nat) : (jcl x k).1 ≤ (jcl x (k + 1)).1 := by
  rw [jcl_1]
  by_cases h : x.testBit k = true
  · rw [if_pos h]; exact Nat.le_max_left _ _
  · rw [if_neg h]; exact Nat.le_refl _
theorem jcl_pos {x : Nat} (h : x.testBit 0 = true) : ∀ k, 1 ≤ (jcl x (k + 1)).1 := by
  intro k
  induction k with
  | zero =>
    rw [jcl_1, if_pos h]
    refine Nat.le_trans ?_ (Nat.le_max_right _ _)
    split <;> omega
  | succ k ih => exact Nat.le_trans ih (jcl_s x (k + 1))
section
variable {F4 : Nat → Int32} {G4 : Nat → Nat → Int32} {F : Nat → Nat → Int32} {N : Nat → Nat → Int64} {G : Nat → Nat → Int32}
theorem P_now (R : jR F4 G4 F N G) (a : Int32) : jP mX4_now mX3_now [.int a] F4 G4 F N G := by
  by_cases ha : jwi a (nI 0) (nI 4) = false
  · refine ⟨_, _, _, _, _, _, eX4_now_n ha, ?_, jR_f R (by decide)⟩
    refine mx_of (L := [some (.ref 0), some (.int a)]) (by decide) (fun _ => rfl) (fun _ => Nat.le_of_ble_eq_true rfl) ?_
    refine fx_iload_n dX3_now_0 rfl rfl ?_
    refine fx_tableOut (tgt := 86) dX3_now_1 (jwi_out (by decide) ha) (by decide) ?_
    refine fx_aload_n dX3_now_86 rfl rfl ?_
    refine fx_iconst (v := nI 0) dX3_now_87 (by decide) ?_
    refine fx_callVv dX3_now_88 vX3_finding lX3_51 (by decide) rfl (Nat.le_of_ble_eq_true rfl) (eX3_finding (k := 0) (by decide)) rfl ?_
    exact fx_ireq dX3_now_91 rfl rfl rfl rfl
  · obtain ⟨f, hf, rfl⟩ := jwi_of (k := 4) (by decide) (jbt_t ha)
    have R0 := R
    obtain ⟨⟨n, t, hW, hS, hH, ht, hI⟩, -⟩ := R
    have hn8 := hW.2.1
    have hs := jsN_256 (V := G4 1) hn8
    refine ⟨_, _, _, _, _, _, eX4_now_y hW hf, ?_, R0⟩
    refine mx_of (L := [some (.ref 0), some (.int (nI f))]) (by decide) (fun _ => rfl) (fun _ => Nat.le_of_ble_eq_true rfl) ?_
    rcases (show f = 0 ∨ f = 1 ∨ f = 2 ∨ f = 3 ∨ f = 4 by omega) with rfl | rfl | rfl | rfl | rfl
    · refine fx_iload_n dX3_now_0 rfl rfl ?_
      refine fx_tableIn (tgt := 36) dX3_now_1 (by decide) (by decide) rfl (by decide) ?_
      refine fx_aload_n dX3_now_36 rfl rfl ?_
      refine fx_get dX3_now_37 kX3_10 rfl rfl ?_
      refine fx_get dX3_now_40 kX3_117 rfl rfl ?_
      rw [jI_0 hI]
      exact fx_ireq dX3_now_43 rfl rfl rfl rfl
    · refine fx_iload_n dX3_now_0 rfl rfl ?_
      refine fx_tableIn (tgt := 44) dX3_now_1 (by decide) (by decide) rfl (by decide) ?_
      refine fx_aload_n dX3_now_44 rfl rfl ?_
      refine fx_get dX3_now_45 kX3_10 rfl rfl ?_
      refine fx_get dX3_now_48 kX3_125 rfl rfl ?_
      rw [jI_c hI]
      exact fx_ireq dX3_now_51 rfl rfl rfl rfl
    · refine fx_iload_n dX3_now_0 rfl rfl ?_
      refine fx_tableIn (tgt := 52) dX3_now_1 (by decide) (by decide) rfl (by decide) ?_
      refine fx_aload_n dX3_now_52 rfl rfl ?_
      refine fx_get dX3_now_53 kX3_10 rfl rfl ?_
      refine fx_get dX3_now_56 kX3_133 rfl rfl ?_
      rw [jI_m hI]
      refine fx_callSv dX3_now_59 sJ13_bitCount_95d88 lX3_137 (by decide) (Nat.le_of_ble_eq_true rfl) (eJ13_bitCount_95d88 (jnm_lt _ 64)) rfl ?_
      rw [jnets_p]
      exact fx_ireq dX3_now_62 rfl rfl rfl rfl
    · refine fx_iload_n dX3_now_0 rfl rfl ?_
      refine fx_tableIn (tgt := 63) dX3_now_1 (by decide) (by decide) rfl (by decide) ?_
      refine fx_aload_n dX3_now_63 rfl rfl ?_
      refine fx_get dX3_now_64 kX3_10 rfl rfl ?_
      refine fx_get dX3_now_67 kX3_77 rfl rfl ?_
      rw [jI_4 hI]
      exact fx_ireq dX3_now_70 rfl rfl rfl rfl
    · refine fx_iload_n dX3_now_0 rfl rfl ?_
      refine fx_tableIn (tgt := 71) dX3_now_1 (by decide) (by decide) rfl (by decide) ?_
      refine fx_aload_n dX3_now_71 rfl rfl ?_
      refine fx_get dX3_now_72 kX3_10 rfl rfl ?_
      refine fx_aload_n dX3_now_75 rfl rfl ?_
      refine fx_get dX3_now_76 kX3_10 rfl rfl ?_
      refine fx_get dX3_now_79 kX3_125 rfl rfl ?_
      rw [jI_c hI]
      refine fx_callVv dX3_now_82 vX2_weightOf lX3_142 (by decide) rfl (Nat.le_of_ble_eq_true rfl) (eX2_weightOf (by omega) (nI_l (by omega)) zw1 hI hW) rfl ?_
      rw [jwt_c n (Nat.le_refl n)]
      exact fx_ireq dX3_now_85 rfl rfl rfl rfl
theorem P_count (R : jR F4 G4 F N G) (a : Int32) : jP mX4_count mX3_count [.int a] F4 G4 F N G := by
  by_cases ha : jwi a (nI 0) (nI 7) = false
  · refine ⟨_, _, _, _, _, _, eX4_count_n ha, ?_, jR_f R (by decide)⟩
    refine mx_of (L := [some (.ref 0), some (.int a)]) (by decide) (fun _ => rfl) (fun _ => Nat.le_of_ble_eq_true rfl) ?_
    refine fx_iload_n dX3_count_0 rfl rfl ?_
    refine fx_tableOut (tgt := 119) dX3_count_1 (jwi_out (by decide) ha) (by decide) ?_
    refine fx_aload_n dX3_count_119 rfl rfl ?_
    refine fx_iconst (v := nI 0) dX3_count_120 (by decide) ?_
    refine fx_callVv dX3_count_121 vX3_finding lX3_51 (by decide) rfl (Nat.le_of_ble_eq_true rfl) (eX3_finding (k := 0) (by decide)) rfl ?_
    exact fx_ireq dX3_count_124 rfl rfl rfl rfl
  · obtain ⟨f, hf, rfl⟩ := jwi_of (k := 7) (by decide) (jbt_t ha)
    have R0 := R
    obtain ⟨⟨n, t, hW, hS, hH, ht, hI⟩, -, -, -, -, -, ⟨z, z1, z2, z3, z4⟩, -⟩ := R
    have hn8 := hW.2.1
    have hs := jsN_256 (V := G4 1) hn8
    refine ⟨_, _, _, _, _, _, eX4_count_y hW hf, ?_, R0⟩
    refine mx_of (L := [some (.ref 0), some (.int (nI f))]) (by decide) (fun _ => rfl) (fun _ => Nat.le_of_ble_eq_true rfl) ?_
    rcases (show f = 0 ∨ f = 1 ∨ f = 2 ∨ f = 3 ∨ f = 4 ∨ f = 5 ∨ f = 6 ∨ f = 7 by omega) with rfl | rfl | rfl | rfl | rfl | rfl | rfl | rfl
    · refine fx_iload_n dX3_count_0 rfl rfl ?_
      refine fx_tableIn (tgt := 48) dX3_count_1 (by decide) (by decide) rfl (by decide) ?_
      refine fx_aload_n dX3_count_48 rfl rfl ?_
      refine fx_get dX3_count_49 kX3_10 rfl rfl ?_
      refine fx_get dX3_count_52 kX3_117 rfl rfl ?_
      rw [jI_0 hI]
      exact fx_ireq dX3_count_55 rfl rfl rfl rfl
    · refine fx_iload_n dX3_count_0 rfl rfl ?_
      refine fx_tableIn (tgt := 56) dX3_count_1 (by decide) (by decide) rfl (by decide) ?_
      refine fx_aload_n dX3_count_56 rfl rfl ?_
      refine fx_get dX3_count_57 kX3_10 rfl rfl ?_
      refine fx_get dX3_count_60 kX3_84 rfl rfl ?_
      rw [jI_5 hI]
      exact fx_ireq dX3_count_63 rfl rfl rfl rfl
    · refine fx_iload_n dX3_count_0 rfl rfl ?_
      refine fx_tableIn (tgt := 64) dX3_count_1 (by decide) (by decide) rfl (by decide) ?_
      refine fx_aload_n dX3_count_64 rfl rfl ?_
      refine fx_get dX3_count_65 kX3_10 rfl rfl ?_
      refine fx_get dX3_count_68 kX3_125 rfl rfl ?_
      rw [jI_c hI]
      refine fx_callSv dX3_count_71 sJ6_bitCount_0f7a4 lX3_128 (by decide) (Nat.le_of_ble_eq_true rfl) (eJ6_bitCount_0f7a4 hs) rfl ?_
      exact fx_ireq dX3_count_74 rfl rfl rfl rfl
    · refine fx_iload_n dX3_count_0 rfl rfl ?_
      refine fx_tableIn (tgt := 75) dX3_count_1 (by decide) (by decide) rfl (by decide) ?_
      refine fx_aload_n dX3_count_75 rfl rfl ?_
      refine fx_get dX3_count_76 kX3_10 rfl rfl ?_
      refine fx_get dX3_count_79 kX3_133 rfl rfl ?_
      rw [jI_m hI]
      refine fx_callSv dX3_count_82 sJ13_bitCount_95d88 lX3_137 (by decide) (Nat.le_of_ble_eq_true rfl) (eJ13_bitCount_95d88 (jnm_lt _ 64)) rfl ?_
      rw [jnets_p]
      exact fx_ireq dX3_count_85 rfl rfl rfl rfl
    · refine fx_iload_n dX3_count_0 rfl rfl ?_
      refine fx_tableIn (tgt := 86) dX3_count_1 (by decide) (by decide) rfl (by decide) ?_
      refine fx_aload_n dX3_count_86 rfl rfl ?_
      refine fx_get dX3_count_87 kX3_10 rfl rfl ?_
      refine fx_iconst (v := (-1)) dX3_count_90 (by decide) ?_
      refine fx_callVv dX3_count_91 vX2_weightOf lX3_142 (by decide) rfl (Nat.le_of_ble_eq_true rfl) (eX2_weightOf (x := 2 ^ 64 - 1) (by decide) (by decide) zw1 hI hW) rfl ?_
      rw [jwt_a n hn8]
      exact fx_ireq dX3_count_94 rfl rfl rfl rfl
    · refine fx_iload_n dX3_count_0 rfl rfl ?_
      refine fx_tableIn (tgt := 95) dX3_count_1 (by decide) (by decide) rfl (by decide) ?_
      refine fx_aload_n dX3_count_95 rfl rfl ?_
      refine fx_get dX3_count_96 kX3_29 rfl rfl ?_
      refine fx_get dX3_count_99 kX3_218 rfl rfl ?_
      rw [z3, ← z2]
      exact fx_ireq dX3_count_102 rfl rfl rfl rfl
    · refine fx_iload_n dX3_count_0 rfl rfl ?_
      refine fx_tableIn (tgt := 103) dX3_count_1 (by decide) (by decide) rfl (by decide) ?_
      refine fx_aload_n dX3_count_103 rfl rfl ?_
      refine fx_get dX3_count_104 kX3_10 rfl rfl ?_
      refine fx_get dX3_count_107 kX3_215 rfl rfl ?_
      rw [jI_z hI]
      exact fx_ireq dX3_count_110 rfl rfl rfl rfl
    · refine fx_iload_n dX3_count_0 rfl rfl ?_
      refine fx_tableIn (tgt := 111) dX3_count_1 (by decide) (by decide) rfl (by decide) ?_
      refine fx_aload_n dX3_count_111 rfl rfl ?_
      refine fx_get dX3_count_112 kX3_10 rfl rfl ?_
      refine fx_callVv dX3_count_115 vX2_spotsHolding lX3_275 (by decide) rfl (Nat.le_of_ble_eq_true rfl) (eX2_spotsHolding zw1 hI) rfl ?_
      rw [jspn_e]
      exact fx_ireq dX3_count_118 rfl rfl rfl rfl
theorem eX3_status_n {a : Int32} (h : jwi a (-1) (nI 6) = false) : Mx mX3_status [.ref 0, .int a] (rC F N G) (some (.int (jfd 0))) (rC F N (ga G 36 (jf1 (G 36) 0))) := by
  refine mx_of (L := [some (.ref 0), some (.int a), none, none]) (by decide) (fun _ => rfl) (fun _ => Nat.le_of_ble_eq_true rfl) ?_
  refine fx_iload_n dX3_status_0 rfl rfl ?_
  refine fx_iconst (v := (-1)) dX3_status_1 (by decide) ?_
  refine fx_icmp_lt (tgt := 11) dX3_status_2 (by decide) rC_l (fun hc2 => ?_) (fun hc2 => ?_)
  · refine fx_aload_n dX3_status_11 rfl rfl ?_
    refine fx_iconst (v := nI 0) dX3_status_12 (by decide) ?_
    refine fx_callVv dX3_status_13 vX3_finding lX3_51 (by decide) rfl (Nat.le_of_ble_eq_true rfl) (eX3_finding (k := 0) (by decide)) rfl ?_
    exact fx_ireq dX3_status_16 rfl rfl rfl rfl
  · refine fx_iload_n dX3_status_5 rfl rfl ?_
    refine fx_bipush (v := nI 7) dX3_status_6 (by decide) ?_
    refine fx_icmp_lt (tgt := 17) dX3_status_8 (by decide) rC_l (fun hc8 => ?_) (fun hc8 => ?_)
    · exact jtf h (jwi_in hc2 (jlt7 hc8))
    · refine fx_aload_n dX3_status_11 rfl rfl ?_
      refine fx_iconst (v := nI 0) dX3_status_12 (by decide) ?_
      refine fx_callVv dX3_status_13 vX3_finding lX3_51 (by decide) rfl (Nat.le_of_ble_eq_true rfl) (eX3_finding (k := 0) (by decide)) rfl ?_
      exact fx_ireq dX3_status_16 rfl rfl rfl rfl
theorem P_status (R : jR F4 G4 F N G) (a : Int32) : jP mX4_status mX3_status [.int a] F4 G4 F N G := by
  by_cases h : jwi a (-1) (nI 6) = false
  · exact ⟨_, _, _, _, _, _, eX4_status_n h, eX3_status_n h, jR_f R (by decide)⟩
  · have R0 := R
    obtain ⟨-, -, -, -, -, ⟨b1, b2⟩, -⟩ := R
    rcases jm1_ok (by decide) (jbt_t h) with rfl | ⟨c, hc, rfl⟩
    · refine ⟨_, _, _, _, _, _, eX4_status_y (k := 0) (jbt_t h) (by decide) (by decide), ?_, R0⟩
      refine mx_of (L := [some (.ref 0), some (.int (-1)), none, none]) (by decide) (fun _ => rfl) (fun _ => Nat.le_of_ble_eq_true rfl) ?_
      have H : ∀ (k i : Nat), i + k = 7 → Fx mX3_status (some (.int (G4 4 0)), rC F N G) 32 [some (.ref 0), some (.int (-1)), some (.int (jsm (G 36) i)), some (.int (nI i))] [] (rC F N G) := by
        intro k
        induction k with
        | zero =>
          intro i hi
          have hi' : i = 7 := by omega
          subst hi'
          refine fx_iload_n dX3_status_32 rfl rfl ?_
          refine fx_bipush (v := nI 7) dX3_status_33 (by decide) ?_
          refine fx_icmp_ge (tgt := 53) dX3_status_35 (by decide) rfl (fun hc35 => ?_) (fun hc35 => ?_)
          · refine fx_iload_n dX3_status_53 rfl rfl ?_
            rw [← b2]
            exact fx_ireq dX3_status_54 rfl rfl rfl rfl
          · exact absurd (Int32.le_refl _) hc35
        | succ k ih =>
          intro i hi
          have ih1 := ih (i + 1) (by omega)
          have e1 : jsm (G 36) (i + 1) = jsm (G 36) i + G 36 i := rfl
          rw [e1] at ih1
          refine fx_iload_n dX3_status_32 rfl rfl ?_
          refine fx_bipush (v := nI 7) dX3_status_33 (by decide) ?_
          refine fx_icmp_ge (tgt := 53) dX3_status_35 (by decide) rfl (fun hc35 => ?_) (fun hc35 => ?_)
          · exact absurd hc35 (nI_ge (by omega) (by omega))
          · refine fx_iload_n dX3_status_38 rfl rfl ?_
            refine fx_aload_n dX3_status_39 rfl rfl ?_
            refine fx_get dX3_status_40 kX3_40 rfl rfl ?_
            refine fx_iload_n dX3_status_43 rfl rfl ?_
            refine fx_iald dX3_status_44 rfl (vp_in_nI (by omega) (by decide)) ?_
            rw [nI_clamp (by omega)]
            refine fx_iadd dX3_status_45 ?_
            refine fs_istore_n_2 dX3_status_46 rfl (by decide) ?_
            refine fs_iinc_3 (w := nI 1) dX3_status_47 (by decide) rfl (by decide) ?_
            refine fx_goto (tgt := 32) dX3_status_50 (by decide) ?_
            rw [nI_add]
            exact ih1
      have H0 := H 7 0 (by omega)
      refine fx_iload_n dX3_status_0 rfl rfl ?_
      refine fx_iconst (v := (-1)) dX3_status_1 (by decide) ?_
      refine fx_icmp_lt (tgt := 11) dX3_status_2 (by decide) rfl (fun hc2 => ?_) (fun hc2 => ?_)
      · exact absurd hc2 (by decide)
      · refine fx_iload_n dX3_status_5 rfl rfl ?_
        refine fx_bipush (v := nI 7) dX3_status_6 (by decide) ?_
        refine fx_icmp_lt (tgt := 17) dX3_status_8 (by decide) rfl (fun hc8 => ?_) (fun hc8 => ?_)
        · refine fx_iload_n dX3_status_17 rfl rfl ?_
          refine fx_if_lt (tgt := 28) dX3_status_18 (by decide) rfl (fun hc18 => ?_) (fun hc18 => ?_)
          · refine fx_iconst (v := nI 0) dX3_status_28 (by decide) ?_
            refine fs_istore_n_2 dX3_status_29 rfl (by decide) ?_
            refine fx_iconst (v := nI 0) dX3_status_30 (by decide) ?_
            refine fs_istore_n_3 dX3_status_31 rfl (by decide) ?_
            exact H0
          · exact absurd (by decide) hc18
        · exact absurd (by decide) hc8
    · refine ⟨_, _, _, _, _, _, eX4_status_y (k := c + 1) (jbt_t h) (nI_add c 1) (by omega), ?_, R0⟩
      refine mx_of (L := [some (.ref 0), some (.int (nI c)), none, none]) (by decide) (fun _ => rfl) (fun _ => Nat.le_of_ble_eq_true rfl) ?_
      refine fx_iload_n dX3_status_0 rfl rfl ?_
      refine fx_iconst (v := (-1)) dX3_status_1 (by decide) ?_
      refine fx_icmp_lt (tgt := 11) dX3_status_2 (by decide) rfl (fun hc2 => ?_) (fun hc2 => ?_)
      · exact absurd (Int32.lt_trans hc2 (by decide)) (nI_pos (by omega))
      · refine fx_iload_n dX3_status_5 rfl rfl ?_
        refine fx_bipush (v := nI 7) dX3_status_6 (by decide) ?_
        refine fx_icmp_lt (tgt := 17) dX3_status_8 (by decide) rfl (fun hc8 => ?_) (fun hc8 => ?_)
        · refine fx_iload_n dX3_status_17 rfl rfl ?_
          refine fx_if_lt (tgt := 28) dX3_status_18 (by decide) rfl (fun hc18 => ?_) (fun hc18 => ?_)
          · exact absurd hc18 (nI_pos (by omega))
          · refine fx_aload_n dX3_status_21 rfl rfl ?_
            refine fx_get dX3_status_22 kX3_40 rfl rfl ?_
            refine fx_iload_n dX3_status_25 rfl rfl ?_
            refine fx_iald dX3_status_26 rfl (vp_in_nI (by omega) (by decide)) ?_
            rw [nI_clamp (by omega), b1 c (by omega)]
            exact fx_ireq dX3_status_27 rfl rfl rfl rfl
        · exact absurd (nI_lt (by omega) (by decide)) hc8
theorem P_seed (R : jR F4 G4 F N G) (a : Int32) : jP mX4_seed mX3_seed [.int a] F4 G4 F N G := by
  have R0 := R
  obtain ⟨⟨n, t, hW, hS, hH, ht, hI⟩, -⟩ := R
  have hw := zw1
  refine ⟨_, _, _, _, _, _, eX4_seed, ?_, jR_w R0 (jW_z hW) (jSp_u hS (by omega)) (jHr_u hH (by omega)) ht (by rw [pk_un (by omega)]) (fun _ _ => rfl)⟩
  refine mx_of (L := [some (.ref 0), some (.int a), none]) (by decide) (fun _ => rfl) (fun _ => Nat.le_of_ble_eq_true rfl) ?_
  refine fx_aload_n dX3_seed_0 rfl rfl ?_
  refine fx_get dX3_seed_1 kX3_10 rfl rfl ?_
  refine fx_get dX3_seed_4 kX3_215 rfl rfl ?_
  rw [jI_z hI]
  refine fs_istore_n_2 dX3_seed_7 rfl (by decide) ?_
  refine fx_aload_n dX3_seed_8 rfl rfl ?_
  refine fx_get dX3_seed_9 kX3_10 rfl rfl ?_
  refine fx_iload_n dX3_seed_12 rfl rfl ?_
  refine fx_put dX3_seed_13 kX3_215 rfl (Nat.le_of_ble_eq_true rfl) (fun _ => rfl) rfl rfl (u2_11 hw) ?_
  refine fx_iload_n dX3_seed_16 rfl rfl ?_
  exact fx_ireq dX3_seed_17 rfl rfl rfl (j_can (jI_wz hI) (jFr_f (j := 11) jFr_r (by decide)))
theorem P_hold (R : jR F4 G4 F N G) (a b : Int32) : jP mX4_hold mX3_hold [.int a, .int b] F4 G4 F N G := by
  have R0 := R
  obtain ⟨⟨n, t, hW, hS, hH, ht, hI⟩, -⟩ := R
  have hn8 := hW.2.1
  by_cases h : jwi a (nI 0) (nI 9) = false ∨ (b ≠ (-1) ∧ jwi b (nI 0) (nI n - nI 1) = false)
  · refine ⟨_, _, _, _, _, _, eX4_hold_n hW h, ?_, jR_f R0 (by decide)⟩
    refine mx_of (L := [some (.ref 0), some (.int a), some (.int b)]) (by decide) (fun _ => rfl) (fun _ => Nat.le_of_ble_eq_true rfl) ?_
    refine fx_iload_n dX3_hold_0 rfl rfl ?_
    refine fx_callSv dX3_hold_1 sX3_isSpot lX3_228 (by decide) (Nat.le_of_ble_eq_true rfl) eX3_isSpot rfl ?_
    refine fx_if_eq (tgt := 20) dX3_hold_4 (by decide) rC_l (fun hc4 => ?_) (fun hc4 => ?_)
    · refine fx_aload_n dX3_hold_20 rfl rfl ?_
      refine fx_iconst (v := nI 0) dX3_hold_21 (by decide) ?_
      refine fx_callVv dX3_hold_22 vX3_finding lX3_51 (by decide) rfl (Nat.le_of_ble_eq_true rfl) (eX3_finding (k := 0) (by decide)) rfl ?_
      exact fx_ireq dX3_hold_25 rfl rfl rfl rfl
    · refine fx_iload_n dX3_hold_7 rfl rfl ?_
      refine fx_iconst (v := (-1)) dX3_hold_8 (by decide) ?_
      refine fx_icmp_eq (tgt := 26) dX3_hold_9 (by decide) rC_l (fun hc9 => ?_) (fun hc9 => ?_)
      · exact h.elim (fun q => jtf q (nI_ne0' hc4)) (fun q => by first | exact absurd hc9 q.1 | exact jtf q.2 (nI_ne0' hc17))
      · refine fx_aload_n dX3_hold_12 rfl rfl ?_
        refine fx_iload_n dX3_hold_13 rfl rfl ?_
        refine fx_callVv dX3_hold_14 vX3_isBell lX3_91 (by decide) rfl (Nat.le_of_ble_eq_true rfl) (eX3_isBell hI hn8) rfl ?_
        refine fx_if_ne (tgt := 26) dX3_hold_17 (by decide) rC_l (fun hc17 => ?_) (fun hc17 => ?_)
        · exact h.elim (fun q => jtf q (nI_ne0' hc4)) (fun q => by first | exact absurd hc9 q.1 | exact jtf q.2 (nI_ne0' hc17))
        · refine fx_aload_n dX3_hold_20 rfl rfl ?_
          refine fx_iconst (v := nI 0) dX3_hold_21 (by decide) ?_
          refine fx_callVv dX3_hold_22 vX3_finding lX3_51 (by decide) rfl (Nat.le_of_ble_eq_true rfl) (eX3_finding (k := 0) (by decide)) rfl ?_
          exact fx_ireq dX3_hold_25 rfl rfl rfl rfl
  · obtain ⟨c, hc, rfl⟩ := jwi_of (k := 9) (by decide) (jbt_t (fun q => h (Or.inl q)))
    have hb : b = (-1) ∨ jwi b (nI 0) (nI n - nI 1) = true := by
      by_cases q : b = (-1)
      · exact Or.inl q
      · exact Or.inr (jbt_t (fun q2 => h (Or.inr ⟨q, q2⟩)))
    have hb2 : b = (-1) ∨ ∃ d, d < n ∧ b = nI d := hb.elim Or.inl (fun q => Or.inr (jbell_of hn8 q))
    refine ⟨_, _, _, _, _, _, eX4_hold_y hW (by omega) hb, ?_, jR_w R0 (jW_sp hW (by omega) (by omega)) (jSp_s hS hb2) (jHr_u hH (by omega)) ht (by rw [pk_un (by omega)]) (fun _ _ => rfl)⟩
    refine mx_of (L := [some (.ref 0), some (.int (nI c)), some (.int b)]) (by decide) (fun _ => rfl) (fun _ => Nat.le_of_ble_eq_true rfl) ?_
    rcases hb2 with rfl | ⟨d, hd, rfl⟩
    · refine fx_iload_n dX3_hold_0 rfl rfl ?_
      refine fx_callSv dX3_hold_1 sX3_isSpot lX3_228 (by decide) (Nat.le_of_ble_eq_true rfl) eX3_isSpot rfl ?_
      rw [jwi_n (by omega) (by decide)]
      refine fx_if_eq (tgt := 20) dX3_hold_4 (by decide) rC_l (fun hc4 => ?_) (fun hc4 => ?_)
      · exact absurd hc4 (by decide)
      · refine fx_iload_n dX3_hold_7 rfl rfl ?_
        refine fx_iconst (v := (-1)) dX3_hold_8 (by decide) ?_
        refine fx_icmp_eq (tgt := 26) dX3_hold_9 (by decide) rC_l (fun hc9 => ?_) (fun hc9 => ?_)
        · refine fx_aload_n dX3_hold_26 rfl rfl ?_
          refine fx_get dX3_hold_27 kX3_10 rfl rfl ?_
          refine fx_get dX3_hold_30 kX3_231 rfl rfl ?_
          refine fx_iload_n dX3_hold_33 rfl rfl ?_
          refine fx_iload_n dX3_hold_34 rfl rfl ?_
          refine fx_iast dX3_hold_35 rfl (vp_in_nI (by omega) (by decide)) wa_8 ?_
          rw [nI_clamp (by omega)]
          refine fx_iconst (v := nI 1) dX3_hold_36 (by decide) ?_
          exact fx_ireq dX3_hold_37 rfl rfl rfl (j_can (jI_wsp hI (by omega)) (jFr_g (j := 7) jFr_r (by decide)))
        · exact absurd rfl hc9
    · refine fx_iload_n dX3_hold_0 rfl rfl ?_
      refine fx_callSv dX3_hold_1 sX3_isSpot lX3_228 (by decide) (Nat.le_of_ble_eq_true rfl) eX3_isSpot rfl ?_
      rw [jwi_n (by omega) (by decide)]
      refine fx_if_eq (tgt := 20) dX3_hold_4 (by decide) rC_l (fun hc4 => ?_) (fun hc4 => ?_)
      · exact absurd hc4 (by decide)
      · refine fx_iload_n dX3_hold_7 rfl rfl ?_
        refine fx_iconst (v := (-1)) dX3_hold_8 (by decide) ?_
        refine fx_icmp_eq (tgt := 26) dX3_hold_9 (by decide) rC_l (fun hc9 => ?_) (fun hc9 => ?_)
        · exact absurd hc9 (nI_m1 (by omega))
        · refine fx_aload_n dX3_hold_12 rfl rfl ?_
          refine fx_iload_n dX3_hold_13 rfl rfl ?_
          refine fx_callVv dX3_hold_14 vX3_isBell lX3_91 (by decide) rfl (Nat.le_of_ble_eq_true rfl) (eX3_isBell hI hn8) rfl ?_
          rw [jbell_y hd hn8]
          refine fx_if_ne (tgt := 26) dX3_hold_17 (by decide) rC_l (fun hc17 => ?_) (fun hc17 => ?_)
          · refine fx_aload_n dX3_hold_26 rfl rfl ?_
            refine fx_get dX3_hold_27 kX3_10 rfl rfl ?_
            refine fx_get dX3_hold_30 kX3_231 rfl rfl ?_
            refine fx_iload_n dX3_hold_33 rfl rfl ?_
            refine fx_iload_n dX3_hold_34 rfl rfl ?_
            refine fx_iast dX3_hold_35 rfl (vp_in_nI (by omega) (by decide)) wa_8 ?_
            rw [nI_clamp (by omega)]
            refine fx_iconst (v := nI 1) dX3_hold_36 (by decide) ?_
            exact fx_ireq dX3_hold_37 rfl rfl rfl (j_can (jI_wsp hI (by omega)) (jFr_g (j := 7) jFr_r (by decide)))
          · exact absurd hc17 (by decide)
theorem eX3_as_n {a b : Int32} (h : jwi a (nI 0) (nI 9) = false ∨ jwi b (nI 0) (nI 6) = false) : Mx mX3_as [.ref 0, .int a, .int b] (rC F N G) (some (.int (jfd 0))) (rC F N (ga G 36 (jf1 (G 36) 0))) := by
  refine mx_of (L := [some (.ref 0), some (.int a), some (.int b), none]) (by decide) (fun _ => rfl) (fun _ => Nat.le_of_ble_eq_true rfl) ?_
  refine fx_iload_n dX3_as_0 rfl rfl ?_
  refine fx_callSv dX3_as_1 sX3_isSpot lX3_228 (by decide) (Nat.le_of_ble_eq_true rfl) eX3_isSpot rfl ?_
  refine fx_if_eq (tgt := 14) dX3_as_4 (by decide) rC_l (fun hc4 => ?_) (fun hc4 => ?_)
  · refine fx_aload_n dX3_as_14 rfl rfl ?_
    refine fx_iconst (v := nI 0) dX3_as_15 (by decide) ?_
    refine fx_callVv dX3_as_16 vX3_finding lX3_51 (by decide) rfl (Nat.le_of_ble_eq_true rfl) (eX3_finding (k := 0) (by decide)) rfl ?_
    exact fx_ireq dX3_as_19 rfl rfl rfl rfl
  · refine fx_iload_n dX3_as_7 rfl rfl ?_
    refine fx_callSv dX3_as_8 sX3_isKind lX3_81 (by decide) (Nat.le_of_ble_eq_true rfl) eX3_isKind rfl ?_
    refine fx_if_ne (tgt := 20) dX3_as_11 (by decide) rC_l (fun hc11 => ?_) (fun hc11 => ?_)
    · exact h.elim (fun q => jtf q (nI_ne0' hc4)) (fun q => jtf q (nI_ne0' hc11))
    · refine fx_aload_n dX3_as_14 rfl rfl ?_
      refine fx_iconst (v := nI 0) dX3_as_15 (by decide) ?_
      refine fx_callVv dX3_as_16 vX3_finding lX3_51 (by decide) rfl (Nat.le_of_ble_eq_true rfl) (eX3_finding (k := 0) (by decide)) rfl ?_
      exact fx_ireq dX3_as_19 rfl rfl rfl rfl
theorem P_as (R : jR F4 G4 F N G) (a b : Int32) : jP mX4_as mX3_as [.int a, .int b] F4 G4 F N G := by
  have R0 := R
  obtain ⟨⟨n, t, hW, hS, hH, ht, hI⟩, -⟩ := R
  have hn8 := hW.2.1
  by_cases h : jwi a (nI 0) (nI 9) = false ∨ jwi b (nI 0) (nI 6) = false
  · exact ⟨_, _, _, _, _, _, eX4_as_n h, eX3_as_n h, jR_f R0 (by decide)⟩
  · obtain ⟨c, hc, rfl⟩ := jwi_of (k := 9) (by decide) (jbt_t (fun q => h (Or.inl q)))
    obtain ⟨k, hk, rfl⟩ := jwi_of (k := 6) (by decide) (jbt_t (fun q => h (Or.inr q)))
    rcases hS c (by omega) with e | ⟨d, hd, e⟩
    · refine ⟨_, _, _, _, _, _, eX4_as_m (by omega) (by omega) e, ?_, jR_f R0 (by decide)⟩
      refine mx_of (L := [some (.ref 0), some (.int (nI c)), some (.int (nI k)), none]) (by decide) (fun _ => rfl) (fun _ => Nat.le_of_ble_eq_true rfl) ?_
      refine fx_iload_n dX3_as_0 rfl rfl ?_
      refine fx_callSv dX3_as_1 sX3_isSpot lX3_228 (by decide) (Nat.le_of_ble_eq_true rfl) eX3_isSpot rfl ?_
      rw [jwi_n (by omega) (by decide)]
      refine fx_if_eq (tgt := 14) dX3_as_4 (by decide) rC_l (fun hc4 => ?_) (fun hc4 => ?_)
      · exact absurd hc4 (by decide)
      · refine fx_iload_n dX3_as_7 rfl rfl ?_
        refine fx_callSv dX3_as_8 sX3_isKind lX3_81 (by decide) (Nat.le_of_ble_eq_true rfl) eX3_isKind rfl ?_
        rw [jwi_n (by omega) (by decide)]
        refine fx_if_ne (tgt := 20) dX3_as_11 (by decide) rC_l (fun hc11 => ?_) (fun hc11 => ?_)
        · refine fx_aload_n dX3_as_20 rfl rfl ?_
          refine fx_get dX3_as_21 kX3_10 rfl rfl ?_
          refine fx_get dX3_as_24 kX3_231 rfl rfl ?_
          refine fx_iload_n dX3_as_27 rfl rfl ?_
          refine fx_iald dX3_as_28 rfl (vp_in_nI (by omega) (by decide)) ?_
          rw [nI_clamp (by omega), jA7 hI, jspt_e (by omega), e]
          refine fs_istore_n_3 dX3_as_29 rfl (by decide) ?_
          refine fx_aload_n dX3_as_30 rfl rfl ?_
          refine fx_iload_n dX3_as_31 rfl rfl ?_
          refine fx_callVv dX3_as_32 vX3_isBell lX3_91 (by decide) rfl (Nat.le_of_ble_eq_true rfl) (eX3_isBell hI hn8) rfl ?_
          rw [(jbell_c (v := (-1)) hn8).1 (by decide)]
          refine fx_if_ne (tgt := 44) dX3_as_35 (by decide) rC_l (fun hc35 => ?_) (fun hc35 => ?_)
          · exact absurd rfl hc35
          · refine fx_aload_n dX3_as_38 rfl rfl ?_
            refine fx_iconst (v := nI 5) dX3_as_39 (by decide) ?_
            refine fx_callVv dX3_as_40 vX3_finding lX3_51 (by decide) rfl (Nat.le_of_ble_eq_true rfl) (eX3_finding (k := 5) (by decide)) rfl ?_
            exact fx_ireq dX3_as_43 rfl rfl rfl rfl
        · exact absurd hc11 (by decide)
    · obtain ⟨kk, hkk, ekk⟩ := (hW.2.2.1 d hd).1
      have e4 := eX4_as_y (F := F4) (G := G4) (c := c) (k := k) (by omega) (by omega) e (by omega) hkk ekk
      cases hu : jund kk k
      · rw [if_neg (by rw [hu]; decide), if_neg (by rw [hu]; decide)] at e4
        refine ⟨_, _, _, _, _, _, e4, ?_, jR_f R0 (by decide)⟩
        refine mx_of (L := [some (.ref 0), some (.int (nI c)), some (.int (nI k)), none]) (by decide) (fun _ => rfl) (fun _ => Nat.le_of_ble_eq_true rfl) ?_
        refine fx_iload_n dX3_as_0 rfl rfl ?_
        refine fx_callSv dX3_as_1 sX3_isSpot lX3_228 (by decide) (Nat.le_of_ble_eq_true rfl) eX3_isSpot rfl ?_
        rw [jwi_n (by omega) (by decide)]
        refine fx_if_eq (tgt := 14) dX3_as_4 (by decide) rC_l (fun hc4 => ?_) (fun hc4 => ?_)
        · exact absurd hc4 (by decide)
        · refine fx_iload_n dX3_as_7 rfl rfl ?_
          refine fx_callSv dX3_as_8 sX3_isKind lX3_81 (by decide) (Nat.le_of_ble_eq_true rfl) eX3_isKind rfl ?_
          rw [jwi_n (by omega) (by decide)]
          refine fx_if_ne (tgt := 20) dX3_as_11 (by decide) rC_l (fun hc11 => ?_) (fun hc11 => ?_)
          · refine fx_aload_n dX3_as_20 rfl rfl ?_
            refine fx_get dX3_as_21 kX3_10 rfl rfl ?_
            refine fx_get dX3_as_24 kX3_231 rfl rfl ?_
            refine fx_iload_n dX3_as_27 rfl rfl ?_
            refine fx_iald dX3_as_28 rfl (vp_in_nI (by omega) (by decide)) ?_
            rw [nI_clamp (by omega), jA7 hI, jspt_e (by omega), e]
            refine fs_istore_n_3 dX3_as_29 rfl (by decide) ?_
            refine fx_aload_n dX3_as_30 rfl rfl ?_
            refine fx_iload_n dX3_as_31 rfl rfl ?_
            refine fx_callVv dX3_as_32 vX3_isBell lX3_91 (by decide) rfl (Nat.le_of_ble_eq_true rfl) (eX3_isBell hI hn8) rfl ?_
            rw [jbell_y hd hn8]
            refine fx_if_ne (tgt := 44) dX3_as_35 (by decide) rC_l (fun hc35 => ?_) (fun hc35 => ?_)
            · refine fx_aload_n dX3_as_44 rfl rfl ?_
              refine fx_get dX3_as_45 kX3_10 rfl rfl ?_
              refine fx_get dX3_as_48 kX3_172 rfl rfl ?_
              refine fx_iload_n dX3_as_51 rfl rfl ?_
              refine fx_iald dX3_as_52 rfl (vp_in_nI (by omega) (by decide)) ?_
              rw [nI_clamp (by omega), jA3 hI, jbf_e (by omega), ekk]
              refine fx_iload_n dX3_as_53 rfl rfl ?_
              refine fx_callSv dX3_as_54 sX3_isUnder lX3_234 (by decide) (Nat.le_of_ble_eq_true rfl) (eX3_isUnder hkk (by omega)) rfl ?_
              rw [hu]
              refine fx_if_eq (tgt := 64) dX3_as_57 (by decide) rC_l (fun hc57 => ?_) (fun hc57 => ?_)
              · refine fx_aload_n dX3_as_64 rfl rfl ?_
                refine fx_iconst (v := nI 2) dX3_as_65 (by decide) ?_
                refine fx_callVv dX3_as_66 vX3_finding lX3_51 (by decide) rfl (Nat.le_of_ble_eq_true rfl) (eX3_finding (k := 2) (by decide)) rfl ?_
                exact fx_ireq dX3_as_69 rfl rfl rfl rfl
              · exact absurd rfl hc57
            · exact absurd hc35 (by decide)
          · exact absurd hc11 (by decide)
      · rw [if_pos hu, if_pos hu] at e4
        refine ⟨_, _, _, _, _, _, e4, ?_, R0⟩
        refine mx_of (L := [some (.ref 0), some (.int (nI c)), some (.int (nI k)), none]) (by decide) (fun _ => rfl) (fun _ => Nat.le_of_ble_eq_true rfl) ?_
        refine fx_iload_n dX3_as_0 rfl rfl ?_
        refine fx_callSv dX3_as_1 sX3_isSpot lX3_228 (by decide) (Nat.le_of_ble_eq_true rfl) eX3_isSpot rfl ?_
        rw [jwi_n (by omega) (by decide)]
        refine fx_if_eq (tgt := 14) dX3_as_4 (by decide) rC_l (fun hc4 => ?_) (fun hc4 => ?_)
        · exact absurd hc4 (by decide)
        · refine fx_iload_n dX3_as_7 rfl rfl ?_
          refine fx_callSv dX3_as_8 sX3_isKind lX3_81 (by decide) (Nat.le_of_ble_eq_true rfl) eX3_isKind rfl ?_
          rw [jwi_n (by omega) (by decide)]
          refine fx_if_ne (tgt := 20) dX3_as_11 (by decide) rC_l (fun hc11 => ?_) (fun hc11 => ?_)
          · refine fx_aload_n dX3_as_20 rfl rfl ?_
            refine fx_get dX3_as_21 kX3_10 rfl rfl ?_
            refine fx_get dX3_as_24 kX3_231 rfl rfl ?_
            refine fx_iload_n dX3_as_27 rfl rfl ?_
            refine fx_iald dX3_as_28 rfl (vp_in_nI (by omega) (by decide)) ?_
            rw [nI_clamp (by omega), jA7 hI, jspt_e (by omega), e]
            refine fs_istore_n_3 dX3_as_29 rfl (by decide) ?_
            refine fx_aload_n dX3_as_30 rfl rfl ?_
            refine fx_iload_n dX3_as_31 rfl rfl ?_
            refine fx_callVv dX3_as_32 vX3_isBell lX3_91 (by decide) rfl (Nat.le_of_ble_eq_true rfl) (eX3_isBell hI hn8) rfl ?_
            rw [jbell_y hd hn8]
            refine fx_if_ne (tgt := 44) dX3_as_35 (by decide) rC_l (fun hc35 => ?_) (fun hc35 => ?_)
            · refine fx_aload_n dX3_as_44 rfl rfl ?_
              refine fx_get dX3_as_45 kX3_10 rfl rfl ?_
              refine fx_get dX3_as_48 kX3_172 rfl rfl ?_
              refine fx_iload_n dX3_as_51 rfl rfl ?_
              refine fx_iald dX3_as_52 rfl (vp_in_nI (by omega) (by decide)) ?_
              rw [nI_clamp (by omega), jA3 hI, jbf_e (by omega), ekk]
              refine fx_iload_n dX3_as_53 rfl rfl ?_
              refine fx_callSv dX3_as_54 sX3_isUnder lX3_234 (by decide) (Nat.le_of_ble_eq_true rfl) (eX3_isUnder hkk (by omega)) rfl ?_
              rw [hu]
              refine fx_if_eq (tgt := 64) dX3_as_57 (by decide) rC_l (fun hc57 => ?_) (fun hc57 => ?_)
              · exact absurd hc57 (by decide)
              · refine fx_iload_n dX3_as_60 rfl rfl ?_
                refine fx_goto (tgt := 69) dX3_as_61 (by decide) ?_
                exact fx_ireq dX3_as_69 rfl rfl rfl rfl
            · exact absurd hc35 (by decide)
          · exact absurd hc11 (by decide)
theorem P_image (R : jR F4 G4 F N G) : jP mX4_image mX3_image [] F4 G4 F N G := by
  obtain ⟨⟨n, t, hW, hS, hH, ht, hI⟩, ⟨V2, n2, h2, t2, i2⟩, ⟨V3, n3, h3, t3, i3, k3⟩, ⟨c1, c2, c3⟩, r⟩ := R
  refine ⟨_, _, _, f2 (pF F 17 (G4 1) n (G4 1 0)) 0 3 (nI 1), pN N 17 (G4 1) 0, pG G 17 (G4 1), eX4_image (fun k hk => hW.2.2.2.2.2.2.2 k hk) c2, ?_, ?_⟩
  · refine mx_of (L := [some (.ref 0)]) (by decide) (fun _ => rfl) (fun _ => Nat.le_of_ble_eq_true rfl) ?_
    refine fx_aload_n dX3_image_0 rfl rfl ?_
    refine fx_get dX3_image_1 kX3_19 rfl rfl ?_
    refine fx_aload_n dX3_image_4 rfl rfl ?_
    refine fx_get dX3_image_5 kX3_10 rfl rfl ?_
    refine fx_callVn dX3_image_8 vX2_becomes lX3_154 (by decide) rfl (Nat.le_of_ble_eq_true rfl) (eX2_becomes zw17 zw1 (Or.inl (by decide)) hI i3) rfl ?_
    refine fx_aload_n dX3_image_11 rfl rfl ?_
    refine fx_iconst (v := nI 1) dX3_image_12 (by decide) ?_
    refine fx_put dX3_image_13 kX3_22 rfl (Nat.le_of_ble_eq_true rfl) (fun _ => rfl) rfl rfl u3_3 ?_
    refine fx_iconst (v := nI 1) dX3_image_16 (by decide) ?_
    exact fx_ireq dX3_image_17 rfl rfl rfl rfl
  · refine ⟨⟨n, t, ?_, ?_, ?_, ht, ?_⟩, ⟨V2, n2, h2, t2, jI_f0 (jI_fr i2 jFr_p (Or.inr (by decide))) (by decide)⟩, ⟨G4 1, n, G4 1 0, 0, jI_f0 jI_p (by decide), fun _ => ⟨?_, rfl, hW, hS, hH⟩⟩, ⟨c1.ga (by decide), ?_, ?_⟩, ?_⟩
    · rw [ga_n _ _ (by decide)]; exact hW
    · rw [ga_n _ _ (by decide)]; exact hS
    · rw [ga_n _ _ (by decide)]; exact hH
    · rw [ga_n _ _ (by decide)]; exact jI_f0 (jI_fr hI jFr_p (Or.inr (by decide))) (by decide)
    · rw [ga_s]
    · rw [ga_s]; exact fun k hk => hW.2.2.2.2.2.2.2 k hk
    · rw [ga_n _ _ (by decide)]; exact c3
    · have r2 := jRr_fr zw17 (jFr_p (F := F) (N := N) (G := G) (V := G4 1) (n := n) (h := G4 1 0) (t := 0)) r
      obtain ⟨a, ⟨b1, b2⟩, ⟨z, z1, z2, z3, z4⟩, d1, d2⟩ := r2
      refine ⟨⟨by rw [f2_s, pk_us], Or.inr pk_us⟩, ⟨by rw [ga_n _ _ (by decide)]; exact b1, by rw [ga_n _ _ (by decide)]; exact b2⟩, ⟨z, z1, by rw [pk_un (by decide)]; exact z2, by rw [f2_n _ _ (Or.inl (by decide))]; exact z3, by rw [ga_n _ _ (by decide)]; exact z4⟩, ?_, fun s hs => ?_⟩
      · intro s hs; rw [ga_n _ _ (by decide), ga_n _ _ (by decide)]; exact d1 s hs
      · rw [f2_n _ _ (Or.inl (by omega)), f2_n _ _ (Or.inl (by omega)), ga_n _ _ (by decide), ga_n _ _ (by decide), ga_n _ _ (by decide)]; exact d2 s hs
theorem P_undo (R : jR F4 G4 F N G) : jP mX4_undo mX3_undo [] F4 G4 F N G := by
  have R0 := R
  obtain ⟨⟨n, t, hW, hS, hH, ht, hI⟩, -, ⟨V3, n3, h3, t3, i3, k3⟩, ⟨c1, c2, c3⟩, r⟩ := R
  have e3 := r.1.1
  by_cases h : F4 3 = 0
  · refine ⟨_, _, _, _, _, _, eX4_undo_n h, ?_, jR_f R0 (by decide)⟩
    refine mx_of (L := [some (.ref 0)]) (by decide) (fun _ => rfl) (fun _ => Nat.le_of_ble_eq_true rfl) ?_
    refine fx_aload_n dX3_undo_0 rfl rfl ?_
    refine fx_get dX3_undo_1 kX3_22 rfl rfl ?_
    rw [e3, h]
    refine fx_if_ne (tgt := 13) dX3_undo_4 (by decide) rC_l (fun hc4 => ?_) (fun hc4 => ?_)
    · exact absurd rfl hc4
    · refine fx_aload_n dX3_undo_7 rfl rfl ?_
      refine fx_iconst (v := nI 3) dX3_undo_8 (by decide) ?_
      refine fx_callVv dX3_undo_9 vX3_finding lX3_51 (by decide) rfl (Nat.le_of_ble_eq_true rfl) (eX3_finding (k := 3) (by decide)) rfl ?_
      exact fx_ireq dX3_undo_12 rfl rfl rfl rfl
  · obtain ⟨rfl, rfl, w1, w2, w3⟩ := k3 h
    refine ⟨_, _, _, _, _, _, eX4_undo_y h (fun k hk => hW.2.2.2.2.2.2.2 k hk) c2, ?_, jR_w (t := 0) R0 w1 w2 w3 (by decide) rfl (fun _ _ => rfl)⟩
    refine mx_of (L := [some (.ref 0)]) (by decide) (fun _ => rfl) (fun _ => Nat.le_of_ble_eq_true rfl) ?_
    refine fx_aload_n dX3_undo_0 rfl rfl ?_
    refine fx_get dX3_undo_1 kX3_22 rfl rfl ?_
    rw [e3]
    refine fx_if_ne (tgt := 13) dX3_undo_4 (by decide) rC_l (fun hc4 => ?_) (fun hc4 => ?_)
    · refine fx_aload_n dX3_undo_13 rfl rfl ?_
      refine fx_get dX3_undo_14 kX3_10 rfl rfl ?_
      refine fx_aload_n dX3_undo_17 rfl rfl ?_
      refine fx_get dX3_undo_18 kX3_19 rfl rfl ?_
      refine fx_callVn dX3_undo_21 vX2_becomes lX3_154 (by decide) rfl (Nat.le_of_ble_eq_true rfl) (eX2_becomes zw1 zw17 (Or.inr (by decide)) i3 hI) rfl ?_
      refine fx_aload_n dX3_undo_24 rfl rfl ?_
      refine fx_get dX3_undo_25 kX3_10 rfl rfl ?_
      refine fx_get dX3_undo_28 kX3_117 rfl rfl ?_
      exact fx_ireq dX3_undo_31 rfl rfl rfl rfl
    · exact absurd hc4 h
theorem P_tear (R : jR F4 G4 F N G) : jP mX4_tear mX3_tear [] F4 G4 F N G := by
  obtain ⟨⟨n, t, hW, hS, hH, ht, hI⟩, ⟨V2, n2, h2, t2, i2⟩, ⟨V3, n3, h3, t3, i3, k3⟩, ⟨c1, c2, c3⟩, r⟩ := R
  have e3 := r.1.1
  refine ⟨_, _, _, f2 F 0 3 (nI 0), N, G, eX4_tear, ?_, ?_⟩
  · refine mx_of (L := [some (.ref 0), none]) (by decide) (fun _ => rfl) (fun _ => Nat.le_of_ble_eq_true rfl) ?_
    by_cases h : F4 3 = 0
    · rw [if_pos h]
      refine fx_aload_n dX3_tear_0 rfl rfl ?_
      refine fx_get dX3_tear_1 kX3_22 rfl rfl ?_
      rw [e3, h]
      refine fs_istore_n_1 dX3_tear_4 rfl (by decide) ?_
      refine fx_aload_n dX3_tear_5 rfl rfl ?_
      refine fx_iconst (v := nI 0) dX3_tear_6 (by decide) ?_
      refine fx_put dX3_tear_7 kX3_22 rfl (Nat.le_of_ble_eq_true rfl) (fun _ => rfl) rfl rfl u3_3 ?_
      refine fx_iload_n dX3_tear_10 rfl rfl ?_
      refine fx_if_eq (tgt := 18) dX3_tear_11 (by decide) rC_l (fun hc11 => ?_) (fun hc11 => ?_)
      · refine fx_iconst (v := nI 0) dX3_tear_18 (by decide) ?_
        exact fx_ireq dX3_tear_19 rfl rfl rfl rfl
      · exact absurd rfl hc11
    · rw [if_neg h]
      refine fx_aload_n dX3_tear_0 rfl rfl ?_
      refine fx_get dX3_tear_1 kX3_22 rfl rfl ?_
      rw [e3]
      refine fs_istore_n_1 dX3_tear_4 rfl (by decide) ?_
      refine fx_aload_n dX3_tear_5 rfl rfl ?_
      refine fx_iconst (v := nI 0) dX3_tear_6 (by decide) ?_
      refine fx_put dX3_tear_7 kX3_22 rfl (Nat.le_of_ble_eq_true rfl) (fun _ => rfl) rfl rfl u3_3 ?_
      refine fx_iload_n dX3_tear_10 rfl rfl ?_
      refine fx_if_eq (tgt := 18) dX3_tear_11 (by decide) rC_l (fun hc11 => ?_) (fun hc11 => ?_)
      · exact absurd hc11 h
      · refine fx_iconst (v := nI 1) dX3_tear_14 (by decide) ?_
        refine fx_goto (tgt := 19) dX3_tear_15 (by decide) ?_
        exact fx_ireq dX3_tear_19 rfl rfl rfl rfl
  · refine ⟨⟨n, t, hW, hS, hH, ht, jI_f0 hI (by decide)⟩, ⟨V2, n2, h2, t2, jI_f0 i2 (by decide)⟩, ⟨V3, n3, h3, t3, jI_f0 i3 (by decide), fun q => absurd (by rw [pk_us]; decide) q⟩, ⟨c1, c2, c3⟩, ?_⟩
    obtain ⟨a, ⟨b1, b2⟩, ⟨z, z1, z2, z3, z4⟩, d1, d2⟩ := r
    refine ⟨⟨by rw [f2_s, pk_us], Or.inl pk_us⟩, ⟨b1, b2⟩, ⟨z, z1, by rw [pk_un (by decide)]; exact z2, by rw [f2_n _ _ (Or.inl (by decide))]; exact z3, z4⟩, d1, fun s hs => ?_⟩
    rw [f2_n _ _ (Or.inl (by omega)), f2_n _ _ (Or.inl (by omega))]; exact d2 s hs
theorem P_wipe (R : jR F4 G4 F N G) : jP mX4_wipe mX3_wipe [] F4 G4 F N G := by
  obtain ⟨⟨n, t, hW, hS, hH, ht, hI⟩, ⟨V2, n2, h2, t2, i2⟩, ⟨V3, n3, h3, t3, i3, k3⟩, ⟨c1, c2, c3⟩, r⟩ := R
  obtain ⟨⟨a1, a2⟩, ⟨b1, b2⟩, ⟨z, z1, z2, z3, z4⟩, d1, d2⟩ := r
  refine ⟨_, _, _, f2 F 25 1 (nI 0), N, G, eX4_wipe, ?_, ?_⟩
  · refine mx_of (L := [some (.ref 0), none]) (by decide) (fun _ => rfl) (fun _ => Nat.le_of_ble_eq_true rfl) ?_
    refine fx_aload_n dX3_wipe_0 rfl rfl ?_
    refine fx_get dX3_wipe_1 kX3_29 rfl rfl ?_
    refine fx_get dX3_wipe_4 kX3_218 rfl rfl ?_
    rw [z3, ← z2]
    refine fs_istore_n_1 dX3_wipe_7 rfl (by decide) ?_
    refine fx_aload_n dX3_wipe_8 rfl rfl ?_
    refine fx_get dX3_wipe_9 kX3_29 rfl rfl ?_
    refine fx_iconst (v := nI 0) dX3_wipe_12 (by decide) ?_
    refine fx_put dX3_wipe_13 kX3_218 rfl (Nat.le_of_ble_eq_true rfl) (fun _ => rfl) rfl rfl u1_1 ?_
    refine fx_iload_n dX3_wipe_16 rfl rfl ?_
    exact fx_ireq dX3_wipe_17 rfl rfl rfl rfl
  · refine ⟨⟨n, t, hW, hS, hH, ht, jI_f0 hI (by decide)⟩, ⟨V2, n2, h2, t2, jI_f0 i2 (by decide)⟩, ⟨V3, n3, h3, t3, jI_f0 i3 (by decide), ?_⟩, ⟨c1, c2, c3⟩, ?_⟩
    · rw [pk_un (by decide)]; exact k3
    · refine ⟨⟨by rw [f2_n _ _ (Or.inl (by decide)), pk_un (by decide)]; exact a1, by rw [pk_un (by decide)]; exact a2⟩, ⟨b1, b2⟩, ⟨0, by decide, pk_us, f2_s _ _ _ _, fun i hi => absurd hi (Nat.not_lt_zero i)⟩, d1, fun s hs => ?_⟩
      rw [f2_n _ _ (Or.inl (by omega)), f2_n _ _ (Or.inl (by omega))]; exact d2 s hs
theorem eX3_stock_n {a b c : Int32} (h : jwi a (nI 0) (nI 9999) = false ∨ jwi b (nI 0) (nI 999) = false ∨ jwi c (nI 0) (nI 99) = false) : Mx mX3_stock [.ref 0, .int a, .int b, .int c] (rC F N G) (some (.int (jfd 0))) (rC F N (ga G 36 (jf1 (G 36) 0))) := by
  refine mx_of (L := [some (.ref 0), some (.int a), some (.int b), some (.int c)]) (by decide) (fun _ => rfl) (fun _ => Nat.le_of_ble_eq_true rfl) ?_
  refine fx_iload_n dX3_stock_0 rfl rfl ?_
  refine fx_callSv dX3_stock_1 sX3_isStock lX3_192 (by decide) (Nat.le_of_ble_eq_true rfl) eX3_isStock rfl ?_
  refine fx_if_eq (tgt := 28) dX3_stock_4 (by decide) rC_l (fun hc4 => ?_) (fun hc4 => ?_)
  · refine fx_aload_n dX3_stock_28 rfl rfl ?_
    refine fx_iconst (v := nI 0) dX3_stock_29 (by decide) ?_
    refine fx_callVv dX3_stock_30 vX3_finding lX3_51 (by decide) rfl (Nat.le_of_ble_eq_true rfl) (eX3_finding (k := 0) (by decide)) rfl ?_
    exact fx_ireq dX3_stock_33 rfl rfl rfl rfl
  · refine fx_iload_n dX3_stock_7 rfl rfl ?_
    refine fx_if_lt (tgt := 28) dX3_stock_8 (by decide) rC_l (fun hc8 => ?_) (fun hc8 => ?_)
    · refine fx_aload_n dX3_stock_28 rfl rfl ?_
      refine fx_iconst (v := nI 0) dX3_stock_29 (by decide) ?_
      refine fx_callVv dX3_stock_30 vX3_finding lX3_51 (by decide) rfl (Nat.le_of_ble_eq_true rfl) (eX3_finding (k := 0) (by decide)) rfl ?_
      exact fx_ireq dX3_stock_33 rfl rfl rfl rfl
    · refine fx_iload_n dX3_stock_11 rfl rfl ?_
      refine fx_sipush (v := nI 999) dX3_stock_12 (by decide) ?_
      refine fx_icmp_gt (tgt := 28) dX3_stock_15 (by decide) rC_l (fun hc15 => ?_) (fun hc15 => ?_)
      · refine fx_aload_n dX3_stock_28 rfl rfl ?_
        refine fx_iconst (v := nI 0) dX3_stock_29 (by decide) ?_
        refine fx_callVv dX3_stock_30 vX3_finding lX3_51 (by decide) rfl (Nat.le_of_ble_eq_true rfl) (eX3_finding (k := 0) (by decide)) rfl ?_
        exact fx_ireq dX3_stock_33 rfl rfl rfl rfl
      · refine fx_iload_n dX3_stock_18 rfl rfl ?_
        refine fx_if_lt (tgt := 28) dX3_stock_19 (by decide) rC_l (fun hc19 => ?_) (fun hc19 => ?_)
        · refine fx_aload_n dX3_stock_28 rfl rfl ?_
          refine fx_iconst (v := nI 0) dX3_stock_29 (by decide) ?_
          refine fx_callVv dX3_stock_30 vX3_finding lX3_51 (by decide) rfl (Nat.le_of_ble_eq_true rfl) (eX3_finding (k := 0) (by decide)) rfl ?_
          exact fx_ireq dX3_stock_33 rfl rfl rfl rfl
        · refine fx_iload_n dX3_stock_22 rfl rfl ?_
          refine fx_bipush (v := nI 99) dX3_stock_23 (by decide) ?_
          refine fx_icmp_le (tgt := 34) dX3_stock_25 (by decide) rC_l (fun hc25 => ?_) (fun hc25 => ?_)
          · exact h.elim (fun q => jtf q (nI_ne0' hc4)) (fun q => q.elim (fun q => jtf q (jwi_in (by rw [nI_0]; exact hc8) hc15)) (fun q => jtf q (jwi_in (by rw [nI_0]; exact hc19) (Int32.not_lt.mpr hc25))))
          · refine fx_aload_n dX3_stock_28 rfl rfl ?_
            refine fx_iconst (v := nI 0) dX3_stock_29 (by decide) ?_
            refine fx_callVv dX3_stock_30 vX3_finding lX3_51 (by decide) rfl (Nat.le_of_ble_eq_true rfl) (eX3_finding (k := 0) (by decide)) rfl ?_
            exact fx_ireq dX3_stock_33 rfl rfl rfl rfl
theorem P_stock (R : jR F4 G4 F N G) (a b c : Int32) : jP mX4_stock mX3_stock [.int a, .int b, .int c] F4 G4 F N G := by
  by_cases h : jwi a (nI 0) (nI 9999) = false ∨ jwi b (nI 0) (nI 999) = false ∨ jwi c (nI 0) (nI 99) = false
  · exact ⟨_, _, _, _, _, _, eX4_stock_n h, eX3_stock_n h, jR_f R (by decide)⟩
  · obtain ⟨x, hx, rfl⟩ := jwi_of (k := 9999) (by decide) (jbt_t (fun q => h (Or.inl q)))
    obtain ⟨y, hy, rfl⟩ := jwi_of (k := 999) (by decide) (jbt_t (fun q => h (Or.inr (Or.inl q))))
    obtain ⟨z, hz, rfl⟩ := jwi_of (k := 99) (by decide) (jbt_t (fun q => h (Or.inr (Or.inr q))))
    refine ⟨_, _, _, _, _, _, eX4_stock_y hx hy hz, ?_, R⟩
    refine mx_of (L := [some (.ref 0), some (.int (nI x)), some (.int (nI y)), some (.int (nI z))]) (by decide) (fun _ => rfl) (fun _ => Nat.le_of_ble_eq_true rfl) ?_
    refine fx_iload_n dX3_stock_0 rfl rfl ?_
    refine fx_callSv dX3_stock_1 sX3_isStock lX3_192 (by decide) (Nat.le_of_ble_eq_true rfl) eX3_isStock rfl ?_
    rw [jwi_n hx (by decide)]
    refine fx_if_eq (tgt := 28) dX3_stock_4 (by decide) rC_l (fun hc4 => ?_) (fun hc4 => ?_)
    · exact absurd hc4 (by decide)
    · refine fx_iload_n dX3_stock_7 rfl rfl ?_
      refine fx_if_lt (tgt := 28) dX3_stock_8 (by decide) rC_l (fun hc8 => ?_) (fun hc8 => ?_)
      · exact absurd hc8 (nI_pos (by omega))
      · refine fx_iload_n dX3_stock_11 rfl rfl ?_
        refine fx_sipush (v := nI 999) dX3_stock_12 (by decide) ?_
        refine fx_icmp_gt (tgt := 28) dX3_stock_15 (by decide) rC_l (fun hc15 => ?_) (fun hc15 => ?_)
        · exact absurd hc15 (nI_nlt (by omega) (by decide))
        · refine fx_iload_n dX3_stock_18 rfl rfl ?_
          refine fx_if_lt (tgt := 28) dX3_stock_19 (by decide) rC_l (fun hc19 => ?_) (fun hc19 => ?_)
          · exact absurd hc19 (nI_pos (by omega))
          · refine fx_iload_n dX3_stock_22 rfl rfl ?_
            refine fx_bipush (v := nI 99) dX3_stock_23 (by decide) ?_
            refine fx_icmp_le (tgt := 34) dX3_stock_25 (by decide) rC_l (fun hc25 => ?_) (fun hc25 => ?_)
            · refine fx_iload_n dX3_stock_34 rfl rfl ?_
              refine fx_iload_n dX3_stock_35 rfl rfl ?_
              refine fx_iload_n dX3_stock_36 rfl rfl ?_
              refine fx_callSv dX3_stock_37 sX3_stockBehind lX3_195 (by decide) (Nat.le_of_ble_eq_true rfl) (eX3_stockBehind hx hy hz) rfl ?_
              exact fx_ireq dX3_stock_40 rfl rfl rfl rfl
            · exact absurd (nI_le hz (by decide)) hc25
theorem eX3_changes_n {a : Int32} (h : jwi a (nI 0) (nI 20) = false) : Mx mX3_changes [.ref 0, .int a] (rC F N G) (some (.long (jfd 0).toInt64)) (rC F N (ga G 36 (jf1 (G 36) 0))) := by
  refine mx_of (L := [some (.ref 0), some (.int a), none, none, none]) (by decide) (fun _ => rfl) (fun _ => Nat.le_of_ble_eq_true rfl) ?_
  refine fx_iload_n dX3_changes_0 rfl rfl ?_
  refine fx_if_lt (tgt := 10) dX3_changes_1 (by decide) rC_l (fun hc1 => ?_) (fun hc1 => ?_)
  · refine fx_aload_n dX3_changes_10 rfl rfl ?_
    refine fx_iconst (v := nI 0) dX3_changes_11 (by decide) ?_
    refine fx_callVv dX3_changes_12 vX3_finding lX3_51 (by decide) rfl (Nat.le_of_ble_eq_true rfl) (eX3_finding (k := 0) (by decide)) rfl ?_
    refine fx_i2l dX3_changes_15 ?_
    exact fx_lreq dX3_changes_16 rfl rfl rfl
  · refine fx_iload_n dX3_changes_4 rfl rfl ?_
    refine fx_bipush (v := nI 20) dX3_changes_5 (by decide) ?_
    refine fx_icmp_le (tgt := 17) dX3_changes_7 (by decide) rC_l (fun hc7 => ?_) (fun hc7 => ?_)
    · exact jtf h (jwi_in (by rw [nI_0]; exact hc1) (Int32.not_lt.mpr hc7))
    · refine fx_aload_n dX3_changes_10 rfl rfl ?_
      refine fx_iconst (v := nI 0) dX3_changes_11 (by decide) ?_
      refine fx_callVv dX3_changes_12 vX3_finding lX3_51 (by decide) rfl (Nat.le_of_ble_eq_true rfl) (eX3_finding (k := 0) (by decide)) rfl ?_
      refine fx_i2l dX3_changes_15 ?_
      exact fx_lreq dX3_changes_16 rfl rfl rfl
theorem P_changes (R : jR F4 G4 F N G) (a : Int32) : jPl mX4_changes mX3_changes [.int a] F4 G4 F N G := by
  by_cases h : jwi a (nI 0) (nI 20) = false
  · exact ⟨_, _, _, _, _, _, eX4_changes_n h, eX3_changes_n h, jR_f R (by decide)⟩
  · obtain ⟨m, hm, rfl⟩ := jwi_of (k := 20) (by decide) (jbt_t h)
    refine ⟨_, _, _, _, _, _, eX4_changes_y hm, ?_, R⟩
    refine mx_of (L := [some (.ref 0), some (.int (nI m)), none, none, none]) (by decide) (fun _ => rfl) (fun _ => Nat.le_of_ble_eq_true rfl) ?_
    have H : ∀ (k i : Nat), i + k = m → 1 ≤ i → Fx mX3_changes (some (.long (jfac m)), rC F N G) 22 [some (.ref 0), some (.int (nI m)), some (.long (jfac i)), none, some (.int (nI (i + 1)))] [] (rC F N G) := by
      intro k
      induction k with
      | zero =>
        intro i hi h1
        have hi' : i = m := by omega
        subst hi'
        refine fx_iload dX3_changes_22 rfl ?_
        refine fx_iload_n dX3_changes_24 rfl rfl ?_
        refine fx_icmp_gt (tgt := 40) dX3_changes_25 (by decide) rfl (fun hc25 => ?_) (fun hc25 => ?_)
        · refine fx_lload_n dX3_changes_40 rfl rfl ?_
          exact fx_lreq dX3_changes_41 rfl rfl rfl
        · exact absurd (nI_lt (by omega) (by omega)) hc25
      | succ k ih =>
        intro i hi h1
        have ih1 := ih (i + 1) (by omega) (by omega)
        have e1 : jfac (i + 1) = jfac i * (nI (i + 1)).toInt64 := by show (if i = 0 then _ else _) = _; rw [if_neg (by omega)]
        rw [e1] at ih1
        refine fx_iload dX3_changes_22 rfl ?_
        refine fx_iload_n dX3_changes_24 rfl rfl ?_
        refine fx_icmp_gt (tgt := 40) dX3_changes_25 (by decide) rfl (fun hc25 => ?_) (fun hc25 => ?_)
        · exact absurd hc25 (nI_nlt (by omega) (by omega))
        · refine fx_lload_n dX3_changes_28 rfl rfl ?_
          refine fx_iload dX3_changes_29 rfl ?_
          refine fx_i2l dX3_changes_31 ?_
          refine fx_lmul dX3_changes_32 ?_
          refine fs_lstore_n_2 dX3_changes_33 rfl (by decide) ?_
          refine fs_iinc_4 (w := nI 1) dX3_changes_34 (by decide) rfl (by decide) ?_
          refine fx_goto (tgt := 22) dX3_changes_37 (by decide) ?_
          rw [nI_add]
          exact ih1
    by_cases h0 : m = 0
    · subst h0
      refine fx_iload_n dX3_changes_0 rfl rfl ?_
      refine fx_if_lt (tgt := 10) dX3_changes_1 (by decide) rC_l (fun hc1 => ?_) (fun hc1 => ?_)
      · exact absurd hc1 (by decide)
      · refine fx_iload_n dX3_changes_4 rfl rfl ?_
        refine fx_bipush (v := nI 20) dX3_changes_5 (by decide) ?_
        refine fx_icmp_le (tgt := 17) dX3_changes_7 (by decide) rC_l (fun hc7 => ?_) (fun hc7 => ?_)
        · refine fx_lconst (v := 1) dX3_changes_17 (by decide) ?_
          refine fs_lstore_n_2 dX3_changes_18 rfl (by decide) ?_
          refine fx_iconst (v := nI 2) dX3_changes_19 (by decide) ?_
          refine fs_istore_4 dX3_changes_20 rfl (by decide) ?_
          refine fx_iload dX3_changes_22 rfl ?_
          refine fx_iload_n dX3_changes_24 rfl rfl ?_
          refine fx_icmp_gt (tgt := 40) dX3_changes_25 (by decide) rC_l (fun hc25 => ?_) (fun hc25 => ?_)
          · refine fx_lload_n dX3_changes_40 rfl rfl ?_
            exact fx_lreq dX3_changes_41 rfl rfl rfl
          · exact absurd (by decide) hc25
        · exact absurd (by decide) hc7
    · have H1 := H (m - 1) 1 (by omega) (by omega)
      refine fx_iload_n dX3_changes_0 rfl rfl ?_
      refine fx_if_lt (tgt := 10) dX3_changes_1 (by decide) rC_l (fun hc1 => ?_) (fun hc1 => ?_)
      · exact absurd hc1 (nI_pos (by omega))
      · refine fx_iload_n dX3_changes_4 rfl rfl ?_
        refine fx_bipush (v := nI 20) dX3_changes_5 (by decide) ?_
        refine fx_icmp_le (tgt := 17) dX3_changes_7 (by decide) rC_l (fun hc7 => ?_) (fun hc7 => ?_)
        · refine fx_lconst (v := 1) dX3_changes_17 (by decide) ?_
          refine fs_lstore_n_2 dX3_changes_18 rfl (by decide) ?_
          refine fx_iconst (v := nI 2) dX3_changes_19 (by decide) ?_
          refine fs_istore_4 dX3_changes_20 rfl (by decide) ?_
          exact H1
        · exact absurd (nI_le hm (by decide)) hc7
theorem P_ring (R : jR F4 G4 F N G) : jP mX4_ring mX3_ring [] F4 G4 F N G := by
  have R0 := R
  obtain ⟨⟨n, t, hW, hS, hH, ht, hI⟩, -⟩ := R
  obtain ⟨hp1, hp2⟩ := jpow8 hW.2.1
  have hlt : jgr (G4 1) n (2 ^ n) < 256 := by
    have e : jgr (G4 1) n (2 ^ n) ≤ 2 ^ n - 1 := by
      have H : ∀ s, 1 ≤ s → jgr (G4 1) n s ≤ s - 1 := by
        intro s
        induction s with
        | zero => intro q; exact absurd q (by decide)
        | succ s ih =>
          intro _
          by_cases q : s = 0
          · subst q; exact Nat.zero_le _
          · have e1 : jgr (G4 1) n (s + 1) = if jp (jgr (G4 1) n s) < jp s ∧ jring (G4 1) n s = true then s else jgr (G4 1) n s := by show (if s = 0 then _ else _) = _; rw [if_neg q]
            have := ih (by omega)
            rw [e1]
            split <;> omega
      exact H _ hp2
    omega
  refine ⟨_, _, _, _, _, _, eX4_ring hW, ?_, R0⟩
  refine mx_of (L := [some (.ref 0)]) (by decide) (fun _ => rfl) (fun _ => Nat.le_of_ble_eq_true rfl) ?_
  refine fx_aload_n dX3_ring_0 rfl rfl ?_
  refine fx_get dX3_ring_1 kX3_10 rfl rfl ?_
  refine fx_callVv dX3_ring_4 vX2_greatestRing lX3_199 (by decide) rfl (Nat.le_of_ble_eq_true rfl) (eX2_greatestRing zw1 hI hW) rfl ?_
  refine fx_callSv dX3_ring_7 sJ6_bitCount_0f7a4 lX3_128 (by decide) (Nat.le_of_ble_eq_true rfl) (eJ6_bitCount_0f7a4 hlt) rfl ?_
  exact fx_ireq dX3_ring_10 rfl rfl rfl rfl
theorem P_rings (R : jR F4 G4 F N G) : jP mX4_rings mX3_rings [] F4 G4 F N G := by
  have R0 := R
  obtain ⟨⟨n, t, hW, hS, hH, ht, hI⟩, -⟩ := R
  refine ⟨_, _, _, _, _, _, eX4_rings hW, ?_, R0⟩
  refine mx_of (L := [some (.ref 0)]) (by decide) (fun _ => rfl) (fun _ => Nat.le_of_ble_eq_true rfl) ?_
  refine fx_aload_n dX3_rings_0 rfl rfl ?_
  refine fx_get dX3_rings_1 kX3_10 rfl rfl ?_
  refine fx_callVv dX3_rings_4 vX2_greatestRing lX3_199 (by decide) rfl (Nat.le_of_ble_eq_true rfl) (eX2_greatestRing zw1 hI hW) rfl ?_
  exact fx_ireq dX3_rings_7 rfl rfl rfl rfl
theorem P_peals (R : jR F4 G4 F N G) : jP mX4_peals mX3_peals [] F4 G4 F N G := by
  have R0 := R
  obtain ⟨⟨n, t, hW, hS, hH, ht, hI⟩, -⟩ := R
  have hn8 := hW.2.1
  obtain ⟨hp1, hp2⟩ := jpow8 hn8
  refine ⟨_, _, _, _, _, _, eX4_peals hW, ?_, R0⟩
  refine mx_of (L := [some (.ref 0), none, none]) (by decide) (fun _ => rfl) (fun _ => Nat.le_of_ble_eq_true rfl) ?_
  have H : ∀ (k s : Nat), s + k = 2 ^ n → 1 ≤ s → Fx mX3_peals (some (.int (nI (jpl (G4 1) n (2 ^ n)))), rC F N G) 4 [some (.ref 0), some (.int (nI (jpl (G4 1) n s))), some (.int (nI s))] [] (rC F N G) := by
    intro k
    induction k with
    | zero =>
      intro s hs h1
      have hs' : s = 2 ^ n := by omega
      subst hs'
      refine fx_iload_n dX3_peals_4 rfl rfl ?_
      refine fx_iconst (v := nI 1) dX3_peals_5 (by decide) ?_
      refine fx_aload_n dX3_peals_6 rfl rfl ?_
      refine fx_get dX3_peals_7 kX3_10 rfl rfl ?_
      refine fx_get dX3_peals_10 kX3_84 rfl rfl ?_
      rw [jI_5 hI]
      refine fx_ishl dX3_peals_13 ?_
      rw [nI_shl1 n (by omega)]
      refine fx_icmp_ge (tgt := 37) dX3_peals_14 (by decide) rfl (fun hc14 => ?_) (fun hc14 => ?_)
      · refine fx_iload_n dX3_peals_37 rfl rfl ?_
        exact fx_ireq dX3_peals_38 rfl rfl rfl rfl
      · exact absurd (Int32.le_refl _) hc14
    | succ k ih =>
      intro s hs h1
      have ih1 := ih (s + 1) (by omega) (by omega)
      have e1 : jpl (G4 1) n (s + 1) = jpl (G4 1) n s + (if jring (G4 1) n s = true then 1 else 0) := by show (if s = 0 then _ else _) = _; rw [if_neg (by omega)]
      rw [e1] at ih1
      cases hr : jring (G4 1) n s
      · rw [if_neg (by rw [hr]; decide), Nat.add_zero] at ih1
        refine fx_iload_n dX3_peals_4 rfl rfl ?_
        refine fx_iconst (v := nI 1) dX3_peals_5 (by decide) ?_
        refine fx_aload_n dX3_peals_6 rfl rfl ?_
        refine fx_get dX3_peals_7 kX3_10 rfl rfl ?_
        refine fx_get dX3_peals_10 kX3_84 rfl rfl ?_
        rw [jI_5 hI]
        refine fx_ishl dX3_peals_13 ?_
        rw [nI_shl1 n (by omega)]
        refine fx_icmp_ge (tgt := 37) dX3_peals_14 (by decide) rfl (fun hc14 => ?_) (fun hc14 => ?_)
        · exact absurd hc14 (nI_ge (by omega) (by omega))
        · refine fx_aload_n dX3_peals_17 rfl rfl ?_
          refine fx_get dX3_peals_18 kX3_10 rfl rfl ?_
          refine fx_iload_n dX3_peals_21 rfl rfl ?_
          refine fx_callVv dX3_peals_22 vX2_isRing lX3_203 (by decide) rfl (Nat.le_of_ble_eq_true rfl) (eX2_isRing zw1 hI hW (by omega)) rfl ?_
          rw [hr]
          refine fx_if_eq (tgt := 31) dX3_peals_25 (by decide) rfl (fun hc25 => ?_) (fun hc25 => ?_)
          · refine fs_iinc_2 (w := nI 1) dX3_peals_31 (by decide) rfl (by decide) ?_
            refine fx_goto (tgt := 4) dX3_peals_34 (by decide) ?_
            rw [nI_add]
            exact ih1
          · exact absurd rfl hc25
      · rw [if_pos hr] at ih1
        refine fx_iload_n dX3_peals_4 rfl rfl ?_
        refine fx_iconst (v := nI 1) dX3_peals_5 (by decide) ?_
        refine fx_aload_n dX3_peals_6 rfl rfl ?_
        refine fx_get dX3_peals_7 kX3_10 rfl rfl ?_
        refine fx_get dX3_peals_10 kX3_84 rfl rfl ?_
        rw [jI_5 hI]
        refine fx_ishl dX3_peals_13 ?_
        rw [nI_shl1 n (by omega)]
        refine fx_icmp_ge (tgt := 37) dX3_peals_14 (by decide) rfl (fun hc14 => ?_) (fun hc14 => ?_)
        · exact absurd hc14 (nI_ge (by omega) (by omega))
        · refine fx_aload_n dX3_peals_17 rfl rfl ?_
          refine fx_get dX3_peals_18 kX3_10 rfl rfl ?_
          refine fx_iload_n dX3_peals_21 rfl rfl ?_
          refine fx_callVv dX3_peals_22 vX2_isRing lX3_203 (by decide) rfl (Nat.le_of_ble_eq_true rfl) (eX2_isRing zw1 hI hW (by omega)) rfl ?_
          rw [hr]
          refine fx_if_eq (tgt := 31) dX3_peals_25 (by decide) rfl (fun hc25 => ?_) (fun hc25 => ?_)
          · exact absurd hc25 (by decide)
          · refine fs_iinc_1 (w := nI 1) dX3_peals_28 (by decide) rfl (by decide) ?_
            refine fs_iinc_2 (w := nI 1) dX3_peals_31 (by decide) rfl (by decide) ?_
            refine fx_goto (tgt := 4) dX3_peals_34 (by decide) ?_
            rw [nI_add, nI_add]
            exact ih1
  have H0 := H (2 ^ n - 1) 1 (by omega) (by omega)
  refine fx_iconst (v := nI 0) dX3_peals_0 (by decide) ?_
  refine fs_istore_n_1 dX3_peals_1 rfl (by decide) ?_
  refine fx_iconst (v := nI 1) dX3_peals_2 (by decide) ?_
  refine fs_istore_n_2 dX3_peals_3 rfl (by decide) ?_
  exact H0
theorem P_wanted (R : jR F4 G4 F N G) : jP mX4_wanted mX3_wanted [] F4 G4 F N G := by
  have R0 := R
  obtain ⟨⟨n, t, hW, hS, hH, ht, hI⟩, -⟩ := R
  have hn8 := hW.2.1
  have hno := jno_lt hW n (Nat.le_refl n)
  have hno2 : ∀ k, k < 12 → jno (G4 1) n ||| 2 ^ k < 2 ^ 31 := fun k hk => Nat.lt_of_lt_of_le (Nat.or_lt_two_pow hno (Nat.pow_lt_pow_right (by decide) hk)) (by decide)
  refine ⟨_, _, _, _, _, _, eX4_wanted hW, ?_, R0⟩
  refine mx_of (L := [some (.ref 0), none, none, none, none, none]) (by decide) (fun _ => rfl) (fun _ => Nat.le_of_ble_eq_true rfl) ?_
  generalize hx : jno (G4 1) n = x at *
  have H : ∀ (k i : Nat), i + k = 12 → 1 ≤ i → ∀ l5, Fx mX3_wanted (some (.int (nI (jwn x 12))), rC F N G) 15 [some (.ref 0), some (.int (nI x)), some (.int (nI (jwn x i))), some (.int (nI (jcl (x ||| 2 ^ jwn x i) 12).1)), some (.int (nI i)), l5] [] (rC F N G) := by
    intro k
    induction k with
    | zero =>
      intro i hi h1 l5
      have hi' : i = 12 := by omega
      subst hi'
      refine fx_iload dX3_wanted_15 rfl ?_
      refine fx_bipush (v := nI 12) dX3_wanted_17 (by decide) ?_
      refine fx_icmp_ge (tgt := 51) dX3_wanted_19 (by decide) rfl (fun hc19 => ?_) (fun hc19 => ?_)
      · refine fx_iload_n dX3_wanted_51 rfl rfl ?_
        exact fx_ireq dX3_wanted_52 rfl rfl rfl rfl
      · exact absurd (Int32.le_refl _) hc19
    | succ k ih =>
      intro i hi h1 l5
      have hle : jwn x i ≤ i := jwn_lt _ i
      have ih1 := ih (i + 1) (by omega) (by omega)
      have e1 : jwn x (i + 1) = if (jlg (x ||| 2 ^ jwn x i) 12).1 < (jlg (x ||| 2 ^ i) 12).1 then i else jwn x i := by show (if i = 0 then _ else _) = _; rw [if_neg (by omega)]
      rw [jcl_lg _ 12 (Nat.le_refl _), jcl_lg _ 12 (Nat.le_refl _)] at e1
      rw [e1] at ih1
      have hb1 := (jcl_b (x ||| 2 ^ i) 12).1
      have hb2 := (jcl_b (x ||| 2 ^ jwn x i) 12).1
      refine fx_iload dX3_wanted_15 rfl ?_
      refine fx_bipush (v := nI 12) dX3_wanted_17 (by decide) ?_
      refine fx_icmp_ge (tgt := 51) dX3_wanted_19 (by decide) rfl (fun hc19 => ?_) (fun hc19 => ?_)
      · exact absurd hc19 (nI_ge (by omega) (by omega))
      · refine fx_iload_n dX3_wanted_22 rfl rfl ?_
        refine fx_iconst (v := nI 1) dX3_wanted_23 (by decide) ?_
        refine fx_iload dX3_wanted_24 rfl ?_
        refine fx_ishl dX3_wanted_26 ?_
        rw [nI_shl1 _ (by omega)]
        refine fx_ior dX3_wanted_27 ?_
        rw [nI_or]
        refine fx_callSv dX3_wanted_28 sX3_longestRun lX3_209 (by decide) (Nat.le_of_ble_eq_true rfl) (eX3_longestRun (hno2 i (by omega))) rfl ?_
        refine fs_istore_5 dX3_wanted_31 rfl (by decide) ?_
        refine fx_iload dX3_wanted_33 rfl ?_
        refine fx_iload_n dX3_wanted_35 rfl rfl ?_
        refine fx_icmp_le (tgt := 45) dX3_wanted_36 (by decide) rfl (fun hc36 => ?_) (fun hc36 => ?_)
        · refine fs_iinc_4 (w := nI 1) dX3_wanted_45 (by decide) rfl (by decide) ?_
          refine fx_goto (tgt := 15) dX3_wanted_48 (by decide) ?_
          rw [nI_add]
          first | (rw [if_pos (Int32.not_le.mp hc36)] at ih1; exact ih1 _) | (rw [if_neg (Int32.not_lt.mpr hc36)] at ih1; exact ih1 _)
        · refine fx_iload dX3_wanted_39 rfl ?_
          refine fs_istore_n_3 dX3_wanted_41 rfl (by decide) ?_
          refine fx_iload dX3_wanted_42 rfl ?_
          refine fs_istore_n_2 dX3_wanted_44 rfl (by decide) ?_
          refine fs_iinc_4 (w := nI 1) dX3_wanted_45 (by decide) rfl (by decide) ?_
          refine fx_goto (tgt := 15) dX3_wanted_48 (by decide) ?_
          rw [nI_add]
          first | (rw [if_pos (Int32.not_le.mp hc36)] at ih1; exact ih1 _) | (rw [if_neg (Int32.not_lt.mpr hc36)] at ih1; exact ih1 _)
  have H0 := H 11 1 (by omega) (by omega)
  have e0 : jwn x 1 = 0 := rfl
  rw [e0] at H0
  have hp : 1 ≤ (jcl (x ||| 2 ^ 0) 12).1 := jcl_pos (by rw [Nat.testBit_or, Nat.testBit_two_pow]; simp) 11
  have hb1 := (jcl_b (x ||| 2 ^ 0) 12).1
  have H1 : Fx mX3_wanted (some (.int (nI (jwn x 12))), rC F N G) 15 [some (.ref 0), some (.int (nI x)), some (.int (nI 0)), some (.int (nI 0)), some (.int (nI 0)), none] [] (rC F N G) := by
    refine fx_iload dX3_wanted_15 rfl ?_
    refine fx_bipush (v := nI 12) dX3_wanted_17 (by decide) ?_
    refine fx_icmp_ge (tgt := 51) dX3_wanted_19 (by decide) rfl (fun hc19 => ?_) (fun hc19 => ?_)
    · exact absurd hc19 (by decide)
    · refine fx_iload_n dX3_wanted_22 rfl rfl ?_
      refine fx_iconst (v := nI 1) dX3_wanted_23 (by decide) ?_
      refine fx_iload dX3_wanted_24 rfl ?_
      refine fx_ishl dX3_wanted_26 ?_
      rw [nI_shl1 0 (by decide)]
      refine fx_ior dX3_wanted_27 ?_
      rw [nI_or]
      refine fx_callSv dX3_wanted_28 sX3_longestRun lX3_209 (by decide) (Nat.le_of_ble_eq_true rfl) (eX3_longestRun (hno2 0 (by decide))) rfl ?_
      refine fs_istore_5 dX3_wanted_31 rfl (by decide) ?_
      refine fx_iload dX3_wanted_33 rfl ?_
      refine fx_iload_n dX3_wanted_35 rfl rfl ?_
      refine fx_icmp_le (tgt := 45) dX3_wanted_36 (by decide) rfl (fun hc36 => ?_) (fun hc36 => ?_)
      · exact absurd hc36 (nI_ge (by omega) (by omega))
      · refine fx_iload dX3_wanted_39 rfl ?_
        refine fs_istore_n_3 dX3_wanted_41 rfl (by decide) ?_
        refine fx_iload dX3_wanted_42 rfl ?_
        refine fs_istore_n_2 dX3_wanted_44 rfl (by decide) ?_
        refine fs_iinc_4 (w := nI 1) dX3_wanted_45 (by decide) rfl (by decide) ?_
        refine fx_goto (tgt := 15) dX3_wanted_48 (by decide) ?_
        rw [nI_add]
        exact H0 _
  refine fx_aload_n dX3_wanted_0 rfl rfl ?_
  refine fx_get dX3_wanted_1 kX3_10 rfl rfl ?_
  refine fx_callVv dX3_wanted_4 vX2_notesThere lX3_206 (by decide) rfl (Nat.le_of_ble_eq_true rfl) (eX2_notesThere zw1 hI hW) rfl ?_
  rw [hx]
  refine fs_istore_n_1 dX3_wanted_7 rfl (by decide) ?_
  refine fx_iconst (v := nI 0) dX3_wanted_8 (by decide) ?_
  refine fs_istore_n_2 dX3_wanted_9 rfl (by decide) ?_
  refine fx_iconst (v := nI 0) dX3_wanted_10 (by decide) ?_
  refine fs_istore_n_3 dX3_wanted_11 rfl (by decide) ?_
  refine fx_iconst (v := nI 0) dX3_wanted_12 (by decide) ?_
  refine fs_istore_4 dX3_wanted_13 rfl (by decide) ?_
  exact H1
end
