/-! ===== the reference: leaves ===== -/
def jB (b : Bool) : Int32 := if b then 1 else 0
theorem jB_n (b : Bool) : narrow .boolean (.int (jB b)) = .int (jB b) := by cases b <;> decide
theorem jB_1 {b : Bool} : jB b = 1 ↔ b = true := by cases b <;> decide
theorem jB_0 {b : Bool} : jB b = 0 ↔ b = false := by cases b <;> decide
theorem jB_n1 {b : Bool} : jB b = nI 1 ↔ b = true := by cases b <;> decide
def jwi (v a b : Int32) : Bool := decide (a ≤ v) && decide (v ≤ b)
theorem jwi_lo {v a b : Int32} (h : v < a) : jwi v a b = false := by simp [jwi, Int32.not_le.mpr h]
theorem jwi_hi {v a b : Int32} (h : b < v) : jwi v a b = false := by simp [jwi, Int32.not_le.mpr h]
theorem jwi_in {v a b : Int32} (h : ¬ v < a) (h2 : ¬ b < v) : jwi v a b = true := by simp [jwi, Int32.not_lt.mp h, Int32.not_lt.mp h2]
def japart (a b : Int32) : Int32 := jabs (a / nI 8 - b / nI 8) + jabs ((a - a / nI 8 * nI 8) - (b - b / nI 8 * nI 8))
def jat (b f : Int32) : Int32 := nI 146 + nI 5 * b + f
theorem jat_n (b f : Nat) : jat (nI b) (nI f) = nI (146 + 5 * b + f) := by simp only [jat, pk_mul, nI_add]
theorem jat_in {b f : Nat} (hb : b < 8) (hf : f < 5) : vp_in (jat (nI b) (nI f)) 186 := by rw [jat_n]; exact vp_in_nI (by omega) (by omega)
theorem jat_c {b f : Nat} (hb : b < 8) (hf : f < 5) : (jat (nI b) (nI f)).toNatClampNeg = 146 + 5 * b + f := by rw [jat_n]; exact nI_clamp (by omega)
def jfd (k : Nat) : Int32 := (-1000001) - nI k
theorem jfd_ix : ∀ k, k < 7 → (-1000001) - jfd k + nI 1 = nI (k + 1) := by decide +kernel
theorem ga_ga (G : Nat → Nat → Int32) (k : Nat) (a b : Nat → Int32) : ga (ga G k a) k b = ga G k b := by
  funext j
  unfold ga
  by_cases e : j = k
  · rw [if_pos e, if_pos e]
  · rw [if_neg e, if_neg e, if_neg e]
/-- the counts of findings, one of k more -/
def jfc (a : Nat → Int32) (k : Nat) : Nat → Int32 := upd (upd a (k + 1) (a (k + 1) + nI 1)) 0 (a 0 + nI 1)
set_option maxRecDepth 100000
theorem eX4_within {v a b : Int32} {h : zH} : Mx mX4_within [.int v, .int a, .int b] h (some (.int (jB (jwi v a b)))) h := by
  refine mx_of (L := [some (.int v), some (.int a), some (.int b)]) (by decide) (fun _ => rfl) (fun _ => Nat.le_of_ble_eq_true rfl) ?_
  refine fx_iload_n dX4_within_0 rfl rfl ?_
  refine fx_iload_n dX4_within_1 rfl rfl ?_
  refine fx_icmp_lt (tgt := 14) dX4_within_2 (by decide) rfl (fun hc2 => ?_) (fun hc2 => ?_)
  · refine fx_iconst (v := nI 0) dX4_within_14 (by decide) ?_
    exact fx_ireq dX4_within_15 rfl (jB_n _) (by first | (rw [jwi_in hc2 hc7]; rfl) | (rw [jwi_hi hc7]; rfl) | (rw [jwi_lo hc2]; rfl)) rfl
  · refine fx_iload_n dX4_within_5 rfl rfl ?_
    refine fx_iload_n dX4_within_6 rfl rfl ?_
    refine fx_icmp_gt (tgt := 14) dX4_within_7 (by decide) rfl (fun hc7 => ?_) (fun hc7 => ?_)
    · refine fx_iconst (v := nI 0) dX4_within_14 (by decide) ?_
      exact fx_ireq dX4_within_15 rfl (jB_n _) (by first | (rw [jwi_in hc2 hc7]; rfl) | (rw [jwi_hi hc7]; rfl) | (rw [jwi_lo hc2]; rfl)) rfl
    · refine fx_iconst (v := nI 1) dX4_within_10 (by decide) ?_
      refine fx_goto (tgt := 15) dX4_within_11 (by decide) ?_
      exact fx_ireq dX4_within_15 rfl (jB_n _) (by first | (rw [jwi_in hc2 hc7]; rfl) | (rw [jwi_hi hc7]; rfl) | (rw [jwi_lo hc2]; rfl)) rfl
theorem eX4_isCell {v : Int32} {h : zH} : Mx mX4_isCell [.int v] h (some (.int (jB (jwi v (nI 0) (nI 63))))) h := by
  refine mx_of (L := [some (.int v)]) (by decide) (fun _ => rfl) (fun _ => Nat.le_of_ble_eq_true rfl) ?_
  refine fx_iload_n dX4_isCell_0 rfl rfl ?_
  refine fx_iconst (v := nI 0) dX4_isCell_1 (by decide) ?_
  refine fx_bipush (v := nI 63) dX4_isCell_2 (by decide) ?_
  refine fx_callSv dX4_isCell_4 sX4_within lX4_74 (by decide) (Nat.le_of_ble_eq_true rfl) eX4_within rfl ?_
  exact fx_ireq dX4_isCell_7 rfl (jB_n _) rfl rfl
theorem eX4_isKind {v : Int32} {h : zH} : Mx mX4_isKind [.int v] h (some (.int (jB (jwi v (nI 0) (nI 6))))) h := by
  refine mx_of (L := [some (.int v)]) (by decide) (fun _ => rfl) (fun _ => Nat.le_of_ble_eq_true rfl) ?_
  refine fx_iload_n dX4_isKind_0 rfl rfl ?_
  refine fx_iconst (v := nI 0) dX4_isKind_1 (by decide) ?_
  refine fx_bipush (v := nI 6) dX4_isKind_2 (by decide) ?_
  refine fx_callSv dX4_isKind_4 sX4_within lX4_74 (by decide) (Nat.le_of_ble_eq_true rfl) eX4_within rfl ?_
  exact fx_ireq dX4_isKind_7 rfl (jB_n _) rfl rfl
theorem eX4_isHunter {v : Int32} {h : zH} : Mx mX4_isHunter [.int v] h (some (.int (jB (jwi v (nI 0) (nI 3))))) h := by
  refine mx_of (L := [some (.int v)]) (by decide) (fun _ => rfl) (fun _ => Nat.le_of_ble_eq_true rfl) ?_
  refine fx_iload_n dX4_isHunter_0 rfl rfl ?_
  refine fx_iconst (v := nI 0) dX4_isHunter_1 (by decide) ?_
  refine fx_iconst (v := nI 3) dX4_isHunter_2 (by decide) ?_
  refine fx_callSv dX4_isHunter_3 sX4_within lX4_74 (by decide) (Nat.le_of_ble_eq_true rfl) eX4_within rfl ?_
  exact fx_ireq dX4_isHunter_6 rfl (jB_n _) rfl rfl
theorem eX4_isSpot {v : Int32} {h : zH} : Mx mX4_isSpot [.int v] h (some (.int (jB (jwi v (nI 0) (nI 9))))) h := by
  refine mx_of (L := [some (.int v)]) (by decide) (fun _ => rfl) (fun _ => Nat.le_of_ble_eq_true rfl) ?_
  refine fx_iload_n dX4_isSpot_0 rfl rfl ?_
  refine fx_iconst (v := nI 0) dX4_isSpot_1 (by decide) ?_
  refine fx_bipush (v := nI 9) dX4_isSpot_2 (by decide) ?_
  refine fx_callSv dX4_isSpot_4 sX4_within lX4_74 (by decide) (Nat.le_of_ble_eq_true rfl) eX4_within rfl ?_
  exact fx_ireq dX4_isSpot_7 rfl (jB_n _) rfl rfl
theorem eX4_isSheet {v : Int32} {h : zH} : Mx mX4_isSheet [.int v] h (some (.int (jB (jwi v (nI 0) (nI 3))))) h := by
  refine mx_of (L := [some (.int v)]) (by decide) (fun _ => rfl) (fun _ => Nat.le_of_ble_eq_true rfl) ?_
  refine fx_iload_n dX4_isSheet_0 rfl rfl ?_
  refine fx_iconst (v := nI 0) dX4_isSheet_1 (by decide) ?_
  refine fx_iconst (v := nI 3) dX4_isSheet_2 (by decide) ?_
  refine fx_callSv dX4_isSheet_3 sX4_within lX4_74 (by decide) (Nat.le_of_ble_eq_true rfl) eX4_within rfl ?_
  exact fx_ireq dX4_isSheet_6 rfl (jB_n _) rfl rfl
theorem eX4_apart {a b : Int32} {h : zH} : Mx mX4_apart [.int a, .int b] h (some (.int (japart a b))) h := by
  refine mx_of (L := [some (.int a), some (.int b)]) (by decide) (fun _ => rfl) (fun _ => Nat.le_of_ble_eq_true rfl) ?_
  refine fx_iload_n dX4_apart_0 rfl rfl ?_
  refine fx_bipush (v := nI 8) dX4_apart_1 (by decide) ?_
  refine fx_idiv dX4_apart_3 (by decide) ?_
  refine fx_iload_n dX4_apart_4 rfl rfl ?_
  refine fx_bipush (v := nI 8) dX4_apart_5 (by decide) ?_
  refine fx_idiv dX4_apart_7 (by decide) ?_
  refine fx_isub dX4_apart_8 ?_
  refine fx_abs dX4_apart_9 lX4_78 (by decide) (Nat.le_of_ble_eq_true rfl) ?_
  refine fx_iload_n dX4_apart_12 rfl rfl ?_
  refine fx_bipush (v := nI 8) dX4_apart_13 (by decide) ?_
  refine fx_irem dX4_apart_15 (by decide) ?_
  refine fx_iload_n dX4_apart_16 rfl rfl ?_
  refine fx_bipush (v := nI 8) dX4_apart_17 (by decide) ?_
  refine fx_irem dX4_apart_19 (by decide) ?_
  refine fx_isub dX4_apart_20 ?_
  refine fx_abs dX4_apart_21 lX4_78 (by decide) (Nat.le_of_ble_eq_true rfl) ?_
  refine fx_iadd dX4_apart_24 ?_
  exact fx_ireq dX4_apart_25 rfl rfl rfl rfl
theorem eX4_at {b f : Int32} {h : zH} : Mx mX4_at [.int b, .int f] h (some (.int (jat b f))) h := by
  refine mx_of (L := [some (.int b), some (.int f)]) (by decide) (fun _ => rfl) (fun _ => Nat.le_of_ble_eq_true rfl) ?_
  refine fx_sipush (v := nI 146) dX4_at_0 (by decide) ?_
  refine fx_iconst (v := nI 5) dX4_at_3 (by decide) ?_
  refine fx_iload_n dX4_at_4 rfl rfl ?_
  refine fx_imul dX4_at_5 ?_
  refine fx_iadd dX4_at_6 ?_
  refine fx_iload_n dX4_at_7 rfl rfl ?_
  refine fx_iadd dX4_at_8 ?_
  exact fx_ireq dX4_at_9 rfl rfl rfl rfl
section
variable {F : Nat → Int32} {G : Nat → Nat → Int32}
theorem eX4_bellIs {b f : Int32} (hi : vp_in (jat b f) 186) : Mx mX4_bellIs [.ref 0, .int b, .int f] (rM F G) (some (.int (G 1 (jat b f).toNatClampNeg))) (rM F G) := by
  refine mx_of (L := [some (.ref 0), some (.int b), some (.int f)]) (by decide) (fun _ => rfl) (fun _ => Nat.le_of_ble_eq_true rfl) ?_
  refine fx_aload_n dX4_bellIs_0 rfl rfl ?_
  refine fx_get dX4_bellIs_1 kX4_9 rfl rfl ?_
  refine fx_iload_n dX4_bellIs_4 rfl rfl ?_
  refine fx_iload_n dX4_bellIs_5 rfl rfl ?_
  refine fx_callSv dX4_bellIs_6 sX4_at lX4_98 (by decide) (Nat.le_of_ble_eq_true rfl) eX4_at rfl ?_
  refine fx_iald dX4_bellIs_9 rfl hi ?_
  exact fx_ireq dX4_bellIs_10 rfl rfl rfl rfl
/-- field f of bell b -/
theorem eM_bell {b f : Nat} (hb : b < 8) (hf : f < 5) : Mx mX4_bellIs [.ref 0, .int (nI b), .int (nI f)] (rM F G) (some (.int (G 1 (146 + 5 * b + f)))) (rM F G) := by
  have := eX4_bellIs (F := F) (G := G) (jat_in hb hf)
  rw [jat_c hb hf] at this
  exact this
theorem eX4_isCaught {b : Nat} (hb : b < 8) : Mx mX4_isCaught [.ref 0, .int (nI b)] (rM F G) (some (.int (jB (decide (G 1 (146 + 5 * b + 4) = nI 1))))) (rM F G) := by
  refine mx_of (L := [some (.ref 0), some (.int (nI b))]) (by decide) (fun _ => rfl) (fun _ => Nat.le_of_ble_eq_true rfl) ?_
  refine fx_aload_n dX4_isCaught_0 rfl rfl ?_
  refine fx_iload_n dX4_isCaught_1 rfl rfl ?_
  refine fx_iconst (v := nI 4) dX4_isCaught_2 (by decide) ?_
  refine fx_callVv dX4_isCaught_3 vX4_bellIs lX4_101 (by decide) rfl (Nat.le_of_ble_eq_true rfl) (eM_bell hb (by decide)) rfl ?_
  refine fx_iconst (v := nI 1) dX4_isCaught_6 (by decide) ?_
  refine fx_icmp_ne (tgt := 14) dX4_isCaught_7 (by decide) rfl (fun hc7 => ?_) (fun hc7 => ?_)
  · refine fx_iconst (v := nI 0) dX4_isCaught_14 (by decide) ?_
    exact fx_ireq dX4_isCaught_15 rfl (jB_n _) (by first | (rw [decide_eq_true hc7]; rfl) | (rw [decide_eq_false hc7]; rfl)) rfl
  · refine fx_iconst (v := nI 1) dX4_isCaught_10 (by decide) ?_
    refine fx_goto (tgt := 15) dX4_isCaught_11 (by decide) ?_
    exact fx_ireq dX4_isCaught_15 rfl (jB_n _) (by first | (rw [decide_eq_true hc7]; rfl) | (rw [decide_eq_false hc7]; rfl)) rfl
theorem eX4_hasNet {c : Nat} (hc : c < 64) : Mx mX4_hasNet [.ref 0, .int (nI c)] (rM F G) (some (.int (jB (decide (G 1 (18 + c) = nI 1))))) (rM F G) := by
  refine mx_of (L := [some (.ref 0), some (.int (nI c))]) (by decide) (fun _ => rfl) (fun _ => Nat.le_of_ble_eq_true rfl) ?_
  refine fx_aload_n dX4_hasNet_0 rfl rfl ?_
  refine fx_get dX4_hasNet_1 kX4_9 rfl rfl ?_
  refine fx_bipush (v := nI 18) dX4_hasNet_4 (by decide) ?_
  refine fx_iload_n dX4_hasNet_6 rfl rfl ?_
  refine fx_iadd dX4_hasNet_7 ?_
  rw [nI_add]
  refine fx_iald dX4_hasNet_8 rfl (vp_in_nI (by omega) (by omega)) ?_
  rw [nI_clamp (by omega)]
  refine fx_iconst (v := nI 1) dX4_hasNet_9 (by decide) ?_
  refine fx_icmp_ne (tgt := 17) dX4_hasNet_10 (by decide) rfl (fun hc10 => ?_) (fun hc10 => ?_)
  · refine fx_iconst (v := nI 0) dX4_hasNet_17 (by decide) ?_
    exact fx_ireq dX4_hasNet_18 rfl (jB_n _) (by first | (rw [decide_eq_true hc10]; rfl) | (rw [decide_eq_false hc10]; rfl)) rfl
  · refine fx_iconst (v := nI 1) dX4_hasNet_13 (by decide) ?_
    refine fx_goto (tgt := 18) dX4_hasNet_14 (by decide) ?_
    exact fx_ireq dX4_hasNet_18 rfl (jB_n _) (by first | (rw [decide_eq_true hc10]; rfl) | (rw [decide_eq_false hc10]; rfl)) rfl
theorem eX4_finding {k : Nat} {w : Int32} (hk : k < 7) (hw : w = jfd k) : Mx mX4_finding [.ref 0, .int w] (rM F G) (some (.int (jfd k))) (rM F (ga G 4 (jfc (G 4) k))) := by
  subst hw
  refine mx_of (L := [some (.ref 0), some (.int (jfd k))]) (by decide) (fun _ => rfl) (fun _ => Nat.le_of_ble_eq_true rfl) ?_
  refine fx_aload_n dX4_finding_0 rfl rfl ?_
  refine fx_get dX4_finding_1 kX4_19 rfl rfl ?_
  refine fx_ldc dX4_finding_4 qX4_69 ?_
  refine fx_iload_n dX4_finding_6 rfl rfl ?_
  refine fx_isub dX4_finding_7 ?_
  refine fx_iconst (v := nI 1) dX4_finding_8 (by decide) ?_
  refine fx_iadd dX4_finding_9 ?_
  rw [jfd_ix k hk]
  refine fx_dup2 dX4_finding_10 rfl rfl ?_
  refine fx_iald dX4_finding_11 rfl (vp_in_nI (by omega) (by omega)) ?_
  refine fx_iconst (v := nI 1) dX4_finding_12 (by decide) ?_
  refine fx_iadd dX4_finding_13 ?_
  refine fx_iast dX4_finding_14 rfl (vp_in_nI (by omega) (by omega)) (w4_4 ..) ?_
  rw [nI_clamp (by omega)]
  refine fx_aload_n dX4_finding_15 rfl rfl ?_
  refine fx_get dX4_finding_16 kX4_19 rfl rfl ?_
  refine fx_iconst (v := nI 0) dX4_finding_19 (by decide) ?_
  refine fx_dup2 dX4_finding_20 rfl rfl ?_
  refine fx_iald dX4_finding_21 rfl (vp_in_nI (by omega) (by omega)) ?_
  refine fx_iconst (v := nI 1) dX4_finding_22 (by decide) ?_
  refine fx_iadd dX4_finding_23 ?_
  refine fx_iast dX4_finding_24 rfl (vp_in_nI (by omega) (by omega)) (w4_4 ..) ?_
  rw [show (nI 0).toNatClampNeg = 0 by decide, ga_s]
  refine fx_iload_n dX4_finding_25 rfl rfl ?_
  exact fx_ireq dX4_finding_26 rfl rfl rfl (by rw [ga_ga]; rfl)
theorem eX4_become {i : Nat} {v : Int32} (hi : i < 186) : Mx mX4_become [.ref 0, .int (nI i), .int v] (rM F G) (some (.int (G 1 i))) (rM F (ga G 1 (upd (G 1) i v))) := by
  refine mx_of (L := [some (.ref 0), some (.int (nI i)), some (.int v), none]) (by decide) (fun _ => rfl) (fun _ => Nat.le_of_ble_eq_true rfl) ?_
  refine fx_aload_n dX4_become_0 rfl rfl ?_
  refine fx_get dX4_become_1 kX4_9 rfl rfl ?_
  refine fx_iload_n dX4_become_4 rfl rfl ?_
  refine fx_iald dX4_become_5 rfl (vp_in_nI (by omega) (by omega)) ?_
  rw [nI_clamp (by omega)]
  refine fs_istore_n_3 dX4_become_6 rfl (by decide) ?_
  refine fx_aload_n dX4_become_7 rfl rfl ?_
  refine fx_get dX4_become_8 kX4_9 rfl rfl ?_
  refine fx_iload_n dX4_become_11 rfl rfl ?_
  refine fx_iload_n dX4_become_12 rfl rfl ?_
  refine fx_iast dX4_become_13 rfl (vp_in_nI (by omega) (by omega)) (w4_1 ..) ?_
  refine fx_iload_n dX4_become_14 rfl rfl ?_
  exact fx_ireq dX4_become_15 rfl rfl rfl (by rw [nI_clamp (by omega)])
end
