/-! ===== the reference: public methods, fifth part: sounds, thunder, sheets ===== -/
set_option maxRecDepth 100000
/-- how many cells may be -/
def jcnS (st : Nat → Bool) : Nat → Nat
  | 0 => 0
  | c + 1 => jcnS st c + (if st c = true then 1 else 0)
/-- the first one from c on, 64 if none, k to go -/
def jfst (st : Nat → Bool) (c : Nat) : Nat → Nat
  | 0 => c
  | k + 1 => if st c = true then c else jfst st (c + 1) k
theorem jfst_le (st : Nat → Bool) : ∀ k c, c ≤ jfst st c k ∧ jfst st c k ≤ c + k := by
  intro k
  induction k with
  | zero => intro c; exact ⟨Nat.le_refl _, Nat.le_refl _⟩
  | succ k ih =>
    intro c
    unfold jfst
    by_cases h : st c = true
    · rw [if_pos h]; omega
    · rw [if_neg h]; have := ih (c + 1); omega
/-- the best ear: g is how many are left at worst -/
def jer (g : Nat → Nat) : Nat → Nat × Nat
  | 0 => (0, 1000000)
  | c + 1 => if g c < (jer g c).2 then (c, g c) else jer g c
theorem jer_lt (g : Nat → Nat) : ∀ c, (jer g c).1 ≤ c ∧ (jer g c).2 ≤ 1000000 := by
  intro c
  induction c with
  | zero => exact ⟨Nat.le_refl _, Nat.le_refl _⟩
  | succ c ih =>
    unfold jer
    by_cases h : g c < (jer g c).2
    · rw [if_pos h]; exact ⟨by omega, by show g c ≤ _; omega⟩
    · rw [if_neg h]; exact ⟨by omega, ih.2⟩
/-- bells that are so loud, as a set -/
def jwh (V : Nat → Int32) (f : Int32 → Int32 → Bool) : Nat → Nat
  | 0 => 0
  | b + 1 => jwh V f b ||| (if ¬ V (146 + 5 * b + 4) = nI 1 ∧ f (V (146 + 5 * b + 3)) (V (146 + 5 * b + 1)) = true then 2 ^ b else 0)
theorem jlo_none {G : Nat → Nat → Int32} {s w : Int32} (h : jlo G s w = none) : ∃ j, j ≤ 3 ∧ s = nI j ∧ ¬ G 11 j = 0 ∧ jwi w (nI 1) (nI 99) = true ∧ jears (G 13) j (jsz G j / 2) = true := by
  unfold jlo at h
  cases hk : jlk G s with
  | some k => rw [hk] at h; cases h
  | none =>
    rw [hk] at h
    unfold jlk at hk
    by_cases a : jwi s (nI 0) (nI 3) = true
    · obtain ⟨j, hj, rfl⟩ := jwi_of (by decide) a
      rw [if_pos a, nI_clamp (by omega)] at hk
      refine ⟨j, hj, rfl, ?_, ?_⟩
      · intro q; rw [if_pos q] at hk; cases hk
      · by_cases b : jwi w (nI 1) (nI 99) = true
        · refine ⟨b, ?_⟩
          by_cases c : jears (G 13) j (jsz G j / 2) = true
          · exact c
          · simp only [b, nI_clamp (show j < 2 ^ 31 by omega), c, if_true] at h
            simp at h
        · simp only [b] at h
          simp at h
    · rw [if_neg a] at hk; cases hk
theorem jwi1_of {v : Int32} {k : Nat} (hk : k < 2 ^ 31) (h : jwi v (nI 1) (nI k) = true) : ∃ j, 1 ≤ j ∧ j ≤ k ∧ v = nI j := by
  unfold jwi at h
  simp only [Bool.and_eq_true, decide_eq_true_eq] at h
  have h0 : jwi v (nI 0) (nI k) = true := by
    unfold jwi
    rw [decide_eq_true (Int32.le_trans (nI_le (by decide) (by decide)) h.1), decide_eq_true h.2]
    rfl
  obtain ⟨j, hj, e⟩ := jwi_of hk h0
  subst e
  exact ⟨j, (nI_leI (by decide) (by omega)).mp h.1, hj, rfl⟩
theorem jfo_k {k : Nat} (h : k = 0 ∨ k = 4 ∨ k = 5) : ¬ jfo (some k) = 0 := by rcases h with rfl | rfl | rfl <;> decide
theorem jlo_some {G : Nat → Nat → Int32} {s w : Int32} {k : Nat} (h : jlo G s w = some k) : k = 0 ∨ k = 4 ∨ k = 5 := by
  unfold jlo at h
  cases hk : jlk G s with
  | some q =>
    rw [hk] at h
    cases h
    unfold jlk at hk
    by_cases a : jwi s (nI 0) (nI 3) = true
    · rw [if_pos a] at hk
      by_cases b : G 11 s.toNatClampNeg = 0
      · rw [if_pos b] at hk; cases hk; omega
      · rw [if_neg b] at hk; cases hk
    · rw [if_neg a] at hk; cases hk; omega
  | none =>
    rw [hk] at h
    by_cases b : jwi w (nI 1) (nI 99) = true
    · by_cases c : jears (G 13) s.toNatClampNeg (jsz G s.toNatClampNeg / 2) = true
      · simp [b, c] at h
      · simp [b, c] at h; omega
    · simp [b] at h; omega
theorem jfd_7 {k : Nat} (h : k = 0 ∨ k = 4 ∨ k = 5) : k < 7 := by omega
section
variable {F : Nat → Int32} {G : Nat → Nat → Int32} {n : Nat}
theorem eX4_stands_n {s w : Int32} {k : Nat} (hS : jS G) (h : jlo G s w = some k) : Mx mX4_stands [.ref 0, .int s, .int w] (rM F G) (some (.int (jfd k))) (rMn F G k) := by
  refine mx_of (L := [some (.ref 0), some (.int s), some (.int w), none, none]) (by decide) (fun _ => rfl) (fun _ => Nat.le_of_ble_eq_true rfl) ?_
  have hk := jlo_some h
  have eL := eX4_lacksOf (F := F) (s := s) (w := w) hS
  rw [h] at eL
  refine fx_aload_n dX4_stands_0 rfl rfl ?_
  refine fx_iload_n dX4_stands_1 rfl rfl ?_
  refine fx_iload_n dX4_stands_2 rfl rfl ?_
  refine fx_callVv dX4_stands_3 vX4_lacksOf lX4_227 (by decide) rfl (Nat.le_of_ble_eq_true rfl) eL rfl ?_
  refine fx_if_eq (tgt := 20) dX4_stands_6 (by decide) rfl (fun hc6 => ?_) (fun hc6 => ?_)
  · exact absurd hc6 (jfo_k hk)
  · refine fx_aload_n dX4_stands_9 rfl rfl ?_
    refine fx_aload_n dX4_stands_10 rfl rfl ?_
    refine fx_iload_n dX4_stands_11 rfl rfl ?_
    refine fx_iload_n dX4_stands_12 rfl rfl ?_
    refine fx_callVv dX4_stands_13 vX4_lacksOf lX4_227 (by decide) rfl (Nat.le_of_ble_eq_true rfl) eL rfl ?_
    refine fx_callVv dX4_stands_16 vX4_finding lX4_88 (by decide) rfl (Nat.le_of_ble_eq_true rfl) (eX4_finding (jfd_7 hk) rfl) rfl ?_
    exact fx_ireq dX4_stands_19 rfl rfl rfl rfl
theorem eX4_stands_y {j : Nat} {w : Int32} (hS : jS G) (hj : j ≤ 3) (h : jlo G (nI j) w = none) : Mx mX4_stands [.ref 0, .int (nI j), .int w] (rM F G) (some (.int (nI (jcnS (fun c => jso (G 13) j w (nI c) (jsz G j / 2)) 64)))) (rM F G) := by
  refine mx_of (L := [some (.ref 0), some (.int (nI j)), some (.int w), none, none]) (by decide) (fun _ => rfl) (fun _ => Nat.le_of_ble_eq_true rfl) ?_
  have eL := eX4_lacksOf (F := F) (s := nI j) (w := w) hS
  rw [h] at eL
  generalize hst : (fun c => jso (G 13) j w (nI c) (jsz G j / 2)) = st
  have eI : ∀ c : Nat, Mx mX4_isSo [.ref 0, .int (nI j), .int w, .int (nI c)] (rM F G) (some (.int (jB (st c)))) (rM F G) := fun c => by rw [← hst]; exact eX4_isSo hS (by omega)
  have H : ∀ (k c : Nat), c + k = 64 → Fx mX4_stands (some (.int (nI (jcnS st 64))), rM F G) 25 [some (.ref 0), some (.int (nI j)), some (.int w), some (.int (nI (jcnS st c))), some (.int (nI c))] [] (rM F G) := by
    intro k
    induction k with
    | zero =>
      intro c hc
      have hc' : c = 64 := by omega
      subst hc'
      refine fx_iload dX4_stands_25 rfl ?_
      refine fx_bipush (v := nI 64) dX4_stands_27 (by decide) ?_
      refine fx_icmp_ge (tgt := 57) dX4_stands_29 (by decide) rfl (fun hc29 => ?_) (fun hc29 => ?_)
      · refine fx_iload_n dX4_stands_57 rfl rfl ?_
        exact fx_ireq dX4_stands_58 rfl rfl rfl rfl
      · exact absurd (Int32.le_refl _) hc29
    | succ k ih =>
      intro c hc
      have ih1 := ih (c + 1) (by omega)
      have e1 : jcnS st (c + 1) = jcnS st c + (if st c = true then 1 else 0) := rfl
      rw [e1] at ih1
      refine fx_iload dX4_stands_25 rfl ?_
      refine fx_bipush (v := nI 64) dX4_stands_27 (by decide) ?_
      refine fx_icmp_ge (tgt := 57) dX4_stands_29 (by decide) rfl (fun hc29 => ?_) (fun hc29 => ?_)
      · exact absurd hc29 (nI_ge (by omega) (by omega))
      · refine fx_iload_n dX4_stands_32 rfl rfl ?_
        refine fx_aload_n dX4_stands_33 rfl rfl ?_
        refine fx_iload_n dX4_stands_34 rfl rfl ?_
        refine fx_iload_n dX4_stands_35 rfl rfl ?_
        refine fx_iload dX4_stands_36 rfl ?_
        refine fx_callVv dX4_stands_38 vX4_isSo lX4_230 (by decide) rfl (Nat.le_of_ble_eq_true rfl) (eI _) rfl ?_
        refine fx_if_eq (tgt := 48) dX4_stands_41 (by decide) rfl (fun hc41 => ?_) (fun hc41 => ?_)
        · refine fx_iconst (v := nI 0) dX4_stands_48 (by decide) ?_
          refine fx_iadd dX4_stands_49 ?_
          rw [nI_add]
          refine fs_istore_n_3 dX4_stands_50 rfl (by decide) ?_
          refine fs_iinc_4 (w := nI 1) dX4_stands_51 (by decide) rfl (by decide) ?_
          refine fx_goto (tgt := 25) dX4_stands_54 (by decide) ?_
          rw [nI_add]
          first | (rw [if_pos (nI_ne0' hc41)] at ih1; exact ih1) | (rw [if_neg (fun q => by rw [nI_eq0' hc41] at q; exact absurd q (by decide))] at ih1; exact ih1)
        · refine fx_iconst (v := nI 1) dX4_stands_44 (by decide) ?_
          refine fx_goto (tgt := 49) dX4_stands_45 (by decide) ?_
          refine fx_iadd dX4_stands_49 ?_
          rw [nI_add]
          refine fs_istore_n_3 dX4_stands_50 rfl (by decide) ?_
          refine fs_iinc_4 (w := nI 1) dX4_stands_51 (by decide) rfl (by decide) ?_
          refine fx_goto (tgt := 25) dX4_stands_54 (by decide) ?_
          rw [nI_add]
          first | (rw [if_pos (nI_ne0' hc41)] at ih1; exact ih1) | (rw [if_neg (fun q => by rw [nI_eq0' hc41] at q; exact absurd q (by decide))] at ih1; exact ih1)
  refine fx_aload_n dX4_stands_0 rfl rfl ?_
  refine fx_iload_n dX4_stands_1 rfl rfl ?_
  refine fx_iload_n dX4_stands_2 rfl rfl ?_
  refine fx_callVv dX4_stands_3 vX4_lacksOf lX4_227 (by decide) rfl (Nat.le_of_ble_eq_true rfl) eL rfl ?_
  refine fx_if_eq (tgt := 20) dX4_stands_6 (by decide) rfl (fun hc6 => ?_) (fun hc6 => ?_)
  · refine fx_iconst (v := nI 0) dX4_stands_20 (by decide) ?_
    refine fs_istore_n_3 dX4_stands_21 rfl (by decide) ?_
    refine fx_iconst (v := nI 0) dX4_stands_22 (by decide) ?_
    refine fs_istore_4 dX4_stands_23 rfl (by decide) ?_
    exact H 64 0 (by omega)
  · exact absurd rfl hc6
theorem eX4_where_n {s w : Int32} {k : Nat} (hS : jS G) (h : jlo G s w = some k) : Mx mX4_where [.ref 0, .int s, .int w] (rM F G) (some (.int (jfd k))) (rMn F G k) := by
  refine mx_of (L := [some (.ref 0), some (.int s), some (.int w), none]) (by decide) (fun _ => rfl) (fun _ => Nat.le_of_ble_eq_true rfl) ?_
  have hk := jlo_some h
  have eL := eX4_lacksOf (F := F) (s := s) (w := w) hS
  rw [h] at eL
  refine fx_aload_n dX4_where_0 rfl rfl ?_
  refine fx_iload_n dX4_where_1 rfl rfl ?_
  refine fx_iload_n dX4_where_2 rfl rfl ?_
  refine fx_callVv dX4_where_3 vX4_lacksOf lX4_227 (by decide) rfl (Nat.le_of_ble_eq_true rfl) eL rfl ?_
  refine fx_if_eq (tgt := 20) dX4_where_6 (by decide) rfl (fun hc6 => ?_) (fun hc6 => ?_)
  · exact absurd hc6 (jfo_k hk)
  · refine fx_aload_n dX4_where_9 rfl rfl ?_
    refine fx_aload_n dX4_where_10 rfl rfl ?_
    refine fx_iload_n dX4_where_11 rfl rfl ?_
    refine fx_iload_n dX4_where_12 rfl rfl ?_
    refine fx_callVv dX4_where_13 vX4_lacksOf lX4_227 (by decide) rfl (Nat.le_of_ble_eq_true rfl) eL rfl ?_
    refine fx_callVv dX4_where_16 vX4_finding lX4_88 (by decide) rfl (Nat.le_of_ble_eq_true rfl) (eX4_finding (jfd_7 hk) rfl) rfl ?_
    exact fx_ireq dX4_where_19 rfl rfl rfl rfl
theorem eX4_where_y {j r : Nat} {w : Int32} (hS : jS G) (hj : j ≤ 3) (h : jlo G (nI j) w = none) (hr : jfst (fun c => jso (G 13) j w (nI c) (jsz G j / 2)) 0 64 = r) : Mx mX4_where [.ref 0, .int (nI j), .int w] (rM F G) (some (.int (if r = 64 then jfd 3 else nI r))) (if r = 64 then rMn F G 3 else rM F G) := by
  refine mx_of (L := [some (.ref 0), some (.int (nI j)), some (.int w), none]) (by decide) (fun _ => rfl) (fun _ => Nat.le_of_ble_eq_true rfl) ?_
  have eL := eX4_lacksOf (F := F) (s := nI j) (w := w) hS
  rw [h] at eL
  generalize hst : (fun c => jso (G 13) j w (nI c) (jsz G j / 2)) = st at hr
  have eI : ∀ c : Nat, Mx mX4_isSo [.ref 0, .int (nI j), .int w, .int (nI c)] (rM F G) (some (.int (jB (st c)))) (rM F G) := fun c => by rw [← hst]; exact eX4_isSo hS (by omega)
  generalize hout : (some (Value.int (if r = 64 then jfd 3 else nI r)), (if r = 64 then rMn F G 3 else rM F G)) = out
  have hl : (rM F G).length = out.2.length := by
    rw [← hout]
    by_cases h : r = 64
    · show _ = (if _ then _ else _ : zH).length
      rw [if_pos h]; rfl
    · show _ = (if _ then _ else _ : zH).length
      rw [if_neg h]
  have hr64 : r ≤ 64 := by have := jfst_le st 64 0; omega
  have J : Fx mX4_where out 44 [some (.ref 0), some (.int (nI j)), some (.int w), some (.int (nI r))] [] (rM F G) := by
    rw [← hout]
    by_cases h : r = 64
    · rw [if_pos h, if_pos h]
      subst h
      refine fx_iload_n dX4_where_44 rfl rfl ?_
      refine fx_bipush (v := nI 64) dX4_where_45 (by decide) ?_
      refine fx_icmp_ne (tgt := 59) dX4_where_47 (by decide) rfl (fun hc47 => ?_) (fun hc47 => ?_)
      · exact absurd rfl hc47
      · refine fx_aload_n dX4_where_50 rfl rfl ?_
        refine fx_ldc dX4_where_51 qX4_198 ?_
        refine fx_callVv dX4_where_53 vX4_finding lX4_88 (by decide) rfl (Nat.le_of_ble_eq_true rfl) (eX4_finding (k := 3) (by decide) (by decide)) rfl ?_
        refine fx_goto (tgt := 60) dX4_where_56 (by decide) ?_
        exact fx_ireq dX4_where_60 rfl rfl rfl rfl
    · rw [if_neg h, if_neg h]
      refine fx_iload_n dX4_where_44 rfl rfl ?_
      refine fx_bipush (v := nI 64) dX4_where_45 (by decide) ?_
      refine fx_icmp_ne (tgt := 59) dX4_where_47 (by decide) rfl (fun hc47 => ?_) (fun hc47 => ?_)
      · refine fx_iload_n dX4_where_59 rfl rfl ?_
        exact fx_ireq dX4_where_60 rfl rfl rfl rfl
      · exact absurd ((nI_eq (a := r) (b := 64) (by omega) (by decide)).mp hc47) h
  have H : ∀ (k c : Nat), c + k = 64 → jfst st c k = r → Fx mX4_where out 22 [some (.ref 0), some (.int (nI j)), some (.int w), some (.int (nI c))] [] (rM F G) := by
    intro k
    induction k with
    | zero =>
      intro c hc e
      have e' : c = r := e
      subst e'
      refine fx_iload_n dX4_where_22 rfl rfl ?_
      refine fx_bipush (v := nI 64) dX4_where_23 (by decide) ?_
      refine fx_icmp_ge (tgt := 44) dX4_where_25 (by decide) hl (fun hc25 => ?_) (fun hc25 => ?_)
      · exact J
      · exact absurd (nI_le (by omega) (by omega)) hc25
    | succ k ih =>
      intro c hc e
      unfold jfst at e
      by_cases hs : st c = true
      · rw [if_pos hs] at e
        subst e
        refine fx_iload_n dX4_where_22 rfl rfl ?_
        refine fx_bipush (v := nI 64) dX4_where_23 (by decide) ?_
        refine fx_icmp_ge (tgt := 44) dX4_where_25 (by decide) hl (fun hc25 => ?_) (fun hc25 => ?_)
        · exact absurd hc25 (nI_ge (by omega) (by omega))
        · refine fx_aload_n dX4_where_28 rfl rfl ?_
          refine fx_iload_n dX4_where_29 rfl rfl ?_
          refine fx_iload_n dX4_where_30 rfl rfl ?_
          refine fx_iload_n dX4_where_31 rfl rfl ?_
          refine fx_callVv dX4_where_32 vX4_isSo lX4_230 (by decide) rfl (Nat.le_of_ble_eq_true rfl) (eI _) rfl ?_
          rw [hs]
          refine fx_if_ne (tgt := 44) dX4_where_35 (by decide) hl (fun hc35 => ?_) (fun hc35 => ?_)
          · exact J
          · exact absurd hc35 (by decide)
      · rw [if_neg hs] at e
        have hs' := jnt_f hs
        refine fx_iload_n dX4_where_22 rfl rfl ?_
        refine fx_bipush (v := nI 64) dX4_where_23 (by decide) ?_
        refine fx_icmp_ge (tgt := 44) dX4_where_25 (by decide) hl (fun hc25 => ?_) (fun hc25 => ?_)
        · exact absurd hc25 (nI_ge (by omega) (by omega))
        · refine fx_aload_n dX4_where_28 rfl rfl ?_
          refine fx_iload_n dX4_where_29 rfl rfl ?_
          refine fx_iload_n dX4_where_30 rfl rfl ?_
          refine fx_iload_n dX4_where_31 rfl rfl ?_
          refine fx_callVv dX4_where_32 vX4_isSo lX4_230 (by decide) rfl (Nat.le_of_ble_eq_true rfl) (eI _) rfl ?_
          rw [hs']
          refine fx_if_ne (tgt := 44) dX4_where_35 (by decide) hl (fun hc35 => ?_) (fun hc35 => ?_)
          · exact absurd rfl hc35
          · refine fs_iinc_3 (w := nI 1) dX4_where_38 (by decide) rfl (by decide) ?_
            refine fx_goto (tgt := 22) dX4_where_41 (by decide) ?_
            rw [nI_add]
            exact ih (c + 1) (by omega) e
  have H0 := H 64 0 (by omega) hr
  refine fx_aload_n dX4_where_0 rfl rfl ?_
  refine fx_iload_n dX4_where_1 rfl rfl ?_
  refine fx_iload_n dX4_where_2 rfl rfl ?_
  refine fx_callVv dX4_where_3 vX4_lacksOf lX4_227 (by decide) rfl (Nat.le_of_ble_eq_true rfl) eL rfl ?_
  refine fx_if_eq (tgt := 20) dX4_where_6 (by decide) hl (fun hc6 => ?_) (fun hc6 => ?_)
  · refine fx_iconst (v := nI 0) dX4_where_20 (by decide) ?_
    refine fs_istore_n_3 dX4_where_21 rfl (by decide) ?_
    exact H0
  · exact absurd rfl hc6
theorem eX4_ear_n {s w : Int32} {k : Nat} (hS : jS G) (h : jlo G s w = some k) : Mx mX4_ear [.ref 0, .int s, .int w] (rM F G) (some (.int (jfd k))) (rMn F G k) := by
  refine mx_of (L := [some (.ref 0), some (.int s), some (.int w), none, none, none, none]) (by decide) (fun _ => rfl) (fun _ => Nat.le_of_ble_eq_true rfl) ?_
  have hk := jlo_some h
  have eL := eX4_lacksOf (F := F) (s := s) (w := w) hS
  rw [h] at eL
  refine fx_aload_n dX4_ear_0 rfl rfl ?_
  refine fx_iload_n dX4_ear_1 rfl rfl ?_
  refine fx_iload_n dX4_ear_2 rfl rfl ?_
  refine fx_callVv dX4_ear_3 vX4_lacksOf lX4_227 (by decide) rfl (Nat.le_of_ble_eq_true rfl) eL rfl ?_
  refine fx_if_eq (tgt := 20) dX4_ear_6 (by decide) rfl (fun hc6 => ?_) (fun hc6 => ?_)
  · exact absurd hc6 (jfo_k hk)
  · refine fx_aload_n dX4_ear_9 rfl rfl ?_
    refine fx_aload_n dX4_ear_10 rfl rfl ?_
    refine fx_iload_n dX4_ear_11 rfl rfl ?_
    refine fx_iload_n dX4_ear_12 rfl rfl ?_
    refine fx_callVv dX4_ear_13 vX4_lacksOf lX4_227 (by decide) rfl (Nat.le_of_ble_eq_true rfl) eL rfl ?_
    refine fx_callVv dX4_ear_16 vX4_finding lX4_88 (by decide) rfl (Nat.le_of_ble_eq_true rfl) (eX4_finding (jfd_7 hk) rfl) rfl ?_
    exact fx_ireq dX4_ear_19 rfl rfl rfl rfl
theorem eX4_ear_y {j w a b : Nat} (hS : jS G) (hj : j ≤ 3) (hw : w ≤ 99) (h : jlo G (nI j) (nI w) = none) (hr : jer (fun e => jwo (fun c => jso (G 13) j (nI w) (nI c) (jsz G j / 2)) (fun c => jloN w c e) 64) 64 = (a, b)) : ∃ P : Nat → Int32, Mx mX4_ear [.ref 0, .int (nI j), .int (nI w)] (rM F G) (some (.int (if b = 0 then jfd 3 else nI a))) (if b = 0 then rM F (ga (ga G 7 P) 4 (jfc (G 4) 3)) else rM F (ga G 7 P)) := by
  have eL := eX4_lacksOf (F := F) (s := nI j) (w := nI w) hS
  rw [h] at eL
  generalize hg : (fun e => jwo (fun c => jso (G 13) j (nI w) (nI c) (jsz G j / 2)) (fun c => jloN w c e) 64) = g at hr
  have hg64 : ∀ e, g e ≤ 64 := fun e => by rw [← hg]; exact jwo_le _ _ 64
  have hlen : ∀ P : Nat → Int32, (if b = 0 then rM F (ga (ga G 7 P) 4 (jfc (G 4) 3)) else rM F (ga G 7 P) : zH).length = 15 := by
    intro P
    by_cases h : b = 0
    · rw [if_pos h]; rfl
    · rw [if_neg h]; rfl
  have hb : b ≤ 1000000 := by have := (jer_lt g 64).2; rw [hr] at this; exact this
  have eW : ∀ (P : Nat → Int32) (e : Nat), e < 64 → ∃ P', Mx mX4_worst [.ref 0, .int (nI j), .int (nI w), .int (nI e)] (rM F (ga G 7 P)) (some (.int (nI (g e)))) (rM F (ga G 7 P')) := by
    intro P e he
    have := eX4_worst (F := F) (G := ga G 7 P) (s := j) (w := w) (e := e) (fun q hq => by rw [ga_n _ _ (by decide), ga_n _ _ (by decide)]; exact hS q hq) (by omega) hw he
    unfold jsz at this
    rw [ga_n _ _ (show (13 : Nat) ≠ 7 by decide), ga_n _ _ (show (12 : Nat) ≠ 7 by decide), ga_ga] at this
    rw [← hg]
    exact ⟨_, this⟩
  have H : ∀ (k c : Nat), c + k = 64 → ∀ (P : Nat → Int32) (x6 : Option Value), ∃ P' : Nat → Int32, Fx mX4_ear (some (.int (if b = 0 then jfd 3 else nI a)), (if b = 0 then rM F (ga (ga G 7 P') 4 (jfc (G 4) 3)) else rM F (ga G 7 P'))) 29 [some (.ref 0), some (.int (nI j)), some (.int (nI w)), some (.int (nI (jer g c).1)), some (.int (nI (jer g c).2)), some (.int (nI c)), x6] [] (rM F (ga G 7 P)) := by
    intro k
    induction k with
    | zero =>
      intro c hc P x6
      have hc' : c = 64 := by omega
      refine ⟨P, ?_⟩
      rw [hc', hr]
      by_cases h : b = 0
      · rw [if_pos h, if_pos h]
        subst h
        have eF := eX4_finding (F := F) (G := ga G 7 P) (k := 3) (w := (-1000004)) (by decide) (by decide)
        rw [ga_n _ _ (show (4 : Nat) ≠ 7 by decide)] at eF
        refine fx_iload dX4_ear_29 rfl ?_
        refine fx_bipush (v := nI 64) dX4_ear_31 (by decide) ?_
        refine fx_icmp_ge (tgt := 75) dX4_ear_33 (by decide) rfl (fun hc33 => ?_) (fun hc33 => ?_)
        · refine fx_iload dX4_ear_75 rfl ?_
          refine fx_if_ne (tgt := 89) dX4_ear_77 (by decide) rfl (fun hc77 => ?_) (fun hc77 => ?_)
          · exact absurd (show nI 0 = 0 by decide) hc77
          · refine fx_aload_n dX4_ear_80 rfl rfl ?_
            refine fx_ldc dX4_ear_81 qX4_198 ?_
            refine fx_callVv dX4_ear_83 vX4_finding lX4_88 (by decide) rfl (Nat.le_of_ble_eq_true rfl) eF rfl ?_
            refine fx_goto (tgt := 90) dX4_ear_86 (by decide) ?_
            exact fx_ireq dX4_ear_90 rfl rfl rfl rfl
        · exact absurd (Int32.le_refl _) hc33
      · rw [if_neg h, if_neg h]
        refine fx_iload dX4_ear_29 rfl ?_
        refine fx_bipush (v := nI 64) dX4_ear_31 (by decide) ?_
        refine fx_icmp_ge (tgt := 75) dX4_ear_33 (by decide) rfl (fun hc33 => ?_) (fun hc33 => ?_)
        · refine fx_iload dX4_ear_75 rfl ?_
          refine fx_if_ne (tgt := 89) dX4_ear_77 (by decide) rfl (fun hc77 => ?_) (fun hc77 => ?_)
          · refine fx_iload_n dX4_ear_89 rfl rfl ?_
            exact fx_ireq dX4_ear_90 rfl rfl rfl rfl
          · exact absurd (nI_eq0 (by omega) hc77) h
        · exact absurd (Int32.le_refl _) hc33
    | succ k ih =>
      intro c hc P x6
      obtain ⟨P1, e1⟩ := eW P c (by omega)
      obtain ⟨P2, K⟩ := ih (c + 1) (by omega) P1 (some (.int (nI (g c))))
      refine ⟨P2, ?_⟩
      have e2 : jer g (c + 1) = if g c < (jer g c).2 then (c, g c) else jer g c := rfl
      rw [e2] at K
      have h1 := (jer_lt g c).2
      have h2 := hg64 c
      have em : ∀ x : Nat, x = min (jer g c).2 (g c) → jmin (nI (jer g c).2) (nI (g c)) = nI x := fun x hx => by rw [hx]; exact jmin_n (by omega) (by omega)
      by_cases hlt : g c < (jer g c).2
      · rw [if_pos hlt] at K
        refine fx_iload dX4_ear_29 rfl ?_
        refine fx_bipush (v := nI 64) dX4_ear_31 (by decide) ?_
        refine fx_icmp_ge (tgt := 75) dX4_ear_33 (by decide) (hlen _).symm (fun hc33 => ?_) (fun hc33 => ?_)
        · exact absurd hc33 (nI_ge (by omega) (by omega))
        · refine fx_aload_n dX4_ear_36 rfl rfl ?_
          refine fx_iload_n dX4_ear_37 rfl rfl ?_
          refine fx_iload_n dX4_ear_38 rfl rfl ?_
          refine fx_iload dX4_ear_39 rfl ?_
          refine fx_callVv dX4_ear_41 vX4_worst lX4_233 (by decide) rfl (Nat.le_of_ble_eq_true rfl) e1 rfl ?_
          refine fs_istore_6 dX4_ear_44 rfl (by decide) ?_
          refine fx_iload dX4_ear_46 rfl ?_
          refine fx_iload dX4_ear_48 rfl ?_
          refine fx_icmp_ge (tgt := 58) dX4_ear_50 (by decide) (hlen _).symm (fun hc50 => ?_) (fun hc50 => ?_)
          · exact absurd hc50 (nI_ge hlt (by omega))
          · refine fx_iload dX4_ear_53 rfl ?_
            refine fx_goto (tgt := 59) dX4_ear_55 (by decide) ?_
            refine fs_istore_n_3 dX4_ear_59 rfl (by decide) ?_
            refine fx_iload dX4_ear_60 rfl ?_
            refine fx_iload dX4_ear_62 rfl ?_
            refine fx_min dX4_ear_64 lX4_125 (by decide) (Nat.le_of_ble_eq_true rfl) ?_
            rw [em (g c) (by omega)]
            refine fs_istore_4 dX4_ear_67 rfl (by decide) ?_
            refine fs_iinc_5 (w := nI 1) dX4_ear_69 (by decide) rfl (by decide) ?_
            refine fx_goto (tgt := 29) dX4_ear_72 (by decide) ?_
            rw [nI_add]
            exact K
      · rw [if_neg hlt] at K
        refine fx_iload dX4_ear_29 rfl ?_
        refine fx_bipush (v := nI 64) dX4_ear_31 (by decide) ?_
        refine fx_icmp_ge (tgt := 75) dX4_ear_33 (by decide) (hlen _).symm (fun hc33 => ?_) (fun hc33 => ?_)
        · exact absurd hc33 (nI_ge (by omega) (by omega))
        · refine fx_aload_n dX4_ear_36 rfl rfl ?_
          refine fx_iload_n dX4_ear_37 rfl rfl ?_
          refine fx_iload_n dX4_ear_38 rfl rfl ?_
          refine fx_iload dX4_ear_39 rfl ?_
          refine fx_callVv dX4_ear_41 vX4_worst lX4_233 (by decide) rfl (Nat.le_of_ble_eq_true rfl) e1 rfl ?_
          refine fs_istore_6 dX4_ear_44 rfl (by decide) ?_
          refine fx_iload dX4_ear_46 rfl ?_
          refine fx_iload dX4_ear_48 rfl ?_
          refine fx_icmp_ge (tgt := 58) dX4_ear_50 (by decide) (hlen _).symm (fun hc50 => ?_) (fun hc50 => ?_)
          · refine fx_iload_n dX4_ear_58 rfl rfl ?_
            refine fs_istore_n_3 dX4_ear_59 rfl (by decide) ?_
            refine fx_iload dX4_ear_60 rfl ?_
            refine fx_iload dX4_ear_62 rfl ?_
            refine fx_min dX4_ear_64 lX4_125 (by decide) (Nat.le_of_ble_eq_true rfl) ?_
            rw [em (jer g c).2 (by omega)]
            refine fs_istore_4 dX4_ear_67 rfl (by decide) ?_
            refine fs_iinc_5 (w := nI 1) dX4_ear_69 (by decide) rfl (by decide) ?_
            refine fx_goto (tgt := 29) dX4_ear_72 (by decide) ?_
            rw [nI_add]
            exact K
          · exact absurd (nI_le (by omega) (by omega)) hc50
  obtain ⟨P', K⟩ := H 64 0 (by omega) (G 7) none
  rw [ga_id] at K
  refine ⟨P', mx_of (L := [some (.ref 0), some (.int (nI j)), some (.int (nI w)), none, none, none, none]) (by decide) (fun _ => rfl) (fun _ => Nat.le_of_ble_eq_true rfl) ?_⟩
  refine fx_aload_n dX4_ear_0 rfl rfl ?_
  refine fx_iload_n dX4_ear_1 rfl rfl ?_
  refine fx_iload_n dX4_ear_2 rfl rfl ?_
  refine fx_callVv dX4_ear_3 vX4_lacksOf lX4_227 (by decide) rfl (Nat.le_of_ble_eq_true rfl) eL rfl ?_
  refine fx_if_eq (tgt := 20) dX4_ear_6 (by decide) (hlen _).symm (fun hc6 => ?_) (fun hc6 => ?_)
  · refine fx_iconst (v := nI 0) dX4_ear_20 (by decide) ?_
    refine fs_istore_n_3 dX4_ear_21 rfl (by decide) ?_
    refine fx_ldc dX4_ear_22 qX4_197 ?_
    refine fs_istore_4 dX4_ear_24 rfl (by decide) ?_
    refine fx_iconst (v := nI 0) dX4_ear_26 (by decide) ?_
    refine fs_istore_5 dX4_ear_27 rfl (by decide) ?_
    exact K
  · exact absurd rfl hc6
theorem eX4_whose_n {s : Int32} {k : Nat} (hS : jS G) (h : jlo G s (nI 1) = some k) : Mx mX4_whose [.ref 0, .int s] (rM F G) (some (.int (jfd k))) (rMn F G k) := by
  refine mx_of (L := [some (.ref 0), some (.int s), none, none]) (by decide) (fun _ => rfl) (fun _ => Nat.le_of_ble_eq_true rfl) ?_
  have hk := jlo_some h
  have eL := eX4_lacksOf (F := F) (s := s) (w := nI 1) hS
  rw [h] at eL
  refine fx_aload_n dX4_whose_0 rfl rfl ?_
  refine fx_iload_n dX4_whose_1 rfl rfl ?_
  refine fx_iconst (v := nI 1) dX4_whose_2 (by decide) ?_
  refine fx_callVv dX4_whose_3 vX4_lacksOf lX4_227 (by decide) rfl (Nat.le_of_ble_eq_true rfl) eL rfl ?_
  refine fx_if_eq (tgt := 20) dX4_whose_6 (by decide) rfl (fun hc6 => ?_) (fun hc6 => ?_)
  · exact absurd hc6 (jfo_k hk)
  · refine fx_aload_n dX4_whose_9 rfl rfl ?_
    refine fx_aload_n dX4_whose_10 rfl rfl ?_
    refine fx_iload_n dX4_whose_11 rfl rfl ?_
    refine fx_iconst (v := nI 1) dX4_whose_12 (by decide) ?_
    refine fx_callVv dX4_whose_13 vX4_lacksOf lX4_227 (by decide) rfl (Nat.le_of_ble_eq_true rfl) eL rfl ?_
    refine fx_callVv dX4_whose_16 vX4_finding lX4_88 (by decide) rfl (Nat.le_of_ble_eq_true rfl) (eX4_finding (jfd_7 hk) rfl) rfl ?_
    exact fx_ireq dX4_whose_19 rfl rfl rfl rfl
theorem eX4_whose_y {j : Nat} (hS : jS G) (hV : jW (G 1) n) (hj : j ≤ 3) (h : jlo G (nI j) (nI 1) = none) : Mx mX4_whose [.ref 0, .int (nI j)] (rM F G) (some (.int (nI (jwh (G 1) (fun w c => jso (G 13) j w c (jsz G j / 2)) n)))) (rM F G) := by
  refine mx_of (L := [some (.ref 0), some (.int (nI j)), none, none]) (by decide) (fun _ => rfl) (fun _ => Nat.le_of_ble_eq_true rfl) ?_
  have hn8 := hV.2.1
  have eL := eX4_lacksOf (F := F) (s := nI j) (w := nI 1) hS
  rw [h] at eL
  generalize hf : (fun w c => jso (G 13) j w c (jsz G j / 2)) = f
  have eI : ∀ w c : Int32, Mx mX4_isSo [.ref 0, .int (nI j), .int w, .int c] (rM F G) (some (.int (jB (f w c)))) (rM F G) := fun w c => by rw [← hf]; exact eX4_isSo hS (by omega)
  have H : ∀ (k b : Nat), b + k = n → Fx mX4_whose (some (.int (nI (jwh (G 1) f n))), rM F G) 24 [some (.ref 0), some (.int (nI j)), some (.int (nI (jwh (G 1) f b))), some (.int (nI b))] [] (rM F G) := by
    intro k
    induction k with
    | zero =>
      intro b hb
      have hb' : b = n := by omega
      subst hb'
      refine fx_iload_n dX4_whose_24 rfl rfl ?_
      refine fx_aload_n dX4_whose_25 rfl rfl ?_
      refine fx_get dX4_whose_26 kX4_9 rfl rfl ?_
      refine fx_iconst (v := nI 2) dX4_whose_29 (by decide) ?_
      refine fx_iald dX4_whose_30 rfl (vp_in_nI (by decide) (by decide)) ?_
      rw [nI_clamp (n := 2) (by decide), hV.1]
      refine fx_icmp_ge (tgt := 78) dX4_whose_31 (by decide) rfl (fun hc31 => ?_) (fun hc31 => ?_)
      · refine fx_iload_n dX4_whose_78 rfl rfl ?_
        exact fx_ireq dX4_whose_79 rfl rfl rfl rfl
      · exact absurd (Int32.le_refl _) hc31
    | succ k ih =>
      intro b hb
      have ih1 := ih (b + 1) (by omega)
      have e1 : jwh (G 1) f (b + 1) = jwh (G 1) f b ||| (if ¬ G 1 (146 + 5 * b + 4) = nI 1 ∧ f (G 1 (146 + 5 * b + 3)) (G 1 (146 + 5 * b + 1)) = true then 2 ^ b else 0) := rfl
      rw [e1] at ih1
      by_cases hc : G 1 (146 + 5 * b + 4) = nI 1
      · rw [if_neg (fun q => q.1 hc)] at ih1
        refine fx_iload_n dX4_whose_24 rfl rfl ?_
        refine fx_aload_n dX4_whose_25 rfl rfl ?_
        refine fx_get dX4_whose_26 kX4_9 rfl rfl ?_
        refine fx_iconst (v := nI 2) dX4_whose_29 (by decide) ?_
        refine fx_iald dX4_whose_30 rfl (vp_in_nI (by decide) (by decide)) ?_
        rw [nI_clamp (n := 2) (by decide), hV.1]
        refine fx_icmp_ge (tgt := 78) dX4_whose_31 (by decide) rfl (fun hc31 => ?_) (fun hc31 => ?_)
        · exact absurd hc31 (nI_ge (by omega) (by omega))
        · refine fx_iload_n dX4_whose_34 rfl rfl ?_
          refine fx_aload_n dX4_whose_35 rfl rfl ?_
          refine fx_iload_n dX4_whose_36 rfl rfl ?_
          refine fx_callVv dX4_whose_37 vX4_isCaught lX4_115 (by decide) rfl (Nat.le_of_ble_eq_true rfl) (eX4_isCaught (by omega)) rfl ?_
          rw [decide_eq_true hc]
          refine fx_if_ne (tgt := 69) dX4_whose_40 (by decide) rfl (fun hc40 => ?_) (fun hc40 => ?_)
          · refine fx_iconst (v := nI 0) dX4_whose_69 (by decide) ?_
            refine fx_ior dX4_whose_70 ?_
            rw [nI_or]
            refine fs_istore_n_2 dX4_whose_71 rfl (by decide) ?_
            refine fs_iinc_3 (w := nI 1) dX4_whose_72 (by decide) rfl (by decide) ?_
            refine fx_goto (tgt := 24) dX4_whose_75 (by decide) ?_
            rw [nI_add]
            exact ih1
          · exact absurd hc40 (by decide)
      · refine fx_iload_n dX4_whose_24 rfl rfl ?_
        refine fx_aload_n dX4_whose_25 rfl rfl ?_
        refine fx_get dX4_whose_26 kX4_9 rfl rfl ?_
        refine fx_iconst (v := nI 2) dX4_whose_29 (by decide) ?_
        refine fx_iald dX4_whose_30 rfl (vp_in_nI (by decide) (by decide)) ?_
        rw [nI_clamp (n := 2) (by decide), hV.1]
        refine fx_icmp_ge (tgt := 78) dX4_whose_31 (by decide) rfl (fun hc31 => ?_) (fun hc31 => ?_)
        · exact absurd hc31 (nI_ge (by omega) (by omega))
        · refine fx_iload_n dX4_whose_34 rfl rfl ?_
          refine fx_aload_n dX4_whose_35 rfl rfl ?_
          refine fx_iload_n dX4_whose_36 rfl rfl ?_
          refine fx_callVv dX4_whose_37 vX4_isCaught lX4_115 (by decide) rfl (Nat.le_of_ble_eq_true rfl) (eX4_isCaught (by omega)) rfl ?_
          rw [decide_eq_false hc]
          refine fx_if_ne (tgt := 69) dX4_whose_40 (by decide) rfl (fun hc40 => ?_) (fun hc40 => ?_)
          · exact absurd rfl hc40
          · refine fx_aload_n dX4_whose_43 rfl rfl ?_
            refine fx_iload_n dX4_whose_44 rfl rfl ?_
            refine fx_aload_n dX4_whose_45 rfl rfl ?_
            refine fx_iload_n dX4_whose_46 rfl rfl ?_
            refine fx_iconst (v := nI 3) dX4_whose_47 (by decide) ?_
            refine fx_callVv dX4_whose_48 vX4_bellIs lX4_101 (by decide) rfl (Nat.le_of_ble_eq_true rfl) (eM_bell (by omega) (by decide)) rfl ?_
            refine fx_aload_n dX4_whose_51 rfl rfl ?_
            refine fx_iload_n dX4_whose_52 rfl rfl ?_
            refine fx_iconst (v := nI 1) dX4_whose_53 (by decide) ?_
            refine fx_callVv dX4_whose_54 vX4_bellIs lX4_101 (by decide) rfl (Nat.le_of_ble_eq_true rfl) (eM_bell (by omega) (by decide)) rfl ?_
            refine fx_callVv dX4_whose_57 vX4_isSo lX4_230 (by decide) rfl (Nat.le_of_ble_eq_true rfl) (eI _ _) rfl ?_
            refine fx_if_eq (tgt := 69) dX4_whose_60 (by decide) rfl (fun hc60 => ?_) (fun hc60 => ?_)
            · refine fx_iconst (v := nI 0) dX4_whose_69 (by decide) ?_
              refine fx_ior dX4_whose_70 ?_
              rw [nI_or]
              refine fs_istore_n_2 dX4_whose_71 rfl (by decide) ?_
              refine fs_iinc_3 (w := nI 1) dX4_whose_72 (by decide) rfl (by decide) ?_
              refine fx_goto (tgt := 24) dX4_whose_75 (by decide) ?_
              rw [nI_add]
              first | (rw [if_pos ⟨hc, nI_ne0' hc60⟩] at ih1; exact ih1) | (rw [if_neg (fun q => by rw [nI_eq0' hc60] at q; exact absurd q.2 (by decide))] at ih1; exact ih1)
            · refine fx_iconst (v := nI 1) dX4_whose_63 (by decide) ?_
              refine fx_iload_n dX4_whose_64 rfl rfl ?_
              refine fx_ishl dX4_whose_65 ?_
              rw [nI_shl1 b (by omega)]
              refine fx_goto (tgt := 70) dX4_whose_66 (by decide) ?_
              refine fx_ior dX4_whose_70 ?_
              rw [nI_or]
              refine fs_istore_n_2 dX4_whose_71 rfl (by decide) ?_
              refine fs_iinc_3 (w := nI 1) dX4_whose_72 (by decide) rfl (by decide) ?_
              refine fx_goto (tgt := 24) dX4_whose_75 (by decide) ?_
              rw [nI_add]
              first | (rw [if_pos ⟨hc, nI_ne0' hc60⟩] at ih1; exact ih1) | (rw [if_neg (fun q => by rw [nI_eq0' hc60] at q; exact absurd q.2 (by decide))] at ih1; exact ih1)
  refine fx_aload_n dX4_whose_0 rfl rfl ?_
  refine fx_iload_n dX4_whose_1 rfl rfl ?_
  refine fx_iconst (v := nI 1) dX4_whose_2 (by decide) ?_
  refine fx_callVv dX4_whose_3 vX4_lacksOf lX4_227 (by decide) rfl (Nat.le_of_ble_eq_true rfl) eL rfl ?_
  refine fx_if_eq (tgt := 20) dX4_whose_6 (by decide) rfl (fun hc6 => ?_) (fun hc6 => ?_)
  · refine fx_iconst (v := nI 0) dX4_whose_20 (by decide) ?_
    refine fs_istore_n_2 dX4_whose_21 rfl (by decide) ?_
    refine fx_iconst (v := nI 0) dX4_whose_22 (by decide) ?_
    refine fs_istore_n_3 dX4_whose_23 rfl (by decide) ?_
    exact H n 0 (by omega)
  · exact absurd rfl hc6
end
