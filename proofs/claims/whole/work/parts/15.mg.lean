/-! ===== the reference: sounds, sheets, stocks ===== -/
set_option maxRecDepth 100000
def jloud (w a b : Int32) : Int32 := jmax (nI 0) (w - nI 3 * japart a b)
def jheard (V : Nat → Int32) (c : Nat) : Nat → Int32
  | 0 => nI 0
  | b + 1 => if V (146 + 5 * b + 4) = nI 1 then jheard V c b else jmax (jheard V c b) (jloud (V (146 + 5 * b + 3)) (V (146 + 5 * b + 1)) (nI c))
def jmany (V : Nat → Int32) (c : Nat) : Nat → Nat
  | 0 => 0
  | b + 1 => jmany V c b + (if V (146 + 5 * b + 1) = nI c then 1 else 0)
def jnets (V : Nat → Int32) : Nat → Nat
  | 0 => 0
  | c + 1 => jnets V c + (if V (18 + c) = nI 1 then 1 else 0)
def jcw (V : Nat → Int32) : Nat → Int32
  | 0 => nI 0
  | b + 1 => jcw V b + (if V (146 + 5 * b + 4) = nI 1 then V (146 + 5 * b + 3) else nI 0)
def jaw (V : Nat → Int32) : Nat → Int32
  | 0 => nI 0
  | b + 1 => jaw V b + V (146 + 5 * b + 3)
/-- sheets: widths, sizes -/
def jS (G : Nat → Nat → Int32) : Prop := ∀ s, s < 4 → (G 11 s = nI 0 ∨ G 11 s = nI 8 ∨ G 11 s = nI 16 ∨ G 11 s = nI 32) ∧ ∃ z, z ≤ 40 ∧ G 12 s = nI z
def jsz (G : Nat → Nat → Int32) (s : Nat) : Nat := (G 12 s).toNatClampNeg
theorem jsz_e {G : Nat → Nat → Int32} (h : jS G) {s : Nat} (hs : s < 4) : G 12 s = nI (jsz G s) ∧ jsz G s ≤ 40 := by
  obtain ⟨-, z, hz, e⟩ := h s hs
  unfold jsz
  rw [e, nI_clamp (by omega)]
  exact ⟨rfl, hz⟩
def jears (a : Nat → Int32) (s : Nat) : Nat → Bool
  | 0 => true
  | k + 1 => jears a s k && jwi (a (40 * s + 2 * k)) (nI 0) (nI 63)
def jso (a : Nat → Int32) (s : Nat) (w c : Int32) : Nat → Bool
  | 0 => true
  | k + 1 => jso a s w c k && decide (jloud w c (a (40 * s + 2 * k)) = a (40 * s + 2 * k + 1))
/-- what is wrong with an asking: the number of its finding -/
def jlk (G : Nat → Nat → Int32) (s : Int32) : Option Nat := if jwi s (nI 0) (nI 3) = true then (if G 11 s.toNatClampNeg = 0 then some 5 else none) else some 0
def jlo (G : Nat → Nat → Int32) (s w : Int32) : Option Nat := match jlk G s with
  | some k => some k
  | none => if jwi w (nI 1) (nI 99) = true then (if jears (G 13) s.toNatClampNeg (jsz G s.toNatClampNeg / 2) = true then none else some 4) else some 0
def jfo (o : Option Nat) : Int32 := match o with
  | some k => jfd k
  | none => nI 0
theorem jfd_0 : jfd 0 = (-1000001) := by decide
theorem jfd_5 : jfd 5 = (-1000006) := by decide
theorem jfd_4 : jfd 4 = (-1000005) := by decide
theorem jwi_of {v : Int32} {k : Nat} (hk : k < 2 ^ 31) (h : jwi v (nI 0) (nI k) = true) : ∃ j, j ≤ k ∧ v = nI j := by
  unfold jwi at h
  simp only [Bool.and_eq_true, decide_eq_true_eq] at h
  obtain ⟨h1, h2⟩ := h
  have h3 : ¬ v < 0 := by rw [← nI_0]; exact Int32.not_lt.mpr h1
  exact nI_of2 (M := nI k) (by rw [nI_toInt hk]) h3 h2
theorem jwi_n {j k : Nat} (hj : j ≤ k) (hk : k < 2 ^ 31) : jwi (nI j) (nI 0) (nI k) = true := by
  unfold jwi
  rw [decide_eq_true (nI_le (Nat.zero_le j) (by omega)), decide_eq_true (nI_le hj hk)]
  rfl
theorem jmin_n {a b : Nat} (ha : a < 2 ^ 31) (hb : b < 2 ^ 31) : jmin (nI a) (nI b) = nI (min a b) := by
  unfold jmin
  by_cases e : b < a
  · rw [if_pos (nI_lt e ha), Nat.min_eq_right (by omega)]
  · rw [if_neg (nI_nlt (by omega) hb), Nat.min_eq_left (by omega)]
theorem jmax_n {a b : Nat} (ha : a < 2 ^ 31) (hb : b < 2 ^ 31) : jmax (nI a) (nI b) = nI (max a b) := by
  unfold jmax
  by_cases e : a < b
  · rw [if_pos (nI_lt e hb), Nat.max_eq_right (by omega)]
  · rw [if_neg (nI_nlt (by omega) ha), Nat.max_eq_left (by omega)]
/-- a stock behind y years -/
def jstk (n c : Nat) : Nat → Nat
  | 0 => n
  | y + 1 => min 9999 ((jstk n c y - min c (jstk n c y)) + (jstk n c y - min c (jstk n c y)) / 10)
theorem jstk_le {n c : Nat} (hn : n ≤ 9999) : ∀ y, jstk n c y ≤ 9999 := by
  intro y
  cases y with
  | zero => exact hn
  | succ y => exact Nat.min_le_left _ _
section
variable {F : Nat → Int32} {G : Nat → Nat → Int32} {n : Nat}
theorem eX4_loudOf {w a b : Int32} : Mx mX4_loudOf [.ref 0, .int w, .int a, .int b] (rM F G) (some (.int (jloud w a b))) (rM F G) := by
  refine mx_of (L := [some (.ref 0), some (.int w), some (.int a), some (.int b)]) (by decide) (fun _ => rfl) (fun _ => Nat.le_of_ble_eq_true rfl) ?_
  refine fx_iconst (v := nI 0) dX4_loudOf_0 (by decide) ?_
  refine fx_iload_n dX4_loudOf_1 rfl rfl ?_
  refine fx_iconst (v := nI 3) dX4_loudOf_2 (by decide) ?_
  refine fx_iload_n dX4_loudOf_3 rfl rfl ?_
  refine fx_iload_n dX4_loudOf_4 rfl rfl ?_
  refine fx_callSv dX4_loudOf_5 sX4_apart lX4_122 (by decide) (Nat.le_of_ble_eq_true rfl) eX4_apart rfl ?_
  refine fx_imul dX4_loudOf_8 ?_
  refine fx_isub dX4_loudOf_9 ?_
  refine fx_max dX4_loudOf_10 lX4_132 (by decide) (Nat.le_of_ble_eq_true rfl) ?_
  exact fx_ireq dX4_loudOf_13 rfl rfl rfl rfl
theorem eX4_loudAt {b : Nat} {c : Int32} (hb : b < 8) : Mx mX4_loudAt [.ref 0, .int (nI b), .int c] (rM F G) (some (.int (jloud (G 1 (146 + 5 * b + 3)) (G 1 (146 + 5 * b + 1)) c))) (rM F G) := by
  refine mx_of (L := [some (.ref 0), some (.int (nI b)), some (.int c)]) (by decide) (fun _ => rfl) (fun _ => Nat.le_of_ble_eq_true rfl) ?_
  refine fx_aload_n dX4_loudAt_0 rfl rfl ?_
  refine fx_aload_n dX4_loudAt_1 rfl rfl ?_
  refine fx_iload_n dX4_loudAt_2 rfl rfl ?_
  refine fx_iconst (v := nI 3) dX4_loudAt_3 (by decide) ?_
  refine fx_callVv dX4_loudAt_4 vX4_bellIs lX4_101 (by decide) rfl (Nat.le_of_ble_eq_true rfl) (eM_bell hb (by decide)) rfl ?_
  refine fx_aload_n dX4_loudAt_7 rfl rfl ?_
  refine fx_iload_n dX4_loudAt_8 rfl rfl ?_
  refine fx_iconst (v := nI 1) dX4_loudAt_9 (by decide) ?_
  refine fx_callVv dX4_loudAt_10 vX4_bellIs lX4_101 (by decide) rfl (Nat.le_of_ble_eq_true rfl) (eM_bell hb (by decide)) rfl ?_
  refine fx_iload_n dX4_loudAt_13 rfl rfl ?_
  refine fx_callVv dX4_loudAt_14 vX4_loudOf lX4_150 (by decide) rfl (Nat.le_of_ble_eq_true rfl) eX4_loudOf rfl ?_
  exact fx_ireq dX4_loudAt_17 rfl rfl rfl rfl
theorem eX4_heardAt {c : Nat} (hV : jW (G 1) n) : Mx mX4_heardAt [.ref 0, .int (nI c)] (rM F G) (some (.int (jheard (G 1) c n))) (rM F G) := by
  refine mx_of (L := [some (.ref 0), some (.int (nI c)), none, none]) (by decide) (fun _ => rfl) (fun _ => Nat.le_of_ble_eq_true rfl) ?_
  have hn8 := hV.2.1
  have H : ∀ (k b : Nat), b + k = n → Fx mX4_heardAt (some (.int (jheard (G 1) c n)), rM F G) 4 [some (.ref 0), some (.int (nI c)), some (.int (jheard (G 1) c b)), some (.int (nI b))] [] (rM F G) := by
    intro k
    induction k with
    | zero =>
      intro b hb
      have hb' : b = n := by omega
      subst hb'
      refine fx_iload_n dX4_heardAt_4 rfl rfl ?_
      refine fx_aload_n dX4_heardAt_5 rfl rfl ?_
      refine fx_get dX4_heardAt_6 kX4_9 rfl rfl ?_
      refine fx_iconst (v := nI 2) dX4_heardAt_9 (by decide) ?_
      refine fx_iald dX4_heardAt_10 rfl (vp_in_nI (by decide) (by decide)) ?_
      rw [nI_clamp (n := 2) (by decide), hV.1]
      refine fx_icmp_ge (tgt := 43) dX4_heardAt_11 (by decide) rfl (fun hc11 => ?_) (fun hc11 => ?_)
      · refine fx_iload_n dX4_heardAt_43 rfl rfl ?_
        exact fx_ireq dX4_heardAt_44 rfl rfl rfl rfl
      · exact absurd (Int32.le_refl _) hc11
    | succ k ih =>
      intro b hb
      have ih1 := ih (b + 1) (by omega)
      have e1 : jheard (G 1) c (b + 1) = if G 1 (146 + 5 * b + 4) = nI 1 then jheard (G 1) c b else jmax (jheard (G 1) c b) (jloud (G 1 (146 + 5 * b + 3)) (G 1 (146 + 5 * b + 1)) (nI c)) := rfl
      by_cases hc : G 1 (146 + 5 * b + 4) = nI 1
      · rw [e1, if_pos hc] at ih1
        refine fx_iload_n dX4_heardAt_4 rfl rfl ?_
        refine fx_aload_n dX4_heardAt_5 rfl rfl ?_
        refine fx_get dX4_heardAt_6 kX4_9 rfl rfl ?_
        refine fx_iconst (v := nI 2) dX4_heardAt_9 (by decide) ?_
        refine fx_iald dX4_heardAt_10 rfl (vp_in_nI (by decide) (by decide)) ?_
        rw [nI_clamp (n := 2) (by decide), hV.1]
        refine fx_icmp_ge (tgt := 43) dX4_heardAt_11 (by decide) rfl (fun hc11 => ?_) (fun hc11 => ?_)
        · exact absurd hc11 (nI_ge (by omega) (by omega))
        · refine fx_aload_n dX4_heardAt_14 rfl rfl ?_
          refine fx_iload_n dX4_heardAt_15 rfl rfl ?_
          refine fx_callVv dX4_heardAt_16 vX4_isCaught lX4_115 (by decide) rfl (Nat.le_of_ble_eq_true rfl) (eX4_isCaught (by omega)) rfl ?_
          rw [decide_eq_true hc]
          refine fx_if_eq (tgt := 26) dX4_heardAt_19 (by decide) rfl (fun hc19 => ?_) (fun hc19 => ?_)
          · exact absurd hc19 (by decide)
          · refine fx_iload_n dX4_heardAt_22 rfl rfl ?_
            refine fx_goto (tgt := 36) dX4_heardAt_23 (by decide) ?_
            refine fs_istore_n_2 dX4_heardAt_36 rfl (by decide) ?_
            refine fs_iinc_3 (w := nI 1) dX4_heardAt_37 (by decide) rfl (by decide) ?_
            refine fx_goto (tgt := 4) dX4_heardAt_40 (by decide) ?_
            rw [nI_add]
            exact ih1
      · rw [e1, if_neg hc] at ih1
        refine fx_iload_n dX4_heardAt_4 rfl rfl ?_
        refine fx_aload_n dX4_heardAt_5 rfl rfl ?_
        refine fx_get dX4_heardAt_6 kX4_9 rfl rfl ?_
        refine fx_iconst (v := nI 2) dX4_heardAt_9 (by decide) ?_
        refine fx_iald dX4_heardAt_10 rfl (vp_in_nI (by decide) (by decide)) ?_
        rw [nI_clamp (n := 2) (by decide), hV.1]
        refine fx_icmp_ge (tgt := 43) dX4_heardAt_11 (by decide) rfl (fun hc11 => ?_) (fun hc11 => ?_)
        · exact absurd hc11 (nI_ge (by omega) (by omega))
        · refine fx_aload_n dX4_heardAt_14 rfl rfl ?_
          refine fx_iload_n dX4_heardAt_15 rfl rfl ?_
          refine fx_callVv dX4_heardAt_16 vX4_isCaught lX4_115 (by decide) rfl (Nat.le_of_ble_eq_true rfl) (eX4_isCaught (by omega)) rfl ?_
          rw [decide_eq_false hc]
          refine fx_if_eq (tgt := 26) dX4_heardAt_19 (by decide) rfl (fun hc19 => ?_) (fun hc19 => ?_)
          · refine fx_iload_n dX4_heardAt_26 rfl rfl ?_
            refine fx_aload_n dX4_heardAt_27 rfl rfl ?_
            refine fx_iload_n dX4_heardAt_28 rfl rfl ?_
            refine fx_iload_n dX4_heardAt_29 rfl rfl ?_
            refine fx_callVv dX4_heardAt_30 vX4_loudAt lX4_153 (by decide) rfl (Nat.le_of_ble_eq_true rfl) (eX4_loudAt (by omega)) rfl ?_
            refine fx_max dX4_heardAt_33 lX4_132 (by decide) (Nat.le_of_ble_eq_true rfl) ?_
            refine fs_istore_n_2 dX4_heardAt_36 rfl (by decide) ?_
            refine fs_iinc_3 (w := nI 1) dX4_heardAt_37 (by decide) rfl (by decide) ?_
            refine fx_goto (tgt := 4) dX4_heardAt_40 (by decide) ?_
            rw [nI_add]
            exact ih1
          · exact absurd rfl hc19
  refine fx_iconst (v := nI 0) dX4_heardAt_0 (by decide) ?_
  refine fs_istore_n_2 dX4_heardAt_1 rfl (by decide) ?_
  refine fx_iconst (v := nI 0) dX4_heardAt_2 (by decide) ?_
  refine fs_istore_n_3 dX4_heardAt_3 rfl (by decide) ?_
  exact H n 0 (by omega)
theorem eX4_manyAt {c : Nat} (hV : jW (G 1) n) : Mx mX4_manyAt [.ref 0, .int (nI c)] (rM F G) (some (.int (nI (jmany (G 1) c n)))) (rM F G) := by
  refine mx_of (L := [some (.ref 0), some (.int (nI c)), none, none]) (by decide) (fun _ => rfl) (fun _ => Nat.le_of_ble_eq_true rfl) ?_
  have hn8 := hV.2.1
  have H : ∀ (k b : Nat), b + k = n → Fx mX4_manyAt (some (.int (nI (jmany (G 1) c n))), rM F G) 4 [some (.ref 0), some (.int (nI c)), some (.int (nI (jmany (G 1) c b))), some (.int (nI b))] [] (rM F G) := by
    intro k
    induction k with
    | zero =>
      intro b hb
      have hb' : b = n := by omega
      subst hb'
      refine fx_iload_n dX4_manyAt_4 rfl rfl ?_
      refine fx_aload_n dX4_manyAt_5 rfl rfl ?_
      refine fx_get dX4_manyAt_6 kX4_9 rfl rfl ?_
      refine fx_iconst (v := nI 2) dX4_manyAt_9 (by decide) ?_
      refine fx_iald dX4_manyAt_10 rfl (vp_in_nI (by decide) (by decide)) ?_
      rw [nI_clamp (n := 2) (by decide), hV.1]
      refine fx_icmp_ge (tgt := 38) dX4_manyAt_11 (by decide) rfl (fun hc11 => ?_) (fun hc11 => ?_)
      · refine fx_iload_n dX4_manyAt_38 rfl rfl ?_
        exact fx_ireq dX4_manyAt_39 rfl rfl rfl rfl
      · exact absurd (Int32.le_refl _) hc11
    | succ k ih =>
      intro b hb
      have ih1 := ih (b + 1) (by omega)
      have e1 : jmany (G 1) c (b + 1) = jmany (G 1) c b + (if G 1 (146 + 5 * b + 1) = nI c then 1 else 0) := rfl
      refine fx_iload_n dX4_manyAt_4 rfl rfl ?_
      refine fx_aload_n dX4_manyAt_5 rfl rfl ?_
      refine fx_get dX4_manyAt_6 kX4_9 rfl rfl ?_
      refine fx_iconst (v := nI 2) dX4_manyAt_9 (by decide) ?_
      refine fx_iald dX4_manyAt_10 rfl (vp_in_nI (by decide) (by decide)) ?_
      rw [nI_clamp (n := 2) (by decide), hV.1]
      refine fx_icmp_ge (tgt := 38) dX4_manyAt_11 (by decide) rfl (fun hc11 => ?_) (fun hc11 => ?_)
      · exact absurd hc11 (nI_ge (by omega) (by omega))
      · refine fx_iload_n dX4_manyAt_14 rfl rfl ?_
        refine fx_aload_n dX4_manyAt_15 rfl rfl ?_
        refine fx_iload_n dX4_manyAt_16 rfl rfl ?_
        refine fx_iconst (v := nI 1) dX4_manyAt_17 (by decide) ?_
        refine fx_callVv dX4_manyAt_18 vX4_bellIs lX4_101 (by decide) rfl (Nat.le_of_ble_eq_true rfl) (eM_bell (by omega) (by decide)) rfl ?_
        refine fx_iload_n dX4_manyAt_21 rfl rfl ?_
        refine fx_icmp_ne (tgt := 29) dX4_manyAt_22 (by decide) rfl (fun hc22 => ?_) (fun hc22 => ?_)
        · refine fx_iconst (v := nI 0) dX4_manyAt_29 (by decide) ?_
          refine fx_iadd dX4_manyAt_30 ?_
          rw [nI_add]
          refine fs_istore_n_2 dX4_manyAt_31 rfl (by decide) ?_
          refine fs_iinc_3 (w := nI 1) dX4_manyAt_32 (by decide) rfl (by decide) ?_
          refine fx_goto (tgt := 4) dX4_manyAt_35 (by decide) ?_
          rw [nI_add]
          first | (rw [e1, if_pos hc22] at ih1; exact ih1) | (rw [e1, if_neg hc22] at ih1; exact ih1)
        · refine fx_iconst (v := nI 1) dX4_manyAt_25 (by decide) ?_
          refine fx_goto (tgt := 30) dX4_manyAt_26 (by decide) ?_
          refine fx_iadd dX4_manyAt_30 ?_
          rw [nI_add]
          refine fs_istore_n_2 dX4_manyAt_31 rfl (by decide) ?_
          refine fs_iinc_3 (w := nI 1) dX4_manyAt_32 (by decide) rfl (by decide) ?_
          refine fx_goto (tgt := 4) dX4_manyAt_35 (by decide) ?_
          rw [nI_add]
          first | (rw [e1, if_pos hc22] at ih1; exact ih1) | (rw [e1, if_neg hc22] at ih1; exact ih1)
  refine fx_iconst (v := nI 0) dX4_manyAt_0 (by decide) ?_
  refine fs_istore_n_2 dX4_manyAt_1 rfl (by decide) ?_
  refine fx_iconst (v := nI 0) dX4_manyAt_2 (by decide) ?_
  refine fs_istore_n_3 dX4_manyAt_3 rfl (by decide) ?_
  exact H n 0 (by omega)
theorem eX4_nets (hV : jW (G 1) n) : Mx mX4_nets [.ref 0] (rM F G) (some (.int (nI (jnets (G 1) 64)))) (rM F G) := by
  refine mx_of (L := [some (.ref 0), none, none]) (by decide) (fun _ => rfl) (fun _ => Nat.le_of_ble_eq_true rfl) ?_
  have H : ∀ (k c : Nat), c + k = 64 → Fx mX4_nets (some (.int (nI (jnets (G 1) 64))), rM F G) 4 [some (.ref 0), some (.int (nI (jnets (G 1) c))), some (.int (nI c))] [] (rM F G) := by
    intro k
    induction k with
    | zero =>
      intro c hc
      have hc' : c = 64 := by omega
      subst hc'
      refine fx_iload_n dX4_nets_4 rfl rfl ?_
      refine fx_bipush (v := nI 64) dX4_nets_5 (by decide) ?_
      refine fx_icmp_ge (tgt := 28) dX4_nets_7 (by decide) rfl (fun hc7 => ?_) (fun hc7 => ?_)
      · refine fx_iload_n dX4_nets_28 rfl rfl ?_
        exact fx_ireq dX4_nets_29 rfl rfl rfl rfl
      · exact absurd (Int32.le_refl _) hc7
    | succ k ih =>
      intro c hc
      have ih1 := ih (c + 1) (by omega)
      have e1 : jnets (G 1) (c + 1) = jnets (G 1) c + (if G 1 (18 + c) = nI 1 then 1 else 0) := rfl
      have e2 : G 1 (18 + c) = nI (if G 1 (18 + c) = nI 1 then 1 else 0) := by
        rcases hV.2.2.2.2.1 c (by omega) with e | e <;> rw [e] <;> rfl
      rw [e1] at ih1
      refine fx_iload_n dX4_nets_4 rfl rfl ?_
      refine fx_bipush (v := nI 64) dX4_nets_5 (by decide) ?_
      refine fx_icmp_ge (tgt := 28) dX4_nets_7 (by decide) rfl (fun hc7 => ?_) (fun hc7 => ?_)
      · exact absurd hc7 (nI_ge (by omega) (by omega))
      · refine fx_iload_n dX4_nets_10 rfl rfl ?_
        refine fx_aload_n dX4_nets_11 rfl rfl ?_
        refine fx_get dX4_nets_12 kX4_9 rfl rfl ?_
        refine fx_bipush (v := nI 18) dX4_nets_15 (by decide) ?_
        refine fx_iload_n dX4_nets_17 rfl rfl ?_
        refine fx_iadd dX4_nets_18 ?_
        rw [nI_add]
        refine fx_iald dX4_nets_19 rfl (vp_in_nI (by omega) (by omega)) ?_
        rw [nI_clamp (by omega), e2]
        refine fx_iadd dX4_nets_20 ?_
        rw [nI_add]
        refine fs_istore_n_1 dX4_nets_21 rfl (by decide) ?_
        refine fs_iinc_2 (w := nI 1) dX4_nets_22 (by decide) rfl (by decide) ?_
        refine fx_goto (tgt := 4) dX4_nets_25 (by decide) ?_
        rw [nI_add]
        exact ih1
  refine fx_iconst (v := nI 0) dX4_nets_0 (by decide) ?_
  refine fs_istore_n_1 dX4_nets_1 rfl (by decide) ?_
  refine fx_iconst (v := nI 0) dX4_nets_2 (by decide) ?_
  refine fs_istore_n_2 dX4_nets_3 rfl (by decide) ?_
  exact H 64 0 (by omega)
theorem eX4_caughtWeight (hV : jW (G 1) n) : Mx mX4_caughtWeight [.ref 0] (rM F G) (some (.int (jcw (G 1) n))) (rM F G) := by
  refine mx_of (L := [some (.ref 0), none, none]) (by decide) (fun _ => rfl) (fun _ => Nat.le_of_ble_eq_true rfl) ?_
  have hn8 := hV.2.1
  have H : ∀ (k b : Nat), b + k = n → Fx mX4_caughtWeight (some (.int (jcw (G 1) n)), rM F G) 4 [some (.ref 0), some (.int (jcw (G 1) b)), some (.int (nI b))] [] (rM F G) := by
    intro k
    induction k with
    | zero =>
      intro b hb
      have hb' : b = n := by omega
      subst hb'
      refine fx_iload_n dX4_caughtWeight_4 rfl rfl ?_
      refine fx_aload_n dX4_caughtWeight_5 rfl rfl ?_
      refine fx_get dX4_caughtWeight_6 kX4_9 rfl rfl ?_
      refine fx_iconst (v := nI 2) dX4_caughtWeight_9 (by decide) ?_
      refine fx_iald dX4_caughtWeight_10 rfl (vp_in_nI (by decide) (by decide)) ?_
      rw [nI_clamp (n := 2) (by decide), hV.1]
      refine fx_icmp_ge (tgt := 41) dX4_caughtWeight_11 (by decide) rfl (fun hc11 => ?_) (fun hc11 => ?_)
      · refine fx_iload_n dX4_caughtWeight_41 rfl rfl ?_
        exact fx_ireq dX4_caughtWeight_42 rfl rfl rfl rfl
      · exact absurd (Int32.le_refl _) hc11
    | succ k ih =>
      intro b hb
      have ih1 := ih (b + 1) (by omega)
      have e1 : jcw (G 1) (b + 1) = jcw (G 1) b + (if G 1 (146 + 5 * b + 4) = nI 1 then G 1 (146 + 5 * b + 3) else nI 0) := rfl
      by_cases hc : G 1 (146 + 5 * b + 4) = nI 1
      · rw [e1, if_pos hc] at ih1
        refine fx_iload_n dX4_caughtWeight_4 rfl rfl ?_
        refine fx_aload_n dX4_caughtWeight_5 rfl rfl ?_
        refine fx_get dX4_caughtWeight_6 kX4_9 rfl rfl ?_
        refine fx_iconst (v := nI 2) dX4_caughtWeight_9 (by decide) ?_
        refine fx_iald dX4_caughtWeight_10 rfl (vp_in_nI (by decide) (by decide)) ?_
        rw [nI_clamp (n := 2) (by decide), hV.1]
        refine fx_icmp_ge (tgt := 41) dX4_caughtWeight_11 (by decide) rfl (fun hc11 => ?_) (fun hc11 => ?_)
        · exact absurd hc11 (nI_ge (by omega) (by omega))
        · refine fx_iload_n dX4_caughtWeight_14 rfl rfl ?_
          refine fx_aload_n dX4_caughtWeight_15 rfl rfl ?_
          refine fx_iload_n dX4_caughtWeight_16 rfl rfl ?_
          refine fx_callVv dX4_caughtWeight_17 vX4_isCaught lX4_115 (by decide) rfl (Nat.le_of_ble_eq_true rfl) (eX4_isCaught (by omega)) rfl ?_
          rw [decide_eq_true hc]
          refine fx_if_eq (tgt := 32) dX4_caughtWeight_20 (by decide) rfl (fun hc20 => ?_) (fun hc20 => ?_)
          · exact absurd hc20 (by decide)
          · refine fx_aload_n dX4_caughtWeight_23 rfl rfl ?_
            refine fx_iload_n dX4_caughtWeight_24 rfl rfl ?_
            refine fx_iconst (v := nI 3) dX4_caughtWeight_25 (by decide) ?_
            refine fx_callVv dX4_caughtWeight_26 vX4_bellIs lX4_101 (by decide) rfl (Nat.le_of_ble_eq_true rfl) (eM_bell (by omega) (by decide)) rfl ?_
            refine fx_goto (tgt := 33) dX4_caughtWeight_29 (by decide) ?_
            refine fx_iadd dX4_caughtWeight_33 ?_
            refine fs_istore_n_1 dX4_caughtWeight_34 rfl (by decide) ?_
            refine fs_iinc_2 (w := nI 1) dX4_caughtWeight_35 (by decide) rfl (by decide) ?_
            refine fx_goto (tgt := 4) dX4_caughtWeight_38 (by decide) ?_
            rw [nI_add]
            exact ih1
      · rw [e1, if_neg hc] at ih1
        refine fx_iload_n dX4_caughtWeight_4 rfl rfl ?_
        refine fx_aload_n dX4_caughtWeight_5 rfl rfl ?_
        refine fx_get dX4_caughtWeight_6 kX4_9 rfl rfl ?_
        refine fx_iconst (v := nI 2) dX4_caughtWeight_9 (by decide) ?_
        refine fx_iald dX4_caughtWeight_10 rfl (vp_in_nI (by decide) (by decide)) ?_
        rw [nI_clamp (n := 2) (by decide), hV.1]
        refine fx_icmp_ge (tgt := 41) dX4_caughtWeight_11 (by decide) rfl (fun hc11 => ?_) (fun hc11 => ?_)
        · exact absurd hc11 (nI_ge (by omega) (by omega))
        · refine fx_iload_n dX4_caughtWeight_14 rfl rfl ?_
          refine fx_aload_n dX4_caughtWeight_15 rfl rfl ?_
          refine fx_iload_n dX4_caughtWeight_16 rfl rfl ?_
          refine fx_callVv dX4_caughtWeight_17 vX4_isCaught lX4_115 (by decide) rfl (Nat.le_of_ble_eq_true rfl) (eX4_isCaught (by omega)) rfl ?_
          rw [decide_eq_false hc]
          refine fx_if_eq (tgt := 32) dX4_caughtWeight_20 (by decide) rfl (fun hc20 => ?_) (fun hc20 => ?_)
          · refine fx_iconst (v := nI 0) dX4_caughtWeight_32 (by decide) ?_
            refine fx_iadd dX4_caughtWeight_33 ?_
            refine fs_istore_n_1 dX4_caughtWeight_34 rfl (by decide) ?_
            refine fs_iinc_2 (w := nI 1) dX4_caughtWeight_35 (by decide) rfl (by decide) ?_
            refine fx_goto (tgt := 4) dX4_caughtWeight_38 (by decide) ?_
            rw [nI_add]
            exact ih1
          · exact absurd rfl hc20
  refine fx_iconst (v := nI 0) dX4_caughtWeight_0 (by decide) ?_
  refine fs_istore_n_1 dX4_caughtWeight_1 rfl (by decide) ?_
  refine fx_iconst (v := nI 0) dX4_caughtWeight_2 (by decide) ?_
  refine fs_istore_n_2 dX4_caughtWeight_3 rfl (by decide) ?_
  exact H n 0 (by omega)
theorem eX4_earOf {s k : Nat} (hs : s < 4) (hk : k < 20) : Mx mX4_earOf [.ref 0, .int (nI s), .int (nI k)] (rM F G) (some (.int (G 13 (40 * s + 2 * k)))) (rM F G) := by
  refine mx_of (L := [some (.ref 0), some (.int (nI s)), some (.int (nI k))]) (by decide) (fun _ => rfl) (fun _ => Nat.le_of_ble_eq_true rfl) ?_
  refine fx_aload_n dX4_earOf_0 rfl rfl ?_
  refine fx_get dX4_earOf_1 kX4_63 rfl rfl ?_
  refine fx_bipush (v := nI 40) dX4_earOf_4 (by decide) ?_
  refine fx_iload_n dX4_earOf_6 rfl rfl ?_
  refine fx_imul dX4_earOf_7 ?_
  refine fx_iconst (v := nI 2) dX4_earOf_8 (by decide) ?_
  refine fx_iload_n dX4_earOf_9 rfl rfl ?_
  refine fx_imul dX4_earOf_10 ?_
  refine fx_iadd dX4_earOf_11 ?_
  rw [pk_mul, pk_mul, nI_add]
  refine fx_iald dX4_earOf_12 rfl (vp_in_nI (by omega) (by omega)) ?_
  rw [nI_clamp (by omega)]
  exact fx_ireq dX4_earOf_13 rfl rfl rfl rfl
theorem eX4_ears {s : Nat} (hS : jS G) (hs : s < 4) : Mx mX4_ears [.ref 0, .int (nI s)] (rM F G) (some (.int (nI (jsz G s / 2)))) (rM F G) := by
  refine mx_of (L := [some (.ref 0), some (.int (nI s))]) (by decide) (fun _ => rfl) (fun _ => Nat.le_of_ble_eq_true rfl) ?_
  obtain ⟨e1, e2⟩ := jsz_e hS hs
  refine fx_aload_n dX4_ears_0 rfl rfl ?_
  refine fx_get dX4_ears_1 kX4_60 rfl rfl ?_
  refine fx_iload_n dX4_ears_4 rfl rfl ?_
  refine fx_iald dX4_ears_5 rfl (vp_in_nI (by omega) (by omega)) ?_
  rw [nI_clamp (by omega), e1]
  refine fx_iconst (v := nI 2) dX4_ears_6 (by decide) ?_
  refine fx_idiv dX4_ears_7 (by decide) ?_
  exact fx_ireq dX4_ears_8 rfl rfl (pk_div (by omega) (by decide) (by decide)) rfl
theorem eX4_areEars {s : Nat} (hS : jS G) (hs : s < 4) : Mx mX4_areEars [.ref 0, .int (nI s)] (rM F G) (some (.int (jB (jears (G 13) s (jsz G s / 2))))) (rM F G) := by
  refine mx_of (L := [some (.ref 0), some (.int (nI s)), none, none]) (by decide) (fun _ => rfl) (fun _ => Nat.le_of_ble_eq_true rfl) ?_
  obtain ⟨-, hz⟩ := jsz_e hS hs
  generalize hm : jsz G s / 2 = m
  have hm20 : m ≤ 20 := by omega
  have eE := eX4_ears (F := F) hS hs
  rw [hm] at eE
  have H : ∀ (k i : Nat), i + k = m → Fx mX4_areEars (some (.int (jB (jears (G 13) s m))), rM F G) 4 [some (.ref 0), some (.int (nI s)), some (.int (jB (jears (G 13) s i))), some (.int (nI i))] [] (rM F G) := by
    intro k
    induction k with
    | zero =>
      intro i hi
      have hi' : i = m := by omega
      subst hi'
      refine fx_iload_n dX4_areEars_4 rfl rfl ?_
      refine fx_aload_n dX4_areEars_5 rfl rfl ?_
      refine fx_iload_n dX4_areEars_6 rfl rfl ?_
      refine fx_callVv dX4_areEars_7 vX4_ears lX4_215 (by decide) rfl (Nat.le_of_ble_eq_true rfl) eE rfl ?_
      refine fx_icmp_ge (tgt := 41) dX4_areEars_10 (by decide) rfl (fun hc10 => ?_) (fun hc10 => ?_)
      · refine fx_iload_n dX4_areEars_41 rfl rfl ?_
        exact fx_ireq dX4_areEars_42 rfl (jB_n _) rfl rfl
      · exact absurd (Int32.le_refl _) hc10
    | succ k ih =>
      intro i hi
      have ih1 := ih (i + 1) (by omega)
      have e1 : jears (G 13) s (i + 1) = (jears (G 13) s i && jwi (G 13 (40 * s + 2 * i)) (nI 0) (nI 63)) := rfl
      refine fx_iload_n dX4_areEars_4 rfl rfl ?_
      refine fx_aload_n dX4_areEars_5 rfl rfl ?_
      refine fx_iload_n dX4_areEars_6 rfl rfl ?_
      refine fx_callVv dX4_areEars_7 vX4_ears lX4_215 (by decide) rfl (Nat.le_of_ble_eq_true rfl) eE rfl ?_
      refine fx_icmp_ge (tgt := 41) dX4_areEars_10 (by decide) rfl (fun hc10 => ?_) (fun hc10 => ?_)
      · exact absurd hc10 (nI_ge (by omega) (by omega))
      · refine fx_iload_n dX4_areEars_13 rfl rfl ?_
        refine fx_if_eq (tgt := 33) dX4_areEars_14 (by decide) rfl (fun hc14 => ?_) (fun hc14 => ?_)
        · refine fx_iconst (v := nI 0) dX4_areEars_33 (by decide) ?_
          refine fs_istore_n_2 dX4_areEars_34 rfl (by decide) ?_
          refine fs_iinc_3 (w := nI 1) dX4_areEars_35 (by decide) rfl (by decide) ?_
          refine fx_goto (tgt := 4) dX4_areEars_38 (by decide) ?_
          rw [nI_add]
          first | (rw [e1, nI_ne0' hc14, nI_ne0' hc26] at ih1; exact ih1) | (rw [e1, nI_eq0' hc26, Bool.and_false] at ih1; exact ih1) | (rw [e1, nI_eq0' hc14, Bool.false_and] at ih1; exact ih1)
        · refine fx_aload_n dX4_areEars_17 rfl rfl ?_
          refine fx_iload_n dX4_areEars_18 rfl rfl ?_
          refine fx_iload_n dX4_areEars_19 rfl rfl ?_
          refine fx_callVv dX4_areEars_20 vX4_earOf lX4_218 (by decide) rfl (Nat.le_of_ble_eq_true rfl) (eX4_earOf hs (by omega)) rfl ?_
          refine fx_callSv dX4_areEars_23 sX4_isCell lX4_84 (by decide) (Nat.le_of_ble_eq_true rfl) eX4_isCell rfl ?_
          refine fx_if_eq (tgt := 33) dX4_areEars_26 (by decide) rfl (fun hc26 => ?_) (fun hc26 => ?_)
          · refine fx_iconst (v := nI 0) dX4_areEars_33 (by decide) ?_
            refine fs_istore_n_2 dX4_areEars_34 rfl (by decide) ?_
            refine fs_iinc_3 (w := nI 1) dX4_areEars_35 (by decide) rfl (by decide) ?_
            refine fx_goto (tgt := 4) dX4_areEars_38 (by decide) ?_
            rw [nI_add]
            first | (rw [e1, nI_ne0' hc14, nI_ne0' hc26] at ih1; exact ih1) | (rw [e1, nI_eq0' hc26, Bool.and_false] at ih1; exact ih1) | (rw [e1, nI_eq0' hc14, Bool.false_and] at ih1; exact ih1)
          · refine fx_iconst (v := nI 1) dX4_areEars_29 (by decide) ?_
            refine fx_goto (tgt := 34) dX4_areEars_30 (by decide) ?_
            refine fs_istore_n_2 dX4_areEars_34 rfl (by decide) ?_
            refine fs_iinc_3 (w := nI 1) dX4_areEars_35 (by decide) rfl (by decide) ?_
            refine fx_goto (tgt := 4) dX4_areEars_38 (by decide) ?_
            rw [nI_add]
            first | (rw [e1, nI_ne0' hc14, nI_ne0' hc26] at ih1; exact ih1) | (rw [e1, nI_eq0' hc26, Bool.and_false] at ih1; exact ih1) | (rw [e1, nI_eq0' hc14, Bool.false_and] at ih1; exact ih1)
  refine fx_iconst (v := nI 1) dX4_areEars_0 (by decide) ?_
  refine fs_istore_n_2 dX4_areEars_1 rfl (by decide) ?_
  refine fx_iconst (v := nI 0) dX4_areEars_2 (by decide) ?_
  refine fs_istore_n_3 dX4_areEars_3 rfl (by decide) ?_
  exact H m 0 (by omega)
theorem eX4_isSo {s : Nat} {w c : Int32} (hS : jS G) (hs : s < 4) : Mx mX4_isSo [.ref 0, .int (nI s), .int w, .int c] (rM F G) (some (.int (jB (jso (G 13) s w c (jsz G s / 2))))) (rM F G) := by
  refine mx_of (L := [some (.ref 0), some (.int (nI s)), some (.int w), some (.int c), none, none]) (by decide) (fun _ => rfl) (fun _ => Nat.le_of_ble_eq_true rfl) ?_
  obtain ⟨-, hz⟩ := jsz_e hS hs
  generalize hm : jsz G s / 2 = m
  have hm20 : m ≤ 20 := by omega
  have eE := eX4_ears (F := F) hS hs
  rw [hm] at eE
  have H : ∀ (k i : Nat), i + k = m → Fx mX4_isSo (some (.int (jB (jso (G 13) s w c m))), rM F G) 6 [some (.ref 0), some (.int (nI s)), some (.int w), some (.int c), some (.int (jB (jso (G 13) s w c i))), some (.int (nI i))] [] (rM F G) := by
    intro k
    induction k with
    | zero =>
      intro i hi
      have hi' : i = m := by omega
      subst hi'
      refine fx_iload dX4_isSo_6 rfl ?_
      refine fx_aload_n dX4_isSo_8 rfl rfl ?_
      refine fx_iload_n dX4_isSo_9 rfl rfl ?_
      refine fx_callVv dX4_isSo_10 vX4_ears lX4_215 (by decide) rfl (Nat.le_of_ble_eq_true rfl) eE rfl ?_
      refine fx_icmp_ge (tgt := 66) dX4_isSo_13 (by decide) rfl (fun hc13 => ?_) (fun hc13 => ?_)
      · refine fx_iload dX4_isSo_66 rfl ?_
        exact fx_ireq dX4_isSo_68 rfl (jB_n _) rfl rfl
      · exact absurd (Int32.le_refl _) hc13
    | succ k ih =>
      intro i hi
      have ih1 := ih (i + 1) (by omega)
      have e1 : jso (G 13) s w c (i + 1) = (jso (G 13) s w c i && decide (jloud w c (G 13 (40 * s + 2 * i)) = G 13 (40 * s + 2 * i + 1))) := rfl
      refine fx_iload dX4_isSo_6 rfl ?_
      refine fx_aload_n dX4_isSo_8 rfl rfl ?_
      refine fx_iload_n dX4_isSo_9 rfl rfl ?_
      refine fx_callVv dX4_isSo_10 vX4_ears lX4_215 (by decide) rfl (Nat.le_of_ble_eq_true rfl) eE rfl ?_
      refine fx_icmp_ge (tgt := 66) dX4_isSo_13 (by decide) rfl (fun hc13 => ?_) (fun hc13 => ?_)
      · exact absurd hc13 (nI_ge (by omega) (by omega))
      · refine fx_iload dX4_isSo_16 rfl ?_
        refine fx_if_eq (tgt := 57) dX4_isSo_18 (by decide) rfl (fun hc18 => ?_) (fun hc18 => ?_)
        · refine fx_iconst (v := nI 0) dX4_isSo_57 (by decide) ?_
          refine fs_istore_4 dX4_isSo_58 rfl (by decide) ?_
          refine fs_iinc_5 (w := nI 1) dX4_isSo_60 (by decide) rfl (by decide) ?_
          refine fx_goto (tgt := 6) dX4_isSo_63 (by decide) ?_
          rw [nI_add]
          first | (rw [e1, nI_ne0' hc18, decide_eq_true hc50] at ih1; exact ih1) | (rw [e1, decide_eq_false hc50, Bool.and_false] at ih1; exact ih1) | (rw [e1, nI_eq0' hc18, Bool.false_and] at ih1; exact ih1)
        · refine fx_aload_n dX4_isSo_21 rfl rfl ?_
          refine fx_iload_n dX4_isSo_22 rfl rfl ?_
          refine fx_iload_n dX4_isSo_23 rfl rfl ?_
          refine fx_aload_n dX4_isSo_24 rfl rfl ?_
          refine fx_iload_n dX4_isSo_25 rfl rfl ?_
          refine fx_iload dX4_isSo_26 rfl ?_
          refine fx_callVv dX4_isSo_28 vX4_earOf lX4_218 (by decide) rfl (Nat.le_of_ble_eq_true rfl) (eX4_earOf hs (by omega)) rfl ?_
          refine fx_callVv dX4_isSo_31 vX4_loudOf lX4_150 (by decide) rfl (Nat.le_of_ble_eq_true rfl) eX4_loudOf rfl ?_
          refine fx_aload_n dX4_isSo_34 rfl rfl ?_
          refine fx_get dX4_isSo_35 kX4_63 rfl rfl ?_
          refine fx_bipush (v := nI 40) dX4_isSo_38 (by decide) ?_
          refine fx_iload_n dX4_isSo_40 rfl rfl ?_
          refine fx_imul dX4_isSo_41 ?_
          refine fx_iconst (v := nI 2) dX4_isSo_42 (by decide) ?_
          refine fx_iload dX4_isSo_43 rfl ?_
          refine fx_imul dX4_isSo_45 ?_
          refine fx_iadd dX4_isSo_46 ?_
          refine fx_iconst (v := nI 1) dX4_isSo_47 (by decide) ?_
          refine fx_iadd dX4_isSo_48 ?_
          rw [pk_mul, pk_mul, nI_add, nI_add]
          refine fx_iald dX4_isSo_49 rfl (vp_in_nI (by omega) (by omega)) ?_
          rw [nI_clamp (by omega)]
          refine fx_icmp_ne (tgt := 57) dX4_isSo_50 (by decide) rfl (fun hc50 => ?_) (fun hc50 => ?_)
          · refine fx_iconst (v := nI 0) dX4_isSo_57 (by decide) ?_
            refine fs_istore_4 dX4_isSo_58 rfl (by decide) ?_
            refine fs_iinc_5 (w := nI 1) dX4_isSo_60 (by decide) rfl (by decide) ?_
            refine fx_goto (tgt := 6) dX4_isSo_63 (by decide) ?_
            rw [nI_add]
            first | (rw [e1, nI_ne0' hc18, decide_eq_true hc50] at ih1; exact ih1) | (rw [e1, decide_eq_false hc50, Bool.and_false] at ih1; exact ih1) | (rw [e1, nI_eq0' hc18, Bool.false_and] at ih1; exact ih1)
          · refine fx_iconst (v := nI 1) dX4_isSo_53 (by decide) ?_
            refine fx_goto (tgt := 58) dX4_isSo_54 (by decide) ?_
            refine fs_istore_4 dX4_isSo_58 rfl (by decide) ?_
            refine fs_iinc_5 (w := nI 1) dX4_isSo_60 (by decide) rfl (by decide) ?_
            refine fx_goto (tgt := 6) dX4_isSo_63 (by decide) ?_
            rw [nI_add]
            first | (rw [e1, nI_ne0' hc18, decide_eq_true hc50] at ih1; exact ih1) | (rw [e1, decide_eq_false hc50, Bool.and_false] at ih1; exact ih1) | (rw [e1, nI_eq0' hc18, Bool.false_and] at ih1; exact ih1)
  refine fx_iconst (v := nI 1) dX4_isSo_0 (by decide) ?_
  refine fs_istore_4 dX4_isSo_1 rfl (by decide) ?_
  refine fx_iconst (v := nI 0) dX4_isSo_3 (by decide) ?_
  refine fs_istore_5 dX4_isSo_4 rfl (by decide) ?_
  exact H m 0 (by omega)
theorem eX4_lacks {s : Int32} : Mx mX4_lacks [.ref 0, .int s] (rM F G) (some (.int (jfo (jlk G s)))) (rM F G) := by
  refine mx_of (L := [some (.ref 0), some (.int s)]) (by decide) (fun _ => rfl) (fun _ => Nat.le_of_ble_eq_true rfl) ?_
  refine fx_iload_n dX4_lacks_0 rfl rfl ?_
  refine fx_callSv dX4_lacks_1 sX4_isSheet lX4_211 (by decide) (Nat.le_of_ble_eq_true rfl) eX4_isSheet rfl ?_
  refine fx_if_ne (tgt := 12) dX4_lacks_4 (by decide) rfl (fun hc4 => ?_) (fun hc4 => ?_)
  · refine fx_aload_n dX4_lacks_12 rfl rfl ?_
    refine fx_get dX4_lacks_13 kX4_57 rfl rfl ?_
    refine fx_iload_n dX4_lacks_16 rfl rfl ?_
    refine fx_iald dX4_lacks_17 rfl (by obtain ⟨j, hj, rfl⟩ := jwi_of (by decide) (nI_ne0' hc4); exact vp_in_nI (by omega) (by decide)) ?_
    refine fx_if_ne (tgt := 26) dX4_lacks_18 (by decide) rfl (fun hc18 => ?_) (fun hc18 => ?_)
    · refine fx_iconst (v := nI 0) dX4_lacks_26 (by decide) ?_
      exact fx_ireq dX4_lacks_27 rfl rfl (by unfold jlk; first | (rw [if_pos (nI_ne0' hc4), if_pos hc18]; exact jfd_5.symm) | (rw [if_pos (nI_ne0' hc4), if_neg hc18]; rfl) | (rw [if_neg (fun q => by rw [nI_eq0' hc4] at q; exact absurd q (by decide))]; exact jfd_0.symm)) rfl
    · refine fx_ldc dX4_lacks_21 qX4_214 ?_
      refine fx_goto (tgt := 27) dX4_lacks_23 (by decide) ?_
      exact fx_ireq dX4_lacks_27 rfl rfl (by unfold jlk; first | (rw [if_pos (nI_ne0' hc4), if_pos hc18]; exact jfd_5.symm) | (rw [if_pos (nI_ne0' hc4), if_neg hc18]; rfl) | (rw [if_neg (fun q => by rw [nI_eq0' hc4] at q; exact absurd q (by decide))]; exact jfd_0.symm)) rfl
  · refine fx_ldc dX4_lacks_7 qX4_69 ?_
    refine fx_goto (tgt := 27) dX4_lacks_9 (by decide) ?_
    exact fx_ireq dX4_lacks_27 rfl rfl (by unfold jlk; first | (rw [if_pos (nI_ne0' hc4), if_pos hc18]; exact jfd_5.symm) | (rw [if_pos (nI_ne0' hc4), if_neg hc18]; rfl) | (rw [if_neg (fun q => by rw [nI_eq0' hc4] at q; exact absurd q (by decide))]; exact jfd_0.symm)) rfl
theorem eX4_lacksOf {s w : Int32} (hS : jS G) : Mx mX4_lacksOf [.ref 0, .int s, .int w] (rM F G) (some (.int (jfo (jlo G s w)))) (rM F G) := by
  refine mx_of (L := [some (.ref 0), some (.int s), some (.int w), none]) (by decide) (fun _ => rfl) (fun _ => Nat.le_of_ble_eq_true rfl) ?_
  cases hk : jlk G s with
  | some k =>
    have e1 : jlo G s w = some k := by unfold jlo; rw [hk]
    have hk5 : k = 0 ∨ k = 5 := by
      unfold jlk at hk
      by_cases a : jwi s (nI 0) (nI 3) = true
      · rw [if_pos a] at hk
        by_cases b : G 11 s.toNatClampNeg = 0
        · rw [if_pos b] at hk; cases hk; exact Or.inr rfl
        · rw [if_neg b] at hk; cases hk
      · rw [if_neg a] at hk; cases hk; exact Or.inl rfl
    rw [e1]
    refine fx_aload_n dX4_lacksOf_0 rfl rfl ?_
    refine fx_iload_n dX4_lacksOf_1 rfl rfl ?_
    refine fx_callVv dX4_lacksOf_2 vX4_lacks lX4_221 (by decide) rfl (Nat.le_of_ble_eq_true rfl) eX4_lacks rfl ?_
    rw [hk]
    refine fs_istore_n_3 dX4_lacksOf_5 rfl (by decide) ?_
    refine fx_iload_n dX4_lacksOf_6 rfl rfl ?_
    refine fx_if_eq (tgt := 14) dX4_lacksOf_7 (by decide) rfl (fun hc7 => ?_) (fun hc7 => ?_)
    · exact absurd hc7 (by rcases hk5 with rfl | rfl <;> decide)
    · refine fx_iload_n dX4_lacksOf_10 rfl rfl ?_
      refine fx_goto (tgt := 43) dX4_lacksOf_11 (by decide) ?_
      exact fx_ireq dX4_lacksOf_43 rfl rfl rfl rfl
  | none =>
    obtain ⟨j, hj, rfl⟩ : ∃ j, j ≤ 3 ∧ s = nI j := by
      unfold jlk at hk
      by_cases a : jwi s (nI 0) (nI 3) = true
      · exact jwi_of (by decide) a
      · rw [if_neg a] at hk; cases hk
    have e1 : jlo G (nI j) w = if jwi w (nI 1) (nI 99) = true then (if jears (G 13) j (jsz G j / 2) = true then none else some 4) else some 0 := by unfold jlo; rw [hk, nI_clamp (by omega)]
    rw [e1]
    refine fx_aload_n dX4_lacksOf_0 rfl rfl ?_
    refine fx_iload_n dX4_lacksOf_1 rfl rfl ?_
    refine fx_callVv dX4_lacksOf_2 vX4_lacks lX4_221 (by decide) rfl (Nat.le_of_ble_eq_true rfl) eX4_lacks rfl ?_
    rw [hk]
    refine fs_istore_n_3 dX4_lacksOf_5 rfl (by decide) ?_
    refine fx_iload_n dX4_lacksOf_6 rfl rfl ?_
    refine fx_if_eq (tgt := 14) dX4_lacksOf_7 (by decide) rfl (fun hc7 => ?_) (fun hc7 => ?_)
    · refine fx_iload_n dX4_lacksOf_14 rfl rfl ?_
      refine fx_iconst (v := nI 1) dX4_lacksOf_15 (by decide) ?_
      refine fx_bipush (v := nI 99) dX4_lacksOf_16 (by decide) ?_
      refine fx_callSv dX4_lacksOf_18 sX4_within lX4_74 (by decide) (Nat.le_of_ble_eq_true rfl) eX4_within rfl ?_
      refine fx_if_ne (tgt := 29) dX4_lacksOf_21 (by decide) rfl (fun hc21 => ?_) (fun hc21 => ?_)
      · refine fx_aload_n dX4_lacksOf_29 rfl rfl ?_
        refine fx_iload_n dX4_lacksOf_30 rfl rfl ?_
        refine fx_callVv dX4_lacksOf_31 vX4_areEars lX4_224 (by decide) rfl (Nat.le_of_ble_eq_true rfl) (eX4_areEars hS (by omega)) rfl ?_
        refine fx_if_eq (tgt := 41) dX4_lacksOf_34 (by decide) rfl (fun hc34 => ?_) (fun hc34 => ?_)
        · refine fx_ldc dX4_lacksOf_41 qX4_173 ?_
          exact fx_ireq dX4_lacksOf_43 rfl rfl (by first | (rw [if_pos (nI_ne0' hc21), if_pos (nI_ne0' hc34)]; rfl) | (rw [if_pos (nI_ne0' hc21), if_neg (fun q => by rw [nI_eq0' hc34] at q; exact absurd q (by decide))]; exact jfd_4.symm) | (rw [if_neg (fun q => by rw [nI_eq0' hc21] at q; exact absurd q (by decide))]; exact jfd_0.symm)) rfl
        · refine fx_iconst (v := nI 0) dX4_lacksOf_37 (by decide) ?_
          refine fx_goto (tgt := 43) dX4_lacksOf_38 (by decide) ?_
          exact fx_ireq dX4_lacksOf_43 rfl rfl (by first | (rw [if_pos (nI_ne0' hc21), if_pos (nI_ne0' hc34)]; rfl) | (rw [if_pos (nI_ne0' hc21), if_neg (fun q => by rw [nI_eq0' hc34] at q; exact absurd q (by decide))]; exact jfd_4.symm) | (rw [if_neg (fun q => by rw [nI_eq0' hc21] at q; exact absurd q (by decide))]; exact jfd_0.symm)) rfl
      · refine fx_ldc dX4_lacksOf_24 qX4_69 ?_
        refine fx_goto (tgt := 43) dX4_lacksOf_26 (by decide) ?_
        exact fx_ireq dX4_lacksOf_43 rfl rfl (by first | (rw [if_pos (nI_ne0' hc21), if_pos (nI_ne0' hc34)]; rfl) | (rw [if_pos (nI_ne0' hc21), if_neg (fun q => by rw [nI_eq0' hc34] at q; exact absurd q (by decide))]; exact jfd_4.symm) | (rw [if_neg (fun q => by rw [nI_eq0' hc21] at q; exact absurd q (by decide))]; exact jfd_0.symm)) rfl
    · exact absurd rfl hc7
theorem eX4_stockBehind {m c y : Nat} {h : zH} (hm : m ≤ 9999) (hc : c ≤ 999) (hy : y ≤ 99) : Mx mX4_stockBehind [.int (nI m), .int (nI c), .int (nI y)] h (some (.int (nI (jstk m c y)))) h := by
  refine mx_of (L := [some (.int (nI m)), some (.int (nI c)), some (.int (nI y)), none, none]) (by decide) (fun _ => rfl) (fun _ => Nat.le_of_ble_eq_true rfl) ?_
  have H : ∀ (k i : Nat), i + k = y → Fx mX4_stockBehind (some (.int (nI (jstk m c y))), h) 5 [some (.int (nI m)), some (.int (nI c)), some (.int (nI y)), some (.int (nI (jstk m c i))), some (.int (nI i))] [] h := by
    intro k
    induction k with
    | zero =>
      intro i hi
      have hi' : i = y := by omega
      subst hi'
      refine fx_iload dX4_stockBehind_5 rfl ?_
      refine fx_iload_n dX4_stockBehind_7 rfl rfl ?_
      refine fx_icmp_ge (tgt := 38) dX4_stockBehind_8 (by decide) rfl (fun hc8 => ?_) (fun hc8 => ?_)
      · refine fx_iload_n dX4_stockBehind_38 rfl rfl ?_
        exact fx_ireq dX4_stockBehind_39 rfl rfl rfl rfl
      · exact absurd (Int32.le_refl _) hc8
    | succ k ih =>
      intro i hi
      have ih1 := ih (i + 1) (by omega)
      have hle := jstk_le (c := c) hm i
      have e1 : jstk m c (i + 1) = min 9999 ((jstk m c i - min c (jstk m c i)) + (jstk m c i - min c (jstk m c i)) / 10) := rfl
      rw [e1] at ih1
      refine fx_iload dX4_stockBehind_5 rfl ?_
      refine fx_iload_n dX4_stockBehind_7 rfl rfl ?_
      refine fx_icmp_ge (tgt := 38) dX4_stockBehind_8 (by decide) rfl (fun hc8 => ?_) (fun hc8 => ?_)
      · exact absurd hc8 (nI_ge (by omega) (by omega))
      · refine fx_iload_n dX4_stockBehind_11 rfl rfl ?_
        refine fx_iload_n dX4_stockBehind_12 rfl rfl ?_
        refine fx_iload_n dX4_stockBehind_13 rfl rfl ?_
        refine fx_min dX4_stockBehind_14 lX4_125 (by decide) (Nat.le_of_ble_eq_true rfl) ?_
        rw [jmin_n (by omega) (by omega)]
        refine fx_isub dX4_stockBehind_17 ?_
        rw [pk_sub (Nat.min_le_right _ _)]
        refine fs_istore_n_3 dX4_stockBehind_18 rfl (by decide) ?_
        refine fx_sipush (v := nI 9999) dX4_stockBehind_19 (by decide) ?_
        refine fx_iload_n dX4_stockBehind_22 rfl rfl ?_
        refine fx_iload_n dX4_stockBehind_23 rfl rfl ?_
        refine fx_bipush (v := nI 10) dX4_stockBehind_24 (by decide) ?_
        refine fx_idiv dX4_stockBehind_26 (by decide) ?_
        rw [pk_div (by omega) (by decide) (by decide)]
        refine fx_iadd dX4_stockBehind_27 ?_
        rw [nI_add]
        refine fx_min dX4_stockBehind_28 lX4_125 (by decide) (Nat.le_of_ble_eq_true rfl) ?_
        rw [jmin_n (by omega) (by omega)]
        refine fs_istore_n_3 dX4_stockBehind_31 rfl (by decide) ?_
        refine fs_iinc_4 (w := nI 1) dX4_stockBehind_32 (by decide) rfl (by decide) ?_
        refine fx_goto (tgt := 5) dX4_stockBehind_35 (by decide) ?_
        rw [nI_add]
        exact ih1
  refine fx_iload_n dX4_stockBehind_0 rfl rfl ?_
  refine fs_istore_n_3 dX4_stockBehind_1 rfl (by decide) ?_
  refine fx_iconst (v := nI 0) dX4_stockBehind_2 (by decide) ?_
  refine fs_istore_4 dX4_stockBehind_3 rfl (by decide) ?_
  exact H y 0 (by omega)
end
