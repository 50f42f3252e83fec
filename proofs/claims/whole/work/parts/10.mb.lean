/-! ===== what holds of the woods' row; kinds; worth ===== -/
/-- the woods' part: n bells; kinds, cells, notes, weights in their ranges; hunters, nets, thickets, fear -/
def jW (V : Nat → Int32) (n : Nat) : Prop :=
  V 2 = nI n ∧ n ≤ 8 ∧ (∀ b, b < n → (∃ k, k < 7 ∧ V (146 + 5 * b + 0) = nI k) ∧ (∃ c, c < 64 ∧ V (146 + 5 * b + 1) = nI c) ∧ (∃ t, t < 12 ∧ V (146 + 5 * b + 2) = nI t) ∧ (∃ w, 1 ≤ w ∧ w ≤ 99 ∧ V (146 + 5 * b + 3) = nI w) ∧ (V (146 + 5 * b + 4) = nI 0 ∨ V (146 + 5 * b + 4) = nI 1)) ∧
  (∀ h, h < 4 → V (14 + h) = (-1) ∨ ∃ c, c < 64 ∧ V (14 + h) = nI c) ∧ (∀ c, c < 64 → V (18 + c) = nI 0 ∨ V (18 + c) = nI 1) ∧ (∀ c, c < 64 → ∃ t, t ≤ 9 ∧ V (82 + c) = nI t) ∧ (∃ f, f ≤ 9 ∧ V 1 = nI f) ∧ ∀ k, 186 ≤ k → V k = 0
def jabv (k : Nat) : Int32 := if k = 0 then (-1) else if k = 3 then nI 2 else if k = 4 then nI 3 else if k = 6 then nI 1 else nI 0
/-- a kind is another or under it -/
def jund (a b : Nat) : Bool := a == b || b == 0 || (a == 3 && b == 2) || (a == 4 && (b == 3 || b == 2)) || (a == 6 && b == 1)
def jrk (a : Nat) : Nat := if a = 0 then 0 else if a = 3 then 2 else if a = 4 then 3 else if a = 6 then 2 else 1
set_option maxRecDepth 100000
theorem eX4_above {a : Nat} {h : zH} (ha : a < 7) : Mx mX4_above [.int (nI a)] h (some (.int (jabv a))) h := by
  refine mx_of (L := [some (.int (nI a))]) (by decide) (fun _ => rfl) (fun _ => Nat.le_of_ble_eq_true rfl) ?_
  refine fx_iload_n dX4_above_0 rfl rfl ?_
  refine fx_if_ne (tgt := 8) dX4_above_1 (by decide) rfl (fun hc1 => ?_) (fun hc1 => ?_)
  · refine fx_iload_n dX4_above_8 rfl rfl ?_
    refine fx_iconst (v := nI 3) dX4_above_9 (by decide) ?_
    refine fx_icmp_ne (tgt := 17) dX4_above_10 (by decide) rfl (fun hc10 => ?_) (fun hc10 => ?_)
    · refine fx_iload_n dX4_above_17 rfl rfl ?_
      refine fx_iconst (v := nI 4) dX4_above_18 (by decide) ?_
      refine fx_icmp_ne (tgt := 26) dX4_above_19 (by decide) rfl (fun hc19 => ?_) (fun hc19 => ?_)
      · refine fx_iload_n dX4_above_26 rfl rfl ?_
        refine fx_bipush (v := nI 6) dX4_above_27 (by decide) ?_
        refine fx_icmp_ne (tgt := 36) dX4_above_29 (by decide) rfl (fun hc29 => ?_) (fun hc29 => ?_)
        · refine fx_iconst (v := nI 0) dX4_above_36 (by decide) ?_
          exact fx_ireq dX4_above_37 rfl rfl (by revert a; decide +kernel) rfl
        · refine fx_iconst (v := nI 1) dX4_above_32 (by decide) ?_
          refine fx_goto (tgt := 37) dX4_above_33 (by decide) ?_
          exact fx_ireq dX4_above_37 rfl rfl (by revert a; decide +kernel) rfl
      · refine fx_iconst (v := nI 3) dX4_above_22 (by decide) ?_
        refine fx_goto (tgt := 37) dX4_above_23 (by decide) ?_
        exact fx_ireq dX4_above_37 rfl rfl (by revert a; decide +kernel) rfl
    · refine fx_iconst (v := nI 2) dX4_above_13 (by decide) ?_
      refine fx_goto (tgt := 37) dX4_above_14 (by decide) ?_
      exact fx_ireq dX4_above_37 rfl rfl (by revert a; decide +kernel) rfl
  · refine fx_iconst (v := (-1)) dX4_above_4 (by decide) ?_
    refine fx_goto (tgt := 37) dX4_above_5 (by decide) ?_
    exact fx_ireq dX4_above_37 rfl rfl (by revert a; decide +kernel) rfl
def jabN (a : Nat) : Nat := if a = 3 then 2 else if a = 4 then 3 else if a = 6 then 1 else 0
theorem j_ab : ∀ a, a < 7 → a ≠ 0 → jabv a = nI (jabN a) ∧ jabN a < 7 ∧ jrk (jabN a) < jrk a := by decide +kernel
theorem j_un : ∀ a, a < 7 → ∀ b, b < 7 → ¬ nI a = nI b → a ≠ 0 → jund (jabN a) b = jund a b := by decide +kernel
theorem j_ue : ∀ a, a < 7 → ∀ b, b < 7 → nI a = nI b → jund a b = true := by decide +kernel
theorem j_u0 : ∀ b, b < 7 → ¬ nI 0 = nI b → jund 0 b = false := by decide +kernel
theorem j_rk0 : ∀ a, a < 7 → jrk a ≤ 0 → a = 0 := by decide +kernel
theorem j_rk3 : ∀ a, a < 7 → jrk a ≤ 3 := by decide +kernel
theorem eX4_isUnder {a b : Nat} {h : zH} (ha : a < 7) (hb : b < 7) : Mx mX4_isUnder [.int (nI a), .int (nI b)] h (some (.int (jB (jund a b)))) h := by
  refine mx_of (L := [some (.int (nI a)), some (.int (nI b)), none]) (by decide) (fun _ => rfl) (fun _ => Nat.le_of_ble_eq_true rfl) ?_
  generalize hx : some (Value.int (nI a)) = x0
  have H0 : Fx mX4_isUnder (some (.int (jB false)), h) 2 [x0, some (.int (nI b)), some (.int (-1))] [] h := by
    refine fx_iload_n dX4_isUnder_2 rfl rfl ?_
    refine fx_if_lt (tgt := 19) dX4_isUnder_3 (by decide) rfl (fun hc3 => ?_) (fun hc3 => ?_)
    · refine fx_iload_n dX4_isUnder_19 rfl rfl ?_
      refine fx_if_lt (tgt := 27) dX4_isUnder_20 (by decide) rfl (fun hc20 => ?_) (fun hc20 => ?_)
      · refine fx_iconst (v := nI 0) dX4_isUnder_27 (by decide) ?_
        exact fx_ireq dX4_isUnder_28 rfl (jB_n _) rfl rfl
      · exact absurd (by decide) hc20
    · exact absurd (by decide) hc3
  have H : ∀ (n a : Nat), a < 7 → jrk a ≤ n → ∀ r : Bool, jund a b = r → Fx mX4_isUnder (some (.int (jB r)), h) 2 [x0, some (.int (nI b)), some (.int (nI a))] [] h := by
    intro n
    induction n with
    | zero =>
      intro a ha hr r er
      have ha0 := j_rk0 a ha hr
      subst ha0
      refine fx_iload_n dX4_isUnder_2 rfl rfl ?_
      refine fx_if_lt (tgt := 19) dX4_isUnder_3 (by decide) rfl (fun hc3 => ?_) (fun hc3 => ?_)
      · exact absurd hc3 (by decide)
      · refine fx_iload_n dX4_isUnder_6 rfl rfl ?_
        refine fx_iload_n dX4_isUnder_7 rfl rfl ?_
        refine fx_icmp_eq (tgt := 19) dX4_isUnder_8 (by decide) rfl (fun hc8 => ?_) (fun hc8 => ?_)
        · refine fx_iload_n dX4_isUnder_19 rfl rfl ?_
          refine fx_if_lt (tgt := 27) dX4_isUnder_20 (by decide) rfl (fun hc20 => ?_) (fun hc20 => ?_)
          · exact absurd hc20 (by decide)
          · refine fx_iconst (v := nI 1) dX4_isUnder_23 (by decide) ?_
            refine fx_goto (tgt := 28) dX4_isUnder_24 (by decide) ?_
            exact fx_ireq dX4_isUnder_28 rfl (jB_n _) (by rw [← er, j_ue 0 ha b hb hc8]; rfl) rfl
        · refine fx_iload_n dX4_isUnder_11 rfl rfl ?_
          refine fx_callSv dX4_isUnder_12 sX4_above lX4_112 (by decide) (Nat.le_of_ble_eq_true rfl) (eX4_above (by decide)) rfl ?_
          refine fs_istore_n_2 dX4_isUnder_15 rfl (by decide) ?_
          refine fx_goto (tgt := 2) dX4_isUnder_16 (by decide) ?_
          have e : r = false := by rw [← er, j_u0 b hb hc8]
          subst e
          exact H0
    | succ n ih =>
      intro a ha hr r er
      by_cases hz : a = 0
      · exact ih a ha (by subst hz; exact Nat.zero_le _) r er
      · refine fx_iload_n dX4_isUnder_2 rfl rfl ?_
        refine fx_if_lt (tgt := 19) dX4_isUnder_3 (by decide) rfl (fun hc3 => ?_) (fun hc3 => ?_)
        · exact absurd hc3 (nI_pos (by omega))
        · refine fx_iload_n dX4_isUnder_6 rfl rfl ?_
          refine fx_iload_n dX4_isUnder_7 rfl rfl ?_
          refine fx_icmp_eq (tgt := 19) dX4_isUnder_8 (by decide) rfl (fun hc8 => ?_) (fun hc8 => ?_)
          · refine fx_iload_n dX4_isUnder_19 rfl rfl ?_
            refine fx_if_lt (tgt := 27) dX4_isUnder_20 (by decide) rfl (fun hc20 => ?_) (fun hc20 => ?_)
            · exact absurd hc20 (nI_pos (by omega))
            · refine fx_iconst (v := nI 1) dX4_isUnder_23 (by decide) ?_
              refine fx_goto (tgt := 28) dX4_isUnder_24 (by decide) ?_
              exact fx_ireq dX4_isUnder_28 rfl (jB_n _) (by rw [← er, j_ue a ha b hb hc8]; rfl) rfl
          · refine fx_iload_n dX4_isUnder_11 rfl rfl ?_
            refine fx_callSv dX4_isUnder_12 sX4_above lX4_112 (by decide) (Nat.le_of_ble_eq_true rfl) (eX4_above ha) rfl ?_
            refine fs_istore_n_2 dX4_isUnder_15 rfl (by decide) ?_
            refine fx_goto (tgt := 2) dX4_isUnder_16 (by decide) ?_
            obtain ⟨e1, e2, e3⟩ := j_ab a ha hz
            rw [e1]
            exact ih _ e2 (by omega) r (by rw [j_un a ha b hb hc8 hz]; exact er)
  have H3 := H 3 a ha (j_rk3 a ha) _ rfl
  rw [← hx]
  rw [← hx] at H3
  refine fx_iload_n dX4_isUnder_0 rfl rfl ?_
  refine fs_istore_n_2 dX4_isUnder_1 rfl (by decide) ?_
  exact H3
