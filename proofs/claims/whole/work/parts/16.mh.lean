/-! ===== the reference: an ear more, rings, draws, a new bell ===== -/
set_option maxRecDepth 100000
def japN (a b : Nat) : Nat := (japart (nI a) (nI b)).toNatClampNeg
theorem japN_e : ∀ a, a < 64 → ∀ b, b < 64 → japart (nI a) (nI b) = nI (japN a b) ∧ japN a b ≤ 14 := by decide +kernel
def jloN (w a b : Nat) : Nat := w - 3 * japN a b
theorem jloud_n {w a b : Nat} (hw : w ≤ 99) (ha : a < 64) (hb : b < 64) : jloud (nI w) (nI a) (nI b) = nI (jloN w a b) := by
  obtain ⟨e, h14⟩ := japN_e a ha b hb
  unfold jloud jloN
  rw [e, pk_mul]
  by_cases h : 3 * japN a b ≤ w
  · rw [pk_sub h, jmax_n (by decide) (by omega), Nat.max_eq_right (Nat.zero_le _)]
  · have hn := pk_sneg (a := w) (b := 3 * japN a b) (by omega) (by omega)
    rw [show w - 3 * japN a b = 0 by omega]
    unfold jmax
    rw [nI_0]
    exact if_neg (Int32.not_lt.mpr (Int32.le_of_lt hn))
def jct (st : Nat → Bool) (ld : Nat → Nat) (l : Nat) : Nat → Nat
  | 0 => 0
  | c + 1 => jct st ld l c + (if st c = true ∧ ld c = l then 1 else 0)
def jwo (st : Nat → Bool) (ld : Nat → Nat) : Nat → Nat
  | 0 => 0
  | c + 1 => if st c = true then max (jwo st ld c) (jct st ld (ld c) (c + 1)) else jwo st ld c
theorem jct_le (st : Nat → Bool) (ld : Nat → Nat) (l : Nat) : ∀ c, jct st ld l c ≤ c := by
  intro c
  induction c with
  | zero => exact Nat.le_refl 0
  | succ c ih => unfold jct; by_cases h : st c = true ∧ ld c = l <;> simp only [h] <;> simp <;> omega
theorem jct_wo (st : Nat → Bool) (ld : Nat → Nat) : ∀ c l, jct st ld l c ≤ jwo st ld c := by
  intro c
  induction c with
  | zero => intro l; exact Nat.le_refl 0
  | succ c ih =>
    intro l
    have e : jct st ld l (c + 1) = jct st ld l c + (if st c = true ∧ ld c = l then 1 else 0) := rfl
    have e2 : jwo st ld (c + 1) = if st c = true then max (jwo st ld c) (jct st ld (ld c) (c + 1)) else jwo st ld c := rfl
    rw [e2]
    by_cases h : st c = true
    · rw [if_pos h]
      by_cases h2 : ld c = l
      · rw [← h2]; exact Nat.le_max_right _ _
      · rw [e, if_neg (fun q => h2 q.2)]
        exact Nat.le_trans (ih l) (Nat.le_max_left _ _)
    · rw [if_neg h, e, if_neg (fun q => h q.1)]
      exact ih l
theorem jwo_le (st : Nat → Bool) (ld : Nat → Nat) : ∀ c, jwo st ld c ≤ c := by
  intro c
  induction c with
  | zero => exact Nat.le_refl 0
  | succ c ih =>
    unfold jwo
    by_cases h : st c = true
    · rw [if_pos h]
      exact Nat.max_le.mpr ⟨by omega, jct_le st ld _ (c + 1)⟩
    · rw [if_neg h]; omega
def jpa (P : Nat → Int32) (st : Nat → Bool) (ld : Nat → Nat) : Nat → Nat → Int32
  | 0 => P
  | c + 1 => upd (jpa P st ld c) (ld c) (jpa P st ld c (ld c) + jB (st c))
theorem jpa_e {P : Nat → Int32} {st : Nat → Bool} {ld : Nat → Nat} {l : Nat} (hP : P l = nI 0) : ∀ c, jpa P st ld c l = nI (jct st ld l c) := by
  intro c
  induction c with
  | zero => exact hP
  | succ c ih =>
    unfold jpa jct
    by_cases h : l = ld c
    · subst h
      rw [pk_us, ih]
      cases hs : st c
      · rw [if_neg (fun q => absurd q.1 (by decide))]; show nI _ + nI 0 = _; rw [nI_add]
      · rw [if_pos ⟨rfl, rfl⟩]; show nI _ + nI 1 = _; rw [nI_add]
    · rw [pk_un h, ih, if_neg (fun q => h q.2.symm)]
      rfl
/-- bits -/
theorem jhas_e {x k : Nat} (hx : x < 2 ^ 31) (hk : k < 31) : (nI x >>> (nI k &&& 31)) &&& nI 1 = nI (x / 2 ^ k % 2) := by
  have hs : ∀ k, k < 31 → ((nI k &&& 31).toBitVec.smod 32).toNat = k := by decide +kernel
  rw [pk_shrN hx _ k (hs k hk), pk_andN (by have := Nat.div_le_self x (2 ^ k); omega) 1 (by decide)]
theorem jbit_e (x k : Nat) : x / 2 ^ k % 2 = if x.testBit k = true then 1 else 0 := by
  rw [Nat.testBit_eq_decide_div_mod_eq]
  by_cases h : x / 2 ^ k % 2 = 1
  · rw [if_pos (by simp [h]), h]
  · rw [if_neg (by simp [h])]; omega
theorem eX4_has {x k : Nat} {h : zH} (hx : x < 2 ^ 31) (hk : k < 31) : Mx mX4_has [.int (nI x), .int (nI k)] h (some (.int (jB (x.testBit k)))) h := by
  refine mx_of (L := [some (.int (nI x)), some (.int (nI k))]) (by decide) (fun _ => rfl) (fun _ => Nat.le_of_ble_eq_true rfl) ?_
  have e := jbit_e x k
  cases hb : x.testBit k
  · rw [hb, if_neg (by decide)] at e
    refine fx_iload_n dX4_has_0 rfl rfl ?_
    refine fx_iload_n dX4_has_1 rfl rfl ?_
    refine fx_ishr dX4_has_2 ?_
    refine fx_iconst (v := nI 1) dX4_has_3 (by decide) ?_
    refine fx_iand dX4_has_4 ?_
    rw [jhas_e hx hk, e]
    refine fx_iconst (v := nI 1) dX4_has_5 (by decide) ?_
    refine fx_icmp_ne (tgt := 13) dX4_has_6 (by decide) rfl (fun hc6 => ?_) (fun hc6 => ?_)
    · refine fx_iconst (v := nI 0) dX4_has_13 (by decide) ?_
      exact fx_ireq dX4_has_14 rfl rfl rfl rfl
    · exact absurd hc6 (by decide)
  · rw [hb, if_pos rfl] at e
    refine fx_iload_n dX4_has_0 rfl rfl ?_
    refine fx_iload_n dX4_has_1 rfl rfl ?_
    refine fx_ishr dX4_has_2 ?_
    refine fx_iconst (v := nI 1) dX4_has_3 (by decide) ?_
    refine fx_iand dX4_has_4 ?_
    rw [jhas_e hx hk, e]
    refine fx_iconst (v := nI 1) dX4_has_5 (by decide) ?_
    refine fx_icmp_ne (tgt := 13) dX4_has_6 (by decide) rfl (fun hc6 => ?_) (fun hc6 => ?_)
    · exact absurd rfl hc6
    · refine fx_iconst (v := nI 1) dX4_has_9 (by decide) ?_
      refine fx_goto (tgt := 14) dX4_has_10 (by decide) ?_
      exact fx_ireq dX4_has_14 rfl rfl rfl rfl
def jsb (x : Nat) : Nat → Int32 × Bool
  | 0 => ((-1), true)
  | k + 1 => if x.testBit k = true then (nI k, (jsb x k).2 && (decide ((jsb x k).1 < 0) || decide (nI k - (jsb x k).1 < nI 3))) else jsb x k
/-- notes without a gap -/
def jstep (x : Nat) : Bool := (jsb x 12).2
theorem eX4_stepBySteps {x : Nat} {h : zH} (hx : x < 2 ^ 31) : Mx mX4_stepBySteps [.int (nI x)] h (some (.int (jB (jstep x)))) h := by
  refine mx_of (L := [some (.int (nI x)), none, none, none]) (by decide) (fun _ => rfl) (fun _ => Nat.le_of_ble_eq_true rfl) ?_
  have H : ∀ (k i : Nat), i + k = 12 → Fx mX4_stepBySteps (some (.int (jB (jstep x))), h) 6 [some (.int (nI x)), some (.int (jsb x i).1), some (.int (jB (jsb x i).2)), some (.int (nI i))] [] h := by
    intro k
    induction k with
    | zero =>
      intro i hi
      have hi' : i = 12 := by omega
      subst hi'
      refine fx_iload_n dX4_stepBySteps_6 rfl rfl ?_
      refine fx_bipush (v := nI 12) dX4_stepBySteps_7 (by decide) ?_
      refine fx_icmp_ge (tgt := 49) dX4_stepBySteps_9 (by decide) rfl (fun hc9 => ?_) (fun hc9 => ?_)
      · refine fx_iload_n dX4_stepBySteps_49 rfl rfl ?_
        exact fx_ireq dX4_stepBySteps_50 rfl (jB_n _) rfl rfl
      · exact absurd (Int32.le_refl _) hc9
    | succ k ih =>
      intro i hi
      have ih1 := ih (i + 1) (by omega)
      have e1 : jsb x (i + 1) = if x.testBit i = true then (nI i, (jsb x i).2 && (decide ((jsb x i).1 < 0) || decide (nI i - (jsb x i).1 < nI 3))) else jsb x i := rfl
      cases hb : x.testBit i
      · rw [e1, hb, if_neg (by decide)] at ih1
        refine fx_iload_n dX4_stepBySteps_6 rfl rfl ?_
        refine fx_bipush (v := nI 12) dX4_stepBySteps_7 (by decide) ?_
        refine fx_icmp_ge (tgt := 49) dX4_stepBySteps_9 (by decide) rfl (fun hc9 => ?_) (fun hc9 => ?_)
        · exact absurd hc9 (nI_ge (by omega) (by omega))
        · refine fx_iload_n dX4_stepBySteps_12 rfl rfl ?_
          refine fx_iload_n dX4_stepBySteps_13 rfl rfl ?_
          refine fx_callSv dX4_stepBySteps_14 sX4_has lX4_239 (by decide) (Nat.le_of_ble_eq_true rfl) (eX4_has hx (by omega)) rfl ?_
          rw [hb]
          refine fx_if_eq (tgt := 43) dX4_stepBySteps_17 (by decide) rfl (fun hc17 => ?_) (fun hc17 => ?_)
          · refine fs_iinc_3 (w := nI 1) dX4_stepBySteps_43 (by decide) rfl (by decide) ?_
            refine fx_goto (tgt := 6) dX4_stepBySteps_46 (by decide) ?_
            rw [nI_add]
            exact ih1
          · exact absurd rfl hc17
      · rw [e1, hb, if_pos rfl] at ih1
        refine fx_iload_n dX4_stepBySteps_6 rfl rfl ?_
        refine fx_bipush (v := nI 12) dX4_stepBySteps_7 (by decide) ?_
        refine fx_icmp_ge (tgt := 49) dX4_stepBySteps_9 (by decide) rfl (fun hc9 => ?_) (fun hc9 => ?_)
        · exact absurd hc9 (nI_ge (by omega) (by omega))
        · refine fx_iload_n dX4_stepBySteps_12 rfl rfl ?_
          refine fx_iload_n dX4_stepBySteps_13 rfl rfl ?_
          refine fx_callSv dX4_stepBySteps_14 sX4_has lX4_239 (by decide) (Nat.le_of_ble_eq_true rfl) (eX4_has hx (by omega)) rfl ?_
          rw [hb]
          refine fx_if_eq (tgt := 43) dX4_stepBySteps_17 (by decide) rfl (fun hc17 => ?_) (fun hc17 => ?_)
          · exact absurd hc17 (by decide)
          · refine fx_iload_n dX4_stepBySteps_20 rfl rfl ?_
            refine fx_if_eq (tgt := 39) dX4_stepBySteps_21 (by decide) rfl (fun hc21 => ?_) (fun hc21 => ?_)
            · refine fx_iconst (v := nI 0) dX4_stepBySteps_39 (by decide) ?_
              refine fs_istore_n_2 dX4_stepBySteps_40 rfl (by decide) ?_
              refine fx_iload_n dX4_stepBySteps_41 rfl rfl ?_
              refine fs_istore_n_1 dX4_stepBySteps_42 rfl (by decide) ?_
              refine fs_iinc_3 (w := nI 1) dX4_stepBySteps_43 (by decide) rfl (by decide) ?_
              refine fx_goto (tgt := 6) dX4_stepBySteps_46 (by decide) ?_
              rw [nI_add]
              first | (rw [nI_ne0' hc21, decide_eq_true hc25] at ih1; exact ih1) | (rw [nI_ne0' hc21, decide_eq_false hc25, decide_eq_false (Int32.not_lt.mpr hc32)] at ih1; exact ih1) | (rw [nI_ne0' hc21, decide_eq_false hc25, decide_eq_true (Int32.not_le.mp hc32)] at ih1; exact ih1) | (rw [nI_eq0' hc21, Bool.false_and] at ih1; exact ih1)
            · refine fx_iload_n dX4_stepBySteps_24 rfl rfl ?_
              refine fx_if_lt (tgt := 35) dX4_stepBySteps_25 (by decide) rfl (fun hc25 => ?_) (fun hc25 => ?_)
              · refine fx_iconst (v := nI 1) dX4_stepBySteps_35 (by decide) ?_
                refine fx_goto (tgt := 40) dX4_stepBySteps_36 (by decide) ?_
                refine fs_istore_n_2 dX4_stepBySteps_40 rfl (by decide) ?_
                refine fx_iload_n dX4_stepBySteps_41 rfl rfl ?_
                refine fs_istore_n_1 dX4_stepBySteps_42 rfl (by decide) ?_
                refine fs_iinc_3 (w := nI 1) dX4_stepBySteps_43 (by decide) rfl (by decide) ?_
                refine fx_goto (tgt := 6) dX4_stepBySteps_46 (by decide) ?_
                rw [nI_add]
                first | (rw [nI_ne0' hc21, decide_eq_true hc25] at ih1; exact ih1) | (rw [nI_ne0' hc21, decide_eq_false hc25, decide_eq_false (Int32.not_lt.mpr hc32)] at ih1; exact ih1) | (rw [nI_ne0' hc21, decide_eq_false hc25, decide_eq_true (Int32.not_le.mp hc32)] at ih1; exact ih1) | (rw [nI_eq0' hc21, Bool.false_and] at ih1; exact ih1)
              · refine fx_iload_n dX4_stepBySteps_28 rfl rfl ?_
                refine fx_iload_n dX4_stepBySteps_29 rfl rfl ?_
                refine fx_isub dX4_stepBySteps_30 ?_
                refine fx_iconst (v := nI 3) dX4_stepBySteps_31 (by decide) ?_
                refine fx_icmp_ge (tgt := 39) dX4_stepBySteps_32 (by decide) rfl (fun hc32 => ?_) (fun hc32 => ?_)
                · refine fx_iconst (v := nI 0) dX4_stepBySteps_39 (by decide) ?_
                  refine fs_istore_n_2 dX4_stepBySteps_40 rfl (by decide) ?_
                  refine fx_iload_n dX4_stepBySteps_41 rfl rfl ?_
                  refine fs_istore_n_1 dX4_stepBySteps_42 rfl (by decide) ?_
                  refine fs_iinc_3 (w := nI 1) dX4_stepBySteps_43 (by decide) rfl (by decide) ?_
                  refine fx_goto (tgt := 6) dX4_stepBySteps_46 (by decide) ?_
                  rw [nI_add]
                  first | (rw [nI_ne0' hc21, decide_eq_true hc25] at ih1; exact ih1) | (rw [nI_ne0' hc21, decide_eq_false hc25, decide_eq_false (Int32.not_lt.mpr hc32)] at ih1; exact ih1) | (rw [nI_ne0' hc21, decide_eq_false hc25, decide_eq_true (Int32.not_le.mp hc32)] at ih1; exact ih1) | (rw [nI_eq0' hc21, Bool.false_and] at ih1; exact ih1)
                · refine fx_iconst (v := nI 1) dX4_stepBySteps_35 (by decide) ?_
                  refine fx_goto (tgt := 40) dX4_stepBySteps_36 (by decide) ?_
                  refine fs_istore_n_2 dX4_stepBySteps_40 rfl (by decide) ?_
                  refine fx_iload_n dX4_stepBySteps_41 rfl rfl ?_
                  refine fs_istore_n_1 dX4_stepBySteps_42 rfl (by decide) ?_
                  refine fs_iinc_3 (w := nI 1) dX4_stepBySteps_43 (by decide) rfl (by decide) ?_
                  refine fx_goto (tgt := 6) dX4_stepBySteps_46 (by decide) ?_
                  rw [nI_add]
                  first | (rw [nI_ne0' hc21, decide_eq_true hc25] at ih1; exact ih1) | (rw [nI_ne0' hc21, decide_eq_false hc25, decide_eq_false (Int32.not_lt.mpr hc32)] at ih1; exact ih1) | (rw [nI_ne0' hc21, decide_eq_false hc25, decide_eq_true (Int32.not_le.mp hc32)] at ih1; exact ih1) | (rw [nI_eq0' hc21, Bool.false_and] at ih1; exact ih1)
  refine fx_iconst (v := (-1)) dX4_stepBySteps_0 (by decide) ?_
  refine fs_istore_n_1 dX4_stepBySteps_1 rfl (by decide) ?_
  refine fx_iconst (v := nI 1) dX4_stepBySteps_2 (by decide) ?_
  refine fs_istore_n_2 dX4_stepBySteps_3 rfl (by decide) ?_
  refine fx_iconst (v := nI 0) dX4_stepBySteps_4 (by decide) ?_
  refine fs_istore_n_3 dX4_stepBySteps_5 rfl (by decide) ?_
  exact H 12 0 (by omega)
def jlg (x : Nat) : Nat → Int32 × Int32 × Int32
  | 0 => (nI 0, nI 0, (-3))
  | k + 1 => if x.testBit k = true then (jmax (jlg x k).1 (if nI k - (jlg x k).2.2 < nI 3 then (jlg x k).2.1 + nI 1 else nI 1), (if nI k - (jlg x k).2.2 < nI 3 then (jlg x k).2.1 + nI 1 else nI 1), nI k) else jlg x k
theorem eX4_longest {x : Nat} {h : zH} (hx : x < 2 ^ 31) : Mx mX4_longest [.int (nI x)] h (some (.int (jlg x 12).1)) h := by
  refine mx_of (L := [some (.int (nI x)), none, none, none, none]) (by decide) (fun _ => rfl) (fun _ => Nat.le_of_ble_eq_true rfl) ?_
  have H : ∀ (k i : Nat), i + k = 12 → Fx mX4_longest (some (.int (jlg x 12).1), h) 10 [some (.int (nI x)), some (.int (jlg x i).1), some (.int (jlg x i).2.1), some (.int (jlg x i).2.2), some (.int (nI i))] [] h := by
    intro k
    induction k with
    | zero =>
      intro i hi
      have hi' : i = 12 := by omega
      subst hi'
      refine fx_iload dX4_longest_10 rfl ?_
      refine fx_bipush (v := nI 12) dX4_longest_12 (by decide) ?_
      refine fx_icmp_ge (tgt := 57) dX4_longest_14 (by decide) rfl (fun hc14 => ?_) (fun hc14 => ?_)
      · refine fx_iload_n dX4_longest_57 rfl rfl ?_
        exact fx_ireq dX4_longest_58 rfl rfl rfl rfl
      · exact absurd (Int32.le_refl _) hc14
    | succ k ih =>
      intro i hi
      have ih1 := ih (i + 1) (by omega)
      have e1 : jlg x (i + 1) = if x.testBit i = true then (jmax (jlg x i).1 (if nI i - (jlg x i).2.2 < nI 3 then (jlg x i).2.1 + nI 1 else nI 1), (if nI i - (jlg x i).2.2 < nI 3 then (jlg x i).2.1 + nI 1 else nI 1), nI i) else jlg x i := rfl
      cases hb : x.testBit i
      · rw [e1, hb, if_neg (by decide)] at ih1
        refine fx_iload dX4_longest_10 rfl ?_
        refine fx_bipush (v := nI 12) dX4_longest_12 (by decide) ?_
        refine fx_icmp_ge (tgt := 57) dX4_longest_14 (by decide) rfl (fun hc14 => ?_) (fun hc14 => ?_)
        · exact absurd hc14 (nI_ge (by omega) (by omega))
        · refine fx_iload_n dX4_longest_17 rfl rfl ?_
          refine fx_iload dX4_longest_18 rfl ?_
          refine fx_callSv dX4_longest_20 sX4_has lX4_239 (by decide) (Nat.le_of_ble_eq_true rfl) (eX4_has hx (by omega)) rfl ?_
          rw [hb]
          refine fx_if_eq (tgt := 51) dX4_longest_23 (by decide) rfl (fun hc23 => ?_) (fun hc23 => ?_)
          · refine fs_iinc_4 (w := nI 1) dX4_longest_51 (by decide) rfl (by decide) ?_
            refine fx_goto (tgt := 10) dX4_longest_54 (by decide) ?_
            rw [nI_add]
            exact ih1
          · exact absurd rfl hc23
      · rw [e1, hb, if_pos rfl] at ih1
        refine fx_iload dX4_longest_10 rfl ?_
        refine fx_bipush (v := nI 12) dX4_longest_12 (by decide) ?_
        refine fx_icmp_ge (tgt := 57) dX4_longest_14 (by decide) rfl (fun hc14 => ?_) (fun hc14 => ?_)
        · exact absurd hc14 (nI_ge (by omega) (by omega))
        · refine fx_iload_n dX4_longest_17 rfl rfl ?_
          refine fx_iload dX4_longest_18 rfl ?_
          refine fx_callSv dX4_longest_20 sX4_has lX4_239 (by decide) (Nat.le_of_ble_eq_true rfl) (eX4_has hx (by omega)) rfl ?_
          rw [hb]
          refine fx_if_eq (tgt := 51) dX4_longest_23 (by decide) rfl (fun hc23 => ?_) (fun hc23 => ?_)
          · exact absurd hc23 (by decide)
          · refine fx_iload dX4_longest_26 rfl ?_
            refine fx_iload_n dX4_longest_28 rfl rfl ?_
            refine fx_isub dX4_longest_29 ?_
            refine fx_iconst (v := nI 3) dX4_longest_30 (by decide) ?_
            refine fx_icmp_ge (tgt := 40) dX4_longest_31 (by decide) rfl (fun hc31 => ?_) (fun hc31 => ?_)
            · refine fx_iconst (v := nI 1) dX4_longest_40 (by decide) ?_
              refine fs_istore_n_2 dX4_longest_41 rfl (by decide) ?_
              refine fx_iload dX4_longest_42 rfl ?_
              refine fs_istore_n_3 dX4_longest_44 rfl (by decide) ?_
              refine fx_iload_n dX4_longest_45 rfl rfl ?_
              refine fx_iload_n dX4_longest_46 rfl rfl ?_
              refine fx_max dX4_longest_47 lX4_132 (by decide) (Nat.le_of_ble_eq_true rfl) ?_
              refine fs_istore_n_1 dX4_longest_50 rfl (by decide) ?_
              refine fs_iinc_4 (w := nI 1) dX4_longest_51 (by decide) rfl (by decide) ?_
              refine fx_goto (tgt := 10) dX4_longest_54 (by decide) ?_
              rw [nI_add]
              first | (rw [if_neg (Int32.not_lt.mpr hc31)] at ih1; exact ih1) | (rw [if_pos (Int32.not_le.mp hc31)] at ih1; exact ih1)
            · refine fx_iload_n dX4_longest_34 rfl rfl ?_
              refine fx_iconst (v := nI 1) dX4_longest_35 (by decide) ?_
              refine fx_iadd dX4_longest_36 ?_
              refine fx_goto (tgt := 41) dX4_longest_37 (by decide) ?_
              refine fs_istore_n_2 dX4_longest_41 rfl (by decide) ?_
              refine fx_iload dX4_longest_42 rfl ?_
              refine fs_istore_n_3 dX4_longest_44 rfl (by decide) ?_
              refine fx_iload_n dX4_longest_45 rfl rfl ?_
              refine fx_iload_n dX4_longest_46 rfl rfl ?_
              refine fx_max dX4_longest_47 lX4_132 (by decide) (Nat.le_of_ble_eq_true rfl) ?_
              refine fs_istore_n_1 dX4_longest_50 rfl (by decide) ?_
              refine fs_iinc_4 (w := nI 1) dX4_longest_51 (by decide) rfl (by decide) ?_
              refine fx_goto (tgt := 10) dX4_longest_54 (by decide) ?_
              rw [nI_add]
              first | (rw [if_neg (Int32.not_lt.mpr hc31)] at ih1; exact ih1) | (rw [if_pos (Int32.not_le.mp hc31)] at ih1; exact ih1)
  refine fx_iconst (v := nI 0) dX4_longest_0 (by decide) ?_
  refine fs_istore_n_1 dX4_longest_1 rfl (by decide) ?_
  refine fx_iconst (v := nI 0) dX4_longest_2 (by decide) ?_
  refine fs_istore_n_2 dX4_longest_3 rfl (by decide) ?_
  refine fx_bipush (v := (-3)) dX4_longest_4 (by decide) ?_
  refine fs_istore_n_3 dX4_longest_6 rfl (by decide) ?_
  refine fx_iconst (v := nI 0) dX4_longest_7 (by decide) ?_
  refine fs_istore_4 dX4_longest_8 rfl (by decide) ?_
  exact H 12 0 (by omega)
/-- draws -/
def jz (z : Int32) : Int32 := z * 1103515245 + nI 12345
def jq (z : Int32) : Nat := (jz z).toBitVec.toNat / 256
theorem jq_e (z : Int32) : ((jz z).toUInt32 >>> ((nI 8).toUInt32 &&& Int32.toUInt32 31)).toInt32 = nI (jq z) ∧ jq z < 2 ^ 24 := by
  have h : (((nI 8).toUInt32 &&& Int32.toUInt32 31).toBitVec % 32).toNat = 8 := by decide
  have e := pk_ushr (jz z) (nI 8) 8 h
  have hl := (jz z).toBitVec.isLt
  have hq : jq z < 2 ^ 24 := by unfold jq; omega
  refine ⟨?_, hq⟩
  apply Int32.toBitVec_inj.mp
  apply BitVec.eq_of_toNat_eq
  rw [e, pk_tn (by omega)]
  rfl
section
variable {F : Nat → Int32} {G : Nat → Nat → Int32} {n : Nat}
theorem eX4_drawn {m : Nat} (h0 : 0 < m) (hm : m < 2 ^ 31) : Mx mX4_drawn [.ref 0, .int (nI m)] (rM F G) (some (.int (nI (jq (G 1 3) % m)))) (rM F (ga G 1 (upd (G 1) 3 (jz (G 1 3))))) := by
  refine mx_of (L := [some (.ref 0), some (.int (nI m))]) (by decide) (fun _ => rfl) (fun _ => Nat.le_of_ble_eq_true rfl) ?_
  obtain ⟨e1, e2⟩ := jq_e (G 1 3)
  refine fx_aload_n dX4_drawn_0 rfl rfl ?_
  refine fx_get dX4_drawn_1 kX4_9 rfl rfl ?_
  refine fx_iconst (v := nI 3) dX4_drawn_4 (by decide) ?_
  refine fx_aload_n dX4_drawn_5 rfl rfl ?_
  refine fx_get dX4_drawn_6 kX4_9 rfl rfl ?_
  refine fx_iconst (v := nI 3) dX4_drawn_9 (by decide) ?_
  refine fx_iald dX4_drawn_10 rfl (vp_in_nI (by decide) (by decide)) ?_
  rw [nI_clamp (n := 3) (by decide)]
  refine fx_ldc dX4_drawn_11 qX4_254 ?_
  refine fx_imul dX4_drawn_13 ?_
  refine fx_sipush (v := nI 12345) dX4_drawn_14 (by decide) ?_
  refine fx_iadd dX4_drawn_17 ?_
  refine fx_as (y := jz (G 1 3)) rfl ?_
  refine fx_iast dX4_drawn_18 rfl (vp_in_nI (by decide) (by decide)) (w4_1 ..) ?_
  refine fx_aload_n dX4_drawn_19 rfl rfl ?_
  refine fx_get dX4_drawn_20 kX4_9 rfl rfl ?_
  refine fx_iconst (v := nI 3) dX4_drawn_23 (by decide) ?_
  refine fx_iald dX4_drawn_24 rfl (vp_in_nI (by decide) (by decide)) ?_
  rw [nI_clamp (n := 3) (by decide), ga_s, pk_us]
  refine fx_bipush (v := nI 8) dX4_drawn_25 (by decide) ?_
  refine fx_iushr dX4_drawn_27 ?_
  rw [e1]
  refine fx_iload_n dX4_drawn_28 rfl rfl ?_
  refine fx_irem dX4_drawn_29 (nI_ne0 h0 hm) ?_
  exact fx_ireq dX4_drawn_30 rfl rfl (pk_rem (by omega) h0 hm) rfl
def jcome (V : Nat → Int32) (n : Nat) (k c t w : Int32) : Nat → Int32 := upd (upd (upd (upd (upd (upd V (146 + 5 * n + 0) k) (146 + 5 * n + 1) c) (146 + 5 * n + 2) t) (146 + 5 * n + 3) w) (146 + 5 * n + 4) (nI 0)) 2 (nI (n + 1))
theorem eX4_comes {k c t w : Int32} (hV : jW (G 1) n) (hn : n < 8) : Mx mX4_comes [.ref 0, .int k, .int c, .int t, .int w] (rM F G) (some (.int (nI n))) (rM F (ga G 1 (jcome (G 1) n k c t w))) := by
  refine mx_of (L := [some (.ref 0), some (.int k), some (.int c), some (.int t), some (.int w), none]) (by decide) (fun _ => rfl) (fun _ => Nat.le_of_ble_eq_true rfl) ?_
  refine fx_aload_n dX4_comes_0 rfl rfl ?_
  refine fx_get dX4_comes_1 kX4_9 rfl rfl ?_
  refine fx_iconst (v := nI 2) dX4_comes_4 (by decide) ?_
  refine fx_iald dX4_comes_5 rfl (vp_in_nI (by decide) (by decide)) ?_
  rw [nI_clamp (n := 2) (by decide), hV.1]
  refine fs_istore_5 dX4_comes_6 rfl (by decide) ?_
  refine fx_aload_n dX4_comes_8 rfl rfl ?_
  refine fx_get dX4_comes_9 kX4_9 rfl rfl ?_
  refine fx_iload dX4_comes_12 rfl ?_
  refine fx_iconst (v := nI 0) dX4_comes_14 (by decide) ?_
  refine fx_callSv dX4_comes_15 sX4_at lX4_98 (by decide) (Nat.le_of_ble_eq_true rfl) eX4_at rfl ?_
  refine fx_iload_n dX4_comes_18 rfl rfl ?_
  refine fx_iast dX4_comes_19 rfl (jat_in hn (by decide)) (w4_1 ..) ?_
  rw [jat_c hn (by decide)]
  refine fx_aload_n dX4_comes_20 rfl rfl ?_
  refine fx_get dX4_comes_21 kX4_9 rfl rfl ?_
  refine fx_iload dX4_comes_24 rfl ?_
  refine fx_iconst (v := nI 1) dX4_comes_26 (by decide) ?_
  refine fx_callSv dX4_comes_27 sX4_at lX4_98 (by decide) (Nat.le_of_ble_eq_true rfl) eX4_at rfl ?_
  refine fx_iload_n dX4_comes_30 rfl rfl ?_
  refine fx_iast dX4_comes_31 rfl (jat_in hn (by decide)) (w4_1 ..) ?_
  rw [jat_c hn (by decide), ga_s, ga_ga]
  refine fx_aload_n dX4_comes_32 rfl rfl ?_
  refine fx_get dX4_comes_33 kX4_9 rfl rfl ?_
  refine fx_iload dX4_comes_36 rfl ?_
  refine fx_iconst (v := nI 2) dX4_comes_38 (by decide) ?_
  refine fx_callSv dX4_comes_39 sX4_at lX4_98 (by decide) (Nat.le_of_ble_eq_true rfl) eX4_at rfl ?_
  refine fx_iload_n dX4_comes_42 rfl rfl ?_
  refine fx_iast dX4_comes_43 rfl (jat_in hn (by decide)) (w4_1 ..) ?_
  rw [jat_c hn (by decide), ga_s, ga_ga]
  refine fx_aload_n dX4_comes_44 rfl rfl ?_
  refine fx_get dX4_comes_45 kX4_9 rfl rfl ?_
  refine fx_iload dX4_comes_48 rfl ?_
  refine fx_iconst (v := nI 3) dX4_comes_50 (by decide) ?_
  refine fx_callSv dX4_comes_51 sX4_at lX4_98 (by decide) (Nat.le_of_ble_eq_true rfl) eX4_at rfl ?_
  refine fx_iload dX4_comes_54 rfl ?_
  refine fx_iast dX4_comes_56 rfl (jat_in hn (by decide)) (w4_1 ..) ?_
  rw [jat_c hn (by decide), ga_s, ga_ga]
  refine fx_aload_n dX4_comes_57 rfl rfl ?_
  refine fx_get dX4_comes_58 kX4_9 rfl rfl ?_
  refine fx_iload dX4_comes_61 rfl ?_
  refine fx_iconst (v := nI 4) dX4_comes_63 (by decide) ?_
  refine fx_callSv dX4_comes_64 sX4_at lX4_98 (by decide) (Nat.le_of_ble_eq_true rfl) eX4_at rfl ?_
  refine fx_iconst (v := nI 0) dX4_comes_67 (by decide) ?_
  refine fx_iast dX4_comes_68 rfl (jat_in hn (by decide)) (w4_1 ..) ?_
  rw [jat_c hn (by decide), ga_s, ga_ga]
  refine fx_aload_n dX4_comes_69 rfl rfl ?_
  refine fx_get dX4_comes_70 kX4_9 rfl rfl ?_
  refine fx_iconst (v := nI 2) dX4_comes_73 (by decide) ?_
  refine fx_dup2 dX4_comes_74 rfl rfl ?_
  refine fx_iald dX4_comes_75 rfl (vp_in_nI (by decide) (by decide)) ?_
  rw [nI_clamp (n := 2) (by decide), ga_s, pk_un (show 2 ≠ 146 + 5 * n + 4 by omega), pk_un (show 2 ≠ 146 + 5 * n + 3 by omega), pk_un (show 2 ≠ 146 + 5 * n + 2 by omega), pk_un (show 2 ≠ 146 + 5 * n + 1 by omega), pk_un (show 2 ≠ 146 + 5 * n + 0 by omega), hV.1]
  refine fx_iconst (v := nI 1) dX4_comes_76 (by decide) ?_
  refine fx_iadd dX4_comes_77 ?_
  rw [nI_add]
  refine fx_iast dX4_comes_78 rfl (vp_in_nI (by decide) (by decide)) (w4_1 ..) ?_
  refine fx_iload dX4_comes_79 rfl ?_
  exact fx_ireq dX4_comes_81 rfl rfl rfl (by rw [nI_clamp (n := 2) (by decide), ga_s, ga_ga]; rfl)
def jmb (j : Nat) (v : Int32) : Bool := if j = 0 then jwi v (nI 0) (nI 6) else if j = 1 then jwi v (nI 0) (nI 63) else if j = 2 then jwi v (nI 0) (nI 11) else if j = 3 then jwi v (nI 1) (nI 99) else jwi v (nI 0) (nI 1)
theorem jwi_out {v : Int32} {k : Nat} (hk : k < 2 ^ 31) (h : jwi v (nI 0) (nI k) = false) : v.toInt < 0 ∨ (k : Int) < v.toInt := by
  by_cases a : v.toInt < 0
  · exact Or.inl a
  · refine Or.inr (Int.not_le.mp fun q => ?_)
    have h1 : nI 0 ≤ v := by rw [Int32.le_iff_toInt_le, nI_toInt (by decide)]; exact Int.not_lt.mp a
    have h2 : v ≤ nI k := by rw [Int32.le_iff_toInt_le, nI_toInt hk]; exact q
    unfold jwi at h
    rw [decide_eq_true h1, decide_eq_true h2] at h
    exact absurd h (by decide)
theorem eX4_mayBe {j : Nat} {v : Int32} {h : zH} (hj : j ≤ 4) : Mx mX4_mayBe [.int (nI j), .int v] h (some (.int (jB (jmb j v)))) h := by
  refine mx_of (L := [some (.int (nI j)), some (.int v)]) (by decide) (fun _ => rfl) (fun _ => Nat.le_of_ble_eq_true rfl) ?_
  have T : ∀ t : Nat, Fx mX4_mayBe (some (.int (jB (jmb j v))), h) t [some (.int (nI j)), some (.int v)] [] h → (t = 36 ∧ j = 0 ∨ t = 41 ∧ j = 1 ∨ t = 46 ∧ j = 2 ∨ t = 54 ∧ j = 3 ∨ t = 62 ∧ j = 4) → Fx mX4_mayBe (some (.int (jB (jmb j v))), h) 0 [some (.int (nI j)), some (.int v)] [] h := by
    intro t k ht
    refine fx_iload_n dX4_mayBe_0 rfl rfl ?_
    rcases ht with ⟨rfl, rfl⟩ | ⟨rfl, rfl⟩ | ⟨rfl, rfl⟩ | ⟨rfl, rfl⟩ | ⟨rfl, rfl⟩ <;> exact fx_tableIn dX4_mayBe_1 (by decide) (by decide) rfl (by decide) k
  rcases (show j = 0 ∨ j = 1 ∨ j = 2 ∨ j = 3 ∨ j = 4 by omega) with rfl | rfl | rfl | rfl | rfl
  · refine T 36 ?_ (by omega)
    refine fx_iload_n dX4_mayBe_36 rfl rfl ?_
    refine fx_callSv dX4_mayBe_37 sX4_isKind lX4_104 (by decide) (Nat.le_of_ble_eq_true rfl) eX4_isKind rfl ?_
    exact fx_ireq dX4_mayBe_40 rfl (jB_n _) rfl rfl
  · refine T 41 ?_ (by omega)
    refine fx_iload_n dX4_mayBe_41 rfl rfl ?_
    refine fx_callSv dX4_mayBe_42 sX4_isCell lX4_84 (by decide) (Nat.le_of_ble_eq_true rfl) eX4_isCell rfl ?_
    exact fx_ireq dX4_mayBe_45 rfl (jB_n _) rfl rfl
  · refine T 46 ?_ (by omega)
    refine fx_iload_n dX4_mayBe_46 rfl rfl ?_
    refine fx_iconst (v := nI 0) dX4_mayBe_47 (by decide) ?_
    refine fx_bipush (v := nI 11) dX4_mayBe_48 (by decide) ?_
    refine fx_callSv dX4_mayBe_50 sX4_within lX4_74 (by decide) (Nat.le_of_ble_eq_true rfl) eX4_within rfl ?_
    exact fx_ireq dX4_mayBe_53 rfl (jB_n _) rfl rfl
  · refine T 54 ?_ (by omega)
    refine fx_iload_n dX4_mayBe_54 rfl rfl ?_
    refine fx_iconst (v := nI 1) dX4_mayBe_55 (by decide) ?_
    refine fx_bipush (v := nI 99) dX4_mayBe_56 (by decide) ?_
    refine fx_callSv dX4_mayBe_58 sX4_within lX4_74 (by decide) (Nat.le_of_ble_eq_true rfl) eX4_within rfl ?_
    exact fx_ireq dX4_mayBe_61 rfl (jB_n _) rfl rfl
  · refine T 62 ?_ (by omega)
    refine fx_iload_n dX4_mayBe_62 rfl rfl ?_
    refine fx_iconst (v := nI 0) dX4_mayBe_63 (by decide) ?_
    refine fx_iconst (v := nI 1) dX4_mayBe_64 (by decide) ?_
    refine fx_callSv dX4_mayBe_65 sX4_within lX4_74 (by decide) (Nat.le_of_ble_eq_true rfl) eX4_within rfl ?_
    exact fx_ireq dX4_mayBe_68 rfl (jB_n _) rfl rfl
theorem eX4_mayBe_out {x v : Int32} {h : zH} (hx : jwi x (nI 0) (nI 4) = false) : Mx mX4_mayBe [.int x, .int v] h (some (.int (jB false))) h := by
  refine mx_of (L := [some (.int x), some (.int v)]) (by decide) (fun _ => rfl) (fun _ => Nat.le_of_ble_eq_true rfl) ?_
  refine fx_iload_n dX4_mayBe_0 rfl rfl ?_
  refine fx_tableOut (tgt := 69) dX4_mayBe_1 (jwi_out (k := 4) (by decide) hx) (by decide) ?_
  refine fx_iconst (v := nI 0) dX4_mayBe_69 (by decide) ?_
  exact fx_ireq dX4_mayBe_70 rfl (jB_n _) rfl rfl
theorem eX4_worst {s w e : Nat} (hS : jS G) (hs : s < 4) (hw : w ≤ 99) (he : e < 64) : Mx mX4_worst [.ref 0, .int (nI s), .int (nI w), .int (nI e)] (rM F G) (some (.int (nI (jwo (fun c => jso (G 13) s (nI w) (nI c) (jsz G s / 2)) (fun c => jloN w c e) 64)))) (rM F (ga G 7 (jpa (jfill (fun _ => nI 0) (G 7) 100) (fun c => jso (G 13) s (nI w) (nI c) (jsz G s / 2)) (fun c => jloN w c e) 64))) := by
  refine mx_of (L := [some (.ref 0), some (.int (nI s)), some (.int (nI w)), some (.int (nI e)), none, none, none]) (by decide) (fun _ => rfl) (fun _ => Nat.le_of_ble_eq_true rfl) ?_
  generalize hst : (fun c => jso (G 13) s (nI w) (nI c) (jsz G s / 2)) = st
  generalize hld : (fun c => jloN w c e) = ld
  have hst' : ∀ c, jso (G 13) s (nI w) (nI c) (jsz G s / 2) = st c := fun c => by rw [← hst]
  have hld' : ∀ c, c < 64 → jloud (nI w) (nI c) (nI e) = nI (ld c) ∧ ld c < 100 := by
    intro c hc
    rw [← hld]
    refine ⟨jloud_n hw hc he, ?_⟩
    show w - 3 * japN c e < 100
    omega
  have hP : ∀ l, l < 100 → jfill (fun _ => nI 0) (G 7) 100 l = nI 0 := fun l hl => if_pos hl
  generalize hPe : jfill (fun _ => nI 0) (G 7) 100 = P at hP
  have eI : ∀ (F2 : Nat → Int32) (A : Nat → Int32) (c : Nat), Mx mX4_isSo [.ref 0, .int (nI s), .int (nI w), .int (nI c)] (rM F2 (ga G 7 A)) (some (.int (jB (st c)))) (rM F2 (ga G 7 A)) := by
    intro F2 A c
    have := eX4_isSo (F := F2) (G := ga G 7 A) (s := s) (w := nI w) (c := nI c) (fun q hq => by rw [ga_n _ _ (by decide), ga_n _ _ (by decide)]; exact hS q hq) hs
    unfold jsz at this
    rw [ga_n _ _ (by decide), ga_n _ _ (by decide)] at this
    rw [← hst']
    exact this
  have H : ∀ (k c : Nat), c + k = 64 → ∀ x6 : Option Value, Fx mX4_worst (some (.int (nI (jwo st ld 64))), rM F (ga G 7 (jpa P st ld 64))) 30 [some (.ref 0), some (.int (nI s)), some (.int (nI w)), some (.int (nI e)), some (.int (nI (jwo st ld c))), some (.int (nI c)), x6] [] (rM F (ga G 7 (jpa P st ld c))) := by
    intro k
    induction k with
    | zero =>
      intro c hc x6
      have hc' : c = 64 := by omega
      subst hc'
      refine fx_iload dX4_worst_30 rfl ?_
      refine fx_bipush (v := nI 64) dX4_worst_32 (by decide) ?_
      refine fx_icmp_ge (tgt := 93) dX4_worst_34 (by decide) rfl (fun hc34 => ?_) (fun hc34 => ?_)
      · refine fx_iload dX4_worst_93 rfl ?_
        exact fx_ireq dX4_worst_95 rfl rfl rfl rfl
      · exact absurd (Int32.le_refl _) hc34
    | succ k ih =>
      intro c hc x6
      obtain ⟨e1, e2⟩ := hld' c (by omega)
      have ih1 := ih (c + 1) (by omega)
      have eP : jpa P st ld c (ld c) = nI (jct st ld (ld c) c) := jpa_e (hP _ e2) c
      have eP1 : jpa P st ld (c + 1) (ld c) = nI (jct st ld (ld c) (c + 1)) := jpa_e (hP _ e2) (c + 1)
      have hle := jwo_le st ld c
      have hle2 := jct_le st ld (ld c) (c + 1)
      have eW : jmax (nI (jwo st ld c)) (nI (jct st ld (ld c) (c + 1))) = nI (jwo st ld (c + 1)) := by
        rw [jmax_n (by omega) (by omega)]
        have e3 : jwo st ld (c + 1) = if st c = true then max (jwo st ld c) (jct st ld (ld c) (c + 1)) else jwo st ld c := rfl
        rw [e3]
        by_cases h : st c = true
        · rw [if_pos h]
        · rw [if_neg h, Nat.max_eq_left]
          have : jct st ld (ld c) (c + 1) = jct st ld (ld c) c + (if st c = true ∧ ld c = ld c then 1 else 0) := rfl
          rw [this, if_neg (fun q => h q.1)]
          exact jct_wo st ld c (ld c)
      have eU : ∀ b : Bool, st c = b → upd (jpa P st ld c) (ld c) (jpa P st ld c (ld c) + jB b) = jpa P st ld (c + 1) := fun b hb => by rw [← hb]; rfl
      have J72 : ∀ b : Bool, st c = b → Fx mX4_worst (some (.int (nI (jwo st ld 64))), rM F (ga G 7 (jpa P st ld 64))) 71 [some (.ref 0), some (.int (nI s)), some (.int (nI w)), some (.int (nI e)), some (.int (nI (jwo st ld c))), some (.int (nI c)), some (.int (nI (ld c)))] [.int (jB b), .int (jpa P st ld c (ld c)), .int (nI (ld c)), .ref 7] (rM F (ga G 7 (jpa P st ld c))) := by
        intro b hb
        refine fx_iadd dX4_worst_71 ?_
        refine fx_iast dX4_worst_72 rfl (vp_in_nI e2 (by decide)) (w4_7 ..) ?_
        rw [nI_clamp (by omega), ga_s, ga_ga, eU b hb]
        refine fx_iload dX4_worst_73 rfl ?_
        refine fx_aload_n dX4_worst_75 rfl rfl ?_
        refine fx_get dX4_worst_76 kX4_28 rfl rfl ?_
        refine fx_iload dX4_worst_79 rfl ?_
        refine fx_iald dX4_worst_81 rfl (vp_in_nI e2 (by decide)) ?_
        rw [nI_clamp (by omega), ga_s, eP1]
        refine fx_max dX4_worst_82 lX4_132 (by decide) (Nat.le_of_ble_eq_true rfl) ?_
        rw [eW]
        refine fs_istore_4 dX4_worst_85 rfl (by decide) ?_
        refine fs_iinc_5 (w := nI 1) dX4_worst_87 (by decide) rfl (by decide) ?_
        refine fx_goto (tgt := 30) dX4_worst_90 (by decide) ?_
        rw [nI_add]
        exact ih1 _
      refine fx_iload dX4_worst_30 rfl ?_
      refine fx_bipush (v := nI 64) dX4_worst_32 (by decide) ?_
      refine fx_icmp_ge (tgt := 93) dX4_worst_34 (by decide) rfl (fun hc34 => ?_) (fun hc34 => ?_)
      · exact absurd hc34 (nI_ge (by omega) (by omega))
      · refine fx_aload_n dX4_worst_37 rfl rfl ?_
        refine fx_iload_n dX4_worst_38 rfl rfl ?_
        refine fx_iload dX4_worst_39 rfl ?_
        refine fx_iload_n dX4_worst_41 rfl rfl ?_
        refine fx_callVv dX4_worst_42 vX4_loudOf lX4_150 (by decide) rfl (Nat.le_of_ble_eq_true rfl) eX4_loudOf rfl ?_
        rw [e1]
        refine fs_istore_6 dX4_worst_45 rfl (by decide) ?_
        refine fx_aload_n dX4_worst_47 rfl rfl ?_
        refine fx_get dX4_worst_48 kX4_28 rfl rfl ?_
        refine fx_iload dX4_worst_51 rfl ?_
        refine fx_dup2 dX4_worst_53 rfl rfl ?_
        refine fx_iald dX4_worst_54 rfl (vp_in_nI e2 (by decide)) ?_
        rw [nI_clamp (by omega), ga_s]
        refine fx_aload_n dX4_worst_55 rfl rfl ?_
        refine fx_iload_n dX4_worst_56 rfl rfl ?_
        refine fx_iload_n dX4_worst_57 rfl rfl ?_
        refine fx_iload dX4_worst_58 rfl ?_
        refine fx_callVv dX4_worst_60 vX4_isSo lX4_230 (by decide) rfl (Nat.le_of_ble_eq_true rfl) (eI _ _ _) rfl ?_
        refine fx_if_eq (tgt := 70) dX4_worst_63 (by decide) rfl (fun hc63 => ?_) (fun hc63 => ?_)
        · refine fx_iconst (v := nI 0) dX4_worst_70 (by decide) ?_
          first | exact fx_eq (J72 true (nI_ne0' hc63)) rfl rfl rfl | exact fx_eq (J72 false (nI_eq0' hc63)) rfl rfl rfl
        · refine fx_iconst (v := nI 1) dX4_worst_66 (by decide) ?_
          refine fx_goto (tgt := 71) dX4_worst_67 (by decide) ?_
          first | exact fx_eq (J72 true (nI_ne0' hc63)) rfl rfl rfl | exact fx_eq (J72 false (nI_eq0' hc63)) rfl rfl rfl
  have H3 : ∀ (k i : Nat), i + k = 100 → ∀ x5 x6 : Option Value, Fx mX4_worst (some (.int (nI (jwo st ld 64))), rM F (ga G 7 (jpa P st ld 64))) 3 [some (.ref 0), some (.int (nI s)), some (.int (nI w)), some (.int (nI e)), some (.int (nI i)), x5, x6] [] (rM F (ga G 7 (jfill (fun _ => nI 0) (G 7) i))) := by
    intro k
    induction k with
    | zero =>
      intro i hi x5 x6
      have hi' : i = 100 := by omega
      subst hi'
      rw [hPe]
      refine fx_iload dX4_worst_3 rfl ?_
      refine fx_bipush (v := nI 99) dX4_worst_5 (by decide) ?_
      refine fx_icmp_gt (tgt := 24) dX4_worst_7 (by decide) rfl (fun hc7 => ?_) (fun hc7 => ?_)
      · refine fx_iconst (v := nI 0) dX4_worst_24 (by decide) ?_
        refine fs_istore_4 dX4_worst_25 rfl (by decide) ?_
        refine fx_iconst (v := nI 0) dX4_worst_27 (by decide) ?_
        refine fs_istore_5 dX4_worst_28 rfl (by decide) ?_
        exact H 64 0 (by omega) _
      · exact absurd (nI_lt (by decide) (by decide)) hc7
    | succ k ih =>
      intro i hi x5 x6
      have ih1 := ih (i + 1) (by omega) x5 x6
      rw [← jfill_s (fun _ => nI 0) (G 7) i] at ih1
      refine fx_iload dX4_worst_3 rfl ?_
      refine fx_bipush (v := nI 99) dX4_worst_5 (by decide) ?_
      refine fx_icmp_gt (tgt := 24) dX4_worst_7 (by decide) rfl (fun hc7 => ?_) (fun hc7 => ?_)
      · exact absurd hc7 (nI_nlt (by omega) (by omega))
      · refine fx_aload_n dX4_worst_10 rfl rfl ?_
        refine fx_get dX4_worst_11 kX4_28 rfl rfl ?_
        refine fx_iload dX4_worst_14 rfl ?_
        refine fx_iconst (v := nI 0) dX4_worst_16 (by decide) ?_
        refine fx_iast dX4_worst_17 rfl (vp_in_nI (by omega) (by omega)) (w4_7 ..) ?_
        rw [nI_clamp (by omega), ga_s, ga_ga]
        refine fs_iinc_4 (w := nI 1) dX4_worst_18 (by decide) rfl (by decide) ?_
        refine fx_goto (tgt := 3) dX4_worst_21 (by decide) ?_
        rw [nI_add]
        exact ih1
  have H0 := H3 100 0 (by omega) none none
  rw [show jfill (fun _ => nI 0) (G 7) 0 = G 7 from rfl, ga_id] at H0
  refine fx_iconst (v := nI 0) dX4_worst_0 (by decide) ?_
  refine fs_istore_4 dX4_worst_1 rfl (by decide) ?_
  exact H0
end
