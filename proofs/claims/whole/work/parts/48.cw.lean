/-! ===== pairs: sheet, write, copy, load, judge, lasts, feed ===== -/
set_option maxRecDepth 100000
theorem jwd_y {b : Int32} (h : b = 0 ∨ b = nI 8 ∨ b = nI 16 ∨ b = nI 32) : jwd b = true := by rcases h with rfl | rfl | rfl | rfl <;> decide
theorem jix_y {v : Int32} {z : Nat} (hz : z ≤ 40) (h : ¬ v < 0) (h2 : v < nI z) : jwi v (nI 0) (nI z - nI 1) = true := by
  obtain ⟨a, ha, rfl⟩ := nI_of h
  have h3 := (nI_ltI ha (by omega)).mp h2
  rw [pk_sub (by omega)]
  exact jwi_n (by omega) (by omega)
theorem jix_of {v : Int32} {z : Nat} (hz : z ≤ 40) (h : jwi v (nI 0) (nI z - nI 1) = true) : ∃ i, i < z ∧ v = nI i := by
  by_cases h0 : z = 0
  · subst h0
    unfold jwi at h
    rw [Bool.and_eq_true, decide_eq_true_eq, decide_eq_true_eq] at h
    exact absurd (Int32.le_trans h.1 h.2) (by decide)
  · rw [pk_sub (by omega)] at h
    obtain ⟨i, hi, rfl⟩ := jwi_of (by omega) h
    exact ⟨i, by omega, rfl⟩
theorem j12_y {x : Int32} (h : x = nI 1 ∨ x = nI 2) : jwi x (nI 1) (nI 2) = true := by rcases h with rfl | rfl <;> decide
theorem j12_n {x : Int32} (h : ¬ x = nI 1) (h2 : ¬ x = nI 2) : jwi x (nI 1) (nI 2) = false := by
  cases e : jwi x (nI 1) (nI 2)
  · rfl
  · obtain ⟨j, hj1, hj2, rfl⟩ := jwi1_of (by decide) e
    rcases (show j = 1 ∨ j = 2 by omega) with rfl | rfl
    · exact absurd rfl h
    · exact absurd rfl h2
theorem jbyte (x : Int32) : ∀ k, k < 4 → ((x.toUInt32 >>> ((nI (8 * k)).toUInt32 &&& Int32.toUInt32 31)).toInt32) &&& nI 255 = (x >>> (nI (8 * k) &&& 31)) &&& nI 255 := by
  intro k hk
  have hx : x.toInt = if 2 * x.toBitVec.toNat < 2 ^ 32 then (x.toBitVec.toNat : Int) else (x.toBitVec.toNat : Int) - (2 ^ 32 : Nat) := BitVec.toInt_eq_toNat_cond x.toBitVec
  have hy : (x >>> (nI (8 * k) &&& 31)).toInt = if 2 * (x >>> (nI (8 * k) &&& 31)).toBitVec.toNat < 2 ^ 32 then ((x >>> (nI (8 * k) &&& 31)).toBitVec.toNat : Int) else ((x >>> (nI (8 * k) &&& 31)).toBitVec.toNat : Int) - (2 ^ 32 : Nat) := BitVec.toInt_eq_toNat_cond (x >>> (nI (8 * k) &&& 31)).toBitVec
  have h1 := pk_shr x (nI (8 * k) &&& 31) (8 * k) (by rcases (show k = 0 ∨ k = 1 ∨ k = 2 ∨ k = 3 by omega) with rfl | rfl | rfl | rfl <;> decide)
  have h2 := pk_ushr x (nI (8 * k)) (8 * k) (by rcases (show k = 0 ∨ k = 1 ∨ k = 2 ∨ k = 3 by omega) with rfl | rfl | rfl | rfl <;> decide)
  have hxl : x.toBitVec.toNat < 2 ^ 32 := x.toBitVec.isLt
  have hyl : (x >>> (nI (8 * k) &&& 31)).toBitVec.toNat < 2 ^ 32 := (x >>> (nI (8 * k) &&& 31)).toBitVec.isLt
  rw [pk_and _ 8 (by decide), pk_and _ 8 (by decide), h2]
  rw [Int.shiftRight_eq_div_pow] at h1
  generalize (x >>> (nI (8 * k) &&& 31)).toBitVec.toNat = yn at *
  generalize x.toBitVec.toNat = xn at *
  rw [hx, hy] at h1
  congr 1
  rcases (show k = 0 ∨ k = 1 ∨ k = 2 ∨ k = 3 by omega) with rfl | rfl | rfl | rfl
  · rw [show ((2 ^ (8 * 0) : Nat) : Int) = 1 from rfl] at h1
    rw [show 2 ^ (8 * 0) = 1 from rfl]
    split at h1 <;> split at h1 <;> omega
  · rw [show ((2 ^ (8 * 1) : Nat) : Int) = 256 from rfl] at h1
    rw [show 2 ^ (8 * 1) = 256 from rfl]
    split at h1 <;> split at h1 <;> omega
  · rw [show ((2 ^ (8 * 2) : Nat) : Int) = 65536 from rfl] at h1
    rw [show 2 ^ (8 * 2) = 65536 from rfl]
    split at h1 <;> split at h1 <;> omega
  · rw [show ((2 ^ (8 * 3) : Nat) : Int) = 16777216 from rfl] at h1
    rw [show 2 ^ (8 * 3) = 16777216 from rfl]
    split at h1 <;> split at h1 <;> omega
theorem jfd4_e {x : Int32} : ∀ (k t : Nat) (T T' : Nat → Int32), (∀ i, i < t → T i = T' i ∧ ∃ b, b < 256 ∧ T' i = nI b) → ∀ i, i < t + k → jfd4 T t x k i = jfd4 T' t x k i ∧ ∃ b, b < 256 ∧ jfd4 T' t x k i = nI b := by
  intro k
  induction k with
  | zero => intro t T T' h i hi; exact h i hi
  | succ k ih =>
    intro t T T' h i hi
    refine ih (t + 1) _ _ (fun i hi => ?_) i (by omega)
    by_cases e : i = t
    · subst e
      rw [pk_us, pk_us]
      exact ⟨rfl, by obtain ⟨j, h1, h2⟩ := pk_andE (x >>> (nI (8 * k) &&& 31)) (m := nI 255) 8 (by decide); exact ⟨j, h1, h2⟩⟩
    · rw [pk_un e, pk_un e]
      exact h i (by omega)
/-! stocks: a greater catch never leaves more -/
theorem jstk_mono (n : Nat) {c c' : Nat} (h : c ≤ c') : ∀ y, jstk n c' y ≤ jstk n c y := by
  intro y
  induction y with
  | zero => exact Nat.le_refl _
  | succ y ih =>
    have e : ∀ d, jstk n d (y + 1) = min 9999 ((jstk n d y - min d (jstk n d y)) + (jstk n d y - min d (jstk n d y)) / 10) := fun _ => rfl
    rw [e, e]
    generalize jstk n c y = a at *
    generalize jstk n c' y = b at *
    have h1 : b - min c' b ≤ a - min c a := by omega
    have h2 : (b - min c' b) / 10 ≤ (a - min c a) / 10 := Nat.div_le_div_right h1
    omega
theorem jstk_0 {n : Nat} (hn : n ≤ 9999) : ∀ y, n ≤ jstk n 0 y := by
  intro y
  induction y with
  | zero => exact Nat.le_refl _
  | succ y ih =>
    have e : jstk n 0 (y + 1) = min 9999 ((jstk n 0 y - min 0 (jstk n 0 y)) + (jstk n 0 y - min 0 (jstk n 0 y)) / 10) := rfl
    rw [e, Nat.zero_min, Nat.sub_zero]
    omega
theorem jls_1 (m y c : Nat) : jls m y (c + 1) = if jstk m (c + 1) y < m then jls m y c else c + 1 := rfl
theorem jls_le (m y : Nat) : ∀ K, jls m y K ≤ K := by
  intro K
  induction K with
  | zero => exact Nat.le_refl _
  | succ K ih => rw [jls_1]; split <;> omega
theorem jls_g {m y : Nat} (hm : m ≤ 9999) : ∀ K, m ≤ jstk m (jls m y K) y := by
  intro K
  induction K with
  | zero => exact jstk_0 hm y
  | succ K ih =>
    rw [jls_1]
    by_cases q : jstk m (K + 1) y < m
    · rw [if_pos q]; exact ih
    · rw [if_neg q]; omega
theorem jls_ge {m y c : Nat} (h : m ≤ jstk m c y) : ∀ K, c ≤ K → c ≤ jls m y K := by
  intro K
  induction K with
  | zero => intro hc; omega
  | succ K ih =>
    intro hc
    rw [jls_1]
    by_cases q : jstk m (K + 1) y < m
    · rw [if_pos q]
      by_cases e : c = K + 1
      · subst e; omega
      · exact ih (by omega)
    · rw [if_neg q]; exact hc
theorem jls_lt {m y c : Nat} (hm : m ≤ 9999) (h : jstk m c y < m) (K : Nat) : jls m y K < c := by
  refine Nat.lt_of_not_le fun q => ?_
  have h1 := jstk_mono m q y
  have h2 := jls_g (y := y) hm K
  omega
/-! loads -/
theorem jlv_1 (V a : Nat → Int32) (j n i k : Nat) : jlv V a j n i (k + 1) = if i < n ∧ jwi (a (40 * j + i)) (nI 0) (nI 11) = true then jlv (upd V (146 + 5 * i + 2) (a (40 * j + i))) a j n (i + 1) k else V := rfl
theorem jld_1 (a : Nat → Int32) (j n i k : Nat) : jld a j n i (k + 1) = if i < n ∧ jwi (a (40 * j + i)) (nI 0) (nI 11) = true then jld a j n (i + 1) k else i := rfl
theorem jjg_1 (V a : Nat → Int32) (j n i : Nat) (last : Int32) (k : Nat) : jjg V a j n i last (k + 1) = if jwi (a (40 * j + i)) (nI 0) (nI n - nI 1) = true ∧ (i = 0 ∨ jwi (V (146 + 5 * (a (40 * j + i)).toNatClampNeg + 2) - last) (nI 1) (nI 2) = true) then jjg V a j n (i + 1) (V (146 + 5 * (a (40 * j + i)).toNatClampNeg + 2)) k else nI (1 + i) := rfl
theorem jlv_o {a : Nat → Int32} {j n o : Nat} (ho : o < 146) : ∀ (k i : Nat) (V : Nat → Int32), jlv V a j n i k o = V o := by
  intro k
  induction k with
  | zero => intro i V; rfl
  | succ k ih =>
    intro i V
    rw [jlv_1]
    by_cases q : i < n ∧ jwi (a (40 * j + i)) (nI 0) (nI 11) = true
    · rw [if_pos q, ih, pk_un (by omega)]
    · rw [if_neg q]
theorem jW_lv {a : Nat → Int32} {j n : Nat} : ∀ (k i : Nat) (V : Nat → Int32), jW V n → jW (jlv V a j n i k) n := by
  intro k
  induction k with
  | zero => intro i V h; exact h
  | succ k ih =>
    intro i V h
    rw [jlv_1]
    by_cases q : i < n ∧ jwi (a (40 * j + i)) (nI 0) (nI 11) = true
    · rw [if_pos q]; exact ih _ _ (jW_f h q.1 (by decide) (jgood_2 q.2))
    · rw [if_neg q]; exact h
section
variable {F4 F4' : Nat → Int32} {G4 : Nat → Nat → Int32} {F : Nat → Nat → Int32} {N : Nat → Nat → Int64} {G : Nat → Nat → Int32} {P : Nat → Int32}
theorem pG_o {w p : Nat} {V : Nat → Int32} (h : p ≤ w ∨ w + 7 < p) : pG G w V p = G p := by
  unfold pG
  rw [if_neg (by omega), if_neg (by omega), if_neg (by omega), if_neg (by omega), if_neg (by omega), if_neg (by omega), if_neg (by omega)]
theorem pF_o {w p s : Nat} {V : Nat → Int32} {n : Nat} {h : Int32} (hp : p ≠ w) : pF F w V n h p s = F p s := by
  unfold pF
  rw [if_neg hp]
/-- the numbers of a sheet change -/
theorem jR_num {j : Nat} {a T : Nat → Int32} (R : jR F4 G4 F N G) (hj : j < 4) (hT : ∀ s, s < 4 → s ≠ j → ∀ i, i < 40 → T (40 * s + i) = G4 13 (40 * s + i)) (ha : ∀ i, i < 40 → a i = T (40 * j + i)) : jR F4 (ga G4 13 T) F N (ga G (28 + 2 * j + 1) a) := by
  have c := R.2.2.2.1
  refine jR_o R (fun p V n h t hp q => jI_36 q (by rcases hp with rfl | rfl | rfl <;> omega)) rfl (ga_n _ _ (by decide)) (ga_n _ _ (by decide)) (by rw [ga_n _ _ (by decide)]; exact c.2.2) (c.1.ga (by decide)) ?_
  obtain ⟨a1, ⟨b1, b2⟩, ⟨z, z1, z2, z3, z4⟩, d1, d2⟩ := R.2.2.2.2
  refine ⟨a1, ⟨?_, ?_⟩, ⟨z, z1, z2, z3, ?_⟩, ?_, fun s hs => ?_⟩
  · rw [ga_n _ _ (by omega), ga_n _ _ (by decide)]; exact b1
  · rw [ga_n _ _ (show (4 : Nat) ≠ 13 by decide), ga_n _ _ (show (36 : Nat) ≠ 28 + 2 * j + 1 by omega)]; exact b2
  · rw [ga_n _ _ (by omega), ga_n _ _ (by decide)]; exact z4
  · intro s hs; rw [ga_n _ _ (by decide), ga_n _ _ (by decide)]; exact d1 s hs
  · obtain ⟨e1, e2, e3⟩ := d2 s hs
    rw [ga_n _ _ (by decide), ga_n _ _ (by decide), ga_s]
    refine ⟨e1, e2, fun i hi => ?_⟩
    by_cases e : s = j
    · subst e; rw [ga_s]; exact ha i hi
    · rw [ga_n _ _ (by omega), hT s hs e i hi]; exact e3 i hi
/-- a sheet is begun -/
theorem jR_sheet {j : Nat} {b v : Int32} {a T : Nat → Int32} (R : jR F4 G4 F N G) (hj : j < 4) (hb : b = nI 0 ∨ b = nI 8 ∨ b = nI 16 ∨ b = nI 32) (hv : ∃ z, z ≤ 40 ∧ v = nI z) (hT : ∀ s, s < 4 → s ≠ j → ∀ i, i < 40 → T (40 * s + i) = G4 13 (40 * s + i)) (ha : ∀ i, i < 40 → a i = T (40 * j + i)) : jR F4 (ga (ga (ga G4 11 (upd (G4 11) j b)) 12 (upd (G4 12) j v)) 13 T) (f2 (f2 F (28 + 2 * j) 0 b) (28 + 2 * j) 1 v) N (ga G (28 + 2 * j + 1) a) := by
  have c := R.2.2.2.1
  refine jR_o R (fun p V n h t hp q => jI_36 (jI_f0 (jI_f0 q (by rcases hp with rfl | rfl | rfl <;> omega)) (by rcases hp with rfl | rfl | rfl <;> omega)) (by rcases hp with rfl | rfl | rfl <;> omega)) rfl (by rw [ga_n _ _ (by decide), ga_n _ _ (by decide), ga_n _ _ (by decide)]) (by rw [ga_n _ _ (by decide), ga_n _ _ (by decide), ga_n _ _ (by decide)]) (by rw [ga_n _ _ (by decide), ga_n _ _ (by decide), ga_n _ _ (by decide)]; exact c.2.2) (((c.1.ga (by decide)).ga (by decide)).ga (by decide)) ?_
  obtain ⟨a1, ⟨b1, b2⟩, ⟨z, z1, z2, z3, z4⟩, d1, d2⟩ := R.2.2.2.2
  have g11 : ga (ga (ga G4 11 (upd (G4 11) j b)) 12 (upd (G4 12) j v)) 13 T 11 = upd (G4 11) j b := by rw [ga_n _ _ (by decide), ga_n _ _ (by decide), ga_s]
  have g12 : ga (ga (ga G4 11 (upd (G4 11) j b)) 12 (upd (G4 12) j v)) 13 T 12 = upd (G4 12) j v := by rw [ga_n _ _ (by decide), ga_s]
  have g4 : ga (ga (ga G4 11 (upd (G4 11) j b)) 12 (upd (G4 12) j v)) 13 T 4 = G4 4 := by rw [ga_n _ _ (by decide), ga_n _ _ (by decide), ga_n _ _ (by decide)]
  have g8 : ga (ga (ga G4 11 (upd (G4 11) j b)) 12 (upd (G4 12) j v)) 13 T 8 = G4 8 := by rw [ga_n _ _ (by decide), ga_n _ _ (by decide), ga_n _ _ (by decide)]
  refine ⟨⟨?_, a1.2⟩, ⟨?_, ?_⟩, ⟨z, z1, z2, ?_, ?_⟩, ?_, fun s hs => ?_⟩
  · rw [f2_n _ _ (Or.inl (by omega)), f2_n _ _ (Or.inl (by omega))]; exact a1.1
  · rw [ga_n _ _ (by omega), g4]; exact b1
  · rw [g4, ga_n _ _ (show (36 : Nat) ≠ 28 + 2 * j + 1 by omega)]; exact b2
  · rw [f2_n _ _ (Or.inl (by omega)), f2_n _ _ (Or.inl (by omega))]; exact z3
  · rw [ga_n _ _ (by omega), g8]; exact z4
  · intro s hs
    rw [g11, g12]
    by_cases e : s = j
    · subst e; rw [pk_us, pk_us]; exact ⟨hb, hv⟩
    · rw [pk_un e, pk_un e]; exact d1 s hs
  · obtain ⟨e1, e2, e3⟩ := d2 s hs
    rw [g11, g12, ga_s]
    by_cases e : s = j
    · subst e
      rw [pk_us, pk_us, f2_n _ _ (Or.inr (by decide)), f2_s, f2_s, ga_s]
      exact ⟨rfl, rfl, ha⟩
    · rw [pk_un e, pk_un e, f2_n _ _ (Or.inl (by omega)), f2_n _ _ (Or.inl (by omega)), f2_n _ _ (Or.inl (by omega)), f2_n _ _ (Or.inl (by omega)), ga_n _ _ (by omega)]
      exact ⟨e1, e2, fun i hi => by rw [hT s hs e i hi]; exact e3 i hi⟩
theorem eX3_sheet_n {a b c : Int32} (h : jwi a (nI 0) (nI 3) = false ∨ jwd b = false) : Mx mX3_sheet [.ref 0, .int a, .int b, .int c] (rC F N G) (some (.int (jfd 0))) (rC F N (ga G 36 (jf1 (G 36) 0))) := by
  refine mx_of (L := [some (.ref 0), some (.int a), some (.int b), some (.int c)]) (by decide) (fun _ => rfl) (fun _ => Nat.le_of_ble_eq_true rfl) ?_
  refine fx_iload_n dX3_sheet_0 rfl rfl ?_
  refine fx_callSv dX3_sheet_1 sX3_isSheet lX3_237 (by decide) (Nat.le_of_ble_eq_true rfl) eX3_isSheet rfl ?_
  refine fx_if_eq (tgt := 29) dX3_sheet_4 (by decide) rC_l (fun hc4 => ?_) (fun hc4 => ?_)
  · refine fx_aload_n dX3_sheet_29 rfl rfl ?_
    refine fx_iconst (v := nI 0) dX3_sheet_30 (by decide) ?_
    refine fx_callVv dX3_sheet_31 vX3_finding lX3_51 (by decide) rfl (Nat.le_of_ble_eq_true rfl) (eX3_finding (k := 0) (by decide)) rfl ?_
    exact fx_ireq dX3_sheet_34 rfl rfl rfl rfl
  · refine fx_iload_n dX3_sheet_7 rfl rfl ?_
    refine fx_if_eq (tgt := 35) dX3_sheet_8 (by decide) rC_l (fun hc8 => ?_) (fun hc8 => ?_)
    · exact h.elim (fun q => jtf q (nI_ne0' hc4)) (fun q => jtf q (by first | exact jwd_y (Or.inl hc8) | exact jwd_y (Or.inr (Or.inl hc14)) | exact jwd_y (Or.inr (Or.inr (Or.inl hc20))) | exact jwd_y (Or.inr (Or.inr (Or.inr hc26)))))
    · refine fx_iload_n dX3_sheet_11 rfl rfl ?_
      refine fx_bipush (v := nI 8) dX3_sheet_12 (by decide) ?_
      refine fx_icmp_eq (tgt := 35) dX3_sheet_14 (by decide) rC_l (fun hc14 => ?_) (fun hc14 => ?_)
      · exact h.elim (fun q => jtf q (nI_ne0' hc4)) (fun q => jtf q (by first | exact jwd_y (Or.inl hc8) | exact jwd_y (Or.inr (Or.inl hc14)) | exact jwd_y (Or.inr (Or.inr (Or.inl hc20))) | exact jwd_y (Or.inr (Or.inr (Or.inr hc26)))))
      · refine fx_iload_n dX3_sheet_17 rfl rfl ?_
        refine fx_bipush (v := nI 16) dX3_sheet_18 (by decide) ?_
        refine fx_icmp_eq (tgt := 35) dX3_sheet_20 (by decide) rC_l (fun hc20 => ?_) (fun hc20 => ?_)
        · exact h.elim (fun q => jtf q (nI_ne0' hc4)) (fun q => jtf q (by first | exact jwd_y (Or.inl hc8) | exact jwd_y (Or.inr (Or.inl hc14)) | exact jwd_y (Or.inr (Or.inr (Or.inl hc20))) | exact jwd_y (Or.inr (Or.inr (Or.inr hc26)))))
        · refine fx_iload_n dX3_sheet_23 rfl rfl ?_
          refine fx_bipush (v := nI 32) dX3_sheet_24 (by decide) ?_
          refine fx_icmp_eq (tgt := 35) dX3_sheet_26 (by decide) rC_l (fun hc26 => ?_) (fun hc26 => ?_)
          · exact h.elim (fun q => jtf q (nI_ne0' hc4)) (fun q => jtf q (by first | exact jwd_y (Or.inl hc8) | exact jwd_y (Or.inr (Or.inl hc14)) | exact jwd_y (Or.inr (Or.inr (Or.inl hc20))) | exact jwd_y (Or.inr (Or.inr (Or.inr hc26)))))
          · refine fx_aload_n dX3_sheet_29 rfl rfl ?_
            refine fx_iconst (v := nI 0) dX3_sheet_30 (by decide) ?_
            refine fx_callVv dX3_sheet_31 vX3_finding lX3_51 (by decide) rfl (Nat.le_of_ble_eq_true rfl) (eX3_finding (k := 0) (by decide)) rfl ?_
            exact fx_ireq dX3_sheet_34 rfl rfl rfl rfl
theorem P_sheet (R : jR F4 G4 F N G) (a b c : Int32) : jP mX4_sheet mX3_sheet [.int a, .int b, .int c] F4 G4 F N G := by
  by_cases h : jwi a (nI 0) (nI 3) = false ∨ jwd b = false
  · exact ⟨_, _, _, _, _, _, eX4_sheet_n h, eX3_sheet_n h, jR_f R (by decide)⟩
  · have ha := jbt_t (fun q => h (Or.inl q))
    have hb := jbt_t (fun q => h (Or.inr q))
    by_cases hc : c < 0
    · refine ⟨_, _, _, _, _, _, eX4_sheet_z ha hb hc, ?_, jR_f R (by decide)⟩
      refine mx_of (L := [some (.ref 0), some (.int a), some (.int b), some (.int c)]) (by decide) (fun _ => rfl) (fun _ => Nat.le_of_ble_eq_true rfl) ?_
      rcases jwd_or hb with rfl | rfl | rfl | rfl
      all_goals
        refine fx_iload_n dX3_sheet_0 rfl rfl ?_
        refine fx_callSv dX3_sheet_1 sX3_isSheet lX3_237 (by decide) (Nat.le_of_ble_eq_true rfl) eX3_isSheet rfl ?_
        refine fx_if_eq (tgt := 29) dX3_sheet_4 (by decide) rC_l (fun hc4 => ?_) (fun hc4 => ?_)
        · exact jtf (nI_eq0' hc4) ha
        · refine fx_iload_n dX3_sheet_7 rfl rfl ?_
          refine fx_if_eq (tgt := 35) dX3_sheet_8 (by decide) rC_l (fun hc8 => ?_) (fun hc8 => ?_)
          · try exact absurd hc8 (by decide)
            all_goals
              refine fx_iload_n dX3_sheet_35 rfl rfl ?_
              refine fx_if_ge (tgt := 46) dX3_sheet_36 (by decide) rC_l (fun hc36 => ?_) (fun hc36 => ?_)
              · exact absurd hc (Int32.not_lt.mpr hc36)
              · refine fx_aload_n dX3_sheet_39 rfl rfl ?_
                refine fx_bipush (v := nI 6) dX3_sheet_40 (by decide) ?_
                refine fx_callVv dX3_sheet_42 vX3_finding lX3_51 (by decide) rfl (Nat.le_of_ble_eq_true rfl) (eX3_finding (k := 6) (by decide)) rfl ?_
                exact fx_ireq dX3_sheet_45 rfl rfl rfl rfl
          · try exact absurd hc8 (by decide)
            all_goals
              refine fx_iload_n dX3_sheet_11 rfl rfl ?_
              refine fx_bipush (v := nI 8) dX3_sheet_12 (by decide) ?_
              refine fx_icmp_eq (tgt := 35) dX3_sheet_14 (by decide) rC_l (fun hc14 => ?_) (fun hc14 => ?_)
              · try exact absurd hc14 (by decide)
                all_goals
                  refine fx_iload_n dX3_sheet_35 rfl rfl ?_
                  refine fx_if_ge (tgt := 46) dX3_sheet_36 (by decide) rC_l (fun hc36 => ?_) (fun hc36 => ?_)
                  · exact absurd hc (Int32.not_lt.mpr hc36)
                  · refine fx_aload_n dX3_sheet_39 rfl rfl ?_
                    refine fx_bipush (v := nI 6) dX3_sheet_40 (by decide) ?_
                    refine fx_callVv dX3_sheet_42 vX3_finding lX3_51 (by decide) rfl (Nat.le_of_ble_eq_true rfl) (eX3_finding (k := 6) (by decide)) rfl ?_
                    exact fx_ireq dX3_sheet_45 rfl rfl rfl rfl
              · try exact absurd hc14 (by decide)
                all_goals
                  refine fx_iload_n dX3_sheet_17 rfl rfl ?_
                  refine fx_bipush (v := nI 16) dX3_sheet_18 (by decide) ?_
                  refine fx_icmp_eq (tgt := 35) dX3_sheet_20 (by decide) rC_l (fun hc20 => ?_) (fun hc20 => ?_)
                  · try exact absurd hc20 (by decide)
                    all_goals
                      refine fx_iload_n dX3_sheet_35 rfl rfl ?_
                      refine fx_if_ge (tgt := 46) dX3_sheet_36 (by decide) rC_l (fun hc36 => ?_) (fun hc36 => ?_)
                      · exact absurd hc (Int32.not_lt.mpr hc36)
                      · refine fx_aload_n dX3_sheet_39 rfl rfl ?_
                        refine fx_bipush (v := nI 6) dX3_sheet_40 (by decide) ?_
                        refine fx_callVv dX3_sheet_42 vX3_finding lX3_51 (by decide) rfl (Nat.le_of_ble_eq_true rfl) (eX3_finding (k := 6) (by decide)) rfl ?_
                        exact fx_ireq dX3_sheet_45 rfl rfl rfl rfl
                  · try exact absurd hc20 (by decide)
                    all_goals
                      refine fx_iload_n dX3_sheet_23 rfl rfl ?_
                      refine fx_bipush (v := nI 32) dX3_sheet_24 (by decide) ?_
                      refine fx_icmp_eq (tgt := 35) dX3_sheet_26 (by decide) rC_l (fun hc26 => ?_) (fun hc26 => ?_)
                      · try exact absurd hc26 (by decide)
                        all_goals
                          refine fx_iload_n dX3_sheet_35 rfl rfl ?_
                          refine fx_if_ge (tgt := 46) dX3_sheet_36 (by decide) rC_l (fun hc36 => ?_) (fun hc36 => ?_)
                          · exact absurd hc (Int32.not_lt.mpr hc36)
                          · refine fx_aload_n dX3_sheet_39 rfl rfl ?_
                            refine fx_bipush (v := nI 6) dX3_sheet_40 (by decide) ?_
                            refine fx_callVv dX3_sheet_42 vX3_finding lX3_51 (by decide) rfl (Nat.le_of_ble_eq_true rfl) (eX3_finding (k := 6) (by decide)) rfl ?_
                            exact fx_ireq dX3_sheet_45 rfl rfl rfl rfl
                      · try exact absurd hc26 (by decide)
                        all_goals
                          refine fx_aload_n dX3_sheet_29 rfl rfl ?_
                          refine fx_iconst (v := nI 0) dX3_sheet_30 (by decide) ?_
                          refine fx_callVv dX3_sheet_31 vX3_finding lX3_51 (by decide) rfl (Nat.le_of_ble_eq_true rfl) (eX3_finding (k := 0) (by decide)) rfl ?_
                          exact fx_ireq dX3_sheet_34 rfl rfl rfl rfl
    · by_cases hc2 : nI 40 < c
      · refine ⟨_, _, _, _, _, _, eX4_sheet_b ha hb hc hc2, ?_, jR_f R (by decide)⟩
        refine mx_of (L := [some (.ref 0), some (.int a), some (.int b), some (.int c)]) (by decide) (fun _ => rfl) (fun _ => Nat.le_of_ble_eq_true rfl) ?_
        rcases jwd_or hb with rfl | rfl | rfl | rfl
        all_goals
          refine fx_iload_n dX3_sheet_0 rfl rfl ?_
          refine fx_callSv dX3_sheet_1 sX3_isSheet lX3_237 (by decide) (Nat.le_of_ble_eq_true rfl) eX3_isSheet rfl ?_
          refine fx_if_eq (tgt := 29) dX3_sheet_4 (by decide) rC_l (fun hc4 => ?_) (fun hc4 => ?_)
          · exact jtf (nI_eq0' hc4) ha
          · refine fx_iload_n dX3_sheet_7 rfl rfl ?_
            refine fx_if_eq (tgt := 35) dX3_sheet_8 (by decide) rC_l (fun hc8 => ?_) (fun hc8 => ?_)
            · try exact absurd hc8 (by decide)
              all_goals
                refine fx_iload_n dX3_sheet_35 rfl rfl ?_
                refine fx_if_ge (tgt := 46) dX3_sheet_36 (by decide) rC_l (fun hc36 => ?_) (fun hc36 => ?_)
                · refine fx_iload_n dX3_sheet_46 rfl rfl ?_
                  refine fx_bipush (v := nI 40) dX3_sheet_47 (by decide) ?_
                  refine fx_icmp_le (tgt := 58) dX3_sheet_49 (by decide) rC_l (fun hc49 => ?_) (fun hc49 => ?_)
                  · exact absurd hc2 (Int32.not_lt.mpr hc49)
                  · refine fx_aload_n dX3_sheet_52 rfl rfl ?_
                    refine fx_iconst (v := nI 0) dX3_sheet_53 (by decide) ?_
                    refine fx_callVv dX3_sheet_54 vX3_finding lX3_51 (by decide) rfl (Nat.le_of_ble_eq_true rfl) (eX3_finding (k := 0) (by decide)) rfl ?_
                    exact fx_ireq dX3_sheet_57 rfl rfl rfl rfl
                · exact absurd (Int32.not_lt.mp hc) hc36
            · try exact absurd hc8 (by decide)
              all_goals
                refine fx_iload_n dX3_sheet_11 rfl rfl ?_
                refine fx_bipush (v := nI 8) dX3_sheet_12 (by decide) ?_
                refine fx_icmp_eq (tgt := 35) dX3_sheet_14 (by decide) rC_l (fun hc14 => ?_) (fun hc14 => ?_)
                · try exact absurd hc14 (by decide)
                  all_goals
                    refine fx_iload_n dX3_sheet_35 rfl rfl ?_
                    refine fx_if_ge (tgt := 46) dX3_sheet_36 (by decide) rC_l (fun hc36 => ?_) (fun hc36 => ?_)
                    · refine fx_iload_n dX3_sheet_46 rfl rfl ?_
                      refine fx_bipush (v := nI 40) dX3_sheet_47 (by decide) ?_
                      refine fx_icmp_le (tgt := 58) dX3_sheet_49 (by decide) rC_l (fun hc49 => ?_) (fun hc49 => ?_)
                      · exact absurd hc2 (Int32.not_lt.mpr hc49)
                      · refine fx_aload_n dX3_sheet_52 rfl rfl ?_
                        refine fx_iconst (v := nI 0) dX3_sheet_53 (by decide) ?_
                        refine fx_callVv dX3_sheet_54 vX3_finding lX3_51 (by decide) rfl (Nat.le_of_ble_eq_true rfl) (eX3_finding (k := 0) (by decide)) rfl ?_
                        exact fx_ireq dX3_sheet_57 rfl rfl rfl rfl
                    · exact absurd (Int32.not_lt.mp hc) hc36
                · try exact absurd hc14 (by decide)
                  all_goals
                    refine fx_iload_n dX3_sheet_17 rfl rfl ?_
                    refine fx_bipush (v := nI 16) dX3_sheet_18 (by decide) ?_
                    refine fx_icmp_eq (tgt := 35) dX3_sheet_20 (by decide) rC_l (fun hc20 => ?_) (fun hc20 => ?_)
                    · try exact absurd hc20 (by decide)
                      all_goals
                        refine fx_iload_n dX3_sheet_35 rfl rfl ?_
                        refine fx_if_ge (tgt := 46) dX3_sheet_36 (by decide) rC_l (fun hc36 => ?_) (fun hc36 => ?_)
                        · refine fx_iload_n dX3_sheet_46 rfl rfl ?_
                          refine fx_bipush (v := nI 40) dX3_sheet_47 (by decide) ?_
                          refine fx_icmp_le (tgt := 58) dX3_sheet_49 (by decide) rC_l (fun hc49 => ?_) (fun hc49 => ?_)
                          · exact absurd hc2 (Int32.not_lt.mpr hc49)
                          · refine fx_aload_n dX3_sheet_52 rfl rfl ?_
                            refine fx_iconst (v := nI 0) dX3_sheet_53 (by decide) ?_
                            refine fx_callVv dX3_sheet_54 vX3_finding lX3_51 (by decide) rfl (Nat.le_of_ble_eq_true rfl) (eX3_finding (k := 0) (by decide)) rfl ?_
                            exact fx_ireq dX3_sheet_57 rfl rfl rfl rfl
                        · exact absurd (Int32.not_lt.mp hc) hc36
                    · try exact absurd hc20 (by decide)
                      all_goals
                        refine fx_iload_n dX3_sheet_23 rfl rfl ?_
                        refine fx_bipush (v := nI 32) dX3_sheet_24 (by decide) ?_
                        refine fx_icmp_eq (tgt := 35) dX3_sheet_26 (by decide) rC_l (fun hc26 => ?_) (fun hc26 => ?_)
                        · try exact absurd hc26 (by decide)
                          all_goals
                            refine fx_iload_n dX3_sheet_35 rfl rfl ?_
                            refine fx_if_ge (tgt := 46) dX3_sheet_36 (by decide) rC_l (fun hc36 => ?_) (fun hc36 => ?_)
                            · refine fx_iload_n dX3_sheet_46 rfl rfl ?_
                              refine fx_bipush (v := nI 40) dX3_sheet_47 (by decide) ?_
                              refine fx_icmp_le (tgt := 58) dX3_sheet_49 (by decide) rC_l (fun hc49 => ?_) (fun hc49 => ?_)
                              · exact absurd hc2 (Int32.not_lt.mpr hc49)
                              · refine fx_aload_n dX3_sheet_52 rfl rfl ?_
                                refine fx_iconst (v := nI 0) dX3_sheet_53 (by decide) ?_
                                refine fx_callVv dX3_sheet_54 vX3_finding lX3_51 (by decide) rfl (Nat.le_of_ble_eq_true rfl) (eX3_finding (k := 0) (by decide)) rfl ?_
                                exact fx_ireq dX3_sheet_57 rfl rfl rfl rfl
                            · exact absurd (Int32.not_lt.mp hc) hc36
                        · try exact absurd hc26 (by decide)
                          all_goals
                            refine fx_aload_n dX3_sheet_29 rfl rfl ?_
                            refine fx_iconst (v := nI 0) dX3_sheet_30 (by decide) ?_
                            refine fx_callVv dX3_sheet_31 vX3_finding lX3_51 (by decide) rfl (Nat.le_of_ble_eq_true rfl) (eX3_finding (k := 0) (by decide)) rfl ?_
                            exact fx_ireq dX3_sheet_34 rfl rfl rfl rfl
      · obtain ⟨j, hj, rfl⟩ := jwi_of (k := 3) (by decide) ha
        obtain ⟨m, hm0, rfl⟩ := nI_of hc
        have hm : m ≤ 40 := Nat.le_of_not_lt (fun q => hc2 (nI_lt q hm0))
        have hj4 : j < 4 := by omega
        have hq := zqj hj4
        have eB := eX0_begin (F := F) (N := N) (G := G) (b := b) (m := nI m) hq
        have hb4 : b = nI 0 ∨ b = nI 8 ∨ b = nI 16 ∨ b = nI 32 := (jwd_or hb).imp (fun q => by rw [q]; decide) id
        have hv : ∃ z, z ≤ 40 ∧ (if b = 0 then nI 0 else nI m) = nI z := by
          by_cases q : b = 0
          · rw [if_pos q]; exact ⟨0, by decide, rfl⟩
          · rw [if_neg q]; exact ⟨m, hm, rfl⟩
        generalize hvv : (if b = 0 then nI 0 else nI m) = v at eB hv
        have e4 := eX4_sheet_y (F := F4) (G := G4) hj hb hm
        rw [hvv] at e4
        refine ⟨_, _, _, _, _, _, e4, ?_, jR_sheet (a := jfill (fun _ => nI 0) (G (28 + 2 * j + 1)) 40) R hj4 hb4 hv (fun s hs hsj i hi => if_neg (by omega)) (fun i hi => by unfold jfill jzr; rw [if_pos hi, if_pos (by omega)])⟩
        refine mx_of (L := [some (.ref 0), some (.int (nI j)), some (.int b), some (.int (nI m))]) (by decide) (fun _ => rfl) (fun _ => Nat.le_of_ble_eq_true rfl) ?_
        have K : Fx mX3_sheet (some (.int v), rC (f2 (f2 F (28 + 2 * j) 0 b) (28 + 2 * j) 1 v) N (ga G (28 + 2 * j + 1) (jfill (fun _ => nI 0) (G (28 + 2 * j + 1)) 40))) 35 [some (.ref 0), some (.int (nI j)), some (.int b), some (.int (nI m))] [] (rC F N G) := by
          refine fx_iload_n dX3_sheet_35 rfl rfl ?_
          refine fx_if_ge (tgt := 46) dX3_sheet_36 (by decide) rC_l (fun hc36 => ?_) (fun hc36 => ?_)
          · refine fx_iload_n dX3_sheet_46 rfl rfl ?_
            refine fx_bipush (v := nI 40) dX3_sheet_47 (by decide) ?_
            refine fx_icmp_le (tgt := 58) dX3_sheet_49 (by decide) rC_l (fun hc49 => ?_) (fun hc49 => ?_)
            · refine fx_aload_n dX3_sheet_58 rfl rfl ?_
              refine fx_get dX3_sheet_59 kX3_35 rfl rfl ?_
              refine fx_iload_n dX3_sheet_62 rfl rfl ?_
              refine fx_aald dX3_sheet_63 rfl (Or.inl rfl) (vp_in_nI (by omega) (by decide)) (rC_se (by omega)) ?_
              refine fx_iload_n dX3_sheet_64 rfl rfl ?_
              refine fx_iload_n dX3_sheet_65 rfl rfl ?_
              refine fx_callVn dX3_sheet_66 vX0_begin lX3_240 (by decide) (a0 hq) (Nat.le_of_ble_eq_true rfl) eB rfl ?_
              refine fx_aload_n dX3_sheet_69 rfl rfl ?_
              refine fx_get dX3_sheet_70 kX3_35 rfl rfl ?_
              refine fx_iload_n dX3_sheet_73 rfl rfl ?_
              refine fx_aald dX3_sheet_74 rfl (Or.inl rfl) (vp_in_nI (by omega) (by decide)) (rC_se (by omega)) ?_
              refine fx_get dX3_sheet_75 kX3_244 (a0 hq) rfl ?_
              rw [f2_s]
              exact fx_ireq dX3_sheet_78 rfl rfl rfl rfl
            · exact absurd (nI_le hm (by decide)) hc49
          · exact absurd (nI_pos' (by omega)) hc36
        rcases jwd_or hb with q | q | q | q
        · refine fx_iload_n dX3_sheet_0 rfl rfl ?_
          refine fx_callSv dX3_sheet_1 sX3_isSheet lX3_237 (by decide) (Nat.le_of_ble_eq_true rfl) eX3_isSheet rfl ?_
          refine fx_if_eq (tgt := 29) dX3_sheet_4 (by decide) rC_l (fun hc4 => ?_) (fun hc4 => ?_)
          · exact jtf (nI_eq0' hc4) ha
          · refine fx_iload_n dX3_sheet_7 rfl rfl ?_
            refine fx_if_eq (tgt := 35) dX3_sheet_8 (by decide) rC_l (fun hc8 => ?_) (fun hc8 => ?_)
            · exact K
            · exact absurd q hc8
        · refine fx_iload_n dX3_sheet_0 rfl rfl ?_
          refine fx_callSv dX3_sheet_1 sX3_isSheet lX3_237 (by decide) (Nat.le_of_ble_eq_true rfl) eX3_isSheet rfl ?_
          refine fx_if_eq (tgt := 29) dX3_sheet_4 (by decide) rC_l (fun hc4 => ?_) (fun hc4 => ?_)
          · exact jtf (nI_eq0' hc4) ha
          · refine fx_iload_n dX3_sheet_7 rfl rfl ?_
            refine fx_if_eq (tgt := 35) dX3_sheet_8 (by decide) rC_l (fun hc8 => ?_) (fun hc8 => ?_)
            · exact K
            · refine fx_iload_n dX3_sheet_11 rfl rfl ?_
              refine fx_bipush (v := nI 8) dX3_sheet_12 (by decide) ?_
              refine fx_icmp_eq (tgt := 35) dX3_sheet_14 (by decide) rC_l (fun hc14 => ?_) (fun hc14 => ?_)
              · exact K
              · exact absurd q hc14
        · refine fx_iload_n dX3_sheet_0 rfl rfl ?_
          refine fx_callSv dX3_sheet_1 sX3_isSheet lX3_237 (by decide) (Nat.le_of_ble_eq_true rfl) eX3_isSheet rfl ?_
          refine fx_if_eq (tgt := 29) dX3_sheet_4 (by decide) rC_l (fun hc4 => ?_) (fun hc4 => ?_)
          · exact jtf (nI_eq0' hc4) ha
          · refine fx_iload_n dX3_sheet_7 rfl rfl ?_
            refine fx_if_eq (tgt := 35) dX3_sheet_8 (by decide) rC_l (fun hc8 => ?_) (fun hc8 => ?_)
            · exact K
            · refine fx_iload_n dX3_sheet_11 rfl rfl ?_
              refine fx_bipush (v := nI 8) dX3_sheet_12 (by decide) ?_
              refine fx_icmp_eq (tgt := 35) dX3_sheet_14 (by decide) rC_l (fun hc14 => ?_) (fun hc14 => ?_)
              · exact K
              · refine fx_iload_n dX3_sheet_17 rfl rfl ?_
                refine fx_bipush (v := nI 16) dX3_sheet_18 (by decide) ?_
                refine fx_icmp_eq (tgt := 35) dX3_sheet_20 (by decide) rC_l (fun hc20 => ?_) (fun hc20 => ?_)
                · exact K
                · exact absurd q hc20
        · refine fx_iload_n dX3_sheet_0 rfl rfl ?_
          refine fx_callSv dX3_sheet_1 sX3_isSheet lX3_237 (by decide) (Nat.le_of_ble_eq_true rfl) eX3_isSheet rfl ?_
          refine fx_if_eq (tgt := 29) dX3_sheet_4 (by decide) rC_l (fun hc4 => ?_) (fun hc4 => ?_)
          · exact jtf (nI_eq0' hc4) ha
          · refine fx_iload_n dX3_sheet_7 rfl rfl ?_
            refine fx_if_eq (tgt := 35) dX3_sheet_8 (by decide) rC_l (fun hc8 => ?_) (fun hc8 => ?_)
            · exact K
            · refine fx_iload_n dX3_sheet_11 rfl rfl ?_
              refine fx_bipush (v := nI 8) dX3_sheet_12 (by decide) ?_
              refine fx_icmp_eq (tgt := 35) dX3_sheet_14 (by decide) rC_l (fun hc14 => ?_) (fun hc14 => ?_)
              · exact K
              · refine fx_iload_n dX3_sheet_17 rfl rfl ?_
                refine fx_bipush (v := nI 16) dX3_sheet_18 (by decide) ?_
                refine fx_icmp_eq (tgt := 35) dX3_sheet_20 (by decide) rC_l (fun hc20 => ?_) (fun hc20 => ?_)
                · exact K
                · refine fx_iload_n dX3_sheet_23 rfl rfl ?_
                  refine fx_bipush (v := nI 32) dX3_sheet_24 (by decide) ?_
                  refine fx_icmp_eq (tgt := 35) dX3_sheet_26 (by decide) rC_l (fun hc26 => ?_) (fun hc26 => ?_)
                  · exact K
                  · exact absurd q hc26
theorem P_write (R : jR F4 G4 F N G) (a b c : Int32) : jP mX4_write mX3_write [.int a, .int b, .int c] F4 G4 F N G := by
  have r := R.2.2.2.2
  have hS := r.2.2.2.1
  by_cases ha : jwi a (nI 0) (nI 3) = false
  · refine ⟨_, _, _, _, _, _, eX4_write_n ha, ?_, jR_f R (by decide)⟩
    refine mx_of (L := [some (.ref 0), some (.int a), some (.int b), some (.int c)]) (by decide) (fun _ => rfl) (fun _ => Nat.le_of_ble_eq_true rfl) ?_
    refine fx_iload_n dX3_write_0 rfl rfl ?_
    refine fx_callSv dX3_write_1 sX3_isSheet lX3_237 (by decide) (Nat.le_of_ble_eq_true rfl) eX3_isSheet rfl ?_
    refine fx_if_ne (tgt := 13) dX3_write_4 (by decide) rC_l (fun hc4 => ?_) (fun hc4 => ?_)
    · exact jtf ha (nI_ne0' hc4)
    · refine fx_aload_n dX3_write_7 rfl rfl ?_
      refine fx_iconst (v := nI 0) dX3_write_8 (by decide) ?_
      refine fx_callVv dX3_write_9 vX3_finding lX3_51 (by decide) rfl (Nat.le_of_ble_eq_true rfl) (eX3_finding (k := 0) (by decide)) rfl ?_
      exact fx_ireq dX3_write_12 rfl rfl rfl rfl
  · obtain ⟨j, hj, rfl⟩ := jwi_of (k := 3) (by decide) (jbt_t ha)
    have hj4 : j < 4 := by omega
    obtain ⟨e1, e2, e3, e4⟩ := jR_sh r hj4
    have hq := zqj hj4
    by_cases h0 : G4 11 j = 0
    · refine ⟨_, _, _, _, _, _, eX4_write_m hj h0, ?_, jR_f R (by decide)⟩
      refine mx_of (L := [some (.ref 0), some (.int (nI j)), some (.int b), some (.int c)]) (by decide) (fun _ => rfl) (fun _ => Nat.le_of_ble_eq_true rfl) ?_
      refine fx_iload_n dX3_write_0 rfl rfl ?_
      refine fx_callSv dX3_write_1 sX3_isSheet lX3_237 (by decide) (Nat.le_of_ble_eq_true rfl) eX3_isSheet rfl ?_
      refine fx_if_ne (tgt := 13) dX3_write_4 (by decide) rC_l (fun hc4 => ?_) (fun hc4 => ?_)
      · refine fx_aload_n dX3_write_13 rfl rfl ?_
        refine fx_get dX3_write_14 kX3_35 rfl rfl ?_
        refine fx_iload_n dX3_write_17 rfl rfl ?_
        refine fx_aald dX3_write_18 rfl (Or.inl rfl) (vp_in_nI (by omega) (by decide)) (rC_se (by omega)) ?_
        refine fx_callVv dX3_write_19 vX0_isMissing lX3_245 (by decide) (a0 hq) (Nat.le_of_ble_eq_true rfl) (eX0_isMissing hq) rfl ?_
        rw [e1, decide_eq_true h0]
        refine fx_if_eq (tgt := 31) dX3_write_22 (by decide) rC_l (fun hc22 => ?_) (fun hc22 => ?_)
        · exact absurd hc22 (by decide)
        · refine fx_aload_n dX3_write_25 rfl rfl ?_
          refine fx_iconst (v := nI 5) dX3_write_26 (by decide) ?_
          refine fx_callVv dX3_write_27 vX3_finding lX3_51 (by decide) rfl (Nat.le_of_ble_eq_true rfl) (eX3_finding (k := 5) (by decide)) rfl ?_
          exact fx_ireq dX3_write_30 rfl rfl rfl rfl
      · exact absurd (nI_eq0' hc4) ha
    · by_cases hb : jwi b (nI 0) (nI (jsz G4 j) - nI 1) = false
      · refine ⟨_, _, _, _, _, _, eX4_write_b hS hj h0 hb, ?_, jR_f R (by decide)⟩
        refine mx_of (L := [some (.ref 0), some (.int (nI j)), some (.int b), some (.int c)]) (by decide) (fun _ => rfl) (fun _ => Nat.le_of_ble_eq_true rfl) ?_
        refine fx_iload_n dX3_write_0 rfl rfl ?_
        refine fx_callSv dX3_write_1 sX3_isSheet lX3_237 (by decide) (Nat.le_of_ble_eq_true rfl) eX3_isSheet rfl ?_
        refine fx_if_ne (tgt := 13) dX3_write_4 (by decide) rC_l (fun hc4 => ?_) (fun hc4 => ?_)
        · refine fx_aload_n dX3_write_13 rfl rfl ?_
          refine fx_get dX3_write_14 kX3_35 rfl rfl ?_
          refine fx_iload_n dX3_write_17 rfl rfl ?_
          refine fx_aald dX3_write_18 rfl (Or.inl rfl) (vp_in_nI (by omega) (by decide)) (rC_se (by omega)) ?_
          refine fx_callVv dX3_write_19 vX0_isMissing lX3_245 (by decide) (a0 hq) (Nat.le_of_ble_eq_true rfl) (eX0_isMissing hq) rfl ?_
          rw [e1, decide_eq_false h0]
          refine fx_if_eq (tgt := 31) dX3_write_22 (by decide) rC_l (fun hc22 => ?_) (fun hc22 => ?_)
          · refine fx_iload_n dX3_write_31 rfl rfl ?_
            refine fx_if_lt (tgt := 48) dX3_write_32 (by decide) rC_l (fun hc32 => ?_) (fun hc32 => ?_)
            · refine fx_aload_n dX3_write_48 rfl rfl ?_
              refine fx_iconst (v := nI 0) dX3_write_49 (by decide) ?_
              refine fx_callVv dX3_write_50 vX3_finding lX3_51 (by decide) rfl (Nat.le_of_ble_eq_true rfl) (eX3_finding (k := 0) (by decide)) rfl ?_
              exact fx_ireq dX3_write_53 rfl rfl rfl rfl
            · refine fx_iload_n dX3_write_35 rfl rfl ?_
              refine fx_aload_n dX3_write_36 rfl rfl ?_
              refine fx_get dX3_write_37 kX3_35 rfl rfl ?_
              refine fx_iload_n dX3_write_40 rfl rfl ?_
              refine fx_aald dX3_write_41 rfl (Or.inl rfl) (vp_in_nI (by omega) (by decide)) (rC_se (by omega)) ?_
              refine fx_get dX3_write_42 kX3_244 (a0 hq) rfl ?_
              rw [e2]
              refine fx_icmp_lt (tgt := 54) dX3_write_45 (by decide) rC_l (fun hc45 => ?_) (fun hc45 => ?_)
              · exact jtf hb (jix_y e3 hc32 hc45)
              · refine fx_aload_n dX3_write_48 rfl rfl ?_
                refine fx_iconst (v := nI 0) dX3_write_49 (by decide) ?_
                refine fx_callVv dX3_write_50 vX3_finding lX3_51 (by decide) rfl (Nat.le_of_ble_eq_true rfl) (eX3_finding (k := 0) (by decide)) rfl ?_
                exact fx_ireq dX3_write_53 rfl rfl rfl rfl
          · exact absurd rfl hc22
        · exact absurd (nI_eq0' hc4) ha
      · obtain ⟨i, hi, rfl⟩ := jix_of e3 (jbt_t hb)
        have eP := eX0_put (F := F) (N := N) (G := G) (i := i) (v := c) hq (by omega)
        rw [e1] at eP
        refine ⟨_, _, _, _, _, _, eX4_write_y hS hj h0 hi, ?_, jR_num (a := upd (G (28 + 2 * j + 1)) i (jcut c (G4 11 j))) R hj4 (fun s hs hsj q hq => by rw [pk_un (by omega)]) (fun q hq => ?_)⟩
        · refine mx_of (L := [some (.ref 0), some (.int (nI j)), some (.int (nI i)), some (.int c)]) (by decide) (fun _ => rfl) (fun _ => Nat.le_of_ble_eq_true rfl) ?_
          refine fx_iload_n dX3_write_0 rfl rfl ?_
          refine fx_callSv dX3_write_1 sX3_isSheet lX3_237 (by decide) (Nat.le_of_ble_eq_true rfl) eX3_isSheet rfl ?_
          refine fx_if_ne (tgt := 13) dX3_write_4 (by decide) rC_l (fun hc4 => ?_) (fun hc4 => ?_)
          · refine fx_aload_n dX3_write_13 rfl rfl ?_
            refine fx_get dX3_write_14 kX3_35 rfl rfl ?_
            refine fx_iload_n dX3_write_17 rfl rfl ?_
            refine fx_aald dX3_write_18 rfl (Or.inl rfl) (vp_in_nI (by omega) (by decide)) (rC_se (by omega)) ?_
            refine fx_callVv dX3_write_19 vX0_isMissing lX3_245 (by decide) (a0 hq) (Nat.le_of_ble_eq_true rfl) (eX0_isMissing hq) rfl ?_
            rw [e1, decide_eq_false h0]
            refine fx_if_eq (tgt := 31) dX3_write_22 (by decide) rC_l (fun hc22 => ?_) (fun hc22 => ?_)
            · refine fx_iload_n dX3_write_31 rfl rfl ?_
              refine fx_if_lt (tgt := 48) dX3_write_32 (by decide) rC_l (fun hc32 => ?_) (fun hc32 => ?_)
              · exact absurd hc32 (nI_pos (by omega))
              · refine fx_iload_n dX3_write_35 rfl rfl ?_
                refine fx_aload_n dX3_write_36 rfl rfl ?_
                refine fx_get dX3_write_37 kX3_35 rfl rfl ?_
                refine fx_iload_n dX3_write_40 rfl rfl ?_
                refine fx_aald dX3_write_41 rfl (Or.inl rfl) (vp_in_nI (by omega) (by decide)) (rC_se (by omega)) ?_
                refine fx_get dX3_write_42 kX3_244 (a0 hq) rfl ?_
                rw [e2]
                refine fx_icmp_lt (tgt := 54) dX3_write_45 (by decide) rC_l (fun hc45 => ?_) (fun hc45 => ?_)
                · refine fx_aload_n dX3_write_54 rfl rfl ?_
                  refine fx_get dX3_write_55 kX3_35 rfl rfl ?_
                  refine fx_iload_n dX3_write_58 rfl rfl ?_
                  refine fx_aald dX3_write_59 rfl (Or.inl rfl) (vp_in_nI (by omega) (by decide)) (rC_se (by omega)) ?_
                  refine fx_iload_n dX3_write_60 rfl rfl ?_
                  refine fx_iload_n dX3_write_61 rfl rfl ?_
                  refine fx_callVn dX3_write_62 vX0_put lX3_248 (by decide) (a0 hq) (Nat.le_of_ble_eq_true rfl) eP rfl ?_
                  refine fx_iconst (v := nI 1) dX3_write_65 (by decide) ?_
                  exact fx_ireq dX3_write_66 rfl rfl rfl rfl
                · exact absurd (nI_lt hi (by omega)) hc45
            · exact absurd rfl hc22
          · exact absurd (nI_eq0' hc4) ha
        · by_cases e : q = i
          · subst e; rw [pk_us, pk_us]
          · rw [pk_un e, pk_un (by omega)]; exact e4 q hq
theorem P_copy (R : jR F4 G4 F N G) (s p t q m : Int32) : jP mX4_copy mX3_copy [.int s, .int p, .int t, .int q, .int m] F4 G4 F N G := by
  have r := R.2.2.2.2
  have hS := r.2.2.2.1
  by_cases h : jwi s (nI 0) (nI 3) = false ∨ jwi t (nI 0) (nI 3) = false
  · refine ⟨_, _, _, _, _, _, eX4_copy_n h, ?_, jR_f R (by decide)⟩
    refine mx_of (L := [some (.ref 0), some (.int s), some (.int p), some (.int t), some (.int q), some (.int m), none, none]) (by decide) (fun _ => rfl) (fun _ => Nat.le_of_ble_eq_true rfl) ?_
    refine fx_iload_n dX3_copy_0 rfl rfl ?_
    refine fx_callSv dX3_copy_1 sX3_isSheet lX3_237 (by decide) (Nat.le_of_ble_eq_true rfl) eX3_isSheet rfl ?_
    refine fx_if_eq (tgt := 14) dX3_copy_4 (by decide) rC_l (fun hc4 => ?_) (fun hc4 => ?_)
    · refine fx_aload_n dX3_copy_14 rfl rfl ?_
      refine fx_iconst (v := nI 0) dX3_copy_15 (by decide) ?_
      refine fx_callVv dX3_copy_16 vX3_finding lX3_51 (by decide) rfl (Nat.le_of_ble_eq_true rfl) (eX3_finding (k := 0) (by decide)) rfl ?_
      exact fx_ireq dX3_copy_19 rfl rfl rfl rfl
    · refine fx_iload_n dX3_copy_7 rfl rfl ?_
      refine fx_callSv dX3_copy_8 sX3_isSheet lX3_237 (by decide) (Nat.le_of_ble_eq_true rfl) eX3_isSheet rfl ?_
      refine fx_if_ne (tgt := 20) dX3_copy_11 (by decide) rC_l (fun hc11 => ?_) (fun hc11 => ?_)
      · exact h.elim (fun q => jtf q (nI_ne0' hc4)) (fun q => jtf q (nI_ne0' hc11))
      · refine fx_aload_n dX3_copy_14 rfl rfl ?_
        refine fx_iconst (v := nI 0) dX3_copy_15 (by decide) ?_
        refine fx_callVv dX3_copy_16 vX3_finding lX3_51 (by decide) rfl (Nat.le_of_ble_eq_true rfl) (eX3_finding (k := 0) (by decide)) rfl ?_
        exact fx_ireq dX3_copy_19 rfl rfl rfl rfl
  · obtain ⟨s, hs, rfl⟩ := jwi_of (k := 3) (by decide) (jbt_t (fun q => h (Or.inl q)))
    obtain ⟨t, ht, rfl⟩ := jwi_of (k := 3) (by decide) (jbt_t (fun q => h (Or.inr q)))
    have hs4 : s < 4 := by omega
    have ht4 : t < 4 := by omega
    obtain ⟨s1, s2, s3, s4⟩ := jR_sh r hs4
    obtain ⟨t1, t2, t3, t4⟩ := jR_sh r ht4
    have hqs := zqj hs4
    have hqt := zqj ht4
    by_cases h0 : G4 11 s = 0 ∨ G4 11 t = 0
    · refine ⟨_, _, _, _, _, _, eX4_copy_m hs ht h0, ?_, jR_f R (by decide)⟩
      refine mx_of (L := [some (.ref 0), some (.int (nI s)), some (.int p), some (.int (nI t)), some (.int q), some (.int m), none, none]) (by decide) (fun _ => rfl) (fun _ => Nat.le_of_ble_eq_true rfl) ?_
      refine fx_iload_n dX3_copy_0 rfl rfl ?_
      refine fx_callSv dX3_copy_1 sX3_isSheet lX3_237 (by decide) (Nat.le_of_ble_eq_true rfl) eX3_isSheet rfl ?_
      refine fx_if_eq (tgt := 14) dX3_copy_4 (by decide) rC_l (fun hc4 => ?_) (fun hc4 => ?_)
      · exact absurd (nI_eq0' hc4) (fun q => h (Or.inl q))
      · refine fx_iload_n dX3_copy_7 rfl rfl ?_
        refine fx_callSv dX3_copy_8 sX3_isSheet lX3_237 (by decide) (Nat.le_of_ble_eq_true rfl) eX3_isSheet rfl ?_
        refine fx_if_ne (tgt := 20) dX3_copy_11 (by decide) rC_l (fun hc11 => ?_) (fun hc11 => ?_)
        · refine fx_aload_n dX3_copy_20 rfl rfl ?_
          refine fx_get dX3_copy_21 kX3_35 rfl rfl ?_
          refine fx_iload_n dX3_copy_24 rfl rfl ?_
          refine fx_aald dX3_copy_25 rfl (Or.inl rfl) (vp_in_nI (by omega) (by decide)) (rC_se (by omega)) ?_
          refine fs_astore_6 dX3_copy_26 rfl (by decide) ?_
          refine fx_aload_n dX3_copy_28 rfl rfl ?_
          refine fx_get dX3_copy_29 kX3_35 rfl rfl ?_
          refine fx_iload_n dX3_copy_32 rfl rfl ?_
          refine fx_aald dX3_copy_33 rfl (Or.inl rfl) (vp_in_nI (by omega) (by decide)) (rC_se (by omega)) ?_
          refine fs_astore_7 dX3_copy_34 rfl (by decide) ?_
          refine fx_aload dX3_copy_36 rfl ?_
          refine fx_callVv dX3_copy_38 vX0_isMissing lX3_245 (by decide) (a0 hqs) (Nat.le_of_ble_eq_true rfl) (eX0_isMissing hqs) rfl ?_
          rw [s1]
          refine fx_if_ne (tgt := 52) dX3_copy_41 (by decide) rC_l (fun hc41 => ?_) (fun hc41 => ?_)
          · refine fx_aload_n dX3_copy_52 rfl rfl ?_
            refine fx_iconst (v := nI 5) dX3_copy_53 (by decide) ?_
            refine fx_callVv dX3_copy_54 vX3_finding lX3_51 (by decide) rfl (Nat.le_of_ble_eq_true rfl) (eX3_finding (k := 5) (by decide)) rfl ?_
            exact fx_ireq dX3_copy_57 rfl rfl rfl rfl
          · refine fx_aload dX3_copy_44 rfl ?_
            refine fx_callVv dX3_copy_46 vX0_isMissing lX3_245 (by decide) (a0 hqt) (Nat.le_of_ble_eq_true rfl) (eX0_isMissing hqt) rfl ?_
            rw [t1]
            refine fx_if_eq (tgt := 58) dX3_copy_49 (by decide) rC_l (fun hc49 => ?_) (fun hc49 => ?_)
            · exact h0.elim (fun z => absurd z (of_decide_eq_false (nI_eq0' hc41))) (fun z => absurd z (of_decide_eq_false (nI_eq0' hc49)))
            · refine fx_aload_n dX3_copy_52 rfl rfl ?_
              refine fx_iconst (v := nI 5) dX3_copy_53 (by decide) ?_
              refine fx_callVv dX3_copy_54 vX3_finding lX3_51 (by decide) rfl (Nat.le_of_ble_eq_true rfl) (eX3_finding (k := 5) (by decide)) rfl ?_
              exact fx_ireq dX3_copy_57 rfl rfl rfl rfl
        · exact absurd (nI_eq0' hc11) (fun q => h (Or.inr q))
    · have h1 : ¬ G4 11 s = 0 := fun z => h0 (Or.inl z)
      have h2 : ¬ G4 11 t = 0 := fun z => h0 (Or.inr z)
      by_cases h3 : G4 11 s = G4 11 t
      · by_cases h4 : jcok G4 s t p q m
        · obtain ⟨k1, k2, k3, k4, k5⟩ := h4
          obtain ⟨p, hp, rfl⟩ := nI_of k1
          obtain ⟨q, hq, rfl⟩ := nI_of k2
          obtain ⟨m, hm, rfl⟩ := nI_of k3
          rw [nI_clamp hp, nI_clamp hm] at k4
          rw [nI_clamp hq, nI_clamp hm] at k5
          obtain ⟨P, e4⟩ := eX4_copy_y (F := F4) hS hs ht h1 h2 h3 k4 k5
          have R2 := jR_num (j := t) (a := va_cpy (G (28 + 2 * s + 1)) (G (28 + 2 * t + 1)) p q m) (T := jcp (G4 13) (G4 13) (40 * s + p) (40 * t + q) m) (jR_g4 (P := P) R (Or.inr (Or.inr rfl))) ht4 (fun s' hs' hne i hi => by
            unfold jcp
            rw [if_neg (by omega), ga_n _ _ (by decide)]) (fun i hi => by
            unfold jcp
            by_cases e : q ≤ i ∧ i < q + m
            · rw [pk_cpy_in e.1 e.2, if_pos (by omega), s4 (p + (i - q)) (by omega)]
              congr 1; omega
            · rw [pk_cpy_out (by omega), if_neg (by omega)]; exact t4 i hi)
          refine ⟨_, _, _, _, _, _, e4, ?_, R2⟩
          have b1 := eX0_hasFrom (N := N) (G := G) (f := nI p) (m := nI m) hqs s2 s3
          have b2 := eX0_hasFrom (N := N) (G := G) (f := nI q) (m := nI m) hqt t2 t3
          rw [decide_eq_true ⟨k1, k3, by rw [nI_clamp hp, nI_clamp hm]; exact k4⟩] at b1
          rw [decide_eq_true ⟨k2, k3, by rw [nI_clamp hq, nI_clamp hm]; exact k5⟩] at b2
          have eW : z_set (rC F N G) (28 + 2 * t + 1) (.inl (0, 40, .inl (va_cpy (G (28 + 2 * s + 1)) (G (28 + 2 * t + 1)) (nI p).toNatClampNeg (nI q).toNatClampNeg (nI m).toNatClampNeg))) = rC F N (ga G (28 + 2 * t + 1) (va_cpy (G (28 + 2 * s + 1)) (G (28 + 2 * t + 1)) p q m)) := by
            rw [nI_clamp hp, nI_clamp hq, nI_clamp hm]
            exact w0_1 hqt
          refine mx_of (L := [some (.ref 0), some (.int (nI s)), some (.int (nI p)), some (.int (nI t)), some (.int (nI q)), some (.int (nI m)), none, none]) (by decide) (fun _ => rfl) (fun _ => Nat.le_of_ble_eq_true rfl) ?_
          refine fx_iload_n dX3_copy_0 rfl rfl ?_
          refine fx_callSv dX3_copy_1 sX3_isSheet lX3_237 (by decide) (Nat.le_of_ble_eq_true rfl) eX3_isSheet rfl ?_
          refine fx_if_eq (tgt := 14) dX3_copy_4 (by decide) rC_l (fun hc4 => ?_) (fun hc4 => ?_)
          · exact absurd (nI_eq0' hc4) (fun q => h (Or.inl q))
          · refine fx_iload_n dX3_copy_7 rfl rfl ?_
            refine fx_callSv dX3_copy_8 sX3_isSheet lX3_237 (by decide) (Nat.le_of_ble_eq_true rfl) eX3_isSheet rfl ?_
            refine fx_if_ne (tgt := 20) dX3_copy_11 (by decide) rC_l (fun hc11 => ?_) (fun hc11 => ?_)
            · refine fx_aload_n dX3_copy_20 rfl rfl ?_
              refine fx_get dX3_copy_21 kX3_35 rfl rfl ?_
              refine fx_iload_n dX3_copy_24 rfl rfl ?_
              refine fx_aald dX3_copy_25 rfl (Or.inl rfl) (vp_in_nI (by omega) (by decide)) (rC_se (by omega)) ?_
              refine fs_astore_6 dX3_copy_26 rfl (by decide) ?_
              refine fx_aload_n dX3_copy_28 rfl rfl ?_
              refine fx_get dX3_copy_29 kX3_35 rfl rfl ?_
              refine fx_iload_n dX3_copy_32 rfl rfl ?_
              refine fx_aald dX3_copy_33 rfl (Or.inl rfl) (vp_in_nI (by omega) (by decide)) (rC_se (by omega)) ?_
              refine fs_astore_7 dX3_copy_34 rfl (by decide) ?_
              refine fx_aload dX3_copy_36 rfl ?_
              refine fx_callVv dX3_copy_38 vX0_isMissing lX3_245 (by decide) (a0 hqs) (Nat.le_of_ble_eq_true rfl) (eX0_isMissing hqs) rfl ?_
              rw [s1, decide_eq_false h1]
              refine fx_if_ne (tgt := 52) dX3_copy_41 (by decide) rC_l (fun hc41 => ?_) (fun hc41 => ?_)
              · exact absurd rfl hc41
              · refine fx_aload dX3_copy_44 rfl ?_
                refine fx_callVv dX3_copy_46 vX0_isMissing lX3_245 (by decide) (a0 hqt) (Nat.le_of_ble_eq_true rfl) (eX0_isMissing hqt) rfl ?_
                rw [t1, decide_eq_false h2]
                refine fx_if_eq (tgt := 58) dX3_copy_49 (by decide) rC_l (fun hc49 => ?_) (fun hc49 => ?_)
                · refine fx_aload dX3_copy_58 rfl ?_
                  refine fx_get dX3_copy_60 kX3_251 (a0 hqs) rfl ?_
                  refine fx_aload dX3_copy_63 rfl ?_
                  refine fx_get dX3_copy_65 kX3_251 (a0 hqt) rfl ?_
                  rw [s1, t1]
                  refine fx_icmp_eq (tgt := 77) dX3_copy_68 (by decide) rC_l (fun hc68 => ?_) (fun hc68 => ?_)
                  · refine fx_aload dX3_copy_77 rfl ?_
                    refine fx_iload_n dX3_copy_79 rfl rfl ?_
                    refine fx_iload dX3_copy_80 rfl ?_
                    refine fx_callVv dX3_copy_82 vX0_hasFrom lX3_254 (by decide) (a0 hqs) (Nat.le_of_ble_eq_true rfl) b1 rfl ?_
                    refine fx_if_eq (tgt := 100) dX3_copy_85 (by decide) rC_l (fun hc85 => ?_) (fun hc85 => ?_)
                    · exact absurd hc85 (by decide)
                    · refine fx_aload dX3_copy_88 rfl ?_
                      refine fx_iload dX3_copy_90 rfl ?_
                      refine fx_iload dX3_copy_92 rfl ?_
                      refine fx_callVv dX3_copy_94 vX0_hasFrom lX3_254 (by decide) (a0 hqt) (Nat.le_of_ble_eq_true rfl) b2 rfl ?_
                      refine fx_if_ne (tgt := 106) dX3_copy_97 (by decide) rC_l (fun hc97 => ?_) (fun hc97 => ?_)
                      · refine fx_aload dX3_copy_106 rfl ?_
                        refine fx_get dX3_copy_108 kX3_257 (a0 hqs) rfl ?_
                        refine fx_iload_n dX3_copy_111 rfl rfl ?_
                        refine fx_aload dX3_copy_112 rfl ?_
                        refine fx_get dX3_copy_114 kX3_257 (a0 hqt) rfl ?_
                        refine fx_iload dX3_copy_117 rfl ?_
                        refine fx_iload dX3_copy_119 rfl ?_
                        refine fx_copy dX3_copy_121 lX3_260 z_ac (by decide) (a0_1 hqs) (a0_1 hqt) k1 k2 k3 (by rw [nI_clamp hp, nI_clamp hm]; omega) (by rw [nI_clamp hq, nI_clamp hm]; omega) (Nat.le_of_ble_eq_true rfl) eW ?_
                        refine fx_iload dX3_copy_124 rfl ?_
                        exact fx_ireq dX3_copy_126 rfl rfl rfl rfl
                      · exact absurd hc97 (by decide)
                  · exact absurd h3 hc68
                · exact absurd rfl hc49
            · exact absurd (nI_eq0' hc11) (fun q => h (Or.inr q))
        · refine ⟨_, _, _, _, _, _, eX4_copy_b hS hs ht h1 h2 h3 h4, ?_, jR_f R (by decide)⟩
          have b1 := eX0_hasFrom (N := N) (G := G) (f := p) (m := m) hqs s2 s3
          have b2 := eX0_hasFrom (N := N) (G := G) (f := q) (m := m) hqt t2 t3
          refine mx_of (L := [some (.ref 0), some (.int (nI s)), some (.int p), some (.int (nI t)), some (.int q), some (.int m), none, none]) (by decide) (fun _ => rfl) (fun _ => Nat.le_of_ble_eq_true rfl) ?_
          refine fx_iload_n dX3_copy_0 rfl rfl ?_
          refine fx_callSv dX3_copy_1 sX3_isSheet lX3_237 (by decide) (Nat.le_of_ble_eq_true rfl) eX3_isSheet rfl ?_
          refine fx_if_eq (tgt := 14) dX3_copy_4 (by decide) rC_l (fun hc4 => ?_) (fun hc4 => ?_)
          · exact absurd (nI_eq0' hc4) (fun q => h (Or.inl q))
          · refine fx_iload_n dX3_copy_7 rfl rfl ?_
            refine fx_callSv dX3_copy_8 sX3_isSheet lX3_237 (by decide) (Nat.le_of_ble_eq_true rfl) eX3_isSheet rfl ?_
            refine fx_if_ne (tgt := 20) dX3_copy_11 (by decide) rC_l (fun hc11 => ?_) (fun hc11 => ?_)
            · refine fx_aload_n dX3_copy_20 rfl rfl ?_
              refine fx_get dX3_copy_21 kX3_35 rfl rfl ?_
              refine fx_iload_n dX3_copy_24 rfl rfl ?_
              refine fx_aald dX3_copy_25 rfl (Or.inl rfl) (vp_in_nI (by omega) (by decide)) (rC_se (by omega)) ?_
              refine fs_astore_6 dX3_copy_26 rfl (by decide) ?_
              refine fx_aload_n dX3_copy_28 rfl rfl ?_
              refine fx_get dX3_copy_29 kX3_35 rfl rfl ?_
              refine fx_iload_n dX3_copy_32 rfl rfl ?_
              refine fx_aald dX3_copy_33 rfl (Or.inl rfl) (vp_in_nI (by omega) (by decide)) (rC_se (by omega)) ?_
              refine fs_astore_7 dX3_copy_34 rfl (by decide) ?_
              refine fx_aload dX3_copy_36 rfl ?_
              refine fx_callVv dX3_copy_38 vX0_isMissing lX3_245 (by decide) (a0 hqs) (Nat.le_of_ble_eq_true rfl) (eX0_isMissing hqs) rfl ?_
              rw [s1, decide_eq_false h1]
              refine fx_if_ne (tgt := 52) dX3_copy_41 (by decide) rC_l (fun hc41 => ?_) (fun hc41 => ?_)
              · exact absurd rfl hc41
              · refine fx_aload dX3_copy_44 rfl ?_
                refine fx_callVv dX3_copy_46 vX0_isMissing lX3_245 (by decide) (a0 hqt) (Nat.le_of_ble_eq_true rfl) (eX0_isMissing hqt) rfl ?_
                rw [t1, decide_eq_false h2]
                refine fx_if_eq (tgt := 58) dX3_copy_49 (by decide) rC_l (fun hc49 => ?_) (fun hc49 => ?_)
                · refine fx_aload dX3_copy_58 rfl ?_
                  refine fx_get dX3_copy_60 kX3_251 (a0 hqs) rfl ?_
                  refine fx_aload dX3_copy_63 rfl ?_
                  refine fx_get dX3_copy_65 kX3_251 (a0 hqt) rfl ?_
                  rw [s1, t1]
                  refine fx_icmp_eq (tgt := 77) dX3_copy_68 (by decide) rC_l (fun hc68 => ?_) (fun hc68 => ?_)
                  · refine fx_aload dX3_copy_77 rfl ?_
                    refine fx_iload_n dX3_copy_79 rfl rfl ?_
                    refine fx_iload dX3_copy_80 rfl ?_
                    refine fx_callVv dX3_copy_82 vX0_hasFrom lX3_254 (by decide) (a0 hqs) (Nat.le_of_ble_eq_true rfl) b1 rfl ?_
                    refine fx_if_eq (tgt := 100) dX3_copy_85 (by decide) rC_l (fun hc85 => ?_) (fun hc85 => ?_)
                    · refine fx_aload_n dX3_copy_100 rfl rfl ?_
                      refine fx_iconst (v := nI 0) dX3_copy_101 (by decide) ?_
                      refine fx_callVv dX3_copy_102 vX3_finding lX3_51 (by decide) rfl (Nat.le_of_ble_eq_true rfl) (eX3_finding (k := 0) (by decide)) rfl ?_
                      exact fx_ireq dX3_copy_105 rfl rfl rfl rfl
                    · refine fx_aload dX3_copy_88 rfl ?_
                      refine fx_iload dX3_copy_90 rfl ?_
                      refine fx_iload dX3_copy_92 rfl ?_
                      refine fx_callVv dX3_copy_94 vX0_hasFrom lX3_254 (by decide) (a0 hqt) (Nat.le_of_ble_eq_true rfl) b2 rfl ?_
                      refine fx_if_ne (tgt := 106) dX3_copy_97 (by decide) rC_l (fun hc97 => ?_) (fun hc97 => ?_)
                      · have w1 := of_decide_eq_true (nI_ne0' hc85)
                        have w2 := of_decide_eq_true (nI_ne0' hc97)
                        exact absurd ⟨w1.1, w2.1, w1.2.1, w1.2.2, w2.2.2⟩ h4
                      · refine fx_aload_n dX3_copy_100 rfl rfl ?_
                        refine fx_iconst (v := nI 0) dX3_copy_101 (by decide) ?_
                        refine fx_callVv dX3_copy_102 vX3_finding lX3_51 (by decide) rfl (Nat.le_of_ble_eq_true rfl) (eX3_finding (k := 0) (by decide)) rfl ?_
                        exact fx_ireq dX3_copy_105 rfl rfl rfl rfl
                  · exact absurd h3 hc68
                · exact absurd rfl hc49
            · exact absurd (nI_eq0' hc11) (fun q => h (Or.inr q))
      · refine ⟨_, _, _, _, _, _, eX4_copy_k hs ht h1 h2 h3, ?_, jR_f R (by decide)⟩
        refine mx_of (L := [some (.ref 0), some (.int (nI s)), some (.int p), some (.int (nI t)), some (.int q), some (.int m), none, none]) (by decide) (fun _ => rfl) (fun _ => Nat.le_of_ble_eq_true rfl) ?_
        refine fx_iload_n dX3_copy_0 rfl rfl ?_
        refine fx_callSv dX3_copy_1 sX3_isSheet lX3_237 (by decide) (Nat.le_of_ble_eq_true rfl) eX3_isSheet rfl ?_
        refine fx_if_eq (tgt := 14) dX3_copy_4 (by decide) rC_l (fun hc4 => ?_) (fun hc4 => ?_)
        · exact absurd (nI_eq0' hc4) (fun q => h (Or.inl q))
        · refine fx_iload_n dX3_copy_7 rfl rfl ?_
          refine fx_callSv dX3_copy_8 sX3_isSheet lX3_237 (by decide) (Nat.le_of_ble_eq_true rfl) eX3_isSheet rfl ?_
          refine fx_if_ne (tgt := 20) dX3_copy_11 (by decide) rC_l (fun hc11 => ?_) (fun hc11 => ?_)
          · refine fx_aload_n dX3_copy_20 rfl rfl ?_
            refine fx_get dX3_copy_21 kX3_35 rfl rfl ?_
            refine fx_iload_n dX3_copy_24 rfl rfl ?_
            refine fx_aald dX3_copy_25 rfl (Or.inl rfl) (vp_in_nI (by omega) (by decide)) (rC_se (by omega)) ?_
            refine fs_astore_6 dX3_copy_26 rfl (by decide) ?_
            refine fx_aload_n dX3_copy_28 rfl rfl ?_
            refine fx_get dX3_copy_29 kX3_35 rfl rfl ?_
            refine fx_iload_n dX3_copy_32 rfl rfl ?_
            refine fx_aald dX3_copy_33 rfl (Or.inl rfl) (vp_in_nI (by omega) (by decide)) (rC_se (by omega)) ?_
            refine fs_astore_7 dX3_copy_34 rfl (by decide) ?_
            refine fx_aload dX3_copy_36 rfl ?_
            refine fx_callVv dX3_copy_38 vX0_isMissing lX3_245 (by decide) (a0 hqs) (Nat.le_of_ble_eq_true rfl) (eX0_isMissing hqs) rfl ?_
            rw [s1, decide_eq_false h1]
            refine fx_if_ne (tgt := 52) dX3_copy_41 (by decide) rC_l (fun hc41 => ?_) (fun hc41 => ?_)
            · exact absurd rfl hc41
            · refine fx_aload dX3_copy_44 rfl ?_
              refine fx_callVv dX3_copy_46 vX0_isMissing lX3_245 (by decide) (a0 hqt) (Nat.le_of_ble_eq_true rfl) (eX0_isMissing hqt) rfl ?_
              rw [t1, decide_eq_false h2]
              refine fx_if_eq (tgt := 58) dX3_copy_49 (by decide) rC_l (fun hc49 => ?_) (fun hc49 => ?_)
              · refine fx_aload dX3_copy_58 rfl ?_
                refine fx_get dX3_copy_60 kX3_251 (a0 hqs) rfl ?_
                refine fx_aload dX3_copy_63 rfl ?_
                refine fx_get dX3_copy_65 kX3_251 (a0 hqt) rfl ?_
                rw [s1, t1]
                refine fx_icmp_eq (tgt := 77) dX3_copy_68 (by decide) rC_l (fun hc68 => ?_) (fun hc68 => ?_)
                · exact absurd hc68 h3
                · refine fx_aload_n dX3_copy_71 rfl rfl ?_
                  refine fx_iconst (v := nI 2) dX3_copy_72 (by decide) ?_
                  refine fx_callVv dX3_copy_73 vX3_finding lX3_51 (by decide) rfl (Nat.le_of_ble_eq_true rfl) (eX3_finding (k := 2) (by decide)) rfl ?_
                  exact fx_ireq dX3_copy_76 rfl rfl rfl rfl
              · exact absurd rfl hc49
          · exact absurd (nI_eq0' hc11) (fun q => h (Or.inr q))
end
