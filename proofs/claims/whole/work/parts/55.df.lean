/-! ===== the class: words, numbers; both: numbers ===== -/
set_option maxRecDepth 100000
theorem kf_1 (B : Nat → Int32) (z s k : Nat) : kf B z s (k + 1) = if iw B z s k = true then nI k else kf B z s k := rfl
theorem kf_y {B : Nat → Int32} {z s i : Nat} (hi : i < 7) (h : iw B z s i = true) : kf B z s 7 = nI i := by
  have H : ∀ d, i + 1 + d ≤ 7 → kf B z s (i + 1 + d) = nI i := by
    intro d
    induction d with
    | zero => intro _; rw [Nat.add_zero, kf_1, if_pos h]
    | succ d ih =>
      intro hd
      rw [← Nat.add_assoc, kf_1, if_neg (fun q => by have := iw_one (by omega) (by omega) h q; omega)]
      exact ih (by omega)
  have := H (6 - i) (by omega)
  rw [show i + 1 + (6 - i) = 7 by omega] at this
  exact this
theorem kf_n {B : Nat → Int32} {z s : Nat} (h : ∀ i, i < 7 → iw B z s i = false) : kf B z s 7 = (-1) := by
  have H : ∀ k, k ≤ 7 → kf B z s k = (-1) := by
    intro k
    induction k with
    | zero => intro _; rfl
    | succ k ih => intro hk; rw [kf_1, if_neg (by rw [h k (by omega)]; decide)]; exact ih (by omega)
  exact H 7 (Nat.le_refl 7)
def ft (w : Bool) (s : Nat) : Int32 := if w = true then nI s else (-1)
section
variable {F : Nat → Nat → Int32} {N : Nat → Nat → Int64} {G : Nat → Nat → Int32} {B : Nat → Int32} {z s : Nat} {d f : Int32}
theorem eX1_adv (hz : F 25 1 = nI z) (hb : ∀ i, i < z → G 26 i = B i) (hB : jBy B z) (hs : s ≤ z) : Mx mX1_advance [.ref 25] (sC F N G B z s d f) none (sC F N G B z (nx B z s) (nv B z (nx B z s) d) f) :=
  eX1_advance hz hb hB (en_b hB hs).2.1
theorem nv_h : kd B z s = 2 → nv B z s d = nI (vc B z s 0) := fun h => if_pos h
theorem eX1_isWord {i : Nat} (hb : ∀ i, i < z → G 26 i = B i) (hB : jBy B z) (hs : s ≤ z) (hi : i < 14) : Mx mX1_isWord [.ref 25, .ref (1000 + i)] (rC (qC F (nI (kd B z s)) (nI s) (nI (en B z s)) d f) N G) (some (.int (jB (iw B z s i)))) (rC (qC F (nI (kd B z s)) (nI s) (nI (en B z s)) d f) N G) := by
  refine mx_of (L := [some (.ref 25), some (.ref (1000 + i)), none]) (by decide) (fun _ => rfl) (fun _ => Nat.le_of_ble_eq_true rfl) ?_
  have hz1 := hB.1
  obtain ⟨en1, en2, -⟩ := en_b hB hs
  have hl7 := jlen_lt i hi
  have hk4 := kd_le (B := B) (z := z) (s := s)
  by_cases hk : kd B z s = 1
  · by_cases hl : en B z s - s = jlen i
    · have e0 : iw B z s i = iwp B s i (jlen i) := by unfold iw; rw [decide_eq_true hk, decide_eq_true hl]; rfl
      rw [e0, hk]
      have H : ∀ (r k : Nat), k + r = jlen i → iwp B s i k = true → Fx mX1_isWord (some (.int (jB (iwp B s i (jlen i)))), rC (qC F (nI 1) (nI s) (nI (en B z s)) d f) N G) 28 [some (.ref 25), some (.ref (1000 + i)), some (.int (nI k))] [] (rC (qC F (nI 1) (nI s) (nI (en B z s)) d f) N G) := by
        intro r
        induction r with
        | zero =>
          intro k hkd hw
          have hk' : k = jlen i := by omega
          subst hk'
          rw [hw]
          refine fx_iload_n dX1_isWord_28 rfl rfl ?_
          refine fx_aload_n dX1_isWord_29 rfl rfl ?_
          refine fx_callTv (as := []) dX1_isWord_30 oJ0_length_8abf5 pJ0_length_8abf5 viJ0_length_8abf5 vsJ0_length_8abf5 rfl tX1_41 (by decide) hi (Nat.le_of_ble_eq_true rfl) (eJ0_length_8abf5 hi) rfl ?_
          refine fx_icmp_ge (tgt := 63) dX1_isWord_33 (by decide) rC_l (fun hc33 => ?_) (fun hc33 => ?_)
          · refine fx_iconst (v := nI 1) dX1_isWord_63 (by decide) ?_
            exact fx_ireq dX1_isWord_64 rfl rfl rfl rfl
          · exact absurd (Int32.le_refl _) hc33
        | succ r ih =>
          intro k hkd hw
          have eb := hb (s + k) (by omega)
          by_cases hq : B (s + k) = jbyt i k
          · have ih1 := ih (k + 1) (by omega) (by rw [iwp_1, hw, decide_eq_true hq]; rfl)
            refine fx_iload_n dX1_isWord_28 rfl rfl ?_
            refine fx_aload_n dX1_isWord_29 rfl rfl ?_
            refine fx_callTv (as := []) dX1_isWord_30 oJ0_length_8abf5 pJ0_length_8abf5 viJ0_length_8abf5 vsJ0_length_8abf5 rfl tX1_41 (by decide) hi (Nat.le_of_ble_eq_true rfl) (eJ0_length_8abf5 hi) rfl ?_
            refine fx_icmp_ge (tgt := 63) dX1_isWord_33 (by decide) rC_l (fun hc33 => ?_) (fun hc33 => ?_)
            · exact absurd hc33 (nI_ge (by omega) (by omega))
            · refine fx_aload_n dX1_isWord_36 rfl rfl ?_
              refine fx_get dX1_isWord_37 kX1_9 rfl rfl ?_
              refine fx_aload_n dX1_isWord_40 rfl rfl ?_
              refine fx_get dX1_isWord_41 kX1_35 rfl rfl ?_
              rw [r3]
              refine fx_iload_n dX1_isWord_44 rfl rfl ?_
              refine fx_iadd dX1_isWord_45 ?_
              rw [nI_add]
              refine fx_iald dX1_isWord_46 rfl (vp_in_nI (by omega) (by decide)) ?_
              rw [nI_clamp (by omega), eb]
              refine fx_aload_n dX1_isWord_47 rfl rfl ?_
              refine fx_iload_n dX1_isWord_48 rfl rfl ?_
              refine fx_callTv (as := [_]) dX1_isWord_49 oJ0_charAt_5068e pJ0_charAt_5068e viJ0_charAt_5068e vsJ0_charAt_5068e rfl tX1_47 (by decide) hi (Nat.le_of_ble_eq_true rfl) (eJ0_charAt_5068e hi (by omega)) rfl ?_
              refine fx_icmp_eq (tgt := 57) dX1_isWord_52 (by decide) rC_l (fun hc52 => ?_) (fun hc52 => ?_)
              · refine fs_iinc_2 (w := nI 1) dX1_isWord_57 (by decide) rfl (by decide) ?_
                refine fx_goto (tgt := 28) dX1_isWord_60 (by decide) ?_
                rw [nI_add]
                exact ih1
              · exact absurd hq hc52
          · have ef := iwp_f (show iwp B s i (k + 1) = false by rw [iwp_1, decide_eq_false hq, Bool.and_false]) r
            rw [show k + 1 + r = jlen i by omega] at ef
            rw [ef]
            refine fx_iload_n dX1_isWord_28 rfl rfl ?_
            refine fx_aload_n dX1_isWord_29 rfl rfl ?_
            refine fx_callTv (as := []) dX1_isWord_30 oJ0_length_8abf5 pJ0_length_8abf5 viJ0_length_8abf5 vsJ0_length_8abf5 rfl tX1_41 (by decide) hi (Nat.le_of_ble_eq_true rfl) (eJ0_length_8abf5 hi) rfl ?_
            refine fx_icmp_ge (tgt := 63) dX1_isWord_33 (by decide) rC_l (fun hc33 => ?_) (fun hc33 => ?_)
            · exact absurd hc33 (nI_ge (by omega) (by omega))
            · refine fx_aload_n dX1_isWord_36 rfl rfl ?_
              refine fx_get dX1_isWord_37 kX1_9 rfl rfl ?_
              refine fx_aload_n dX1_isWord_40 rfl rfl ?_
              refine fx_get dX1_isWord_41 kX1_35 rfl rfl ?_
              rw [r3]
              refine fx_iload_n dX1_isWord_44 rfl rfl ?_
              refine fx_iadd dX1_isWord_45 ?_
              rw [nI_add]
              refine fx_iald dX1_isWord_46 rfl (vp_in_nI (by omega) (by decide)) ?_
              rw [nI_clamp (by omega), eb]
              refine fx_aload_n dX1_isWord_47 rfl rfl ?_
              refine fx_iload_n dX1_isWord_48 rfl rfl ?_
              refine fx_callTv (as := [_]) dX1_isWord_49 oJ0_charAt_5068e pJ0_charAt_5068e viJ0_charAt_5068e vsJ0_charAt_5068e rfl tX1_47 (by decide) hi (Nat.le_of_ble_eq_true rfl) (eJ0_charAt_5068e hi (by omega)) rfl ?_
              refine fx_icmp_eq (tgt := 57) dX1_isWord_52 (by decide) rC_l (fun hc52 => ?_) (fun hc52 => ?_)
              · exact absurd hc52 hq
              · refine fx_iconst (v := nI 0) dX1_isWord_55 (by decide) ?_
                exact fx_ireq dX1_isWord_56 rfl rfl rfl rfl
      have H0 := H (jlen i) 0 (by omega) rfl
      refine fx_aload_n dX1_isWord_0 rfl rfl ?_
      refine fx_get dX1_isWord_1 kX1_32 rfl rfl ?_
      rw [r2]
      refine fx_iconst (v := nI 1) dX1_isWord_4 (by decide) ?_
      refine fx_icmp_ne (tgt := 24) dX1_isWord_5 (by decide) rC_l (fun hc5 => ?_) (fun hc5 => ?_)
      · exact absurd rfl hc5
      · refine fx_aload_n dX1_isWord_8 rfl rfl ?_
        refine fx_get dX1_isWord_9 kX1_22 rfl rfl ?_
        rw [r4]
        refine fx_aload_n dX1_isWord_12 rfl rfl ?_
        refine fx_get dX1_isWord_13 kX1_35 rfl rfl ?_
        rw [r3]
        refine fx_isub dX1_isWord_16 ?_
        rw [pk_sub en1, hl]
        refine fx_aload_n dX1_isWord_17 rfl rfl ?_
        refine fx_callTv (as := []) dX1_isWord_18 oJ0_length_8abf5 pJ0_length_8abf5 viJ0_length_8abf5 vsJ0_length_8abf5 rfl tX1_41 (by decide) hi (Nat.le_of_ble_eq_true rfl) (eJ0_length_8abf5 hi) rfl ?_
        refine fx_icmp_eq (tgt := 26) dX1_isWord_21 (by decide) rC_l (fun hc21 => ?_) (fun hc21 => ?_)
        · refine fx_iconst (v := nI 0) dX1_isWord_26 (by decide) ?_
          refine fs_istore_n_2 dX1_isWord_27 rfl (by decide) ?_
          exact H0
        · exact absurd rfl hc21
    · have e0 : iw B z s i = false := by unfold iw; rw [decide_eq_false hl, Bool.false_and, Bool.and_false]
      rw [e0]
      refine fx_aload_n dX1_isWord_0 rfl rfl ?_
      refine fx_get dX1_isWord_1 kX1_32 rfl rfl ?_
      rw [r2]
      refine fx_iconst (v := nI 1) dX1_isWord_4 (by decide) ?_
      refine fx_icmp_ne (tgt := 24) dX1_isWord_5 (by decide) rC_l (fun hc5 => ?_) (fun hc5 => ?_)
      · refine fx_iconst (v := nI 0) dX1_isWord_24 (by decide) ?_
        exact fx_ireq dX1_isWord_25 rfl rfl rfl rfl
      · refine fx_aload_n dX1_isWord_8 rfl rfl ?_
        refine fx_get dX1_isWord_9 kX1_22 rfl rfl ?_
        rw [r4]
        refine fx_aload_n dX1_isWord_12 rfl rfl ?_
        refine fx_get dX1_isWord_13 kX1_35 rfl rfl ?_
        rw [r3]
        refine fx_isub dX1_isWord_16 ?_
        rw [pk_sub en1]
        refine fx_aload_n dX1_isWord_17 rfl rfl ?_
        refine fx_callTv (as := []) dX1_isWord_18 oJ0_length_8abf5 pJ0_length_8abf5 viJ0_length_8abf5 vsJ0_length_8abf5 rfl tX1_41 (by decide) hi (Nat.le_of_ble_eq_true rfl) (eJ0_length_8abf5 hi) rfl ?_
        refine fx_icmp_eq (tgt := 26) dX1_isWord_21 (by decide) rC_l (fun hc21 => ?_) (fun hc21 => ?_)
        · exact absurd ((nI_eq (by omega) (by omega)).mp hc21) hl
        · refine fx_iconst (v := nI 0) dX1_isWord_24 (by decide) ?_
          exact fx_ireq dX1_isWord_25 rfl rfl rfl rfl
  · have e0 : iw B z s i = false := by unfold iw; rw [decide_eq_false hk, Bool.false_and]
    rw [e0]
    refine fx_aload_n dX1_isWord_0 rfl rfl ?_
    refine fx_get dX1_isWord_1 kX1_32 rfl rfl ?_
    rw [r2]
    refine fx_iconst (v := nI 1) dX1_isWord_4 (by decide) ?_
    refine fx_icmp_ne (tgt := 24) dX1_isWord_5 (by decide) rC_l (fun hc5 => ?_) (fun hc5 => ?_)
    · refine fx_iconst (v := nI 0) dX1_isWord_24 (by decide) ?_
      exact fx_ireq dX1_isWord_25 rfl rfl rfl rfl
    · exact absurd ((nI_eq (by omega) (by omega)).mp hc5) (by omega)
theorem eX1_wordOfKind {k : Nat} {h : zH} (hk : k < 7) : Mx mX1_wordOfKind [.int (nI k)] h (some (.ref (1000 + k))) h := by
  refine mx_of (L := [some (.int (nI k))]) (by decide) (fun _ => rfl) (fun _ => Nat.le_of_ble_eq_true rfl) ?_
  rcases (show k = 0 ∨ k = 1 ∨ k = 2 ∨ k = 3 ∨ k = 4 ∨ k = 5 ∨ k = 6 by omega) with rfl | rfl | rfl | rfl | rfl | rfl | rfl
  · refine fx_iload_n dX1_wordOfKind_0 rfl rfl ?_
    refine fx_tableOut (tgt := 58) dX1_wordOfKind_1 (Or.inl (by decide)) (by decide) ?_
    refine fx_ldcS (i := 0) dX1_wordOfKind_58 (List.mem_of_getElem? (i := 6) rfl) (by decide) ?_
    exact fx_areq dX1_wordOfKind_60 rfl (Or.inl ⟨_, rfl⟩) rfl rfl
  · refine fx_iload_n dX1_wordOfKind_0 rfl rfl ?_
    refine fx_tableIn (tgt := 40) dX1_wordOfKind_1 (by decide) (by decide) rfl (by decide) ?_
    refine fx_ldcS (i := 1) dX1_wordOfKind_40 (List.mem_of_getElem? (i := 0) rfl) (by decide) ?_
    exact fx_areq dX1_wordOfKind_42 rfl (Or.inl ⟨_, rfl⟩) rfl rfl
  · refine fx_iload_n dX1_wordOfKind_0 rfl rfl ?_
    refine fx_tableIn (tgt := 43) dX1_wordOfKind_1 (by decide) (by decide) rfl (by decide) ?_
    refine fx_ldcS (i := 2) dX1_wordOfKind_43 (List.mem_of_getElem? (i := 1) rfl) (by decide) ?_
    exact fx_areq dX1_wordOfKind_45 rfl (Or.inl ⟨_, rfl⟩) rfl rfl
  · refine fx_iload_n dX1_wordOfKind_0 rfl rfl ?_
    refine fx_tableIn (tgt := 46) dX1_wordOfKind_1 (by decide) (by decide) rfl (by decide) ?_
    refine fx_ldcS (i := 3) dX1_wordOfKind_46 (List.mem_of_getElem? (i := 2) rfl) (by decide) ?_
    exact fx_areq dX1_wordOfKind_48 rfl (Or.inl ⟨_, rfl⟩) rfl rfl
  · refine fx_iload_n dX1_wordOfKind_0 rfl rfl ?_
    refine fx_tableIn (tgt := 49) dX1_wordOfKind_1 (by decide) (by decide) rfl (by decide) ?_
    refine fx_ldcS (i := 4) dX1_wordOfKind_49 (List.mem_of_getElem? (i := 3) rfl) (by decide) ?_
    exact fx_areq dX1_wordOfKind_51 rfl (Or.inl ⟨_, rfl⟩) rfl rfl
  · refine fx_iload_n dX1_wordOfKind_0 rfl rfl ?_
    refine fx_tableIn (tgt := 52) dX1_wordOfKind_1 (by decide) (by decide) rfl (by decide) ?_
    refine fx_ldcS (i := 5) dX1_wordOfKind_52 (List.mem_of_getElem? (i := 4) rfl) (by decide) ?_
    exact fx_areq dX1_wordOfKind_54 rfl (Or.inl ⟨_, rfl⟩) rfl rfl
  · refine fx_iload_n dX1_wordOfKind_0 rfl rfl ?_
    refine fx_tableIn (tgt := 55) dX1_wordOfKind_1 (by decide) (by decide) rfl (by decide) ?_
    refine fx_ldcS (i := 6) dX1_wordOfKind_55 (List.mem_of_getElem? (i := 5) rfl) (by decide) ?_
    exact fx_areq dX1_wordOfKind_57 rfl (Or.inl ⟨_, rfl⟩) rfl rfl
theorem eX1_kindOfWord (hb : ∀ i, i < z → G 26 i = B i) (hB : jBy B z) (hs : s ≤ z) : Mx mX1_kindOfWord [.ref 25] (rC (qC F (nI (kd B z s)) (nI s) (nI (en B z s)) d f) N G) (some (.int (kf B z s 7))) (rC (qC F (nI (kd B z s)) (nI s) (nI (en B z s)) d f) N G) := by
  refine mx_of (L := [some (.ref 25), none]) (by decide) (fun _ => rfl) (fun _ => Nat.le_of_ble_eq_true rfl) ?_
  have H : ∀ (r k : Nat), k + r = 7 → (∀ i, i < k → iw B z s i = false) → Fx mX1_kindOfWord (some (.int (kf B z s 7)), rC (qC F (nI (kd B z s)) (nI s) (nI (en B z s)) d f) N G) 2 [some (.ref 25), some (.int (nI k))] [] (rC (qC F (nI (kd B z s)) (nI s) (nI (en B z s)) d f) N G) := by
    intro r
    induction r with
    | zero =>
      intro k hk hn
      have hk' : k = 7 := by omega
      subst hk'
      rw [kf_n hn]
      refine fx_iload_n dX1_kindOfWord_2 rfl rfl ?_
      refine fx_bipush (v := nI 7) dX1_kindOfWord_3 (by decide) ?_
      refine fx_icmp_ge (tgt := 27) dX1_kindOfWord_5 (by decide) rfl (fun hc5 => ?_) (fun hc5 => ?_)
      · refine fx_iconst (v := (-1)) dX1_kindOfWord_27 (by decide) ?_
        exact fx_ireq dX1_kindOfWord_28 rfl rfl rfl rfl
      · exact absurd (Int32.le_refl _) hc5
    | succ r ih =>
      intro k hk hn
      cases hw : iw B z s k
      · have ih1 := ih (k + 1) (by omega) (fun i hi => by
          rcases Nat.lt_or_eq_of_le (Nat.le_of_lt_succ hi) with q | q
          · exact hn i q
          · subst q; exact hw)
        refine fx_iload_n dX1_kindOfWord_2 rfl rfl ?_
        refine fx_bipush (v := nI 7) dX1_kindOfWord_3 (by decide) ?_
        refine fx_icmp_ge (tgt := 27) dX1_kindOfWord_5 (by decide) rfl (fun hc5 => ?_) (fun hc5 => ?_)
        · exact absurd hc5 (nI_ge (by omega) (by omega))
        · refine fx_aload_n dX1_kindOfWord_8 rfl rfl ?_
          refine fx_iload_n dX1_kindOfWord_9 rfl rfl ?_
          refine fx_callSv dX1_kindOfWord_10 sX1_wordOfKind lX1_82 (by decide) (Nat.le_of_ble_eq_true rfl) (eX1_wordOfKind (by omega)) rfl ?_
          refine fx_callVv dX1_kindOfWord_13 vX1_isWord lX1_60 (by decide) rfl (Nat.le_of_ble_eq_true rfl) (eX1_isWord hb hB hs (by omega)) rfl ?_
          rw [hw]
          refine fx_if_eq (tgt := 21) dX1_kindOfWord_16 (by decide) rfl (fun hc16 => ?_) (fun hc16 => ?_)
          · refine fs_iinc_1 (w := nI 1) dX1_kindOfWord_21 (by decide) rfl (by decide) ?_
            refine fx_goto (tgt := 2) dX1_kindOfWord_24 (by decide) ?_
            rw [nI_add]
            exact ih1
          · exact absurd rfl hc16
      · rw [kf_y (by omega) hw]
        refine fx_iload_n dX1_kindOfWord_2 rfl rfl ?_
        refine fx_bipush (v := nI 7) dX1_kindOfWord_3 (by decide) ?_
        refine fx_icmp_ge (tgt := 27) dX1_kindOfWord_5 (by decide) rfl (fun hc5 => ?_) (fun hc5 => ?_)
        · exact absurd hc5 (nI_ge (by omega) (by omega))
        · refine fx_aload_n dX1_kindOfWord_8 rfl rfl ?_
          refine fx_iload_n dX1_kindOfWord_9 rfl rfl ?_
          refine fx_callSv dX1_kindOfWord_10 sX1_wordOfKind lX1_82 (by decide) (Nat.le_of_ble_eq_true rfl) (eX1_wordOfKind (by omega)) rfl ?_
          refine fx_callVv dX1_kindOfWord_13 vX1_isWord lX1_60 (by decide) rfl (Nat.le_of_ble_eq_true rfl) (eX1_isWord hb hB hs (by omega)) rfl ?_
          rw [hw]
          refine fx_if_eq (tgt := 21) dX1_kindOfWord_16 (by decide) rfl (fun hc16 => ?_) (fun hc16 => ?_)
          · exact absurd hc16 (by decide)
          · refine fx_iload_n dX1_kindOfWord_19 rfl rfl ?_
            exact fx_ireq dX1_kindOfWord_20 rfl rfl rfl rfl
  refine fx_iconst (v := nI 0) dX1_kindOfWord_0 (by decide) ?_
  refine fs_istore_n_1 dX1_kindOfWord_1 rfl (by decide) ?_
  exact H 7 0 (by omega) (fun i hi => absurd hi (Nat.not_lt_zero i))
theorem eX1_takeNumber_w {a b c : Int32} {lo hi : Int32} (hf : ¬ f < 0) : Mx mX1_takeNumber [.ref 25, .int lo, .int hi] (rC (qC F a b c d f) N G) (some (.int (-1))) (rC (qC F a b c d f) N G) := by
  refine mx_of (L := [some (.ref 25), some (.int lo), some (.int hi), none]) (by decide) (fun _ => rfl) (fun _ => Nat.le_of_ble_eq_true rfl) ?_
  refine fx_aload_n dX1_takeNumber_0 rfl rfl ?_
  refine fx_get dX1_takeNumber_1 kX1_19 rfl rfl ?_
  rw [r6]
  refine fx_if_lt (tgt := 9) dX1_takeNumber_4 (by decide) rC_l (fun hc4 => ?_) (fun hc4 => ?_)
  · exact absurd hc4 hf
  · refine fx_iconst (v := (-1)) dX1_takeNumber_7 (by decide) ?_
    exact fx_ireq dX1_takeNumber_8 rfl rfl rfl rfl
theorem okn_c {lo hi : Nat} (hs : s ≤ z) (hk : kd B z s = 2) (hlo : lo ≤ hi) (hh : hi < 1000) : okn B z s (nI lo) (nI hi) = (decide (lo ≤ vc B z s 0) && decide (vc B z s 0 ≤ hi)) ∧ (vc B z s 0 ≤ hi → va B z s = vc B z s 0) ∧ vc B z s 0 ≤ 9999 := by
  obtain ⟨h1, h2⟩ := vl_vc (B := B) (z := z) (z - s) s 0 (by omega) (by decide)
  have e : va B z s = min 1000 (vc B z s 0) := by
    unfold va
    rw [if_pos hk]
    exact h1
  refine ⟨?_, fun q => by rw [e]; omega, h2⟩
  have a1 : nI lo ≤ nI (min 1000 (vc B z s 0)) ↔ lo ≤ vc B z s 0 := (nI_leI (by omega) (by omega)).trans ⟨fun q => by omega, fun q => by omega⟩
  have a2 : nI (min 1000 (vc B z s 0)) ≤ nI hi ↔ vc B z s 0 ≤ hi := (nI_leI (by omega) (by omega)).trans ⟨fun q => by omega, fun q => by omega⟩
  unfold okn jwi
  rw [decide_eq_true hk, Bool.true_and, e, decide_eq_decide.mpr a1, decide_eq_decide.mpr a2]
theorem eX1_takeNumber_y {lo hi : Nat} (hz : F 25 1 = nI z) (hb : ∀ i, i < z → G 26 i = B i) (hB : jBy B z) (hs : s ≤ z) (hd : kd B z s = 2 → d = nI (vc B z s 0)) (hlo : lo ≤ hi) (hh : hi < 1000) (h : okn B z s (nI lo) (nI hi) = true) : Mx mX1_takeNumber [.ref 25, .int (nI lo), .int (nI hi)] (sC F N G B z s d (-1)) (some (.int (nI (va B z s)))) (sC F N G B z (nx B z s) (nv B z (nx B z s) d) (-1)) := by
  have hk : kd B z s = 2 := by
    unfold okn at h
    rw [Bool.and_eq_true, decide_eq_true_eq] at h
    exact h.1
  obtain ⟨o1, o2, o3⟩ := okn_c hs hk hlo hh
  rw [o1, Bool.and_eq_true, decide_eq_true_eq, decide_eq_true_eq] at h
  refine mx_of (L := [some (.ref 25), some (.int (nI lo)), some (.int (nI hi)), none]) (by decide) (fun _ => rfl) (fun _ => Nat.le_of_ble_eq_true rfl) ?_
  obtain rfl := hd hk
  have eA := eX1_adv (N := N) (d := nI (vc B z s 0)) (f := (-1)) hz hb hB hs
  refine fx_aload_n dX1_takeNumber_0 rfl rfl ?_
  refine fx_get dX1_takeNumber_1 kX1_19 rfl rfl ?_
  rw [r6]
  refine fx_if_lt (tgt := 9) dX1_takeNumber_4 (by decide) rC_l (fun hc4 => ?_) (fun hc4 => ?_)
  · refine fx_aload_n dX1_takeNumber_9 rfl rfl ?_
    refine fx_get dX1_takeNumber_10 kX1_32 rfl rfl ?_
    rw [r2, hk]
    refine fx_iconst (v := nI 2) dX1_takeNumber_13 (by decide) ?_
    refine fx_icmp_ne (tgt := 33) dX1_takeNumber_14 (by decide) rC_l (fun hc14 => ?_) (fun hc14 => ?_)
    · exact absurd rfl hc14
    · refine fx_aload_n dX1_takeNumber_17 rfl rfl ?_
      refine fx_get dX1_takeNumber_18 kX1_38 rfl rfl ?_
      rw [r5]
      refine fx_iload_n dX1_takeNumber_21 rfl rfl ?_
      refine fx_icmp_lt (tgt := 33) dX1_takeNumber_22 (by decide) rC_l (fun hc22 => ?_) (fun hc22 => ?_)
      · exact absurd hc22 (nI_nlt h.1 (by omega))
      · refine fx_aload_n dX1_takeNumber_25 rfl rfl ?_
        refine fx_get dX1_takeNumber_26 kX1_38 rfl rfl ?_
        rw [r5]
        refine fx_iload_n dX1_takeNumber_29 rfl rfl ?_
        refine fx_icmp_le (tgt := 43) dX1_takeNumber_30 (by decide) rC_l (fun hc30 => ?_) (fun hc30 => ?_)
        · refine fx_aload_n dX1_takeNumber_43 rfl rfl ?_
          refine fx_get dX1_takeNumber_44 kX1_38 rfl rfl ?_
          rw [r5]
          refine fs_istore_n_3 dX1_takeNumber_47 rfl (by decide) ?_
          refine fx_aload_n dX1_takeNumber_48 rfl rfl ?_
          refine fx_callVn dX1_takeNumber_49 vX1_advance lX1_25 (by decide) rfl (Nat.le_of_ble_eq_true rfl) eA rfl ?_
          refine fx_iload_n dX1_takeNumber_52 rfl rfl ?_
          exact fx_ireq dX1_takeNumber_53 rfl rfl (by rw [o2 h.2]) rfl
        · exact absurd (nI_le h.2 (by omega)) hc30
  · exact absurd (by decide) hc4
theorem eX1_takeNumber_n {lo hi : Nat} (hs : s ≤ z) (hd : kd B z s = 2 → d = nI (vc B z s 0)) (hlo : lo ≤ hi) (hh : hi < 1000) (h : okn B z s (nI lo) (nI hi) = false) : Mx mX1_takeNumber [.ref 25, .int (nI lo), .int (nI hi)] (sC F N G B z s d (-1)) (some (.int (-1))) (sC F N G B z s d (nI s)) := by
  refine mx_of (L := [some (.ref 25), some (.int (nI lo)), some (.int (nI hi)), none]) (by decide) (fun _ => rfl) (fun _ => Nat.le_of_ble_eq_true rfl) ?_
  have hk4 := kd_le (B := B) (z := z) (s := s)
  have K : ∀ d : Int32, Fx mX1_takeNumber (some (.int (-1)), sC F N G B z s d (nI s)) 33 [some (.ref 25), some (.int (nI lo)), some (.int (nI hi)), none] [] (sC F N G B z s d (-1)) := by
    intro d
    refine fx_aload_n dX1_takeNumber_33 rfl rfl ?_
    refine fx_aload_n dX1_takeNumber_34 rfl rfl ?_
    refine fx_get dX1_takeNumber_35 kX1_35 rfl rfl ?_
    rw [r3]
    refine fx_put dX1_takeNumber_38 kX1_19 rfl (Nat.le_of_ble_eq_true rfl) (fun _ => rfl) rfl rfl u1_6 ?_
    rw [qC_6]
    refine fx_iconst (v := (-1)) dX1_takeNumber_41 (by decide) ?_
    exact fx_ireq dX1_takeNumber_42 rfl rfl rfl rfl
  by_cases hk : kd B z s = 2
  · obtain ⟨o1, o2, o3⟩ := okn_c hs hk hlo hh
    rw [o1] at h
    obtain rfl := hd hk
    refine fx_aload_n dX1_takeNumber_0 rfl rfl ?_
    refine fx_get dX1_takeNumber_1 kX1_19 rfl rfl ?_
    rw [r6]
    refine fx_if_lt (tgt := 9) dX1_takeNumber_4 (by decide) rC_l (fun hc4 => ?_) (fun hc4 => ?_)
    · refine fx_aload_n dX1_takeNumber_9 rfl rfl ?_
      refine fx_get dX1_takeNumber_10 kX1_32 rfl rfl ?_
      refine fx_iconst (v := nI 2) dX1_takeNumber_13 (by decide) ?_
      refine fx_icmp_ne (tgt := 33) dX1_takeNumber_14 (by decide) rC_l (fun hc14 => ?_) (fun hc14 => ?_)
      · exact K _
      · refine fx_aload_n dX1_takeNumber_17 rfl rfl ?_
        refine fx_get dX1_takeNumber_18 kX1_38 rfl rfl ?_
        rw [r5]
        refine fx_iload_n dX1_takeNumber_21 rfl rfl ?_
        refine fx_icmp_lt (tgt := 33) dX1_takeNumber_22 (by decide) rC_l (fun hc22 => ?_) (fun hc22 => ?_)
        · exact K _
        · refine fx_aload_n dX1_takeNumber_25 rfl rfl ?_
          refine fx_get dX1_takeNumber_26 kX1_38 rfl rfl ?_
          rw [r5]
          refine fx_iload_n dX1_takeNumber_29 rfl rfl ?_
          refine fx_icmp_le (tgt := 43) dX1_takeNumber_30 (by decide) rC_l (fun hc30 => ?_) (fun hc30 => ?_)
          · rw [decide_eq_true (Nat.le_of_not_lt (fun q => hc22 (nI_lt q (by omega)))), decide_eq_true ((nI_leI (by omega) (by omega)).mp hc30)] at h
            exact absurd h (by decide)
          · exact K _
    · exact absurd (by decide) hc4
  · refine fx_aload_n dX1_takeNumber_0 rfl rfl ?_
    refine fx_get dX1_takeNumber_1 kX1_19 rfl rfl ?_
    rw [r6]
    refine fx_if_lt (tgt := 9) dX1_takeNumber_4 (by decide) rC_l (fun hc4 => ?_) (fun hc4 => ?_)
    · refine fx_aload_n dX1_takeNumber_9 rfl rfl ?_
      refine fx_get dX1_takeNumber_10 kX1_32 rfl rfl ?_
      rw [r2]
      refine fx_iconst (v := nI 2) dX1_takeNumber_13 (by decide) ?_
      refine fx_icmp_ne (tgt := 33) dX1_takeNumber_14 (by decide) rC_l (fun hc14 => ?_) (fun hc14 => ?_)
      · exact K _
      · exact absurd ((nI_eq (by omega) (by omega)).mp hc14) hk
    · exact absurd (by decide) hc4
theorem eX1_takePerhaps_w {a b c : Int32} {i : Nat} {lo hi x : Int32} (hf : ¬ f < 0) : Mx mX1_takePerhaps [.ref 25, .ref (1000 + i), .int lo, .int hi, .int x] (rC (qC F a b c d f) N G) (some (.int x)) (rC (qC F a b c d f) N G) := by
  refine mx_of (L := [some (.ref 25), some (.ref (1000 + i)), some (.int lo), some (.int hi), some (.int x)]) (by decide) (fun _ => rfl) (fun _ => Nat.le_of_ble_eq_true rfl) ?_
  refine fx_aload_n dX1_takePerhaps_0 rfl rfl ?_
  refine fx_get dX1_takePerhaps_1 kX1_19 rfl rfl ?_
  rw [r6]
  refine fx_if_ge (tgt := 15) dX1_takePerhaps_4 (by decide) rC_l (fun hc4 => ?_) (fun hc4 => ?_)
  · refine fx_iload dX1_takePerhaps_15 rfl ?_
    exact fx_ireq dX1_takePerhaps_17 rfl rfl rfl rfl
  · exact absurd (Int32.not_lt.mp hf) hc4
theorem eX1_takePerhaps_n {i : Nat} {lo hi x : Int32} (hb : ∀ i, i < z → G 26 i = B i) (hB : jBy B z) (hs : s ≤ z) (h14 : i < 14) (h : iw B z s i = false) : Mx mX1_takePerhaps [.ref 25, .ref (1000 + i), .int lo, .int hi, .int x] (sC F N G B z s d (-1)) (some (.int x)) (sC F N G B z s d (-1)) := by
  refine mx_of (L := [some (.ref 25), some (.ref (1000 + i)), some (.int lo), some (.int hi), some (.int x)]) (by decide) (fun _ => rfl) (fun _ => Nat.le_of_ble_eq_true rfl) ?_
  refine fx_aload_n dX1_takePerhaps_0 rfl rfl ?_
  refine fx_get dX1_takePerhaps_1 kX1_19 rfl rfl ?_
  rw [r6]
  refine fx_if_ge (tgt := 15) dX1_takePerhaps_4 (by decide) rC_l (fun hc4 => ?_) (fun hc4 => ?_)
  · exact absurd hc4 (by decide)
  · refine fx_aload_n dX1_takePerhaps_7 rfl rfl ?_
    refine fx_aload_n dX1_takePerhaps_8 rfl rfl ?_
    refine fx_callVv dX1_takePerhaps_9 vX1_isWord lX1_60 (by decide) rfl (Nat.le_of_ble_eq_true rfl) (eX1_isWord hb hB hs h14) rfl ?_
    rw [h]
    refine fx_if_ne (tgt := 18) dX1_takePerhaps_12 (by decide) rC_l (fun hc12 => ?_) (fun hc12 => ?_)
    · exact absurd rfl hc12
    · refine fx_iload dX1_takePerhaps_15 rfl ?_
      exact fx_ireq dX1_takePerhaps_17 rfl rfl rfl rfl
theorem eX1_takePerhaps_y {i : Nat} {lo hi x y : Int32} {h2 : zH} (hz : F 25 1 = nI z) (hb : ∀ i, i < z → G 26 i = B i) (hB : jBy B z) (hs : s ≤ z) (h14 : i < 14) (h : iw B z s i = true) (hT : Mx mX1_takeNumber [.ref 25, .int lo, .int hi] (sC F N G B z (nx B z s) (nv B z (nx B z s) d) (-1)) (some (.int y)) h2) (hl : ∀ F' N' G', (rC F' N' G').length = h2.length) : Mx mX1_takePerhaps [.ref 25, .ref (1000 + i), .int lo, .int hi, .int x] (sC F N G B z s d (-1)) (some (.int y)) h2 := by
  refine mx_of (L := [some (.ref 25), some (.ref (1000 + i)), some (.int lo), some (.int hi), some (.int x)]) (by decide) (fun _ => rfl) (fun _ => Nat.le_of_ble_eq_true rfl) ?_
  have eA := eX1_adv (N := N) (d := d) (f := (-1)) hz hb hB hs
  refine fx_aload_n dX1_takePerhaps_0 rfl rfl ?_
  refine fx_get dX1_takePerhaps_1 kX1_19 rfl rfl ?_
  rw [r6]
  refine fx_if_ge (tgt := 15) dX1_takePerhaps_4 (by decide) (hl _ _ _) (fun hc4 => ?_) (fun hc4 => ?_)
  · exact absurd hc4 (by decide)
  · refine fx_aload_n dX1_takePerhaps_7 rfl rfl ?_
    refine fx_aload_n dX1_takePerhaps_8 rfl rfl ?_
    refine fx_callVv dX1_takePerhaps_9 vX1_isWord lX1_60 (by decide) rfl (Nat.le_of_ble_eq_true rfl) (eX1_isWord hb hB hs h14) rfl ?_
    rw [h]
    refine fx_if_ne (tgt := 18) dX1_takePerhaps_12 (by decide) (hl _ _ _) (fun hc12 => ?_) (fun hc12 => ?_)
    · refine fx_aload_n dX1_takePerhaps_18 rfl rfl ?_
      refine fx_callVn dX1_takePerhaps_19 vX1_advance lX1_25 (by decide) rfl (Nat.le_of_ble_eq_true rfl) eA rfl ?_
      refine fx_aload_n dX1_takePerhaps_22 rfl rfl ?_
      refine fx_iload_n dX1_takePerhaps_23 rfl rfl ?_
      refine fx_iload_n dX1_takePerhaps_24 rfl rfl ?_
      refine fx_callVv dX1_takePerhaps_25 vX1_takeNumber lX1_123 (by decide) rfl (Nat.le_of_ble_eq_true rfl) hT rfl ?_
      exact fx_ireq dX1_takePerhaps_28 rfl rfl rfl rfl
    · exact absurd hc12 (by decide)
end
/-! both sides: a number, a number behind a word -/
section
variable {F4 : Nat → Int32} {G4 : Nat → Nat → Int32} {F : Nat → Nat → Int32} {N : Nat → Nat → Int64} {G : Nat → Nat → Int32} {B : Nat → Int32} {z s : Nat} {d : Int32} {m n : Int32}
theorem jNum {w : Bool} {lo hi : Nat} (hz4 : F4 10 = nI z) (hG4 : G4 8 = B) (hz : F 25 1 = nI z) (hb : ∀ i, i < z → G 26 i = B i) (hB : jBy B z) (hs : s ≤ z) (hd : kd B z s = 2 → d = nI (vc B z s 0)) (hlo : lo ≤ hi) (hh : hi < 1000) :
    ∃ (w' : Bool) (s' : Nat) (x y d' : Int32), s ≤ s' ∧ s' ≤ z ∧ (kd B z s' = 2 → d' = nI (vc B z s' 0)) ∧ (w = true → w' = true) ∧ (w' = false → x = y ∧ ∃ v, lo ≤ v ∧ v ≤ hi ∧ x = nI v) ∧
      Mx mX4_number [.ref 0, .int (nI lo), .int (nI hi)] (sN F4 G4 B z s w m n) (some (.int x)) (sN F4 G4 B z s' w' m n) ∧ Mx mX1_takeNumber [.ref 25, .int (nI lo), .int (nI hi)] (sC F N G B z s d (ft w s)) (some (.int y)) (sC F N G B z s' d' (ft w' s')) := by
  have hz1 := hB.1
  cases w
  · cases ho : okn B z s (nI lo) (nI hi)
    · exact ⟨true, s, _, _, d, Nat.le_refl _, hs, hd, fun q => absurd q (by decide), fun q => absurd q (by decide), eX4_number_n ho, eX1_takeNumber_n hs hd hlo hh ho⟩
    · have hk : kd B z s = 2 := by
        have h := ho
        unfold okn at h
        rw [Bool.and_eq_true, decide_eq_true_eq] at h
        exact h.1
      obtain ⟨o1, o2, o3⟩ := okn_c hs hk hlo hh
      have hv := ho
      rw [o1, Bool.and_eq_true, decide_eq_true_eq, decide_eq_true_eq] at hv
      obtain ⟨n1, n2, -⟩ := nx_b hB hs
      exact ⟨false, nx B z s, _, _, nv B z (nx B z s) d, n1, n2, nv_h, fun q => absurd q (by decide), fun _ => ⟨rfl, va B z s, by rw [o2 hv.2]; exact hv.1, by rw [o2 hv.2]; exact hv.2, rfl⟩, eX4_number_y hz4 hG4 hB hs ho, eX1_takeNumber_y hz hb hB hs hd hlo hh ho⟩
  · exact ⟨true, s, _, _, d, Nat.le_refl _, hs, hd, fun _ => rfl, fun q => absurd q (by decide), eX4_number_w, eX1_takeNumber_w (nI_pos (by omega))⟩
theorem jPer {w : Bool} {i lo hi : Nat} {x0 : Int32} (hi14 : i < 14) (hz4 : F4 10 = nI z) (hG4 : G4 8 = B) (hz : F 25 1 = nI z) (hb : ∀ i, i < z → G 26 i = B i) (hB : jBy B z) (hs : s ≤ z) (hd : kd B z s = 2 → d = nI (vc B z s 0)) (hlo : lo ≤ hi) (hh : hi < 1000) :
    ∃ (c : Bool) (w1 w' : Bool) (s1 s' : Nat) (x y d' : Int32), s ≤ s' ∧ s' ≤ z ∧ (kd B z s' = 2 → d' = nI (vc B z s' 0)) ∧ (w = true → w' = true) ∧ (w' = false → x = y ∧ (x = x0 ∨ ∃ v, lo ≤ v ∧ v ≤ hi ∧ x = nI v)) ∧
      (c = false → Mx mX4_isNext [.ref 0, .ref (1000 + i)] (sN F4 G4 B z s w m n) (some (.int (nI 0))) (sN F4 G4 B z s' w' m n) ∧ x = x0) ∧
      (c = true → Mx mX4_isNext [.ref 0, .ref (1000 + i)] (sN F4 G4 B z s w m n) (some (.int (nI 1))) (sN F4 G4 B z s1 w1 m n) ∧ Mx mX4_number [.ref 0, .int (nI lo), .int (nI hi)] (sN F4 G4 B z s1 w1 m n) (some (.int x)) (sN F4 G4 B z s' w' m n)) ∧
      Mx mX1_takePerhaps [.ref 25, .ref (1000 + i), .int (nI lo), .int (nI hi), .int x0] (sC F N G B z s d (ft w s)) (some (.int y)) (sC F N G B z s' d' (ft w' s')) := by
  have hz1 := hB.1
  cases w
  · cases hw : iw B z s i
    · exact ⟨false, false, false, s, s, x0, x0, d, Nat.le_refl _, hs, hd, fun q => absurd q (by decide), fun _ => ⟨rfl, Or.inl rfl⟩, fun _ => ⟨eX4_isNext_n hG4 hB hs hi14 hw, rfl⟩, fun q => absurd q (by decide), eX1_takePerhaps_n hb hB hs hi14 hw⟩
    · obtain ⟨n1, n2, -⟩ := nx_b hB hs
      obtain ⟨w', s', x, y, d', j1, j2, j3, j4, j5, j6, j7⟩ := jNum (F4 := F4) (G4 := G4) (F := F) (N := N) (G := G) (d := nv B z (nx B z s) d) (w := false) (m := m) (n := n) hz4 hG4 hz hb hB n2 nv_h hlo hh
      exact ⟨true, false, w', nx B z s, s', x, y, d', by omega, j2, j3, fun q => absurd q (by decide), fun q => ⟨(j5 q).1, Or.inr (j5 q).2⟩, fun q => absurd q (by decide), fun _ => ⟨eX4_isNext_y hz4 hG4 hB hs hi14 hw, j6⟩, eX1_takePerhaps_y hz hb hB hs hi14 hw j7 (fun _ _ _ => rC_l)⟩
  · exact ⟨false, true, true, s, s, x0, x0, d, Nat.le_refl _, hs, hd, fun _ => rfl, fun q => absurd q (by decide), fun _ => ⟨eX4_isNext_w, rfl⟩, fun q => absurd q (by decide), eX1_takePerhaps_w (nI_pos (by omega))⟩
end
