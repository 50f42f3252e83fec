/-! ===== the reference: words, numbers, items ===== -/
set_option maxRecDepth 100000
/-- the reference at the token that begins at s, the bytes said apart -/
abbrev sN (F : Nat → Int32) (G : Nat → Nat → Int32) (B : Nat → Int32) (z s : Nat) (w : Bool) (m n : Int32) : zH := rM (qM F (nI s) (nI (en B z s)) (nI (min 3 (kd B z s))) (nI (va B z s)) (jB w) m n) G
theorem rM_l {F F' : Nat → Int32} {G G' : Nat → Nat → Int32} : (rM F G).length = (rM F' G').length := rfl
def it4 (I : Nat → Int32) (k : Nat) (x1 x2 x3 x4 : Int32) : Nat → Int32 := upd (upd (upd (upd I (4 * k) x1) (4 * k + 1) x2) (4 * k + 2) x3) (4 * k + 3) x4
def okn (B : Nat → Int32) (z s : Nat) (lo hi : Int32) : Bool := decide (kd B z s = 2) && jwi (nI (va B z s)) lo hi
def kf (B : Nat → Int32) (z s : Nat) : Nat → Int32
  | 0 => (-1)
  | k + 1 => if iw B z s k = true then nI k else kf B z s k
theorem rM_ne {k : Nat} (h : k < 7) : rM_n (nI k).toNatClampNeg = some (1000 + k) := by rw [nI_clamp (by omega)]; exact if_pos h
section
variable {F : Nat → Int32} {G : Nat → Nat → Int32} {B : Nat → Int32} {z s : Nat} {m n : Int32}
theorem eX4_must_w {i : Bool} {a b c d : Int32} : Mx mX4_must [.ref 0, .int (jB i)] (rM (qM F a b c d (jB true) m n) G) none (rM (qM F a b c d (jB true) m n) G) := by
  refine mx_of (L := [some (.ref 0), some (.int (jB i))]) (by decide) (fun _ => rfl) (fun _ => Nat.le_of_ble_eq_true rfl) ?_
  refine fx_aload_n dX4_must_0 rfl rfl ?_
  refine fx_aload_n dX4_must_1 rfl rfl ?_
  refine fx_get dX4_must_2 kX4_284 rfl rfl ?_
  rw [q15]
  refine fx_if_ne (tgt := 12) dX4_must_5 (by decide) rM_l (fun hc5 => ?_) (fun hc5 => ?_)
  · refine fx_iconst (v := nI 1) dX4_must_12 (by decide) ?_
    refine fx_goto (tgt := 17) dX4_must_13 (by decide) ?_
    refine fx_put dX4_must_17 kX4_284 rfl (Nat.le_of_ble_eq_true rfl) (fun _ => rfl) rfl rfl (u4_15 ..) ?_
    rw [qM_15]
    refine fx_aload_n dX4_must_20 rfl rfl ?_
    refine fx_get dX4_must_21 kX4_284 rfl rfl ?_
    rw [q15]
    refine fx_if_ne (tgt := 31) dX4_must_24 (by decide) rM_l (fun hc24 => ?_) (fun hc24 => ?_)
    · exact fx_vreq dX4_must_31 rfl rfl
    · exact absurd hc24 (by decide)
  · exact absurd hc5 (by decide)
theorem eX4_must_f {a b c d : Int32} : Mx mX4_must [.ref 0, .int (jB false)] (rM (qM F a b c d (jB false) m n) G) none (rM (qM F a b c d (jB true) m n) G) := by
  refine mx_of (L := [some (.ref 0), some (.int (jB false))]) (by decide) (fun _ => rfl) (fun _ => Nat.le_of_ble_eq_true rfl) ?_
  refine fx_aload_n dX4_must_0 rfl rfl ?_
  refine fx_aload_n dX4_must_1 rfl rfl ?_
  refine fx_get dX4_must_2 kX4_284 rfl rfl ?_
  rw [q15]
  refine fx_if_ne (tgt := 12) dX4_must_5 (by decide) rM_l (fun hc5 => ?_) (fun hc5 => ?_)
  · exact absurd rfl hc5
  · refine fx_iload_n dX4_must_8 rfl rfl ?_
    refine fx_if_ne (tgt := 16) dX4_must_9 (by decide) rM_l (fun hc9 => ?_) (fun hc9 => ?_)
    · exact absurd rfl hc9
    · refine fx_iconst (v := nI 1) dX4_must_12 (by decide) ?_
      refine fx_goto (tgt := 17) dX4_must_13 (by decide) ?_
      refine fx_put dX4_must_17 kX4_284 rfl (Nat.le_of_ble_eq_true rfl) (fun _ => rfl) rfl rfl (u4_15 ..) ?_
      rw [qM_15]
      refine fx_aload_n dX4_must_20 rfl rfl ?_
      refine fx_get dX4_must_21 kX4_284 rfl rfl ?_
      rw [q15]
      refine fx_if_ne (tgt := 31) dX4_must_24 (by decide) rM_l (fun hc24 => ?_) (fun hc24 => ?_)
      · exact fx_vreq dX4_must_31 rfl rfl
      · exact absurd hc24 (by decide)
theorem eX4_must_t (hz : F 10 = nI z) (hG : G 8 = B) (hB : jBy B z) (hs : s ≤ z) : Mx mX4_must [.ref 0, .int (jB true)] (sN F G B z s false m n) none (sN F G B z (nx B z s) false m n) := by
  subst hG
  refine mx_of (L := [some (.ref 0), some (.int (jB true))]) (by decide) (fun _ => rfl) (fun _ => Nat.le_of_ble_eq_true rfl) ?_
  have eN := eX4_next (F := F) (G := G) (m := m) (n := n) (a := nI s) (c := nI (min 3 (kd (G 8) z s))) (d := nI (va (G 8) z s)) (w := jB false) hz hB (en_b hB hs).2.1
  refine fx_aload_n dX4_must_0 rfl rfl ?_
  refine fx_aload_n dX4_must_1 rfl rfl ?_
  refine fx_get dX4_must_2 kX4_284 rfl rfl ?_
  rw [q15]
  refine fx_if_ne (tgt := 12) dX4_must_5 (by decide) rM_l (fun hc5 => ?_) (fun hc5 => ?_)
  · exact absurd rfl hc5
  · refine fx_iload_n dX4_must_8 rfl rfl ?_
    refine fx_if_ne (tgt := 16) dX4_must_9 (by decide) rM_l (fun hc9 => ?_) (fun hc9 => ?_)
    · refine fx_iconst (v := nI 0) dX4_must_16 (by decide) ?_
      refine fx_put dX4_must_17 kX4_284 rfl (Nat.le_of_ble_eq_true rfl) (fun _ => rfl) rfl rfl (u4_15 ..) ?_
      rw [qM_15]
      refine fx_aload_n dX4_must_20 rfl rfl ?_
      refine fx_get dX4_must_21 kX4_284 rfl rfl ?_
      rw [q15]
      refine fx_if_ne (tgt := 31) dX4_must_24 (by decide) rM_l (fun hc24 => ?_) (fun hc24 => ?_)
      · exact absurd rfl hc24
      · refine fx_aload_n dX4_must_27 rfl rfl ?_
        refine fx_callVn dX4_must_28 vX4_next lX4_287 (by decide) rfl (Nat.le_of_ble_eq_true rfl) eN rfl ?_
        exact fx_vreq dX4_must_31 rfl rfl
    · exact absurd hc9 (by decide)
theorem eX4_isWord {i : Nat} {w : Int32} (hG : G 8 = B) (hB : jBy B z) (hs : s ≤ z) (hi : i < 14) : Mx mX4_isWord [.ref 0, .ref (1000 + i)] (rM (qM F (nI s) (nI (en B z s)) (nI (min 3 (kd B z s))) (nI (va B z s)) w m n) G) (some (.int (jB (iw B z s i)))) (rM (qM F (nI s) (nI (en B z s)) (nI (min 3 (kd B z s))) (nI (va B z s)) w m n) G) := by
  subst hG
  refine mx_of (L := [some (.ref 0), some (.ref (1000 + i)), none, none]) (by decide) (fun _ => rfl) (fun _ => Nat.le_of_ble_eq_true rfl) ?_
  have hz1 := hB.1
  obtain ⟨en1, en2, -⟩ := en_b hB hs
  have hl7 := jlen_lt i hi
  have hl0 : 0 < jlen i := (show ∀ i, i < 14 → 0 < jlen i by decide +kernel) i hi
  by_cases hk : kd (G 8) z s = 1
  · by_cases hl : en (G 8) z s - s = jlen i
    · have e0 : iw (G 8) z s i = iwp (G 8) s i (jlen i) := by unfold iw; rw [decide_eq_true hk, decide_eq_true hl]; rfl
      rw [e0]
      have H : ∀ (d k : Nat), k + d = jlen i → iwp (G 8) s i k = true → Fx mX4_isWord (some (.int (jB (iwp (G 8) s i (jlen i)))), rM (qM F (nI s) (nI (en (G 8) z s)) (nI (min 3 (kd (G 8) z s))) (nI (va (G 8) z s)) w m n) G) 32 [some (.ref 0), some (.ref (1000 + i)), some (.int (nI 1)), some (.int (nI k))] [] (rM (qM F (nI s) (nI (en (G 8) z s)) (nI (min 3 (kd (G 8) z s))) (nI (va (G 8) z s)) w m n) G) := by
        intro d
        induction d with
        | zero =>
          intro k hkd hw
          have hk' : k = jlen i := by omega
          subst hk'
          rw [hw]
          refine fx_iload_n dX4_isWord_32 rfl rfl ?_
          refine fx_aload_n dX4_isWord_33 rfl rfl ?_
          refine fx_callTv (as := []) dX4_isWord_34 oJ0_length_8abf5 pJ0_length_8abf5 viJ0_length_8abf5 vsJ0_length_8abf5 rfl tX4_277 (by decide) hi (Nat.le_of_ble_eq_true rfl) (eJ0_length_8abf5 hi) rfl ?_
          refine fx_icmp_ge (tgt := 75) dX4_isWord_37 (by decide) rM_l (fun hc37 => ?_) (fun hc37 => ?_)
          · refine fx_iload_n dX4_isWord_75 rfl rfl ?_
            exact fx_ireq dX4_isWord_76 rfl rfl rfl rfl
          · exact absurd (Int32.le_refl _) hc37
        | succ d ih =>
          intro k hkd hw
          by_cases hb : (G 8) (s + k) = jbyt i k
          · have ih1 := ih (k + 1) (by omega) (by rw [iwp_1, hw, decide_eq_true hb]; rfl)
            refine fx_iload_n dX4_isWord_32 rfl rfl ?_
            refine fx_aload_n dX4_isWord_33 rfl rfl ?_
            refine fx_callTv (as := []) dX4_isWord_34 oJ0_length_8abf5 pJ0_length_8abf5 viJ0_length_8abf5 vsJ0_length_8abf5 rfl tX4_277 (by decide) hi (Nat.le_of_ble_eq_true rfl) (eJ0_length_8abf5 hi) rfl ?_
            refine fx_icmp_ge (tgt := 75) dX4_isWord_37 (by decide) rM_l (fun hc37 => ?_) (fun hc37 => ?_)
            · exact absurd hc37 (nI_ge (by omega) (by omega))
            · refine fx_iload_n dX4_isWord_40 rfl rfl ?_
              refine fx_if_eq (tgt := 75) dX4_isWord_41 (by decide) rM_l (fun hc41 => ?_) (fun hc41 => ?_)
              · exact absurd hc41 (by decide)
              · refine fx_aload_n dX4_isWord_44 rfl rfl ?_
                refine fx_get dX4_isWord_45 kX4_31 rfl rfl ?_
                refine fx_aload_n dX4_isWord_48 rfl rfl ?_
                refine fx_get dX4_isWord_49 kX4_265 rfl rfl ?_
                rw [q11]
                refine fx_iload_n dX4_isWord_52 rfl rfl ?_
                refine fx_iadd dX4_isWord_53 ?_
                rw [nI_add]
                refine fx_iald dX4_isWord_54 rfl (vp_in_nI (by omega) (by decide)) ?_
                rw [nI_clamp (by omega)]
                refine fx_aload_n dX4_isWord_55 rfl rfl ?_
                refine fx_iload_n dX4_isWord_56 rfl rfl ?_
                refine fx_callTv (as := [_]) dX4_isWord_57 oJ0_charAt_5068e pJ0_charAt_5068e viJ0_charAt_5068e vsJ0_charAt_5068e rfl tX4_280 (by decide) hi (Nat.le_of_ble_eq_true rfl) (eJ0_charAt_5068e hi (by omega)) rfl ?_
                refine fx_icmp_ne (tgt := 67) dX4_isWord_60 (by decide) rM_l (fun hc60 => ?_) (fun hc60 => ?_)
                · exact absurd hb hc60
                · refine fx_iconst (v := nI 1) dX4_isWord_63 (by decide) ?_
                  refine fx_goto (tgt := 68) dX4_isWord_64 (by decide) ?_
                  refine fs_istore_n_2 dX4_isWord_68 rfl (by decide) ?_
                  refine fs_iinc_3 (w := nI 1) dX4_isWord_69 (by decide) rfl (by decide) ?_
                  refine fx_goto (tgt := 32) dX4_isWord_72 (by decide) ?_
                  rw [nI_add]
                  exact ih1
          · have ef := iwp_f (show iwp (G 8) s i (k + 1) = false by rw [iwp_1, decide_eq_false hb, Bool.and_false]) d
            rw [show k + 1 + d = jlen i by omega] at ef
            rw [ef]
            refine fx_iload_n dX4_isWord_32 rfl rfl ?_
            refine fx_aload_n dX4_isWord_33 rfl rfl ?_
            refine fx_callTv (as := []) dX4_isWord_34 oJ0_length_8abf5 pJ0_length_8abf5 viJ0_length_8abf5 vsJ0_length_8abf5 rfl tX4_277 (by decide) hi (Nat.le_of_ble_eq_true rfl) (eJ0_length_8abf5 hi) rfl ?_
            refine fx_icmp_ge (tgt := 75) dX4_isWord_37 (by decide) rM_l (fun hc37 => ?_) (fun hc37 => ?_)
            · exact absurd hc37 (nI_ge (by omega) (by omega))
            · refine fx_iload_n dX4_isWord_40 rfl rfl ?_
              refine fx_if_eq (tgt := 75) dX4_isWord_41 (by decide) rM_l (fun hc41 => ?_) (fun hc41 => ?_)
              · exact absurd hc41 (by decide)
              · refine fx_aload_n dX4_isWord_44 rfl rfl ?_
                refine fx_get dX4_isWord_45 kX4_31 rfl rfl ?_
                refine fx_aload_n dX4_isWord_48 rfl rfl ?_
                refine fx_get dX4_isWord_49 kX4_265 rfl rfl ?_
                rw [q11]
                refine fx_iload_n dX4_isWord_52 rfl rfl ?_
                refine fx_iadd dX4_isWord_53 ?_
                rw [nI_add]
                refine fx_iald dX4_isWord_54 rfl (vp_in_nI (by omega) (by decide)) ?_
                rw [nI_clamp (by omega)]
                refine fx_aload_n dX4_isWord_55 rfl rfl ?_
                refine fx_iload_n dX4_isWord_56 rfl rfl ?_
                refine fx_callTv (as := [_]) dX4_isWord_57 oJ0_charAt_5068e pJ0_charAt_5068e viJ0_charAt_5068e vsJ0_charAt_5068e rfl tX4_280 (by decide) hi (Nat.le_of_ble_eq_true rfl) (eJ0_charAt_5068e hi (by omega)) rfl ?_
                refine fx_icmp_ne (tgt := 67) dX4_isWord_60 (by decide) rM_l (fun hc60 => ?_) (fun hc60 => ?_)
                · refine fx_iconst (v := nI 0) dX4_isWord_67 (by decide) ?_
                  refine fs_istore_n_2 dX4_isWord_68 rfl (by decide) ?_
                  refine fs_iinc_3 (w := nI 1) dX4_isWord_69 (by decide) rfl (by decide) ?_
                  refine fx_goto (tgt := 32) dX4_isWord_72 (by decide) ?_
                  refine fx_iload_n dX4_isWord_32 rfl rfl ?_
                  refine fx_aload_n dX4_isWord_33 rfl rfl ?_
                  refine fx_callTv (as := []) dX4_isWord_34 oJ0_length_8abf5 pJ0_length_8abf5 viJ0_length_8abf5 vsJ0_length_8abf5 rfl tX4_277 (by decide) hi (Nat.le_of_ble_eq_true rfl) (eJ0_length_8abf5 hi) rfl ?_
                  refine fx_icmp_ge (tgt := 75) dX4_isWord_37 (by decide) rfl (fun _ => ?_) (fun _ => ?_)
                  · refine fx_iload_n dX4_isWord_75 rfl rfl ?_
                    exact fx_ireq dX4_isWord_76 rfl rfl rfl rfl
                  · refine fx_iload_n dX4_isWord_40 rfl rfl ?_
                    refine fx_if_eq (tgt := 75) dX4_isWord_41 (by decide) rfl (fun _ => ?_) (fun q => absurd rfl q)
                    refine fx_iload_n dX4_isWord_75 rfl rfl ?_
                    exact fx_ireq dX4_isWord_76 rfl rfl rfl rfl
                · exact absurd hc60 hb
      refine fx_aload_n dX4_isWord_0 rfl rfl ?_
      refine fx_get dX4_isWord_1 kX4_274 rfl rfl ?_
      rw [q13, hk]
      refine fx_iconst (v := nI 1) dX4_isWord_4 (by decide) ?_
      refine fx_icmp_ne (tgt := 28) dX4_isWord_5 (by decide) rM_l (fun hc5 => ?_) (fun hc5 => ?_)
      · exact absurd (by decide) hc5
      · refine fx_aload_n dX4_isWord_8 rfl rfl ?_
        refine fx_get dX4_isWord_9 kX4_262 rfl rfl ?_
        rw [q12]
        refine fx_aload_n dX4_isWord_12 rfl rfl ?_
        refine fx_get dX4_isWord_13 kX4_265 rfl rfl ?_
        rw [q11]
        refine fx_isub dX4_isWord_16 ?_
        rw [pk_sub en1, hl]
        refine fx_aload_n dX4_isWord_17 rfl rfl ?_
        refine fx_callTv (as := []) dX4_isWord_18 oJ0_length_8abf5 pJ0_length_8abf5 viJ0_length_8abf5 vsJ0_length_8abf5 rfl tX4_277 (by decide) hi (Nat.le_of_ble_eq_true rfl) (eJ0_length_8abf5 hi) rfl ?_
        refine fx_icmp_ne (tgt := 28) dX4_isWord_21 (by decide) rM_l (fun hc21 => ?_) (fun hc21 => ?_)
        · exact absurd rfl hc21
        · refine fx_iconst (v := nI 1) dX4_isWord_24 (by decide) ?_
          refine fx_goto (tgt := 29) dX4_isWord_25 (by decide) ?_
          refine fs_istore_n_2 dX4_isWord_29 rfl (by decide) ?_
          refine fx_iconst (v := nI 0) dX4_isWord_30 (by decide) ?_
          refine fs_istore_n_3 dX4_isWord_31 rfl (by decide) ?_
          have H0 := H (jlen i) 0 (by omega) rfl
          rw [hk] at H0
          exact H0
    · have e0 : iw (G 8) z s i = false := by unfold iw; rw [decide_eq_false hl, Bool.false_and, Bool.and_false]
      rw [e0]
      refine fx_aload_n dX4_isWord_0 rfl rfl ?_
      refine fx_get dX4_isWord_1 kX4_274 rfl rfl ?_
      rw [q13, hk]
      refine fx_iconst (v := nI 1) dX4_isWord_4 (by decide) ?_
      refine fx_icmp_ne (tgt := 28) dX4_isWord_5 (by decide) rM_l (fun hc5 => ?_) (fun hc5 => ?_)
      · exact absurd (by decide) hc5
      · refine fx_aload_n dX4_isWord_8 rfl rfl ?_
        refine fx_get dX4_isWord_9 kX4_262 rfl rfl ?_
        rw [q12]
        refine fx_aload_n dX4_isWord_12 rfl rfl ?_
        refine fx_get dX4_isWord_13 kX4_265 rfl rfl ?_
        rw [q11]
        refine fx_isub dX4_isWord_16 ?_
        rw [pk_sub en1]
        refine fx_aload_n dX4_isWord_17 rfl rfl ?_
        refine fx_callTv (as := []) dX4_isWord_18 oJ0_length_8abf5 pJ0_length_8abf5 viJ0_length_8abf5 vsJ0_length_8abf5 rfl tX4_277 (by decide) hi (Nat.le_of_ble_eq_true rfl) (eJ0_length_8abf5 hi) rfl ?_
        refine fx_icmp_ne (tgt := 28) dX4_isWord_21 (by decide) rM_l (fun hc21 => ?_) (fun hc21 => ?_)
        · refine fx_iconst (v := nI 0) dX4_isWord_28 (by decide) ?_
          refine fs_istore_n_2 dX4_isWord_29 rfl (by decide) ?_
          refine fx_iconst (v := nI 0) dX4_isWord_30 (by decide) ?_
          refine fs_istore_n_3 dX4_isWord_31 rfl (by decide) ?_
          refine fx_iload_n dX4_isWord_32 rfl rfl ?_
          refine fx_aload_n dX4_isWord_33 rfl rfl ?_
          refine fx_callTv (as := []) dX4_isWord_34 oJ0_length_8abf5 pJ0_length_8abf5 viJ0_length_8abf5 vsJ0_length_8abf5 rfl tX4_277 (by decide) hi (Nat.le_of_ble_eq_true rfl) (eJ0_length_8abf5 hi) rfl ?_
          refine fx_icmp_ge (tgt := 75) dX4_isWord_37 (by decide) rM_l (fun hc37 => ?_) (fun hc37 => ?_)
          · exact absurd hc37 (nI_ge hl0 (by omega))
          · refine fx_iload_n dX4_isWord_40 rfl rfl ?_
            refine fx_if_eq (tgt := 75) dX4_isWord_41 (by decide) rM_l (fun hc41 => ?_) (fun hc41 => ?_)
            · refine fx_iload_n dX4_isWord_75 rfl rfl ?_
              exact fx_ireq dX4_isWord_76 rfl rfl rfl rfl
            · exact absurd rfl hc41
        · exact absurd ((nI_eq (by omega) (by omega)).mp hc21) hl
  · have e0 : iw (G 8) z s i = false := by unfold iw; rw [decide_eq_false hk, Bool.false_and]
    rw [e0]
    have hk4 := kd_le (B := G 8) (z := z) (s := s)
    refine fx_aload_n dX4_isWord_0 rfl rfl ?_
    refine fx_get dX4_isWord_1 kX4_274 rfl rfl ?_
    rw [q13]
    refine fx_iconst (v := nI 1) dX4_isWord_4 (by decide) ?_
    refine fx_icmp_ne (tgt := 28) dX4_isWord_5 (by decide) rM_l (fun hc5 => ?_) (fun hc5 => ?_)
    · refine fx_iconst (v := nI 0) dX4_isWord_28 (by decide) ?_
      refine fs_istore_n_2 dX4_isWord_29 rfl (by decide) ?_
      refine fx_iconst (v := nI 0) dX4_isWord_30 (by decide) ?_
      refine fs_istore_n_3 dX4_isWord_31 rfl (by decide) ?_
      refine fx_iload_n dX4_isWord_32 rfl rfl ?_
      refine fx_aload_n dX4_isWord_33 rfl rfl ?_
      refine fx_callTv (as := []) dX4_isWord_34 oJ0_length_8abf5 pJ0_length_8abf5 viJ0_length_8abf5 vsJ0_length_8abf5 rfl tX4_277 (by decide) hi (Nat.le_of_ble_eq_true rfl) (eJ0_length_8abf5 hi) rfl ?_
      refine fx_icmp_ge (tgt := 75) dX4_isWord_37 (by decide) rM_l (fun hc37 => ?_) (fun hc37 => ?_)
      · exact absurd hc37 (nI_ge hl0 (by omega))
      · refine fx_iload_n dX4_isWord_40 rfl rfl ?_
        refine fx_if_eq (tgt := 75) dX4_isWord_41 (by decide) rM_l (fun hc41 => ?_) (fun hc41 => ?_)
        · refine fx_iload_n dX4_isWord_75 rfl rfl ?_
          exact fx_ireq dX4_isWord_76 rfl rfl rfl rfl
        · exact absurd rfl hc41
    · exact absurd ((nI_eq (by omega) (by omega)).mp hc5) (by omega)
theorem eX4_number_w {a b c : Int32} {v : Nat} {lo hi : Int32} : Mx mX4_number [.ref 0, .int lo, .int hi] (rM (qM F a b c (nI v) (jB true) m n) G) (some (.int (nI v))) (rM (qM F a b c (nI v) (jB true) m n) G) := by
  refine mx_of (L := [some (.ref 0), some (.int lo), some (.int hi), none]) (by decide) (fun _ => rfl) (fun _ => Nat.le_of_ble_eq_true rfl) ?_
  have e1 : Mx mX4_must [.ref 0, .int (nI 1)] (rM (qM F a b c (nI v) (jB true) m n) G) none (rM (qM F a b c (nI v) (jB true) m n) G) := eX4_must_w (i := true)
  have e2 : Mx mX4_must [.ref 0, .int (nI 0)] (rM (qM F a b c (nI v) (jB true) m n) G) none (rM (qM F a b c (nI v) (jB true) m n) G) := eX4_must_w (i := false)
  have K : ∀ x : Int32, (x = nI 1 ∨ x = nI 0) → Fx mX4_number (some (.int (nI v)), rM (qM F a b c (nI v) (jB true) m n) G) 28 [some (.ref 0), some (.int lo), some (.int hi), some (.int (nI v))] [.int x, .ref 0] (rM (qM F a b c (nI v) (jB true) m n) G) := by
    intro x hx
    rcases hx with rfl | rfl
    · refine fx_callVn dX4_number_28 vX4_must lX4_290 (by decide) rfl (Nat.le_of_ble_eq_true rfl) e1 rfl ?_
      refine fx_iload_n dX4_number_31 rfl rfl ?_
      exact fx_ireq dX4_number_32 rfl rfl rfl rfl
    · refine fx_callVn dX4_number_28 vX4_must lX4_290 (by decide) rfl (Nat.le_of_ble_eq_true rfl) e2 rfl ?_
      refine fx_iload_n dX4_number_31 rfl rfl ?_
      exact fx_ireq dX4_number_32 rfl rfl rfl rfl
  refine fx_aload_n dX4_number_0 rfl rfl ?_
  refine fx_get dX4_number_1 kX4_271 rfl rfl ?_
  rw [q14]
  refine fs_istore_n_3 dX4_number_4 rfl (by decide) ?_
  refine fx_aload_n dX4_number_5 rfl rfl ?_
  refine fx_aload_n dX4_number_6 rfl rfl ?_
  refine fx_get dX4_number_7 kX4_274 rfl rfl ?_
  rw [q13]
  refine fx_iconst (v := nI 2) dX4_number_10 (by decide) ?_
  refine fx_icmp_ne (tgt := 27) dX4_number_11 (by decide) rM_l (fun hc11 => ?_) (fun hc11 => ?_)
  · refine fx_iconst (v := nI 0) dX4_number_27 (by decide) ?_
    first | exact K _ (Or.inl rfl) | exact K _ (Or.inr rfl)
  · refine fx_iload_n dX4_number_14 rfl rfl ?_
    refine fx_iload_n dX4_number_15 rfl rfl ?_
    refine fx_iload_n dX4_number_16 rfl rfl ?_
    refine fx_callSv dX4_number_17 sX4_within lX4_74 (by decide) (Nat.le_of_ble_eq_true rfl) eX4_within rfl ?_
    refine fx_if_eq (tgt := 27) dX4_number_20 (by decide) rM_l (fun hc20 => ?_) (fun hc20 => ?_)
    · refine fx_iconst (v := nI 0) dX4_number_27 (by decide) ?_
      first | exact K _ (Or.inl rfl) | exact K _ (Or.inr rfl)
    · refine fx_iconst (v := nI 1) dX4_number_23 (by decide) ?_
      refine fx_goto (tgt := 28) dX4_number_24 (by decide) ?_
      first | exact K _ (Or.inl rfl) | exact K _ (Or.inr rfl)
theorem eX4_number_y {lo hi : Int32} (hz : F 10 = nI z) (hG : G 8 = B) (hB : jBy B z) (hs : s ≤ z) (h : okn B z s lo hi = true) : Mx mX4_number [.ref 0, .int lo, .int hi] (sN F G B z s false m n) (some (.int (nI (va B z s)))) (sN F G B z (nx B z s) false m n) := by
  refine mx_of (L := [some (.ref 0), some (.int lo), some (.int hi), none]) (by decide) (fun _ => rfl) (fun _ => Nat.le_of_ble_eq_true rfl) ?_
  unfold okn at h
  rw [Bool.and_eq_true, decide_eq_true_eq] at h
  have e1 : Mx mX4_must [.ref 0, .int (nI 1)] (sN F G B z s false m n) none (sN F G B z (nx B z s) false m n) := eX4_must_t hz hG hB hs
  refine fx_aload_n dX4_number_0 rfl rfl ?_
  refine fx_get dX4_number_1 kX4_271 rfl rfl ?_
  rw [q14]
  refine fs_istore_n_3 dX4_number_4 rfl (by decide) ?_
  refine fx_aload_n dX4_number_5 rfl rfl ?_
  refine fx_aload_n dX4_number_6 rfl rfl ?_
  refine fx_get dX4_number_7 kX4_274 rfl rfl ?_
  rw [q13]
  refine fx_iconst (v := nI 2) dX4_number_10 (by decide) ?_
  refine fx_icmp_ne (tgt := 27) dX4_number_11 (by decide) rM_l (fun hc11 => ?_) (fun hc11 => ?_)
  · exact absurd (by rw [h.1]; decide) hc11
  · refine fx_iload_n dX4_number_14 rfl rfl ?_
    refine fx_iload_n dX4_number_15 rfl rfl ?_
    refine fx_iload_n dX4_number_16 rfl rfl ?_
    refine fx_callSv dX4_number_17 sX4_within lX4_74 (by decide) (Nat.le_of_ble_eq_true rfl) eX4_within rfl ?_
    rw [h.2]
    refine fx_if_eq (tgt := 27) dX4_number_20 (by decide) rM_l (fun hc20 => ?_) (fun hc20 => ?_)
    · exact absurd hc20 (by decide)
    · refine fx_iconst (v := nI 1) dX4_number_23 (by decide) ?_
      refine fx_goto (tgt := 28) dX4_number_24 (by decide) ?_
      refine fx_callVn dX4_number_28 vX4_must lX4_290 (by decide) rfl (Nat.le_of_ble_eq_true rfl) e1 rfl ?_
      refine fx_iload_n dX4_number_31 rfl rfl ?_
      exact fx_ireq dX4_number_32 rfl rfl rfl rfl
theorem eX4_number_n {lo hi : Int32} (h : okn B z s lo hi = false) : Mx mX4_number [.ref 0, .int lo, .int hi] (sN F G B z s false m n) (some (.int (nI (va B z s)))) (sN F G B z s true m n) := by
  refine mx_of (L := [some (.ref 0), some (.int lo), some (.int hi), none]) (by decide) (fun _ => rfl) (fun _ => Nat.le_of_ble_eq_true rfl) ?_
  unfold okn at h
  have hk4 := kd_le (B := B) (z := z) (s := s)
  have e2 : Mx mX4_must [.ref 0, .int (nI 0)] (sN F G B z s false m n) none (sN F G B z s true m n) := eX4_must_f
  by_cases hk : kd B z s = 2
  · rw [decide_eq_true hk, Bool.true_and] at h
    refine fx_aload_n dX4_number_0 rfl rfl ?_
    refine fx_get dX4_number_1 kX4_271 rfl rfl ?_
    rw [q14]
    refine fs_istore_n_3 dX4_number_4 rfl (by decide) ?_
    refine fx_aload_n dX4_number_5 rfl rfl ?_
    refine fx_aload_n dX4_number_6 rfl rfl ?_
    refine fx_get dX4_number_7 kX4_274 rfl rfl ?_
    rw [q13]
    refine fx_iconst (v := nI 2) dX4_number_10 (by decide) ?_
    refine fx_icmp_ne (tgt := 27) dX4_number_11 (by decide) rM_l (fun hc11 => ?_) (fun hc11 => ?_)
    · refine fx_iconst (v := nI 0) dX4_number_27 (by decide) ?_
      refine fx_callVn dX4_number_28 vX4_must lX4_290 (by decide) rfl (Nat.le_of_ble_eq_true rfl) e2 rfl ?_
      refine fx_iload_n dX4_number_31 rfl rfl ?_
      exact fx_ireq dX4_number_32 rfl rfl rfl rfl
    · refine fx_iload_n dX4_number_14 rfl rfl ?_
      refine fx_iload_n dX4_number_15 rfl rfl ?_
      refine fx_iload_n dX4_number_16 rfl rfl ?_
      refine fx_callSv dX4_number_17 sX4_within lX4_74 (by decide) (Nat.le_of_ble_eq_true rfl) eX4_within rfl ?_
      rw [h]
      refine fx_if_eq (tgt := 27) dX4_number_20 (by decide) rM_l (fun hc20 => ?_) (fun hc20 => ?_)
      · refine fx_iconst (v := nI 0) dX4_number_27 (by decide) ?_
        refine fx_callVn dX4_number_28 vX4_must lX4_290 (by decide) rfl (Nat.le_of_ble_eq_true rfl) e2 rfl ?_
        refine fx_iload_n dX4_number_31 rfl rfl ?_
        exact fx_ireq dX4_number_32 rfl rfl rfl rfl
      · exact absurd rfl hc20
  · refine fx_aload_n dX4_number_0 rfl rfl ?_
    refine fx_get dX4_number_1 kX4_271 rfl rfl ?_
    rw [q14]
    refine fs_istore_n_3 dX4_number_4 rfl (by decide) ?_
    refine fx_aload_n dX4_number_5 rfl rfl ?_
    refine fx_aload_n dX4_number_6 rfl rfl ?_
    refine fx_get dX4_number_7 kX4_274 rfl rfl ?_
    rw [q13]
    refine fx_iconst (v := nI 2) dX4_number_10 (by decide) ?_
    refine fx_icmp_ne (tgt := 27) dX4_number_11 (by decide) rM_l (fun hc11 => ?_) (fun hc11 => ?_)
    · refine fx_iconst (v := nI 0) dX4_number_27 (by decide) ?_
      refine fx_callVn dX4_number_28 vX4_must lX4_290 (by decide) rfl (Nat.le_of_ble_eq_true rfl) e2 rfl ?_
      refine fx_iload_n dX4_number_31 rfl rfl ?_
      exact fx_ireq dX4_number_32 rfl rfl rfl rfl
    · exact absurd ((nI_eq (by omega) (by omega)).mp hc11) (by omega)
theorem eX4_item {a b c d w : Int32} {k : Nat} {x1 x2 x3 x4 : Int32} (hk : k < 120) : Mx mX4_item [.ref 0, .int x1, .int x2, .int x3, .int x4] (rM (qM F a b c d w (nI k) n) G) none (rM (qM F a b c d w (nI (k + 1)) n) (ga G 10 (it4 (G 10) k x1 x2 x3 x4))) := by
  refine mx_of (L := [some (.ref 0), some (.int x1), some (.int x2), some (.int x3), some (.int x4), none]) (by decide) (fun _ => rfl) (fun _ => Nat.le_of_ble_eq_true rfl) ?_
  unfold it4
  refine fx_iconst (v := nI 4) dX4_item_0 (by decide) ?_
  refine fx_aload_n dX4_item_1 rfl rfl ?_
  refine fx_get dX4_item_2 kX4_294 rfl rfl ?_
  rw [q18]
  refine fx_imul dX4_item_5 ?_
  rw [pk_mul]
  refine fs_istore_5 dX4_item_6 rfl (by decide) ?_
  refine fx_aload_n dX4_item_8 rfl rfl ?_
  refine fx_get dX4_item_9 kX4_54 rfl rfl ?_
  refine fx_iload dX4_item_12 rfl ?_
  refine fx_iload_n dX4_item_14 rfl rfl ?_
  refine fx_iast dX4_item_15 rfl (vp_in_nI (by omega) (by decide)) (w4_10 ..) ?_
  rw [nI_clamp (by omega)]
  refine fx_aload_n dX4_item_16 rfl rfl ?_
  refine fx_get dX4_item_17 kX4_54 rfl rfl ?_
  refine fx_iload dX4_item_20 rfl ?_
  refine fx_iconst (v := nI 1) dX4_item_22 (by decide) ?_
  refine fx_iadd dX4_item_23 ?_
  rw [nI_add]
  refine fx_iload_n dX4_item_24 rfl rfl ?_
  refine fx_iast dX4_item_25 rfl (vp_in_nI (by omega) (by decide)) (w4_10 ..) ?_
  rw [nI_clamp (by omega), ga_s, ga_ga]
  refine fx_aload_n dX4_item_26 rfl rfl ?_
  refine fx_get dX4_item_27 kX4_54 rfl rfl ?_
  refine fx_iload dX4_item_30 rfl ?_
  refine fx_iconst (v := nI 2) dX4_item_32 (by decide) ?_
  refine fx_iadd dX4_item_33 ?_
  rw [nI_add]
  refine fx_iload_n dX4_item_34 rfl rfl ?_
  refine fx_iast dX4_item_35 rfl (vp_in_nI (by omega) (by decide)) (w4_10 ..) ?_
  rw [nI_clamp (by omega), ga_s, ga_ga]
  refine fx_aload_n dX4_item_36 rfl rfl ?_
  refine fx_get dX4_item_37 kX4_54 rfl rfl ?_
  refine fx_iload dX4_item_40 rfl ?_
  refine fx_iconst (v := nI 3) dX4_item_42 (by decide) ?_
  refine fx_iadd dX4_item_43 ?_
  rw [nI_add]
  refine fx_iload dX4_item_44 rfl ?_
  refine fx_iast dX4_item_46 rfl (vp_in_nI (by omega) (by decide)) (w4_10 ..) ?_
  rw [nI_clamp (by omega), ga_s, ga_ga]
  refine fx_aload_n dX4_item_47 rfl rfl ?_
  refine fx_dup dX4_item_48 rfl ?_
  refine fx_get dX4_item_49 kX4_294 rfl rfl ?_
  rw [q18]
  refine fx_iconst (v := nI 1) dX4_item_52 (by decide) ?_
  refine fx_iadd dX4_item_53 ?_
  rw [nI_add]
  refine fx_put dX4_item_54 kX4_294 rfl (Nat.le_of_ble_eq_true rfl) (fun _ => rfl) rfl rfl (u4_18 ..) ?_
  rw [qM_18]
  exact fx_vreq dX4_item_57 rfl rfl
theorem eX4_kindTold {w : Int32} (hG : G 8 = B) (hB : jBy B z) (hs : s ≤ z) : Mx mX4_kindTold [.ref 0] (rM (qM F (nI s) (nI (en B z s)) (nI (min 3 (kd B z s))) (nI (va B z s)) w m n) G) (some (.int (kf B z s 7))) (rM (qM F (nI s) (nI (en B z s)) (nI (min 3 (kd B z s))) (nI (va B z s)) w m n) G) := by
  refine mx_of (L := [some (.ref 0), none, none]) (by decide) (fun _ => rfl) (fun _ => Nat.le_of_ble_eq_true rfl) ?_
  have H : ∀ (d k : Nat), k + d = 7 → Fx mX4_kindTold (some (.int (kf B z s 7)), rM (qM F (nI s) (nI (en B z s)) (nI (min 3 (kd B z s))) (nI (va B z s)) w m n) G) 4 [some (.ref 0), some (.int (kf B z s k)), some (.int (nI k))] [] (rM (qM F (nI s) (nI (en B z s)) (nI (min 3 (kd B z s))) (nI (va B z s)) w m n) G) := by
    intro d
    induction d with
    | zero =>
      intro k hk
      have hk' : k = 7 := by omega
      subst hk'
      refine fx_iload_n dX4_kindTold_4 rfl rfl ?_
      refine fx_aload_n dX4_kindTold_5 rfl rfl ?_
      refine fx_get dX4_kindTold_6 kX4_50 rfl rfl ?_
      refine fx_alen (v := nI 7) dX4_kindTold_9 rfl (by decide) (by decide) ?_
      refine fx_icmp_ge (tgt := 38) dX4_kindTold_10 (by decide) rM_l (fun hc10 => ?_) (fun hc10 => ?_)
      · refine fx_iload_n dX4_kindTold_38 rfl rfl ?_
        exact fx_ireq dX4_kindTold_39 rfl rfl rfl rfl
      · exact absurd (Int32.le_refl _) hc10
    | succ d ih =>
      intro k hk
      have ih1 := ih (k + 1) (by omega)
      have e1 : kf B z s (k + 1) = if iw B z s k = true then nI k else kf B z s k := rfl
      rw [e1] at ih1
      cases hw : iw B z s k
      · rw [hw, if_neg (by decide)] at ih1
        refine fx_iload_n dX4_kindTold_4 rfl rfl ?_
        refine fx_aload_n dX4_kindTold_5 rfl rfl ?_
        refine fx_get dX4_kindTold_6 kX4_50 rfl rfl ?_
        refine fx_alen (v := nI 7) dX4_kindTold_9 rfl (by decide) (by decide) ?_
        refine fx_icmp_ge (tgt := 38) dX4_kindTold_10 (by decide) rM_l (fun hc10 => ?_) (fun hc10 => ?_)
        · exact absurd hc10 (nI_ge (by omega) (by omega))
        · refine fx_aload_n dX4_kindTold_13 rfl rfl ?_
          refine fx_aload_n dX4_kindTold_14 rfl rfl ?_
          refine fx_get dX4_kindTold_15 kX4_50 rfl rfl ?_
          refine fx_iload_n dX4_kindTold_18 rfl rfl ?_
          refine fx_aald dX4_kindTold_19 rfl (Or.inr rfl) (vp_in_nI (by omega) (by decide)) (rM_ne (by omega)) ?_
          refine fx_callVv dX4_kindTold_20 vX4_isWord lX4_297 (by decide) rfl (Nat.le_of_ble_eq_true rfl) (eX4_isWord hG hB hs (by omega)) rfl ?_
          rw [hw]
          refine fx_if_eq (tgt := 30) dX4_kindTold_23 (by decide) rM_l (fun hc23 => ?_) (fun hc23 => ?_)
          · refine fx_iload_n dX4_kindTold_30 rfl rfl ?_
            refine fs_istore_n_1 dX4_kindTold_31 rfl (by decide) ?_
            refine fs_iinc_2 (w := nI 1) dX4_kindTold_32 (by decide) rfl (by decide) ?_
            refine fx_goto (tgt := 4) dX4_kindTold_35 (by decide) ?_
            rw [nI_add]
            exact ih1
          · exact absurd rfl hc23
      · rw [hw, if_pos rfl] at ih1
        refine fx_iload_n dX4_kindTold_4 rfl rfl ?_
        refine fx_aload_n dX4_kindTold_5 rfl rfl ?_
        refine fx_get dX4_kindTold_6 kX4_50 rfl rfl ?_
        refine fx_alen (v := nI 7) dX4_kindTold_9 rfl (by decide) (by decide) ?_
        refine fx_icmp_ge (tgt := 38) dX4_kindTold_10 (by decide) rM_l (fun hc10 => ?_) (fun hc10 => ?_)
        · exact absurd hc10 (nI_ge (by omega) (by omega))
        · refine fx_aload_n dX4_kindTold_13 rfl rfl ?_
          refine fx_aload_n dX4_kindTold_14 rfl rfl ?_
          refine fx_get dX4_kindTold_15 kX4_50 rfl rfl ?_
          refine fx_iload_n dX4_kindTold_18 rfl rfl ?_
          refine fx_aald dX4_kindTold_19 rfl (Or.inr rfl) (vp_in_nI (by omega) (by decide)) (rM_ne (by omega)) ?_
          refine fx_callVv dX4_kindTold_20 vX4_isWord lX4_297 (by decide) rfl (Nat.le_of_ble_eq_true rfl) (eX4_isWord hG hB hs (by omega)) rfl ?_
          rw [hw]
          refine fx_if_eq (tgt := 30) dX4_kindTold_23 (by decide) rM_l (fun hc23 => ?_) (fun hc23 => ?_)
          · exact absurd hc23 (by decide)
          · refine fx_iload_n dX4_kindTold_26 rfl rfl ?_
            refine fx_goto (tgt := 31) dX4_kindTold_27 (by decide) ?_
            refine fs_istore_n_1 dX4_kindTold_31 rfl (by decide) ?_
            refine fs_iinc_2 (w := nI 1) dX4_kindTold_32 (by decide) rfl (by decide) ?_
            refine fx_goto (tgt := 4) dX4_kindTold_35 (by decide) ?_
            rw [nI_add]
            exact ih1
  refine fx_iconst (v := (-1)) dX4_kindTold_0 (by decide) ?_
  refine fs_istore_n_1 dX4_kindTold_1 rfl (by decide) ?_
  refine fx_iconst (v := nI 0) dX4_kindTold_2 (by decide) ?_
  refine fs_istore_n_2 dX4_kindTold_3 rfl (by decide) ?_
  exact H 7 0 (by omega)
theorem eX4_isNext_w {a b c d : Int32} {i : Nat} : Mx mX4_isNext [.ref 0, .ref (1000 + i)] (rM (qM F a b c d (jB true) m n) G) (some (.int (nI 0))) (rM (qM F a b c d (jB true) m n) G) := by
  refine mx_of (L := [some (.ref 0), some (.ref (1000 + i)), none]) (by decide) (fun _ => rfl) (fun _ => Nat.le_of_ble_eq_true rfl) ?_
  refine fx_aload_n dX4_isNext_0 rfl rfl ?_
  refine fx_get dX4_isNext_1 kX4_284 rfl rfl ?_
  rw [q15]
  refine fx_if_ne (tgt := 19) dX4_isNext_4 (by decide) rM_l (fun hc4 => ?_) (fun hc4 => ?_)
  · refine fx_iconst (v := nI 0) dX4_isNext_19 (by decide) ?_
    refine fs_istore_n_2 dX4_isNext_20 rfl (by decide) ?_
    refine fx_iload_n dX4_isNext_21 rfl rfl ?_
    refine fx_if_eq (tgt := 30) dX4_isNext_22 (by decide) rM_l (fun hc22 => ?_) (fun hc22 => ?_)
    · refine fx_iload_n dX4_isNext_30 rfl rfl ?_
      exact fx_ireq dX4_isNext_31 rfl rfl rfl rfl
    · exact absurd rfl hc22
  · exact absurd hc4 (by decide)
theorem eX4_isNext_n {i : Nat} (hG : G 8 = B) (hB : jBy B z) (hs : s ≤ z) (hi : i < 14) (h : iw B z s i = false) : Mx mX4_isNext [.ref 0, .ref (1000 + i)] (sN F G B z s false m n) (some (.int (nI 0))) (sN F G B z s false m n) := by
  refine mx_of (L := [some (.ref 0), some (.ref (1000 + i)), none]) (by decide) (fun _ => rfl) (fun _ => Nat.le_of_ble_eq_true rfl) ?_
  refine fx_aload_n dX4_isNext_0 rfl rfl ?_
  refine fx_get dX4_isNext_1 kX4_284 rfl rfl ?_
  rw [q15]
  refine fx_if_ne (tgt := 19) dX4_isNext_4 (by decide) rM_l (fun hc4 => ?_) (fun hc4 => ?_)
  · exact absurd rfl hc4
  · refine fx_aload_n dX4_isNext_7 rfl rfl ?_
    refine fx_aload_n dX4_isNext_8 rfl rfl ?_
    refine fx_callVv dX4_isNext_9 vX4_isWord lX4_297 (by decide) rfl (Nat.le_of_ble_eq_true rfl) (eX4_isWord hG hB hs hi) rfl ?_
    rw [h]
    refine fx_if_eq (tgt := 19) dX4_isNext_12 (by decide) rM_l (fun hc12 => ?_) (fun hc12 => ?_)
    · refine fx_iconst (v := nI 0) dX4_isNext_19 (by decide) ?_
      refine fs_istore_n_2 dX4_isNext_20 rfl (by decide) ?_
      refine fx_iload_n dX4_isNext_21 rfl rfl ?_
      refine fx_if_eq (tgt := 30) dX4_isNext_22 (by decide) rM_l (fun hc22 => ?_) (fun hc22 => ?_)
      · refine fx_iload_n dX4_isNext_30 rfl rfl ?_
        exact fx_ireq dX4_isNext_31 rfl rfl rfl rfl
      · exact absurd rfl hc22
    · exact absurd rfl hc12
theorem eX4_isNext_y {i : Nat} (hz : F 10 = nI z) (hG : G 8 = B) (hB : jBy B z) (hs : s ≤ z) (hi : i < 14) (h : iw B z s i = true) : Mx mX4_isNext [.ref 0, .ref (1000 + i)] (sN F G B z s false m n) (some (.int (nI 1))) (sN F G B z (nx B z s) false m n) := by
  refine mx_of (L := [some (.ref 0), some (.ref (1000 + i)), none]) (by decide) (fun _ => rfl) (fun _ => Nat.le_of_ble_eq_true rfl) ?_
  have e1 : Mx mX4_must [.ref 0, .int (nI 1)] (sN F G B z s false m n) none (sN F G B z (nx B z s) false m n) := eX4_must_t hz hG hB hs
  refine fx_aload_n dX4_isNext_0 rfl rfl ?_
  refine fx_get dX4_isNext_1 kX4_284 rfl rfl ?_
  rw [q15]
  refine fx_if_ne (tgt := 19) dX4_isNext_4 (by decide) rM_l (fun hc4 => ?_) (fun hc4 => ?_)
  · exact absurd rfl hc4
  · refine fx_aload_n dX4_isNext_7 rfl rfl ?_
    refine fx_aload_n dX4_isNext_8 rfl rfl ?_
    refine fx_callVv dX4_isNext_9 vX4_isWord lX4_297 (by decide) rfl (Nat.le_of_ble_eq_true rfl) (eX4_isWord hG hB hs hi) rfl ?_
    rw [h]
    refine fx_if_eq (tgt := 19) dX4_isNext_12 (by decide) rM_l (fun hc12 => ?_) (fun hc12 => ?_)
    · exact absurd hc12 (by decide)
    · refine fx_iconst (v := nI 1) dX4_isNext_15 (by decide) ?_
      refine fx_goto (tgt := 20) dX4_isNext_16 (by decide) ?_
      refine fs_istore_n_2 dX4_isNext_20 rfl (by decide) ?_
      refine fx_iload_n dX4_isNext_21 rfl rfl ?_
      refine fx_if_eq (tgt := 30) dX4_isNext_22 (by decide) rM_l (fun hc22 => ?_) (fun hc22 => ?_)
      · exact absurd hc22 (by decide)
      · refine fx_aload_n dX4_isNext_25 rfl rfl ?_
        refine fx_iconst (v := nI 1) dX4_isNext_26 (by decide) ?_
        refine fx_callVn dX4_isNext_27 vX4_must lX4_290 (by decide) rfl (Nat.le_of_ble_eq_true rfl) e1 rfl ?_
        refine fx_iload_n dX4_isNext_30 rfl rfl ?_
        exact fx_ireq dX4_isNext_31 rfl rfl rfl rfl
theorem eX4_isToldSo_p {k p : Nat} (hk : k < 120) (hp : p < 186) (h : G 10 (4 * k) = nI (20 + p)) : Mx mX4_isToldSo [.ref 0, .int (nI (4 * k))] (rM F G) (some (.int (G 1 p))) (rM F (ga G 1 (upd (G 1) p (G 10 (4 * k + 1))))) := by
  refine mx_of (L := [some (.ref 0), some (.int (nI (4 * k))), none, none]) (by decide) (fun _ => rfl) (fun _ => Nat.le_of_ble_eq_true rfl) ?_
  refine fx_aload_n dX4_isToldSo_0 rfl rfl ?_
  refine fx_get dX4_isToldSo_1 kX4_54 rfl rfl ?_
  refine fx_iload_n dX4_isToldSo_4 rfl rfl ?_
  refine fx_iald dX4_isToldSo_5 rfl (vp_in_nI (by omega) (by decide)) ?_
  rw [nI_clamp (by omega), h]
  refine fs_istore_n_2 dX4_isToldSo_6 rfl (by decide) ?_
  refine fx_aload_n dX4_isToldSo_7 rfl rfl ?_
  refine fx_get dX4_isToldSo_8 kX4_54 rfl rfl ?_
  refine fx_iload_n dX4_isToldSo_11 rfl rfl ?_
  refine fx_iconst (v := nI 1) dX4_isToldSo_12 (by decide) ?_
  refine fx_iadd dX4_isToldSo_13 ?_
  rw [nI_add]
  refine fx_iald dX4_isToldSo_14 rfl (vp_in_nI (by omega) (by decide)) ?_
  rw [nI_clamp (by omega)]
  refine fs_istore_n_3 dX4_isToldSo_15 rfl (by decide) ?_
  refine fx_iload_n dX4_isToldSo_16 rfl rfl ?_
  refine fx_bipush (v := nI 20) dX4_isToldSo_17 (by decide) ?_
  refine fx_icmp_lt (tgt := 34) dX4_isToldSo_19 (by decide) rM_l (fun hc19 => ?_) (fun hc19 => ?_)
  · exact absurd hc19 (nI_nlt (by omega) (by omega))
  · refine fx_aload_n dX4_isToldSo_22 rfl rfl ?_
    refine fx_iload_n dX4_isToldSo_23 rfl rfl ?_
    refine fx_bipush (v := nI 20) dX4_isToldSo_24 (by decide) ?_
    refine fx_isub dX4_isToldSo_26 ?_
    rw [pk_sub (by omega), Nat.add_sub_cancel_left]
    refine fx_iload_n dX4_isToldSo_27 rfl rfl ?_
    refine fx_callVv dX4_isToldSo_28 vX4_become lX4_91 (by decide) rfl (Nat.le_of_ble_eq_true rfl) (eX4_become hp) rfl ?_
    refine fx_goto (tgt := 56) dX4_isToldSo_31 (by decide) ?_
    exact fx_ireq dX4_isToldSo_56 rfl rfl rfl rfl
theorem eX4_isToldSo_b {k kk n : Nat} (hV : jW (G 1) n) (hn : n < 8) (hk : k < 120) (hkk : kk < 7) (h : G 10 (4 * k) = nI kk) : Mx mX4_isToldSo [.ref 0, .int (nI (4 * k))] (rM F G) (some (.int (nI n))) (rM F (ga G 1 (jcome (G 1) n (nI kk) (G 10 (4 * k + 1)) (G 10 (4 * k + 2)) (G 10 (4 * k + 3))))) := by
  refine mx_of (L := [some (.ref 0), some (.int (nI (4 * k))), none, none]) (by decide) (fun _ => rfl) (fun _ => Nat.le_of_ble_eq_true rfl) ?_
  refine fx_aload_n dX4_isToldSo_0 rfl rfl ?_
  refine fx_get dX4_isToldSo_1 kX4_54 rfl rfl ?_
  refine fx_iload_n dX4_isToldSo_4 rfl rfl ?_
  refine fx_iald dX4_isToldSo_5 rfl (vp_in_nI (by omega) (by decide)) ?_
  rw [nI_clamp (by omega), h]
  refine fs_istore_n_2 dX4_isToldSo_6 rfl (by decide) ?_
  refine fx_aload_n dX4_isToldSo_7 rfl rfl ?_
  refine fx_get dX4_isToldSo_8 kX4_54 rfl rfl ?_
  refine fx_iload_n dX4_isToldSo_11 rfl rfl ?_
  refine fx_iconst (v := nI 1) dX4_isToldSo_12 (by decide) ?_
  refine fx_iadd dX4_isToldSo_13 ?_
  rw [nI_add]
  refine fx_iald dX4_isToldSo_14 rfl (vp_in_nI (by omega) (by decide)) ?_
  rw [nI_clamp (by omega)]
  refine fs_istore_n_3 dX4_isToldSo_15 rfl (by decide) ?_
  refine fx_iload_n dX4_isToldSo_16 rfl rfl ?_
  refine fx_bipush (v := nI 20) dX4_isToldSo_17 (by decide) ?_
  refine fx_icmp_lt (tgt := 34) dX4_isToldSo_19 (by decide) rM_l (fun hc19 => ?_) (fun hc19 => ?_)
  · refine fx_aload_n dX4_isToldSo_34 rfl rfl ?_
    refine fx_iload_n dX4_isToldSo_35 rfl rfl ?_
    refine fx_iload_n dX4_isToldSo_36 rfl rfl ?_
    refine fx_aload_n dX4_isToldSo_37 rfl rfl ?_
    refine fx_get dX4_isToldSo_38 kX4_54 rfl rfl ?_
    refine fx_iload_n dX4_isToldSo_41 rfl rfl ?_
    refine fx_iconst (v := nI 2) dX4_isToldSo_42 (by decide) ?_
    refine fx_iadd dX4_isToldSo_43 ?_
    rw [nI_add]
    refine fx_iald dX4_isToldSo_44 rfl (vp_in_nI (by omega) (by decide)) ?_
    rw [nI_clamp (by omega)]
    refine fx_aload_n dX4_isToldSo_45 rfl rfl ?_
    refine fx_get dX4_isToldSo_46 kX4_54 rfl rfl ?_
    refine fx_iload_n dX4_isToldSo_49 rfl rfl ?_
    refine fx_iconst (v := nI 3) dX4_isToldSo_50 (by decide) ?_
    refine fx_iadd dX4_isToldSo_51 ?_
    rw [nI_add]
    refine fx_iald dX4_isToldSo_52 rfl (vp_in_nI (by omega) (by decide)) ?_
    rw [nI_clamp (by omega)]
    refine fx_callVv dX4_isToldSo_53 vX4_comes lX4_108 (by decide) rfl (Nat.le_of_ble_eq_true rfl) (eX4_comes hV hn) rfl ?_
    exact fx_ireq dX4_isToldSo_56 rfl rfl rfl rfl
  · exact absurd (nI_lt (by omega) (by decide)) hc19
end
