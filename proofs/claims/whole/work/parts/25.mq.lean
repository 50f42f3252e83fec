/-! ===== the reference: judge, count, feed ===== -/
set_option maxRecDepth 100000
/-- bytes that a number gives, i left -/
def jfd4 (T : Nat → Int32) (t : Nat) (x : Int32) : Nat → (Nat → Int32)
  | 0 => T
  | k + 1 => jfd4 (upd T t ((x >>> (nI (8 * k) &&& 31)) &&& nI 255)) (t + 1) x k
theorem jcut0 : True := trivial
section
variable {F : Nat → Int32} {G : Nat → Nat → Int32} {n : Nat}
theorem eX4_judge_y {j : Nat} (hS : jS G) (hV : jW (G 1) n) (hj : j ≤ 3) (h : jlk G (nI j) = none) : Mx mX4_judge [.ref 0, .int (nI j)] (rM F G) (some (.int (jjg (G 1) (G 13) j n 0 (-1) (jsz G j)))) (rM F G) := by
  refine mx_of (L := [some (.ref 0), some (.int (nI j)), none, none, none, none]) (by decide) (fun _ => rfl) (fun _ => Nat.le_of_ble_eq_true rfl) ?_
  have hn8 := hV.2.1
  obtain ⟨ez, hz⟩ := jsz_e hS (show j < 4 by omega)
  have eL := eX4_lacks (F := F) (G := G) (s := nI j)
  rw [h] at eL
  generalize hm : jsz G j = m at ez hz
  generalize hr : jjg (G 1) (G 13) j n 0 (-1) m = r
  have JF : ∀ (i : Nat) (la : Int32) (x5 : Option Value), nI (1 + i) = r → i < m → Fx mX4_judge (some (.int r), rM F G) 25 [some (.ref 0), some (.int (nI j)), some (.int (nI i)), some (.int la), some (.int (jB false)), x5] [] (rM F G) := by
    intro i la x5 e hi
    refine fx_iload_n dX4_judge_25 rfl rfl ?_
    refine fx_aload_n dX4_judge_26 rfl rfl ?_
    refine fx_get dX4_judge_27 kX4_60 rfl rfl ?_
    refine fx_iload_n dX4_judge_30 rfl rfl ?_
    refine fx_iald dX4_judge_31 rfl (vp_in_nI (by omega) (by omega)) ?_
    rw [nI_clamp (by omega), ez]
    refine fx_icmp_ge (tgt := 123) dX4_judge_32 (by decide) rfl (fun hc32 => ?_) (fun hc32 => ?_)
    · exact absurd hc32 (nI_ge (by omega) (by omega))
    · refine fx_iload dX4_judge_35 rfl ?_
      refine fx_if_eq (tgt := 123) dX4_judge_37 (by decide) rfl (fun hc37 => ?_) (fun hc37 => ?_)
      · refine fx_iload dX4_judge_123 rfl ?_
        refine fx_if_eq (tgt := 132) dX4_judge_125 (by decide) rfl (fun hc125 => ?_) (fun hc125 => ?_)
        · refine fx_iconst (v := nI 1) dX4_judge_132 (by decide) ?_
          refine fx_iload_n dX4_judge_133 rfl rfl ?_
          refine fx_iadd dX4_judge_134 ?_
          rw [nI_add]
          exact fx_ireq dX4_judge_135 rfl rfl e rfl
        · exact absurd rfl hc125
      · exact absurd rfl hc37
  have H : ∀ (k i : Nat), i + k = m → ∀ (la : Int32) (x5 : Option Value), jjg (G 1) (G 13) j n i la k = r → Fx mX4_judge (some (.int r), rM F G) 25 [some (.ref 0), some (.int (nI j)), some (.int (nI i)), some (.int la), some (.int (jB true)), x5] [] (rM F G) := by
    intro k
    induction k with
    | zero =>
      intro i hi la x5 e
      have e' : nI 0 = r := e
      subst e'
      refine fx_iload_n dX4_judge_25 rfl rfl ?_
      refine fx_aload_n dX4_judge_26 rfl rfl ?_
      refine fx_get dX4_judge_27 kX4_60 rfl rfl ?_
      refine fx_iload_n dX4_judge_30 rfl rfl ?_
      refine fx_iald dX4_judge_31 rfl (vp_in_nI (by omega) (by omega)) ?_
      rw [nI_clamp (by omega), ez]
      refine fx_icmp_ge (tgt := 123) dX4_judge_32 (by decide) rfl (fun hc32 => ?_) (fun hc32 => ?_)
      · refine fx_iload dX4_judge_123 rfl ?_
        refine fx_if_eq (tgt := 132) dX4_judge_125 (by decide) rfl (fun hc125 => ?_) (fun hc125 => ?_)
        · exact absurd hc125 (by decide)
        · refine fx_iconst (v := nI 0) dX4_judge_128 (by decide) ?_
          refine fx_goto (tgt := 135) dX4_judge_129 (by decide) ?_
          exact fx_ireq dX4_judge_135 rfl rfl rfl rfl
      · exact absurd (nI_le (by omega) (by omega)) hc32
    | succ k ih =>
      intro i hi la x5 e
      unfold jjg at e
      generalize hv : G 13 (40 * j + i) = v at e
      have J88 : ∀ (w : Bool), (w = true → Fx mX4_judge (some (.int r), rM F G) 95 [some (.ref 0), some (.int (nI j)), some (.int (nI i)), some (.int la), some (.int (jB true)), some (.int v)] [] (rM F G)) → (w = false → nI (1 + i) = r) → Fx mX4_judge (some (.int r), rM F G) 88 [some (.ref 0), some (.int (nI j)), some (.int (nI i)), some (.int la), some (.int (jB true)), some (.int v)] [.int (jB w)] (rM F G) := by
        intro w h1 h2
        cases w
        · refine fs_istore_4 dX4_judge_88 rfl (by decide) ?_
          refine fx_iload dX4_judge_90 rfl ?_
          refine fx_if_eq (tgt := 105) dX4_judge_92 (by decide) rfl (fun hc92 => ?_) (fun hc92 => ?_)
          · refine fx_iload_n dX4_judge_105 rfl rfl ?_
            refine fs_istore_n_3 dX4_judge_106 rfl (by decide) ?_
            refine fx_iload_n dX4_judge_107 rfl rfl ?_
            refine fx_iload dX4_judge_108 rfl ?_
            refine fx_if_eq (tgt := 117) dX4_judge_110 (by decide) rfl (fun hc110 => ?_) (fun hc110 => ?_)
            · refine fx_iconst (v := nI 0) dX4_judge_117 (by decide) ?_
              refine fx_iadd dX4_judge_118 ?_
              rw [nI_add]
              refine fs_istore_n_2 dX4_judge_119 rfl (by decide) ?_
              refine fx_goto (tgt := 25) dX4_judge_120 (by decide) ?_
              exact JF i _ _ (h2 rfl) (by omega)
            · exact absurd rfl hc110
          · exact absurd rfl hc92
        · refine fs_istore_4 dX4_judge_88 rfl (by decide) ?_
          refine fx_iload dX4_judge_90 rfl ?_
          refine fx_if_eq (tgt := 105) dX4_judge_92 (by decide) rfl (fun hc92 => ?_) (fun hc92 => ?_)
          · exact absurd hc92 (by decide)
          · exact h1 rfl
      by_cases hvb : jwi v (nI 0) (nI n - nI 1) = true
      · obtain ⟨b, hb, eb⟩ := jbell_of hn8 hvb
        subst eb
        rw [nI_clamp (by omega)] at e
        have K95 : jjg (G 1) (G 13) j n (i + 1) (G 1 (146 + 5 * b + 2)) k = r → Fx mX4_judge (some (.int r), rM F G) 95 [some (.ref 0), some (.int (nI j)), some (.int (nI i)), some (.int la), some (.int (jB true)), some (.int (nI b))] [] (rM F G) := by
          intro e2
          refine fx_aload_n dX4_judge_95 rfl rfl ?_
          refine fx_iload dX4_judge_96 rfl ?_
          refine fx_iconst (v := nI 2) dX4_judge_98 (by decide) ?_
          refine fx_callVv dX4_judge_99 vX4_bellIs lX4_101 (by decide) rfl (Nat.le_of_ble_eq_true rfl) (eM_bell (by omega) (by decide)) rfl ?_
          refine fx_goto (tgt := 106) dX4_judge_102 (by decide) ?_
          refine fs_istore_n_3 dX4_judge_106 rfl (by decide) ?_
          refine fx_iload_n dX4_judge_107 rfl rfl ?_
          refine fx_iload dX4_judge_108 rfl ?_
          refine fx_if_eq (tgt := 117) dX4_judge_110 (by decide) rfl (fun hc110 => ?_) (fun hc110 => ?_)
          · exact absurd hc110 (by decide)
          · refine fx_iconst (v := nI 1) dX4_judge_113 (by decide) ?_
            refine fx_goto (tgt := 118) dX4_judge_114 (by decide) ?_
            refine fx_iadd dX4_judge_118 ?_
            rw [nI_add]
            refine fs_istore_n_2 dX4_judge_119 rfl (by decide) ?_
            refine fx_goto (tgt := 25) dX4_judge_120 (by decide) ?_
            exact ih (i + 1) (by omega) _ _ e2
        by_cases h0 : i = 0
        · rw [if_pos ⟨hvb, Or.inl h0⟩] at e
          subst h0
          refine fx_iload_n dX4_judge_25 rfl rfl ?_
          refine fx_aload_n dX4_judge_26 rfl rfl ?_
          refine fx_get dX4_judge_27 kX4_60 rfl rfl ?_
          refine fx_iload_n dX4_judge_30 rfl rfl ?_
          refine fx_iald dX4_judge_31 rfl (vp_in_nI (by omega) (by omega)) ?_
          rw [nI_clamp (by omega), ez]
          refine fx_icmp_ge (tgt := 123) dX4_judge_32 (by decide) rfl (fun hc32 => ?_) (fun hc32 => ?_)
          · exact absurd hc32 (nI_ge (by omega) (by omega))
          · refine fx_iload dX4_judge_35 rfl ?_
            refine fx_if_eq (tgt := 123) dX4_judge_37 (by decide) rfl (fun hc37 => ?_) (fun hc37 => ?_)
            · exact absurd hc37 (by decide)
            · refine fx_aload_n dX4_judge_40 rfl rfl ?_
              refine fx_get dX4_judge_41 kX4_63 rfl rfl ?_
              refine fx_bipush (v := nI 40) dX4_judge_44 (by decide) ?_
              refine fx_iload_n dX4_judge_46 rfl rfl ?_
              refine fx_imul dX4_judge_47 ?_
              refine fx_iload_n dX4_judge_48 rfl rfl ?_
              refine fx_iadd dX4_judge_49 ?_
              rw [pk_mul, nI_add]
              refine fx_iald dX4_judge_50 rfl (vp_in_nI (by omega) (by omega)) ?_
              rw [nI_clamp (by omega), hv]
              refine fs_istore_5 dX4_judge_51 rfl (by decide) ?_
              refine fx_aload_n dX4_judge_53 rfl rfl ?_
              refine fx_iload dX4_judge_54 rfl ?_
              refine fx_callVv dX4_judge_56 vX4_isBell lX4_141 (by decide) rfl (Nat.le_of_ble_eq_true rfl) (eX4_isBell hV) rfl ?_
              rw [hvb]
              refine fx_if_eq (tgt := 87) dX4_judge_59 (by decide) rfl (fun hc59 => ?_) (fun hc59 => ?_)
              · exact absurd hc59 (by decide)
              · refine fx_iload_n dX4_judge_62 rfl rfl ?_
                refine fx_if_eq (tgt := 83) dX4_judge_63 (by decide) rfl (fun hc63 => ?_) (fun hc63 => ?_)
                · refine fx_iconst (v := nI 1) dX4_judge_83 (by decide) ?_
                  refine fx_goto (tgt := 88) dX4_judge_84 (by decide) ?_
                  exact fx_eq (J88 true (fun _ => K95 e) (fun q => absurd q (by decide))) rfl rfl rfl
                · exact absurd (by decide) hc63
        · by_cases h2 : jwi (G 1 (146 + 5 * b + 2) - la) (nI 1) (nI 2) = true
          · rw [if_pos ⟨hvb, Or.inr h2⟩] at e
            refine fx_iload_n dX4_judge_25 rfl rfl ?_
            refine fx_aload_n dX4_judge_26 rfl rfl ?_
            refine fx_get dX4_judge_27 kX4_60 rfl rfl ?_
            refine fx_iload_n dX4_judge_30 rfl rfl ?_
            refine fx_iald dX4_judge_31 rfl (vp_in_nI (by omega) (by omega)) ?_
            rw [nI_clamp (by omega), ez]
            refine fx_icmp_ge (tgt := 123) dX4_judge_32 (by decide) rfl (fun hc32 => ?_) (fun hc32 => ?_)
            · exact absurd hc32 (nI_ge (by omega) (by omega))
            · refine fx_iload dX4_judge_35 rfl ?_
              refine fx_if_eq (tgt := 123) dX4_judge_37 (by decide) rfl (fun hc37 => ?_) (fun hc37 => ?_)
              · exact absurd hc37 (by decide)
              · refine fx_aload_n dX4_judge_40 rfl rfl ?_
                refine fx_get dX4_judge_41 kX4_63 rfl rfl ?_
                refine fx_bipush (v := nI 40) dX4_judge_44 (by decide) ?_
                refine fx_iload_n dX4_judge_46 rfl rfl ?_
                refine fx_imul dX4_judge_47 ?_
                refine fx_iload_n dX4_judge_48 rfl rfl ?_
                refine fx_iadd dX4_judge_49 ?_
                rw [pk_mul, nI_add]
                refine fx_iald dX4_judge_50 rfl (vp_in_nI (by omega) (by omega)) ?_
                rw [nI_clamp (by omega), hv]
                refine fs_istore_5 dX4_judge_51 rfl (by decide) ?_
                refine fx_aload_n dX4_judge_53 rfl rfl ?_
                refine fx_iload dX4_judge_54 rfl ?_
                refine fx_callVv dX4_judge_56 vX4_isBell lX4_141 (by decide) rfl (Nat.le_of_ble_eq_true rfl) (eX4_isBell hV) rfl ?_
                rw [hvb]
                refine fx_if_eq (tgt := 87) dX4_judge_59 (by decide) rfl (fun hc59 => ?_) (fun hc59 => ?_)
                · exact absurd hc59 (by decide)
                · refine fx_iload_n dX4_judge_62 rfl rfl ?_
                  refine fx_if_eq (tgt := 83) dX4_judge_63 (by decide) rfl (fun hc63 => ?_) (fun hc63 => ?_)
                  · exact absurd (nI_eq0 (by omega) hc63) h0
                  · refine fx_aload_n dX4_judge_66 rfl rfl ?_
                    refine fx_iload dX4_judge_67 rfl ?_
                    refine fx_iconst (v := nI 2) dX4_judge_69 (by decide) ?_
                    refine fx_callVv dX4_judge_70 vX4_bellIs lX4_101 (by decide) rfl (Nat.le_of_ble_eq_true rfl) (eM_bell (by omega) (by decide)) rfl ?_
                    refine fx_iload_n dX4_judge_73 rfl rfl ?_
                    refine fx_isub dX4_judge_74 ?_
                    refine fx_iconst (v := nI 1) dX4_judge_75 (by decide) ?_
                    refine fx_iconst (v := nI 2) dX4_judge_76 (by decide) ?_
                    refine fx_callSv dX4_judge_77 sX4_within lX4_74 (by decide) (Nat.le_of_ble_eq_true rfl) eX4_within rfl ?_
                    rw [h2]
                    refine fx_if_eq (tgt := 87) dX4_judge_80 (by decide) rfl (fun hc80 => ?_) (fun hc80 => ?_)
                    · exact absurd hc80 (by decide)
                    · refine fx_iconst (v := nI 1) dX4_judge_83 (by decide) ?_
                      refine fx_goto (tgt := 88) dX4_judge_84 (by decide) ?_
                      exact fx_eq (J88 true (fun _ => K95 e) (fun q => absurd q (by decide))) rfl rfl rfl
          · rw [if_neg (fun q => q.2.elim h0 h2)] at e
            refine fx_iload_n dX4_judge_25 rfl rfl ?_
            refine fx_aload_n dX4_judge_26 rfl rfl ?_
            refine fx_get dX4_judge_27 kX4_60 rfl rfl ?_
            refine fx_iload_n dX4_judge_30 rfl rfl ?_
            refine fx_iald dX4_judge_31 rfl (vp_in_nI (by omega) (by omega)) ?_
            rw [nI_clamp (by omega), ez]
            refine fx_icmp_ge (tgt := 123) dX4_judge_32 (by decide) rfl (fun hc32 => ?_) (fun hc32 => ?_)
            · exact absurd hc32 (nI_ge (by omega) (by omega))
            · refine fx_iload dX4_judge_35 rfl ?_
              refine fx_if_eq (tgt := 123) dX4_judge_37 (by decide) rfl (fun hc37 => ?_) (fun hc37 => ?_)
              · exact absurd hc37 (by decide)
              · refine fx_aload_n dX4_judge_40 rfl rfl ?_
                refine fx_get dX4_judge_41 kX4_63 rfl rfl ?_
                refine fx_bipush (v := nI 40) dX4_judge_44 (by decide) ?_
                refine fx_iload_n dX4_judge_46 rfl rfl ?_
                refine fx_imul dX4_judge_47 ?_
                refine fx_iload_n dX4_judge_48 rfl rfl ?_
                refine fx_iadd dX4_judge_49 ?_
                rw [pk_mul, nI_add]
                refine fx_iald dX4_judge_50 rfl (vp_in_nI (by omega) (by omega)) ?_
                rw [nI_clamp (by omega), hv]
                refine fs_istore_5 dX4_judge_51 rfl (by decide) ?_
                refine fx_aload_n dX4_judge_53 rfl rfl ?_
                refine fx_iload dX4_judge_54 rfl ?_
                refine fx_callVv dX4_judge_56 vX4_isBell lX4_141 (by decide) rfl (Nat.le_of_ble_eq_true rfl) (eX4_isBell hV) rfl ?_
                rw [hvb]
                refine fx_if_eq (tgt := 87) dX4_judge_59 (by decide) rfl (fun hc59 => ?_) (fun hc59 => ?_)
                · exact absurd hc59 (by decide)
                · refine fx_iload_n dX4_judge_62 rfl rfl ?_
                  refine fx_if_eq (tgt := 83) dX4_judge_63 (by decide) rfl (fun hc63 => ?_) (fun hc63 => ?_)
                  · exact absurd (nI_eq0 (by omega) hc63) h0
                  · refine fx_aload_n dX4_judge_66 rfl rfl ?_
                    refine fx_iload dX4_judge_67 rfl ?_
                    refine fx_iconst (v := nI 2) dX4_judge_69 (by decide) ?_
                    refine fx_callVv dX4_judge_70 vX4_bellIs lX4_101 (by decide) rfl (Nat.le_of_ble_eq_true rfl) (eM_bell (by omega) (by decide)) rfl ?_
                    refine fx_iload_n dX4_judge_73 rfl rfl ?_
                    refine fx_isub dX4_judge_74 ?_
                    refine fx_iconst (v := nI 1) dX4_judge_75 (by decide) ?_
                    refine fx_iconst (v := nI 2) dX4_judge_76 (by decide) ?_
                    refine fx_callSv dX4_judge_77 sX4_within lX4_74 (by decide) (Nat.le_of_ble_eq_true rfl) eX4_within rfl ?_
                    rw [jnt_f h2]
                    refine fx_if_eq (tgt := 87) dX4_judge_80 (by decide) rfl (fun hc80 => ?_) (fun hc80 => ?_)
                    · refine fx_iconst (v := nI 0) dX4_judge_87 (by decide) ?_
                      exact fx_eq (J88 false (fun q => absurd q (by decide)) (fun _ => e)) rfl rfl rfl
                    · exact absurd rfl hc80
      · rw [if_neg (fun q => hvb q.1)] at e
        refine fx_iload_n dX4_judge_25 rfl rfl ?_
        refine fx_aload_n dX4_judge_26 rfl rfl ?_
        refine fx_get dX4_judge_27 kX4_60 rfl rfl ?_
        refine fx_iload_n dX4_judge_30 rfl rfl ?_
        refine fx_iald dX4_judge_31 rfl (vp_in_nI (by omega) (by omega)) ?_
        rw [nI_clamp (by omega), ez]
        refine fx_icmp_ge (tgt := 123) dX4_judge_32 (by decide) rfl (fun hc32 => ?_) (fun hc32 => ?_)
        · exact absurd hc32 (nI_ge (by omega) (by omega))
        · refine fx_iload dX4_judge_35 rfl ?_
          refine fx_if_eq (tgt := 123) dX4_judge_37 (by decide) rfl (fun hc37 => ?_) (fun hc37 => ?_)
          · exact absurd hc37 (by decide)
          · refine fx_aload_n dX4_judge_40 rfl rfl ?_
            refine fx_get dX4_judge_41 kX4_63 rfl rfl ?_
            refine fx_bipush (v := nI 40) dX4_judge_44 (by decide) ?_
            refine fx_iload_n dX4_judge_46 rfl rfl ?_
            refine fx_imul dX4_judge_47 ?_
            refine fx_iload_n dX4_judge_48 rfl rfl ?_
            refine fx_iadd dX4_judge_49 ?_
            rw [pk_mul, nI_add]
            refine fx_iald dX4_judge_50 rfl (vp_in_nI (by omega) (by omega)) ?_
            rw [nI_clamp (by omega), hv]
            refine fs_istore_5 dX4_judge_51 rfl (by decide) ?_
            refine fx_aload_n dX4_judge_53 rfl rfl ?_
            refine fx_iload dX4_judge_54 rfl ?_
            refine fx_callVv dX4_judge_56 vX4_isBell lX4_141 (by decide) rfl (Nat.le_of_ble_eq_true rfl) (eX4_isBell hV) rfl ?_
            rw [jnt_f hvb]
            refine fx_if_eq (tgt := 87) dX4_judge_59 (by decide) rfl (fun hc59 => ?_) (fun hc59 => ?_)
            · refine fx_iconst (v := nI 0) dX4_judge_87 (by decide) ?_
              exact fx_eq (J88 false (fun q => absurd q (by decide)) (fun _ => e)) rfl rfl rfl
            · exact absurd rfl hc59
  have H0 := H m 0 (by omega) (-1) none hr
  refine fx_aload_n dX4_judge_0 rfl rfl ?_
  refine fx_iload_n dX4_judge_1 rfl rfl ?_
  refine fx_callVv dX4_judge_2 vX4_lacks lX4_221 (by decide) rfl (Nat.le_of_ble_eq_true rfl) eL rfl ?_
  refine fx_if_eq (tgt := 18) dX4_judge_5 (by decide) rfl (fun hc5 => ?_) (fun hc5 => ?_)
  · refine fx_iconst (v := nI 0) dX4_judge_18 (by decide) ?_
    refine fs_istore_n_2 dX4_judge_19 rfl (by decide) ?_
    refine fx_iconst (v := (-1)) dX4_judge_20 (by decide) ?_
    refine fs_istore_n_3 dX4_judge_21 rfl (by decide) ?_
    refine fx_iconst (v := nI 1) dX4_judge_22 (by decide) ?_
    refine fs_istore_4 dX4_judge_23 rfl (by decide) ?_
    exact H0
  · exact absurd rfl hc5
theorem eX4_count_n {a : Int32} (h : jwi a (nI 0) (nI 7) = false) : Mx mX4_count [.ref 0, .int a] (rM F G) (some (.int (jfd 0))) (rMn F G 0) := by
  refine mx_of (L := [some (.ref 0), some (.int a), none, none]) (by decide) (fun _ => rfl) (fun _ => Nat.le_of_ble_eq_true rfl) ?_
  refine fx_iconst (v := nI 0) dX4_count_0 (by decide) ?_
  refine fs_istore_n_2 dX4_count_1 rfl (by decide) ?_
  refine fx_iload_n dX4_count_2 rfl rfl ?_
  refine fx_tableOut (tgt := 151) dX4_count_3 (jwi_out (k := 7) (by decide) h) (by decide) ?_
  refine fx_aload_n dX4_count_151 rfl rfl ?_
  refine fx_ldc dX4_count_152 qX4_69 ?_
  refine fx_callVv dX4_count_154 vX4_finding lX4_88 (by decide) rfl (Nat.le_of_ble_eq_true rfl) (eX4_finding (k := 0) (by decide) (by decide)) rfl ?_
  exact fx_ireq dX4_count_157 rfl rfl rfl rfl
theorem eX4_count_y {j : Nat} (hV : jW (G 1) n) (hj : j ≤ 7) : Mx mX4_count [.ref 0, .int (nI j)] (rM F G) (some (.int (if j = 0 then G 1 0 else if j = 1 then nI n else if j = 2 then nI (jp (jsN (G 1) n)) else if j = 3 then nI (jnets (G 1) 64) else if j = 4 then jaw (G 1) n else if j = 5 then F 10 else if j = 6 then G 1 3 else nI (jsp (G 1) 10)))) (rM F G) := by
  refine mx_of (L := [some (.ref 0), some (.int (nI j)), none, none]) (by decide) (fun _ => rfl) (fun _ => Nat.le_of_ble_eq_true rfl) ?_
  have hn8 := hV.2.1
  have H4 : ∀ (k b : Nat), b + k = n → Fx mX4_count (some (.int (jaw (G 1) n)), rM F G) 77 [some (.ref 0), some (.int (nI 4)), some (.int (jaw (G 1) b)), some (.int (nI b))] [] (rM F G) := by
    intro k
    induction k with
    | zero =>
      intro b hb
      have hb' : b = n := by omega
      subst hb'
      refine fx_iload_n dX4_count_77 rfl rfl ?_
      refine fx_aload_n dX4_count_78 rfl rfl ?_
      refine fx_get dX4_count_79 kX4_9 rfl rfl ?_
      refine fx_iconst (v := nI 2) dX4_count_82 (by decide) ?_
      refine fx_iald dX4_count_83 rfl (vp_in_nI (by decide) (by decide)) ?_
      rw [nI_clamp (n := 2) (by decide), hV.1]
      refine fx_icmp_ge (tgt := 102) dX4_count_84 (by decide) rfl (fun hc84 => ?_) (fun hc84 => ?_)
      · refine fx_iload_n dX4_count_102 rfl rfl ?_
        exact fx_ireq dX4_count_103 rfl rfl rfl rfl
      · exact absurd (Int32.le_refl _) hc84
    | succ k ih =>
      intro b hb
      have ih1 := ih (b + 1) (by omega)
      refine fx_iload_n dX4_count_77 rfl rfl ?_
      refine fx_aload_n dX4_count_78 rfl rfl ?_
      refine fx_get dX4_count_79 kX4_9 rfl rfl ?_
      refine fx_iconst (v := nI 2) dX4_count_82 (by decide) ?_
      refine fx_iald dX4_count_83 rfl (vp_in_nI (by decide) (by decide)) ?_
      rw [nI_clamp (n := 2) (by decide), hV.1]
      refine fx_icmp_ge (tgt := 102) dX4_count_84 (by decide) rfl (fun hc84 => ?_) (fun hc84 => ?_)
      · exact absurd hc84 (nI_ge (by omega) (by omega))
      · refine fx_iload_n dX4_count_87 rfl rfl ?_
        refine fx_aload_n dX4_count_88 rfl rfl ?_
        refine fx_iload_n dX4_count_89 rfl rfl ?_
        refine fx_iconst (v := nI 3) dX4_count_90 (by decide) ?_
        refine fx_callVv dX4_count_91 vX4_bellIs lX4_101 (by decide) rfl (Nat.le_of_ble_eq_true rfl) (eM_bell (by omega) (by decide)) rfl ?_
        refine fx_iadd dX4_count_94 ?_
        refine fs_istore_n_2 dX4_count_95 rfl (by decide) ?_
        refine fs_iinc_3 (w := nI 1) dX4_count_96 (by decide) rfl (by decide) ?_
        refine fx_goto (tgt := 77) dX4_count_99 (by decide) ?_
        rw [nI_add]
        exact ih1
  have H7 : ∀ (k s : Nat), s + k = 10 → Fx mX4_count (some (.int (nI (jsp (G 1) 10))), rM F G) 118 [some (.ref 0), some (.int (nI 7)), some (.int (nI (jsp (G 1) s))), some (.int (nI s))] [] (rM F G) := by
    intro k
    induction k with
    | zero =>
      intro s hs
      have hs' : s = 10 := by omega
      subst hs'
      refine fx_iload_n dX4_count_118 rfl rfl ?_
      refine fx_bipush (v := nI 10) dX4_count_119 (by decide) ?_
      refine fx_icmp_ge (tgt := 149) dX4_count_121 (by decide) rfl (fun hc121 => ?_) (fun hc121 => ?_)
      · refine fx_iload_n dX4_count_149 rfl rfl ?_
        exact fx_ireq dX4_count_150 rfl rfl rfl rfl
      · exact absurd (Int32.le_refl _) hc121
    | succ k ih =>
      intro s hs
      have ih1 := ih (s + 1) (by omega)
      have e1 : jsp (G 1) (s + 1) = jsp (G 1) s + (if G 1 (4 + s) < 0 then 0 else 1) := rfl
      rw [e1] at ih1
      refine fx_iload_n dX4_count_118 rfl rfl ?_
      refine fx_bipush (v := nI 10) dX4_count_119 (by decide) ?_
      refine fx_icmp_ge (tgt := 149) dX4_count_121 (by decide) rfl (fun hc121 => ?_) (fun hc121 => ?_)
      · exact absurd hc121 (nI_ge (by omega) (by omega))
      · refine fx_iload_n dX4_count_124 rfl rfl ?_
        refine fx_aload_n dX4_count_125 rfl rfl ?_
        refine fx_get dX4_count_126 kX4_9 rfl rfl ?_
        refine fx_iconst (v := nI 4) dX4_count_129 (by decide) ?_
        refine fx_iload_n dX4_count_130 rfl rfl ?_
        refine fx_iadd dX4_count_131 ?_
        rw [nI_add]
        refine fx_iald dX4_count_132 rfl (vp_in_nI (by omega) (by omega)) ?_
        rw [nI_clamp (by omega)]
        refine fx_if_ge (tgt := 140) dX4_count_133 (by decide) rfl (fun hc133 => ?_) (fun hc133 => ?_)
        · refine fx_iconst (v := nI 1) dX4_count_140 (by decide) ?_
          refine fx_iadd dX4_count_141 ?_
          rw [nI_add]
          refine fs_istore_n_2 dX4_count_142 rfl (by decide) ?_
          refine fs_iinc_3 (w := nI 1) dX4_count_143 (by decide) rfl (by decide) ?_
          refine fx_goto (tgt := 118) dX4_count_146 (by decide) ?_
          rw [nI_add]
          first | (rw [if_neg (Int32.not_lt.mpr hc133)] at ih1; exact ih1) | (rw [if_pos (Int32.not_le.mp hc133)] at ih1; exact ih1)
        · refine fx_iconst (v := nI 0) dX4_count_136 (by decide) ?_
          refine fx_goto (tgt := 141) dX4_count_137 (by decide) ?_
          refine fx_iadd dX4_count_141 ?_
          rw [nI_add]
          refine fs_istore_n_2 dX4_count_142 rfl (by decide) ?_
          refine fs_iinc_3 (w := nI 1) dX4_count_143 (by decide) rfl (by decide) ?_
          refine fx_goto (tgt := 118) dX4_count_146 (by decide) ?_
          rw [nI_add]
          first | (rw [if_neg (Int32.not_lt.mpr hc133)] at ih1; exact ih1) | (rw [if_pos (Int32.not_le.mp hc133)] at ih1; exact ih1)
  rcases (show j = 0 ∨ j = 1 ∨ j = 2 ∨ j = 3 ∨ j = 4 ∨ j = 5 ∨ j = 6 ∨ j = 7 by omega) with rfl | rfl | rfl | rfl | rfl | rfl | rfl | rfl
  · refine fx_iconst (v := nI 0) dX4_count_0 (by decide) ?_
    refine fs_istore_n_2 dX4_count_1 rfl (by decide) ?_
    refine fx_iload_n dX4_count_2 rfl rfl ?_
    refine fx_tableIn (tgt := 48) dX4_count_3 (by decide) (by decide) rfl (by decide) ?_
    refine fx_aload_n dX4_count_48 rfl rfl ?_
    refine fx_get dX4_count_49 kX4_9 rfl rfl ?_
    refine fx_iconst (v := nI 0) dX4_count_52 (by decide) ?_
    refine fx_iald dX4_count_53 rfl (vp_in_nI (by decide) (by decide)) ?_
    rw [nI_clamp (n := 0) (by decide)]
    exact fx_ireq dX4_count_54 rfl rfl rfl rfl
  · refine fx_iconst (v := nI 0) dX4_count_0 (by decide) ?_
    refine fs_istore_n_2 dX4_count_1 rfl (by decide) ?_
    refine fx_iload_n dX4_count_2 rfl rfl ?_
    refine fx_tableIn (tgt := 55) dX4_count_3 (by decide) (by decide) rfl (by decide) ?_
    refine fx_aload_n dX4_count_55 rfl rfl ?_
    refine fx_get dX4_count_56 kX4_9 rfl rfl ?_
    refine fx_iconst (v := nI 2) dX4_count_59 (by decide) ?_
    refine fx_iald dX4_count_60 rfl (vp_in_nI (by decide) (by decide)) ?_
    rw [nI_clamp (n := 2) (by decide)]
    exact fx_ireq dX4_count_61 rfl rfl hV.1 rfl
  · refine fx_iconst (v := nI 0) dX4_count_0 (by decide) ?_
    refine fs_istore_n_2 dX4_count_1 rfl (by decide) ?_
    refine fx_iload_n dX4_count_2 rfl rfl ?_
    refine fx_tableIn (tgt := 62) dX4_count_3 (by decide) (by decide) rfl (by decide) ?_
    refine fx_aload_n dX4_count_62 rfl rfl ?_
    refine fx_callVv dX4_count_63 vX4_caughtNow lX4_178 (by decide) rfl (Nat.le_of_ble_eq_true rfl) (eX4_caughtNow hV) rfl ?_
    refine fx_callSv dX4_count_66 sX4_bits lX4_182 (by decide) (Nat.le_of_ble_eq_true rfl) (eX4_bits (jsN_256 hn8)) rfl ?_
    exact fx_ireq dX4_count_69 rfl rfl rfl rfl
  · refine fx_iconst (v := nI 0) dX4_count_0 (by decide) ?_
    refine fs_istore_n_2 dX4_count_1 rfl (by decide) ?_
    refine fx_iload_n dX4_count_2 rfl rfl ?_
    refine fx_tableIn (tgt := 70) dX4_count_3 (by decide) (by decide) rfl (by decide) ?_
    refine fx_aload_n dX4_count_70 rfl rfl ?_
    refine fx_callVv dX4_count_71 vX4_nets lX4_185 (by decide) rfl (Nat.le_of_ble_eq_true rfl) (eX4_nets hV) rfl ?_
    exact fx_ireq dX4_count_74 rfl rfl rfl rfl
  · refine fx_iconst (v := nI 0) dX4_count_0 (by decide) ?_
    refine fs_istore_n_2 dX4_count_1 rfl (by decide) ?_
    refine fx_iload_n dX4_count_2 rfl rfl ?_
    refine fx_tableIn (tgt := 75) dX4_count_3 (by decide) (by decide) rfl (by decide) ?_
    refine fx_iconst (v := nI 0) dX4_count_75 (by decide) ?_
    refine fs_istore_n_3 dX4_count_76 rfl (by decide) ?_
    exact H4 n 0 (by omega)
  · refine fx_iconst (v := nI 0) dX4_count_0 (by decide) ?_
    refine fs_istore_n_2 dX4_count_1 rfl (by decide) ?_
    refine fx_iload_n dX4_count_2 rfl rfl ?_
    refine fx_tableIn (tgt := 104) dX4_count_3 (by decide) (by decide) rfl (by decide) ?_
    refine fx_aload_n dX4_count_104 rfl rfl ?_
    refine fx_get dX4_count_105 kX4_258 rfl rfl ?_
    exact fx_ireq dX4_count_108 rfl rfl rfl rfl
  · refine fx_iconst (v := nI 0) dX4_count_0 (by decide) ?_
    refine fs_istore_n_2 dX4_count_1 rfl (by decide) ?_
    refine fx_iload_n dX4_count_2 rfl rfl ?_
    refine fx_tableIn (tgt := 109) dX4_count_3 (by decide) (by decide) rfl (by decide) ?_
    refine fx_aload_n dX4_count_109 rfl rfl ?_
    refine fx_get dX4_count_110 kX4_9 rfl rfl ?_
    refine fx_iconst (v := nI 3) dX4_count_113 (by decide) ?_
    refine fx_iald dX4_count_114 rfl (vp_in_nI (by decide) (by decide)) ?_
    rw [nI_clamp (n := 3) (by decide)]
    exact fx_ireq dX4_count_115 rfl rfl rfl rfl
  · refine fx_iconst (v := nI 0) dX4_count_0 (by decide) ?_
    refine fs_istore_n_2 dX4_count_1 rfl (by decide) ?_
    refine fx_iload_n dX4_count_2 rfl rfl ?_
    refine fx_tableIn (tgt := 116) dX4_count_3 (by decide) (by decide) rfl (by decide) ?_
    refine fx_iconst (v := nI 0) dX4_count_116 (by decide) ?_
    refine fs_istore_n_3 dX4_count_117 rfl (by decide) ?_
    exact H7 10 0 (by omega)
theorem eX4_feed_n {x a : Int32} (h : jwi a (nI 1) (nI 4) = false) : Mx mX4_feed [.ref 0, .int x, .int a] (rM F G) (some (.int (jfd 0))) (rMn F G 0) := by
  refine mx_of (L := [some (.ref 0), some (.int x), some (.int a), none]) (by decide) (fun _ => rfl) (fun _ => Nat.le_of_ble_eq_true rfl) ?_
  refine fx_iload_n dX4_feed_0 rfl rfl ?_
  refine fx_iconst (v := nI 1) dX4_feed_1 (by decide) ?_
  refine fx_iconst (v := nI 4) dX4_feed_2 (by decide) ?_
  refine fx_callSv dX4_feed_3 sX4_within lX4_74 (by decide) (Nat.le_of_ble_eq_true rfl) eX4_within rfl ?_
  refine fx_if_ne (tgt := 16) dX4_feed_6 (by decide) rfl (fun hc6 => ?_) (fun hc6 => ?_)
  · exact jtf h (nI_ne0' hc6)
  · refine fx_aload_n dX4_feed_9 rfl rfl ?_
    refine fx_ldc dX4_feed_10 qX4_69 ?_
    refine fx_callVv dX4_feed_12 vX4_finding lX4_88 (by decide) rfl (Nat.le_of_ble_eq_true rfl) (eX4_finding (k := 0) (by decide) (by decide)) rfl ?_
    exact fx_ireq dX4_feed_15 rfl rfl rfl rfl
theorem eX4_feed_f {x : Int32} {k t : Nat} (h : jwi (nI k) (nI 1) (nI 4) = true) (hk : k ≤ 4) (ht : F 10 = nI t) (ht2 : t ≤ 120) (hf : 120 < t + k) : Mx mX4_feed [.ref 0, .int x, .int (nI k)] (rM F G) (some (.int (jfd 1))) (rMn F G 1) := by
  refine mx_of (L := [some (.ref 0), some (.int x), some (.int (nI k)), none]) (by decide) (fun _ => rfl) (fun _ => Nat.le_of_ble_eq_true rfl) ?_
  refine fx_iload_n dX4_feed_0 rfl rfl ?_
  refine fx_iconst (v := nI 1) dX4_feed_1 (by decide) ?_
  refine fx_iconst (v := nI 4) dX4_feed_2 (by decide) ?_
  refine fx_callSv dX4_feed_3 sX4_within lX4_74 (by decide) (Nat.le_of_ble_eq_true rfl) eX4_within rfl ?_
  rw [h]
  refine fx_if_ne (tgt := 16) dX4_feed_6 (by decide) rfl (fun hc6 => ?_) (fun hc6 => ?_)
  · refine fx_aload_n dX4_feed_16 rfl rfl ?_
    refine fx_get dX4_feed_17 kX4_258 rfl rfl ?_
    rw [ht]
    refine fx_iload_n dX4_feed_20 rfl rfl ?_
    refine fx_iadd dX4_feed_21 ?_
    rw [nI_add]
    refine fx_bipush (v := nI 120) dX4_feed_22 (by decide) ?_
    refine fx_icmp_le (tgt := 34) dX4_feed_24 (by decide) rfl (fun hc24 => ?_) (fun hc24 => ?_)
    · exact absurd hc24 (nI_ge hf (by omega))
    · refine fx_aload_n dX4_feed_27 rfl rfl ?_
      refine fx_ldc dX4_feed_28 qX4_107 ?_
      refine fx_callVv dX4_feed_30 vX4_finding lX4_88 (by decide) rfl (Nat.le_of_ble_eq_true rfl) (eX4_finding (k := 1) (by decide) (by decide)) rfl ?_
      exact fx_ireq dX4_feed_33 rfl rfl rfl rfl
  · exact absurd hc6 (by decide)
theorem eX4_feed_y {x : Int32} {k t : Nat} (h : jwi (nI k) (nI 1) (nI 4) = true) (hk : k ≤ 4) (ht : F 10 = nI t) (hf : t + k ≤ 120) : Mx mX4_feed [.ref 0, .int x, .int (nI k)] (rM F G) (some (.int (nI (t + k)))) (rM (upd F 10 (nI (t + k))) (ga G 8 (jfd4 (G 8) t x k))) := by
  refine mx_of (L := [some (.ref 0), some (.int x), some (.int (nI k)), none]) (by decide) (fun _ => rfl) (fun _ => Nat.le_of_ble_eq_true rfl) ?_
  generalize hT : jfd4 (G 8) t x k = T
  have E : Fx mX4_feed (some (.int (nI (t + k))), rM (upd F 10 (nI (t + k))) (ga G 8 T)) 38 [some (.ref 0), some (.int x), some (.int (nI k)), some (.int (-1))] [] (rM (upd F 10 (nI (t + k))) (ga G 8 T)) := by
    refine fx_iload_n dX4_feed_38 rfl rfl ?_
    refine fx_if_lt (tgt := 77) dX4_feed_39 (by decide) rfl (fun hc39 => ?_) (fun hc39 => ?_)
    · refine fx_aload_n dX4_feed_77 rfl rfl ?_
      refine fx_get dX4_feed_78 kX4_258 rfl rfl ?_
      exact fx_ireq dX4_feed_81 rfl rfl rfl rfl
    · exact absurd (by decide) hc39
  have H : ∀ (r i : Nat), i + (r + 1) = k → ∀ A : Nat → Int32, jfd4 A (t + i) x (r + 1) = T → Fx mX4_feed (some (.int (nI (t + k))), rM (upd F 10 (nI (t + k))) (ga G 8 T)) 38 [some (.ref 0), some (.int x), some (.int (nI k)), some (.int (nI r))] [] (rM (upd F 10 (nI (t + i))) (ga G 8 A)) := by
    intro r
    induction r with
    | zero =>
      intro i hi A e
      have e' : upd A (t + i) ((x >>> (nI (8 * 0) &&& 31)) &&& nI 255) = T := e
      refine fx_iload_n dX4_feed_38 rfl rfl ?_
      refine fx_if_lt (tgt := 77) dX4_feed_39 (by decide) rfl (fun hc39 => ?_) (fun hc39 => ?_)
      · exact absurd hc39 (nI_pos (by omega))
      · refine fx_aload_n dX4_feed_42 rfl rfl ?_
        refine fx_get dX4_feed_43 kX4_31 rfl rfl ?_
        refine fx_aload_n dX4_feed_46 rfl rfl ?_
        refine fx_get dX4_feed_47 kX4_258 rfl rfl ?_
        rw [pk_us]
        refine fx_iload_n dX4_feed_50 rfl rfl ?_
        refine fx_bipush (v := nI 8) dX4_feed_51 (by decide) ?_
        refine fx_iload_n dX4_feed_53 rfl rfl ?_
        refine fx_imul dX4_feed_54 ?_
        rw [pk_mul]
        refine fx_ishr dX4_feed_55 ?_
        refine fx_sipush (v := nI 255) dX4_feed_56 (by decide) ?_
        refine fx_iand dX4_feed_59 ?_
        refine fx_iast dX4_feed_60 rfl (vp_in_nI (by omega) (by omega)) (w4_8 ..) ?_
        rw [nI_clamp (by omega), ga_s, ga_ga, e']
        refine fx_aload_n dX4_feed_61 rfl rfl ?_
        refine fx_dup dX4_feed_62 rfl ?_
        refine fx_get dX4_feed_63 kX4_258 rfl rfl ?_
        refine fx_iconst (v := nI 1) dX4_feed_66 (by decide) ?_
        refine fx_iadd dX4_feed_67 ?_
        rw [pk_us, nI_add]
        refine fx_put dX4_feed_68 kX4_258 rfl (Nat.le_of_ble_eq_true rfl) (fun _ => rfl) rfl rfl (u4_10 ..) ?_
        rw [upd_upd]
        refine fs_iinc_3 (w := (-1)) dX4_feed_71 (by decide) rfl (by decide) ?_
        refine fx_goto (tgt := 38) dX4_feed_74 (by decide) ?_
        rw [show t + i + 1 = t + k by omega]
        exact E
    | succ r ih =>
      intro i hi A e
      have ih1 := ih (i + 1) (by omega) _ (show jfd4 (upd A (t + i) ((x >>> (nI (8 * (r + 1)) &&& 31)) &&& nI 255)) (t + (i + 1)) x (r + 1) = T from e)
      refine fx_iload_n dX4_feed_38 rfl rfl ?_
      refine fx_if_lt (tgt := 77) dX4_feed_39 (by decide) rfl (fun hc39 => ?_) (fun hc39 => ?_)
      · exact absurd hc39 (nI_pos (by omega))
      · refine fx_aload_n dX4_feed_42 rfl rfl ?_
        refine fx_get dX4_feed_43 kX4_31 rfl rfl ?_
        refine fx_aload_n dX4_feed_46 rfl rfl ?_
        refine fx_get dX4_feed_47 kX4_258 rfl rfl ?_
        rw [pk_us]
        refine fx_iload_n dX4_feed_50 rfl rfl ?_
        refine fx_bipush (v := nI 8) dX4_feed_51 (by decide) ?_
        refine fx_iload_n dX4_feed_53 rfl rfl ?_
        refine fx_imul dX4_feed_54 ?_
        rw [pk_mul]
        refine fx_ishr dX4_feed_55 ?_
        refine fx_sipush (v := nI 255) dX4_feed_56 (by decide) ?_
        refine fx_iand dX4_feed_59 ?_
        refine fx_iast dX4_feed_60 rfl (vp_in_nI (by omega) (by omega)) (w4_8 ..) ?_
        rw [nI_clamp (by omega), ga_s, ga_ga]
        refine fx_aload_n dX4_feed_61 rfl rfl ?_
        refine fx_dup dX4_feed_62 rfl ?_
        refine fx_get dX4_feed_63 kX4_258 rfl rfl ?_
        refine fx_iconst (v := nI 1) dX4_feed_66 (by decide) ?_
        refine fx_iadd dX4_feed_67 ?_
        rw [pk_us, nI_add]
        refine fx_put dX4_feed_68 kX4_258 rfl (Nat.le_of_ble_eq_true rfl) (fun _ => rfl) rfl rfl (u4_10 ..) ?_
        rw [upd_upd]
        refine fs_iinc_3 (w := (-1)) dX4_feed_71 (by decide) rfl (by decide) ?_
        refine fx_goto (tgt := 38) dX4_feed_74 (by decide) ?_
        rw [pk_m1]
        exact ih1
  obtain ⟨k', hk'⟩ : ∃ k', k = k' + 1 := by
    cases k with
    | zero => exact absurd h (by decide)
    | succ k' => exact ⟨k', rfl⟩
  subst hk'
  have H0 := H k' 0 (by omega) (G 8) (by rw [Nat.add_zero]; exact hT)
  rw [show t + 0 = t from rfl, ← ht, upd_id, ga_id] at H0
  refine fx_iload_n dX4_feed_0 rfl rfl ?_
  refine fx_iconst (v := nI 1) dX4_feed_1 (by decide) ?_
  refine fx_iconst (v := nI 4) dX4_feed_2 (by decide) ?_
  refine fx_callSv dX4_feed_3 sX4_within lX4_74 (by decide) (Nat.le_of_ble_eq_true rfl) eX4_within rfl ?_
  rw [h]
  refine fx_if_ne (tgt := 16) dX4_feed_6 (by decide) rfl (fun hc6 => ?_) (fun hc6 => ?_)
  · refine fx_aload_n dX4_feed_16 rfl rfl ?_
    refine fx_get dX4_feed_17 kX4_258 rfl rfl ?_
    rw [ht]
    refine fx_iload_n dX4_feed_20 rfl rfl ?_
    refine fx_iadd dX4_feed_21 ?_
    rw [nI_add]
    refine fx_bipush (v := nI 120) dX4_feed_22 (by decide) ?_
    refine fx_icmp_le (tgt := 34) dX4_feed_24 (by decide) rfl (fun hc24 => ?_) (fun hc24 => ?_)
    · refine fx_iload_n dX4_feed_34 rfl rfl ?_
      refine fx_iconst (v := nI 1) dX4_feed_35 (by decide) ?_
      refine fx_isub dX4_feed_36 ?_
      rw [pk_sub (by omega), Nat.add_sub_cancel]
      refine fs_istore_n_3 dX4_feed_37 rfl (by decide) ?_
      exact H0
    · exact absurd (nI_le hf (by decide)) hc24
  · exact absurd hc6 (by decide)
end
