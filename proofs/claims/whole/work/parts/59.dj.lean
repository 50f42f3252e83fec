/-! ===== pair: text ===== -/
set_option maxRecDepth 100000
theorem jneg : ∀ s, s ≤ 120 → ((-1) - nI s : Int32) < 0 := by decide +kernel
theorem qC_id (F : Nat → Nat → Int32) : qC F (F 25 2) (F 25 3) (F 25 4) (F 25 5) (F 25 6) = F := by
  funext p j
  unfold qC
  by_cases hp : p = 25
  · subst hp
    rw [if_pos rfl]
    split
    · next h => rw [h]
    · split
      · next h => rw [h]
      · split
        · next h => rw [h]
        · split
          · next h => rw [h]
          · split
            · next h => rw [h]
            · rfl
  · rw [if_neg hp]
section
variable {F4 : Nat → Int32} {G4 : Nat → Nat → Int32} {F : Nat → Nat → Int32} {N : Nat → Nat → Int64} {G : Nat → Nat → Int32}
theorem jR_A {a b c d w m n : Int32} (R : jR F4 G4 F N G) : jR (qM F4 a b c d w m n) G4 F N G := by
  have c := R.2.2.2.1
  exact jR_o R (fun _ _ _ _ _ _ q => q) rfl rfl rfl c.2.2 c.1 (jRr_4 R.2.2.2.2 rfl rfl rfl rfl rfl rfl rfl)
theorem jR_D (R : jR F4 G4 F N G) : jR (upd F4 10 (nI 0)) G4 (f2 F 25 1 (nI 0)) N G := by
  have c := R.2.2.2.1
  refine jR_o R (fun p V n h t hp q => jI_f0 q (by rcases hp with rfl | rfl | rfl <;> decide)) (pk_un (by decide)) rfl rfl c.2.2 c.1 ?_
  obtain ⟨⟨a1, a2⟩, ⟨b1, b2⟩, ⟨z, z1, z2, z3, z4⟩, d1, d2⟩ := R.2.2.2.2
  refine ⟨⟨by rw [f2_n _ _ (Or.inl (by decide)), pk_un (by decide)]; exact a1, by rw [pk_un (by decide)]; exact a2⟩, ⟨b1, b2⟩, ⟨0, by decide, pk_us, f2_s _ _ _ _, fun i hi => absurd hi (Nat.not_lt_zero i)⟩, d1, fun s hs => ?_⟩
  rw [f2_n _ _ (Or.inl (by omega)), f2_n _ _ (Or.inl (by omega))]; exact d2 s hs
theorem jR_qC {a b c d e : Int32} (R : jR F4 G4 F N G) : jR F4 G4 (qC F a b c d e) N G := by
  have c := R.2.2.2.1
  refine jR_o R (fun p V n h t hp q => jI_else q (fun _ => qC_o (by rcases hp with rfl | rfl | rfl <;> decide)) (fun _ => rfl) (fun _ _ _ => rfl)) rfl rfl rfl c.2.2 c.1 ?_
  obtain ⟨⟨a1, a2⟩, ⟨b1, b2⟩, ⟨z, z1, z2, z3, z4⟩, d1, d2⟩ := R.2.2.2.2
  refine ⟨⟨by rw [qC_o (by decide)]; exact a1, a2⟩, ⟨b1, b2⟩, ⟨z, z1, z2, r1.trans z3, z4⟩, d1, fun s hs => ?_⟩
  rw [qC_o (by omega), qC_o (by omega)]; exact d2 s hs
theorem jR_E {V : Nat → Int32} {n t : Nat} {h : Int32} (R : jR F4 G4 F N G) : jR F4 G4 (pF F 9 V n h) (pN N 9 V t) (pG G 9 V) := by
  have q := jR_t (V := V) (n := n) (t := t) (h := h) (A := G4 3) R R.2.2.2.1.2.2 (fun _ _ => rfl)
  rw [ga_id] at q
  exact q
theorem P_text (R : jR F4 G4 F N G) : jP mX4_text mX3_text [] F4 G4 F N G := by
  have R0 := R
  obtain ⟨⟨n, t, hW, hS, hH, ht, hI⟩, ⟨V2, n2, h2, t2, i2⟩, -, ⟨c1, c2, c3⟩, -, -, ⟨z, z1, z2, z3, z4⟩, -⟩ := R
  generalize hBe : G4 8 = B at z4
  have hB : jBy B z := ⟨z1, fun i hi => (z4 i hi).2⟩
  have hb : ∀ i, i < z → G 26 i = B i := fun i hi => (z4 i hi).1
  have hs0 : sk B z 0 ≤ z := sk_le (Nat.zero_le z)
  have hz' : pF F 9 (G4 1) n (G4 1 0) 25 1 = nI z := (pF_o (by decide)).trans z3
  have hb' : ∀ i, i < z → pG G 9 (G4 1) 26 i = B i := fun i hi => by rw [pG_o (by decide)]; exact hb i hi
  have eN : Mx mX4_next [.ref 0] (rM (qM F4 (F4 11) (nI 0) (F4 13) (F4 14) (nI 0) (nI 0) (nI n)) G4) none (sN F4 G4 B z (sk B z 0) false (nI 0) (nI n)) := by
    have q := eX4_next (F := F4) (G := G4) (z := z) (e := 0) (a := F4 11) (c := F4 13) (d := F4 14) (w := nI 0) (m := nI 0) (n := nI n) z2 (by rw [hBe]; exact hB) (Nat.zero_le z)
    rw [hBe] at q
    exact q
  have eA := eX1_advance (F := pF F 9 (G4 1) n (G4 1 0)) (N := pN N 9 (G4 1) 0) (G := pG G 9 (G4 1)) (e := 0) (a := F 25 2) (b := F 25 3) (d := F 25 5) (f := (-1)) hz' hb' hB (Nat.zero_le z)
  generalize sk B z 0 = s0 at *
  obtain ⟨w1, s1, x1, x2, x3, x4, nb1, n1, V1, d1, p1, p2, p3, p4, p5, p6⟩ := jItem (F4 := F4) (G4 := G4) (F := F) (N := N) (G := G) (m := 0) (n := n) (V := G4 1) (h := G4 1 0) (t := 0) (d := nv B z s0 (F 25 5)) z2 hBe z3 hb hB hs0 (by decide) nv_h hW
  obtain ⟨i1, i2', i3, i4, i5⟩ := it4_e (I := G4 10) (k := 0) (x1 := x1) (x2 := x2) (x3 := x3) (x4 := x4)
  obtain ⟨w', s', m', I', V', n', d', nb', q1, q2, q3, q4⟩ := jLoop (F4 := F4) (G4 := G4) (F := F) (N := N) (G := G) (h := G4 1 0) (t := 0) z2 hBe z3 hb hB hW z w1 s1 1 (it4 (G4 10) 0 x1 x2 x3 x4) V1 n1 d1 nb1 (fun _ => by omega) p1 (by decide) p3 (fun e => ⟨⟨G4 1, n, ⟨rfl, rfl⟩, by rw [i1, i2', i3, i4]; exact (p4 e).1⟩, (p4 e).2, by have := p2 e; omega⟩)
  -- the reference, from its entry to behind the items
  have Ref : ∀ out : Option Value × zH, (∀ F' G', (rM F' G').length = out.2.length) → Fx mX4_text out 74 [some (.ref 0), none, none] [] (rM (qM F4 (nI s') (nI (en B z s')) (nI (min 3 (kd B z s'))) (nI (va B z s')) (jB w') (nI m') nb') (ga G4 10 I')) → Fx mX4_text out 0 [some (.ref 0), none, none] [] (rM F4 G4) := by
    intro out hout K
    have K33 := q3 out hout K
    rw [show rM F4 G4 = rM (qM F4 (F4 11) (F4 12) (F4 13) (F4 14) (F4 15) (F4 18) (F4 19)) G4 by rw [qM_id]]
    refine fx_aload_n dX4_text_0 rfl rfl ?_
    refine fx_iconst (v := nI 0) dX4_text_1 (by decide) ?_
    refine fx_put dX4_text_2 kX4_262 rfl (Nat.le_of_ble_eq_true rfl) (fun _ => rfl) rfl rfl (u4_12 ..) ?_
    rw [qM_12]
    refine fx_aload_n dX4_text_5 rfl rfl ?_
    refine fx_iconst (v := nI 0) dX4_text_6 (by decide) ?_
    refine fx_put dX4_text_7 kX4_284 rfl (Nat.le_of_ble_eq_true rfl) (fun _ => rfl) rfl rfl (u4_15 ..) ?_
    rw [qM_15]
    refine fx_aload_n dX4_text_10 rfl rfl ?_
    refine fx_iconst (v := nI 0) dX4_text_11 (by decide) ?_
    refine fx_put dX4_text_12 kX4_294 rfl (Nat.le_of_ble_eq_true rfl) (fun _ => rfl) rfl rfl (u4_18 ..) ?_
    rw [qM_18]
    refine fx_aload_n dX4_text_15 rfl rfl ?_
    refine fx_aload_n dX4_text_16 rfl rfl ?_
    refine fx_get dX4_text_17 kX4_9 rfl rfl ?_
    refine fx_iconst (v := nI 2) dX4_text_20 (by decide) ?_
    refine fx_iald dX4_text_21 rfl (vp_in_nI (by decide) (by decide)) ?_
    rw [nI_clamp (n := 2) (by decide), hW.1]
    refine fx_put dX4_text_22 kX4_304 rfl (Nat.le_of_ble_eq_true rfl) (fun _ => rfl) rfl rfl (u4_19 ..) ?_
    rw [qM_19]
    refine fx_aload_n dX4_text_25 rfl rfl ?_
    refine fx_callVn dX4_text_26 vX4_next lX4_287 (by decide) rfl (Nat.le_of_ble_eq_true rfl) eN rfl ?_
    refine fx_aload_n dX4_text_29 rfl rfl ?_
    refine fx_callVn dX4_text_30 vX4_readItem lX4_330 (by decide) rfl (Nat.le_of_ble_eq_true rfl) p5 rfl ?_
    exact K33
  -- the class, from readInto's entry to behind the items
  have Cls : ∀ out : Option Value × zH, (∀ F' N' G', (rC F' N' G').length = out.2.length) → Fx mX1_readInto out 75 [some (.ref 25), some (.ref 9), some (.int (nI m')), none, none] [] (tW F N G B z s' d' (ft w' s') V' n' (G4 1 0) 0) → Fx mX1_readInto out 0 [some (.ref 25), some (.ref 9), none, none, none] [] (jC F N G 9 (G4 1) n (G4 1 0) 0) := by
    intro out hout K
    have K37 := q4 out hout K
    rw [show jC F N G 9 (G4 1) n (G4 1 0) 0 = rC (qC (pF F 9 (G4 1) n (G4 1 0)) (F 25 2) (F 25 3) (F 25 4) (F 25 5) (F 25 6)) (pN N 9 (G4 1) 0) (pG G 9 (G4 1)) from by
      have e := qC_id (pF F 9 (G4 1) n (G4 1 0))
      rw [show ∀ j, pF F 9 (G4 1) n (G4 1 0) 25 j = F 25 j from fun j => pF_o (by decide), show pF F 9 (G4 1) n (G4 1 0) 25 3 = F 25 3 from pF_o (by decide), show pF F 9 (G4 1) n (G4 1 0) 25 4 = F 25 4 from pF_o (by decide), show pF F 9 (G4 1) n (G4 1 0) 25 5 = F 25 5 from pF_o (by decide), show pF F 9 (G4 1) n (G4 1 0) 25 6 = F 25 6 from pF_o (by decide)] at e
      rw [e]]
    refine fx_aload_n dX1_readInto_0 rfl rfl ?_
    refine fx_iconst (v := (-1)) dX1_readInto_1 (by decide) ?_
    refine fx_put dX1_readInto_2 kX1_19 rfl (Nat.le_of_ble_eq_true rfl) (fun _ => rfl) rfl rfl u1_6 ?_
    rw [qC_6]
    refine fx_aload_n dX1_readInto_5 rfl rfl ?_
    refine fx_iconst (v := nI 0) dX1_readInto_6 (by decide) ?_
    refine fx_put dX1_readInto_7 kX1_22 rfl (Nat.le_of_ble_eq_true rfl) (fun _ => rfl) rfl rfl u1_4 ?_
    rw [qC_4]
    refine fx_aload_n dX1_readInto_10 rfl rfl ?_
    refine fx_callVn dX1_readInto_11 vX1_advance lX1_25 (by decide) rfl (Nat.le_of_ble_eq_true rfl) eA rfl ?_
    refine fx_iconst (v := nI 0) dX1_readInto_14 (by decide) ?_
    refine fs_istore_n_2 dX1_readInto_15 rfl (by decide) ?_
    refine fx_iconst (v := nI 1) dX1_readInto_16 (by decide) ?_
    refine fs_istore_n_3 dX1_readInto_17 rfl (by decide) ?_
    refine fx_iconst (v := nI 0) dX1_readInto_18 (by decide) ?_
    refine fs_istore_4 dX1_readInto_19 rfl (by decide) ?_
    refine fx_iload dX1_readInto_21 rfl ?_
    refine fx_bipush (v := nI 120) dX1_readInto_23 (by decide) ?_
    refine fx_icmp_gt (tgt := 75) dX1_readInto_25 (by decide) (hout _ _ _) (fun hc25 => ?_) (fun hc25 => ?_)
    · exact absurd hc25 (by decide)
    · refine fx_iload_n dX1_readInto_28 rfl rfl ?_
      refine fx_if_eq (tgt := 75) dX1_readInto_29 (by decide) (hout _ _ _) (fun hc29 => ?_) (fun hc29 => ?_)
      · exact absurd hc29 (by decide)
      · refine fx_aload_n dX1_readInto_32 rfl rfl ?_
        refine fx_aload_n dX1_readInto_33 rfl rfl ?_
        refine fx_callVn dX1_readInto_34 vX1_readItem lX1_28 (by decide) rfl (Nat.le_of_ble_eq_true rfl) p6 rfl ?_
        refine fx_le ?_ K37
        exact ⟨rfl, rfl, rfl, rfl, trivial⟩
  have hk4 := kd_le (B := B) (z := z) (s := s')
  by_cases hok : w' = false ∧ kd B z s' = 0
  · obtain ⟨rfl, hk0⟩ := hok
    obtain ⟨hch, rfl, h2m, -⟩ := q2 rfl
    obtain ⟨hW', hSp', hV0⟩ := jCh_k hW m' V' n' hch
    have R1 := jR_g4 (p := 10) (P := I') (jR_D (jR_qC (a := nI (kd B z s')) (b := nI s') (c := nI (en B z s')) (d := d') (e := ft false s') (jR_A (a := nI (nx B z s')) (b := nI (en B z (nx B z s'))) (c := nI (min 3 (kd B z (nx B z s')))) (d := nI (va B z (nx B z s'))) (w := jB false) (m := nI m') (n := nI n') (jR_E (V := V') (n := n') (t := 0) (h := G4 1 0) R0)))) (Or.inr (Or.inl rfl))
    have hI9 : jI (f2 (qC (pF F 9 V' n' (G4 1 0)) (nI (kd B z s')) (nI s') (nI (en B z s')) d' (ft false s')) 25 1 (nI 0)) (pN N 9 V' 0) (pG G 9 V') 9 V' n' (G4 1 0) 0 := jI_f0 tW_I (by decide)
    obtain ⟨⟨nn, tt, -, -, -, -, hI1⟩, -⟩ := id R1
    refine ⟨nI m', _, _, _, _, _, ?_, ?_, jR_w (t := 0) (V := V') (n := n') (h := G4 1 0) R1 hW' (hSp' hS) (by obtain ⟨t0, a1, a2⟩ := hH; exact ⟨t0, a1, hV0.trans a2⟩) (by decide) hV0.symm (fun _ _ => rfl)⟩
    · refine mx_of (L := [some (.ref 0), none, none]) (by decide) (fun _ => rfl) (fun _ => Nat.le_of_ble_eq_true rfl) ?_
      refine Ref _ (fun _ _ => rM_l) ?_
      have eM : Mx mX4_must [.ref 0, .int (nI 1)] (sN F4 (ga G4 10 I') B z s' false (nI m') (nI n')) none (sN F4 (ga G4 10 I') B z (nx B z s') false (nI m') (nI n')) := eX4_must_t z2 (by rw [ga_n _ _ (by decide)]; exact hBe) hB q1
      have K113 : Fx mX4_text (some (.int (nI m')), rM (upd (qM F4 (nI (nx B z s')) (nI (en B z (nx B z s'))) (nI (min 3 (kd B z (nx B z s')))) (nI (va B z (nx B z s'))) (jB false) (nI m') (nI n')) 10 (nI 0)) (ga (ga G4 10 I') 1 V')) 113 [some (.ref 0), some (.int (nI m')), some (.int (nI m'))] [] (rM (upd (qM F4 (nI (nx B z s')) (nI (en B z (nx B z s'))) (nI (min 3 (kd B z (nx B z s')))) (nI (va B z (nx B z s'))) (jB false) (nI m') (nI n')) 10 (nI 0)) (ga (ga G4 10 I') 1 V')) := by
        refine fx_iload_n dX4_text_113 rfl rfl ?_
        refine fx_aload_n dX4_text_114 rfl rfl ?_
        refine fx_get dX4_text_115 kX4_294 rfl rfl ?_
        rw [pk_un (show (18 : Nat) ≠ 10 by decide), q18]
        refine fx_icmp_ge (tgt := 146) dX4_text_118 (by decide) rM_l (fun hc118 => ?_) (fun hc118 => ?_)
        · refine fx_iload_n dX4_text_146 rfl rfl ?_
          exact fx_ireq dX4_text_147 rfl rfl rfl rfl
        · exact absurd (Int32.le_refl _) hc118
      have KA := jAp (G4 := G4) (I := I') (V0 := G4 1) (n0 := n) (M := m') (F' := upd (qM F4 (nI (nx B z s')) (nI (en B z (nx B z s'))) (nI (min 3 (kd B z (nx B z s')))) (nI (va B z (nx B z s'))) (jB false) (nI m') (nI n')) 10 (nI 0)) ((pk_un (by decide)).trans q18) (by omega) hW (fun _ _ => rM_l) m' V' n' (Nat.le_refl _) hch K113
      rw [show ga (ga G4 10 I') 1 (G4 1) = ga G4 10 I' by
        have e := ga_id (ga G4 10 I') 1
        rw [ga_n _ _ (show (1 : Nat) ≠ 10 by decide)] at e
        exact e] at KA
      refine fx_aload_n dX4_text_74 rfl rfl ?_
      refine fx_aload_n dX4_text_75 rfl rfl ?_
      refine fx_get dX4_text_76 kX4_274 rfl rfl ?_
      rw [q13]
      refine fx_if_ne (tgt := 86) dX4_text_79 (by decide) rM_l (fun hc79 => ?_) (fun hc79 => ?_)
      · exact absurd (by rw [hk0]; decide) hc79
      · refine fx_iconst (v := nI 1) dX4_text_82 (by decide) ?_
        refine fx_goto (tgt := 87) dX4_text_83 (by decide) ?_
        refine fx_callVn dX4_text_87 vX4_must lX4_290 (by decide) rfl (Nat.le_of_ble_eq_true rfl) eM rfl ?_
        refine fx_aload_n dX4_text_90 rfl rfl ?_
        refine fx_iconst (v := nI 0) dX4_text_91 (by decide) ?_
        refine fx_put dX4_text_92 kX4_258 rfl (Nat.le_of_ble_eq_true rfl) (fun _ => rfl) rfl rfl (u4_10 ..) ?_
        refine fx_aload_n dX4_text_95 rfl rfl ?_
        refine fx_get dX4_text_96 kX4_284 rfl rfl ?_
        rw [pk_un (show (15 : Nat) ≠ 10 by decide), q15]
        refine fx_if_eq (tgt := 109) dX4_text_99 (by decide) rM_l (fun hc99 => ?_) (fun hc99 => ?_)
        · refine fx_iconst (v := nI 0) dX4_text_109 (by decide) ?_
          refine fs_istore_n_1 dX4_text_110 rfl (by decide) ?_
          refine fx_iconst (v := nI 0) dX4_text_111 (by decide) ?_
          refine fs_istore_n_2 dX4_text_112 rfl (by decide) ?_
          exact KA
        · exact absurd rfl hc99
    · refine mx_of (L := [some (.ref 0), none]) (by decide) (fun _ => rfl) (fun _ => Nat.le_of_ble_eq_true rfl) ?_
      have eR : Mx mX1_readInto [.ref 25, .ref 9] (jC F N G 9 (G4 1) n (G4 1 0) 0) (some (.int (nI m'))) (tW F N G B z s' d' (ft false s') V' n' (G4 1 0) 0) := by
        refine mx_of (L := [some (.ref 25), some (.ref 9), none, none, none]) (by decide) (fun _ => rfl) (fun _ => Nat.le_of_ble_eq_true rfl) ?_
        refine Cls _ (fun _ _ _ => rC_l) ?_
        refine fx_aload_n dX1_readInto_75 rfl rfl ?_
        refine fx_get dX1_readInto_76 kX1_19 rfl rfl ?_
        rw [r6]
        refine fx_if_ge (tgt := 97) dX1_readInto_79 (by decide) rC_l (fun hc79 => ?_) (fun hc79 => ?_)
        · exact absurd hc79 (show ¬ (0 : Int32) ≤ (-1) by decide)
        · refine fx_aload_n dX1_readInto_82 rfl rfl ?_
          refine fx_get dX1_readInto_83 kX1_32 rfl rfl ?_
          rw [r2]
          refine fx_if_eq (tgt := 97) dX1_readInto_86 (by decide) rC_l (fun hc86 => ?_) (fun hc86 => ?_)
          · refine fx_aload_n dX1_readInto_97 rfl rfl ?_
            refine fx_get dX1_readInto_98 kX1_19 rfl rfl ?_
            rw [r6]
            refine fx_if_ge (tgt := 108) dX1_readInto_101 (by decide) rC_l (fun hc101 => ?_) (fun hc101 => ?_)
            · exact absurd hc101 (show ¬ (0 : Int32) ≤ (-1) by decide)
            · refine fx_iload_n dX1_readInto_104 rfl rfl ?_
              refine fx_goto (tgt := 114) dX1_readInto_105 (by decide) ?_
              exact fx_ireq dX1_readInto_114 rfl rfl rfl rfl
          · exact absurd (by rw [hk0]; decide) hc86
      refine fx_aload_n dX3_text_0 rfl rfl ?_
      refine fx_get dX3_text_1 kX3_16 rfl rfl ?_
      refine fx_aload_n dX3_text_4 rfl rfl ?_
      refine fx_get dX3_text_5 kX3_10 rfl rfl ?_
      refine fx_callVn dX3_text_8 vX2_becomes lX3_154 (by decide) rfl (Nat.le_of_ble_eq_true rfl) (jBe0 hI i2) rfl ?_
      refine fx_aload_n dX3_text_11 rfl rfl ?_
      refine fx_get dX3_text_12 kX3_29 rfl rfl ?_
      refine fx_aload_n dX3_text_15 rfl rfl ?_
      refine fx_get dX3_text_16 kX3_16 rfl rfl ?_
      refine fx_callVv dX3_text_19 vX1_readInto lX3_224 (by decide) rfl (Nat.le_of_ble_eq_true rfl) eR rfl ?_
      refine fs_istore_n_1 dX3_text_22 rfl (by decide) ?_
      refine fx_aload_n dX3_text_23 rfl rfl ?_
      refine fx_get dX3_text_24 kX3_29 rfl rfl ?_
      refine fx_iconst (v := nI 0) dX3_text_27 (by decide) ?_
      refine fx_put dX3_text_28 kX3_218 rfl (Nat.le_of_ble_eq_true rfl) (fun _ => rfl) rfl rfl u1_1 ?_
      refine fx_iload_n dX3_text_31 rfl rfl ?_
      refine fx_if_lt (tgt := 46) dX3_text_32 (by decide) rC_l (fun hc32 => ?_) (fun hc32 => ?_)
      · exact absurd hc32 (nI_pos (by omega))
      · refine fx_aload_n dX3_text_35 rfl rfl ?_
        refine fx_get dX3_text_36 kX3_10 rfl rfl ?_
        refine fx_aload_n dX3_text_39 rfl rfl ?_
        refine fx_get dX3_text_40 kX3_16 rfl rfl ?_
        refine fx_callVn dX3_text_43 vX2_becomes lX3_154 (by decide) rfl (Nat.le_of_ble_eq_true rfl) (eX2_becomes zw1 zw9 (Or.inr (by decide)) hI9 hI1) rfl ?_
        refine fx_iload_n dX3_text_46 rfl rfl ?_
        exact fx_ireq dX3_text_47 rfl rfl rfl rfl
  · -- a fault at s'
    have hz1 : s' ≤ 120 := by omega
    have key : ∃ (a b c d : Int32), Mx mX4_text [.ref 0] (rM F4 G4) (some (.int ((-1) - nI s'))) (rM (upd (qM F4 a b c d (jB true) (nI m') nb') 10 (nI 0)) (ga G4 10 I')) := by
      refine ⟨nI s', nI (en B z s'), nI (min 3 (kd B z s')), nI (va B z s'), ?_⟩
      refine mx_of (L := [some (.ref 0), none, none]) (by decide) (fun _ => rfl) (fun _ => Nat.le_of_ble_eq_true rfl) ?_
      refine Ref _ (fun _ _ => rM_l) ?_
      cases w'
      · have hk0 : ¬ kd B z s' = 0 := fun q => hok ⟨rfl, q⟩
        have eM : Mx mX4_must [.ref 0, .int (nI 0)] (sN F4 (ga G4 10 I') B z s' false (nI m') nb') none (sN F4 (ga G4 10 I') B z s' true (nI m') nb') := eX4_must_f
        refine fx_aload_n dX4_text_74 rfl rfl ?_
        refine fx_aload_n dX4_text_75 rfl rfl ?_
        refine fx_get dX4_text_76 kX4_274 rfl rfl ?_
        rw [q13]
        refine fx_if_ne (tgt := 86) dX4_text_79 (by decide) rM_l (fun hc79 => ?_) (fun hc79 => ?_)
        · refine fx_iconst (v := nI 0) dX4_text_86 (by decide) ?_
          refine fx_callVn dX4_text_87 vX4_must lX4_290 (by decide) rfl (Nat.le_of_ble_eq_true rfl) eM rfl ?_
          refine fx_aload_n dX4_text_90 rfl rfl ?_
          refine fx_iconst (v := nI 0) dX4_text_91 (by decide) ?_
          refine fx_put dX4_text_92 kX4_258 rfl (Nat.le_of_ble_eq_true rfl) (fun _ => rfl) rfl rfl (u4_10 ..) ?_
          refine fx_aload_n dX4_text_95 rfl rfl ?_
          refine fx_get dX4_text_96 kX4_284 rfl rfl ?_
          rw [pk_un (show (15 : Nat) ≠ 10 by decide), q15]
          refine fx_if_eq (tgt := 109) dX4_text_99 (by decide) rM_l (fun hc99 => ?_) (fun hc99 => ?_)
          · exact absurd hc99 (by decide)
          · refine fx_iconst (v := (-1)) dX4_text_102 (by decide) ?_
            refine fx_aload_n dX4_text_103 rfl rfl ?_
            refine fx_get dX4_text_104 kX4_265 rfl rfl ?_
            rw [pk_un (show (11 : Nat) ≠ 10 by decide), q11]
            refine fx_isub dX4_text_107 ?_
            exact fx_ireq dX4_text_108 rfl rfl rfl rfl
        · exact absurd (nI_eq0 (by omega) hc79) (by omega)
      · have e1 : Mx mX4_must [.ref 0, .int (nI 1)] (sN F4 (ga G4 10 I') B z s' true (nI m') nb') none (sN F4 (ga G4 10 I') B z s' true (nI m') nb') := eX4_must_w (i := true)
        have e2 : Mx mX4_must [.ref 0, .int (nI 0)] (sN F4 (ga G4 10 I') B z s' true (nI m') nb') none (sN F4 (ga G4 10 I') B z s' true (nI m') nb') := eX4_must_w (i := false)
        have K87 : ∀ x : Int32, x = nI 1 ∨ x = nI 0 → Fx mX4_text (some (.int ((-1) - nI s')), rM (upd (qM F4 (nI s') (nI (en B z s')) (nI (min 3 (kd B z s'))) (nI (va B z s')) (jB true) (nI m') nb') 10 (nI 0)) (ga G4 10 I')) 87 [some (.ref 0), none, none] [.int x, .ref 0] (sN F4 (ga G4 10 I') B z s' true (nI m') nb') := by
          intro x hx
          rcases hx with rfl | rfl
          · refine fx_callVn dX4_text_87 vX4_must lX4_290 (by decide) rfl (Nat.le_of_ble_eq_true rfl) e1 rfl ?_
            refine fx_aload_n dX4_text_90 rfl rfl ?_
            refine fx_iconst (v := nI 0) dX4_text_91 (by decide) ?_
            refine fx_put dX4_text_92 kX4_258 rfl (Nat.le_of_ble_eq_true rfl) (fun _ => rfl) rfl rfl (u4_10 ..) ?_
            refine fx_aload_n dX4_text_95 rfl rfl ?_
            refine fx_get dX4_text_96 kX4_284 rfl rfl ?_
            rw [pk_un (show (15 : Nat) ≠ 10 by decide), q15]
            refine fx_if_eq (tgt := 109) dX4_text_99 (by decide) rM_l (fun hc99 => ?_) (fun hc99 => ?_)
            · exact absurd hc99 (by decide)
            · refine fx_iconst (v := (-1)) dX4_text_102 (by decide) ?_
              refine fx_aload_n dX4_text_103 rfl rfl ?_
              refine fx_get dX4_text_104 kX4_265 rfl rfl ?_
              rw [pk_un (show (11 : Nat) ≠ 10 by decide), q11]
              refine fx_isub dX4_text_107 ?_
              exact fx_ireq dX4_text_108 rfl rfl rfl rfl
          · refine fx_callVn dX4_text_87 vX4_must lX4_290 (by decide) rfl (Nat.le_of_ble_eq_true rfl) e2 rfl ?_
            refine fx_aload_n dX4_text_90 rfl rfl ?_
            refine fx_iconst (v := nI 0) dX4_text_91 (by decide) ?_
            refine fx_put dX4_text_92 kX4_258 rfl (Nat.le_of_ble_eq_true rfl) (fun _ => rfl) rfl rfl (u4_10 ..) ?_
            refine fx_aload_n dX4_text_95 rfl rfl ?_
            refine fx_get dX4_text_96 kX4_284 rfl rfl ?_
            rw [pk_un (show (15 : Nat) ≠ 10 by decide), q15]
            refine fx_if_eq (tgt := 109) dX4_text_99 (by decide) rM_l (fun hc99 => ?_) (fun hc99 => ?_)
            · exact absurd hc99 (by decide)
            · refine fx_iconst (v := (-1)) dX4_text_102 (by decide) ?_
              refine fx_aload_n dX4_text_103 rfl rfl ?_
              refine fx_get dX4_text_104 kX4_265 rfl rfl ?_
              rw [pk_un (show (11 : Nat) ≠ 10 by decide), q11]
              refine fx_isub dX4_text_107 ?_
              exact fx_ireq dX4_text_108 rfl rfl rfl rfl
        refine fx_aload_n dX4_text_74 rfl rfl ?_
        refine fx_aload_n dX4_text_75 rfl rfl ?_
        refine fx_get dX4_text_76 kX4_274 rfl rfl ?_
        rw [q13]
        refine fx_if_ne (tgt := 86) dX4_text_79 (by decide) rM_l (fun hc79 => ?_) (fun hc79 => ?_)
        · refine fx_iconst (v := nI 0) dX4_text_86 (by decide) ?_
          first | exact K87 _ (Or.inl rfl) | exact K87 _ (Or.inr rfl)
        · refine fx_iconst (v := nI 1) dX4_text_82 (by decide) ?_
          refine fx_goto (tgt := 87) dX4_text_83 (by decide) ?_
          first | exact K87 _ (Or.inl rfl) | exact K87 _ (Or.inr rfl)
    obtain ⟨a, b, c, d, key⟩ := key
    have R1 := jR_g4 (p := 10) (P := I') (jR_D (jR_qC (a := nI (kd B z s')) (b := nI s') (c := nI (en B z s')) (d := d') (e := nI s') (jR_A (a := a) (b := b) (c := c) (d := d) (w := jB true) (m := nI m') (n := nb') (jR_E (V := V') (n := n') (t := 0) (h := G4 1 0) R0)))) (Or.inr (Or.inl rfl))
    refine ⟨_, _, _, _, _, _, key, ?_, R1⟩
    refine mx_of (L := [some (.ref 0), none]) (by decide) (fun _ => rfl) (fun _ => Nat.le_of_ble_eq_true rfl) ?_
    have eR : Mx mX1_readInto [.ref 25, .ref 9] (jC F N G 9 (G4 1) n (G4 1 0) 0) (some (.int ((-1) - nI s'))) (tW F N G B z s' d' (nI s') V' n' (G4 1 0) 0) := by
      refine mx_of (L := [some (.ref 25), some (.ref 9), none, none, none]) (by decide) (fun _ => rfl) (fun _ => Nat.le_of_ble_eq_true rfl) ?_
      refine Cls _ (fun _ _ _ => rC_l) ?_
      cases w'
      · have hk0 : ¬ kd B z s' = 0 := fun q => hok ⟨rfl, q⟩
        refine fx_aload_n dX1_readInto_75 rfl rfl ?_
        refine fx_get dX1_readInto_76 kX1_19 rfl rfl ?_
        rw [r6]
        refine fx_if_ge (tgt := 97) dX1_readInto_79 (by decide) rC_l (fun hc79 => ?_) (fun hc79 => ?_)
        · exact absurd hc79 (show ¬ (0 : Int32) ≤ (-1) by decide)
        · refine fx_aload_n dX1_readInto_82 rfl rfl ?_
          refine fx_get dX1_readInto_83 kX1_32 rfl rfl ?_
          rw [r2]
          refine fx_if_eq (tgt := 97) dX1_readInto_86 (by decide) rC_l (fun hc86 => ?_) (fun hc86 => ?_)
          · exact absurd (nI_eq0 (by omega) hc86) hk0
          · refine fx_aload_n dX1_readInto_89 rfl rfl ?_
            refine fx_aload_n dX1_readInto_90 rfl rfl ?_
            refine fx_get dX1_readInto_91 kX1_35 rfl rfl ?_
            rw [r3]
            refine fx_put dX1_readInto_94 kX1_19 rfl (Nat.le_of_ble_eq_true rfl) (fun _ => rfl) rfl rfl u1_6 ?_
            rw [qC_6]
            refine fx_aload_n dX1_readInto_97 rfl rfl ?_
            refine fx_get dX1_readInto_98 kX1_19 rfl rfl ?_
            rw [r6]
            refine fx_if_ge (tgt := 108) dX1_readInto_101 (by decide) rC_l (fun hc101 => ?_) (fun hc101 => ?_)
            · refine fx_iconst (v := (-1)) dX1_readInto_108 (by decide) ?_
              refine fx_aload_n dX1_readInto_109 rfl rfl ?_
              refine fx_get dX1_readInto_110 kX1_19 rfl rfl ?_
              rw [r6]
              refine fx_isub dX1_readInto_113 ?_
              exact fx_ireq dX1_readInto_114 rfl rfl rfl rfl
            · exact absurd (nI_pos' (by omega)) hc101
      · refine fx_aload_n dX1_readInto_75 rfl rfl ?_
        refine fx_get dX1_readInto_76 kX1_19 rfl rfl ?_
        rw [r6]
        refine fx_if_ge (tgt := 97) dX1_readInto_79 (by decide) rC_l (fun hc79 => ?_) (fun hc79 => ?_)
        · refine fx_aload_n dX1_readInto_97 rfl rfl ?_
          refine fx_get dX1_readInto_98 kX1_19 rfl rfl ?_
          rw [r6]
          refine fx_if_ge (tgt := 108) dX1_readInto_101 (by decide) rC_l (fun hc101 => ?_) (fun hc101 => ?_)
          · refine fx_iconst (v := (-1)) dX1_readInto_108 (by decide) ?_
            refine fx_aload_n dX1_readInto_109 rfl rfl ?_
            refine fx_get dX1_readInto_110 kX1_19 rfl rfl ?_
            rw [r6]
            refine fx_isub dX1_readInto_113 ?_
            exact fx_ireq dX1_readInto_114 rfl rfl rfl rfl
          · exact absurd (nI_pos' (by omega)) hc101
        · exact absurd (nI_pos' (by omega)) hc79
    refine fx_aload_n dX3_text_0 rfl rfl ?_
    refine fx_get dX3_text_1 kX3_16 rfl rfl ?_
    refine fx_aload_n dX3_text_4 rfl rfl ?_
    refine fx_get dX3_text_5 kX3_10 rfl rfl ?_
    refine fx_callVn dX3_text_8 vX2_becomes lX3_154 (by decide) rfl (Nat.le_of_ble_eq_true rfl) (jBe0 hI i2) rfl ?_
    refine fx_aload_n dX3_text_11 rfl rfl ?_
    refine fx_get dX3_text_12 kX3_29 rfl rfl ?_
    refine fx_aload_n dX3_text_15 rfl rfl ?_
    refine fx_get dX3_text_16 kX3_16 rfl rfl ?_
    refine fx_callVv dX3_text_19 vX1_readInto lX3_224 (by decide) rfl (Nat.le_of_ble_eq_true rfl) eR rfl ?_
    refine fs_istore_n_1 dX3_text_22 rfl (by decide) ?_
    refine fx_aload_n dX3_text_23 rfl rfl ?_
    refine fx_get dX3_text_24 kX3_29 rfl rfl ?_
    refine fx_iconst (v := nI 0) dX3_text_27 (by decide) ?_
    refine fx_put dX3_text_28 kX3_218 rfl (Nat.le_of_ble_eq_true rfl) (fun _ => rfl) rfl rfl u1_1 ?_
    refine fx_iload_n dX3_text_31 rfl rfl ?_
    refine fx_if_lt (tgt := 46) dX3_text_32 (by decide) rC_l (fun hc32 => ?_) (fun hc32 => ?_)
    · refine fx_iload_n dX3_text_46 rfl rfl ?_
      exact fx_ireq dX3_text_47 rfl rfl rfl rfl
    · exact absurd (jneg s' hz1) hc32
end
