/-! ===== pairs: netFor, best ===== -/
set_option maxRecDepth 100000
section
variable {F : Nat → Nat → Int32} {N : Nat → Nat → Int64} {G : Nat → Nat → Int32} {V V2 : Nat → Int32} {n n2 c : Nat} {h h2 : Int32} {t t2 : Nat}
theorem jHn (hI : jI F N G 1 V n h t) (hc : c < 64) : Mx mX2_hasNet [.ref 1, .int (nI c)] (jC F N G 9 V2 n2 h2 t2) (some (.int (jB (decide (V (18 + c) = nI 1))))) (jC F N G 9 V2 n2 h2 t2) :=
  eX2_hasNet zw1 (jI_fr hI (jFr_p (V := V2) (n := n2) (h := h2) (t := t2)) (Or.inr (by decide))) hc
theorem jSe (hc : c < 64) : Mx mX2_setNet [.ref 9, .int (nI c), .int (nI 1)] (jC F N G 9 V n h t) none (jC F N G 9 (upd V (18 + c) (nI 1)) n h t) := by
  have q := eX2_setNet (b := true) zw9 (jI_p (F := F) (N := N) (G := G) (w := 9) (V := V) (n := n) (h := h) (t := t)) hc
  rw [jC_C] at q
  exact q
end
section
variable {F4 F4' : Nat → Int32} {G4 : Nat → Nat → Int32} {F : Nat → Nat → Int32} {N : Nat → Nat → Int64} {G : Nat → Nat → Int32}
theorem P_netFor (R : jR F4 G4 F N G) (a : Int32) : jP mX4_netFor mX3_netFor [.int a] F4 G4 F N G := by
  have R0 := R
  obtain ⟨⟨n, t, hW, hS, hH, ht, hI⟩, ⟨V2, n2, h2, t2, i2⟩, -, ⟨c1, c2, c3⟩, -⟩ := R
  have hn8 := hW.2.1
  by_cases ha : jwi a (nI 0) (nI n - nI 1) = false
  · refine ⟨_, _, _, _, _, _, eX4_netFor_n hW ha, ?_, jR_f R0 (by decide)⟩
    refine mx_of (L := [some (.ref 0), some (.int a), none, none, none, none, none, none, none]) (by decide) (fun _ => rfl) (fun _ => Nat.le_of_ble_eq_true rfl) ?_
    refine fx_aload_n dX3_netFor_0 rfl rfl ?_
    refine fx_iload_n dX3_netFor_1 rfl rfl ?_
    refine fx_callVv dX3_netFor_2 vX3_isBell lX3_91 (by decide) rfl (Nat.le_of_ble_eq_true rfl) (eX3_isBell hI hn8) rfl ?_
    refine fx_if_ne (tgt := 14) dX3_netFor_5 (by decide) rC_l (fun hc5 => ?_) (fun hc5 => ?_)
    · exact jtf ha (nI_ne0' hc5)
    · refine fx_aload_n dX3_netFor_8 rfl rfl ?_
      refine fx_iconst (v := nI 0) dX3_netFor_9 (by decide) ?_
      refine fx_callVv dX3_netFor_10 vX3_finding lX3_51 (by decide) rfl (Nat.le_of_ble_eq_true rfl) (eX3_finding (k := 0) (by decide)) rfl ?_
      exact fx_ireq dX3_netFor_13 rfl rfl rfl rfl
  · obtain ⟨b, hb, rfl⟩ := jbell_of hn8 (jbt_t ha)
    obtain ⟨m, A, hA, e4⟩ := eX4_netFor_y (F := F4) c1 hW hb c3
    have hx := jnf_or (G4 1) n b 64
    generalize hX : (jnf (G4 1) n b 64).1 = X at e4 hx
    have eT0 := jTi (F := F) (N := N) (G := G) (h := G4 1 0) (t := 0) (b := b) (m := 20) (by decide) hb hW (by decide)
    have hT := (jrS_W (h := G4 1 0) (t := 0) hW (by decide) (jta (G4 1) n (G4 1 0) 0 b 20 0).2).2
    have hcv := fun (c : Nat) (hc : c < 64) => jtr_cv (x := nI 1) (h := G4 1 0) (b := b) hc hW
    generalize hS0 : jrS (G4 1) n (G4 1 0) 0 (jta (G4 1) n (G4 1 0) 0 b 20 0).2 = S0 at *
    generalize hw : (if jcv (G4 1) n b 20 < 1000 then nI (jcv (G4 1) n b 20) else (-1)) = wv at *
    have H : ∀ (q c : Nat), c + q = 64 → ∀ (l8 : Option Value) (Vx : Nat → Int32) (nx : Nat) (hx : Int32) (tx : Nat), ∃ (V' : Nat → Int32) (n' : Nat) (h' : Int32) (t' : Nat), Fx mX3_netFor (jout F N G X V' n' h' t') 54 [some (.ref 0), some (.int (nI b)), some (.int wv), some (.long (lN S0.2.2.2)), none, some (.int (jnf (G4 1) n b c).1), some (.int (nI (min 21 (jnf (G4 1) n b c).2))), some (.int (nI c)), l8] [] (jC F N G 9 Vx nx hx tx) := by
      intro q
      induction q with
      | zero =>
        intro c hc l8 Vx nx hhx tx
        have hc' : c = 64 := by omega
        subst hc'
        refine ⟨Vx, nx, hhx, tx, ?_⟩
        rw [hX]
        rcases hx with hx | ⟨d, hd, hx⟩
        · rw [hx, show jout F N G (-1) Vx nx hhx tx = (some (.int (jfd 3)), rC (pF F 9 Vx nx hhx) (pN N 9 Vx tx) (ga (pG G 9 Vx) 36 (jf1 (G 36) 3))) from if_pos rfl]
          refine fx_iload dX3_netFor_54 rfl ?_
          refine fx_bipush (v := nI 64) dX3_netFor_56 (by decide) ?_
          refine fx_icmp_ge (tgt := 149) dX3_netFor_58 (by decide) rC_l (fun hc58 => ?_) (fun hc58 => ?_)
          · refine fx_iload dX3_netFor_149 rfl ?_
            refine fx_if_ge (tgt := 162) dX3_netFor_151 (by decide) rC_l (fun hc151 => ?_) (fun hc151 => ?_)
            · exact absurd hc151 (by decide)
            · refine fx_aload_n dX3_netFor_154 rfl rfl ?_
              refine fx_iconst (v := nI 3) dX3_netFor_155 (by decide) ?_
              refine fx_callVv dX3_netFor_156 vX3_finding lX3_51 (by decide) rfl (Nat.le_of_ble_eq_true rfl) (jFi9 (k := 3) (by decide)) rfl ?_
              refine fx_goto (tgt := 164) dX3_netFor_159 (by decide) ?_
              exact fx_ireq dX3_netFor_164 rfl rfl rfl rfl
          · exact absurd (Int32.le_refl _) hc58
        · rw [hx, show jout F N G (nI d) Vx nx hhx tx = (some (.int (nI d)), jC F N G 9 Vx nx hhx tx) from if_neg (nI_m1 (by omega))]
          refine fx_iload dX3_netFor_54 rfl ?_
          refine fx_bipush (v := nI 64) dX3_netFor_56 (by decide) ?_
          refine fx_icmp_ge (tgt := 149) dX3_netFor_58 (by decide) rC_l (fun hc58 => ?_) (fun hc58 => ?_)
          · refine fx_iload dX3_netFor_149 rfl ?_
            refine fx_if_ge (tgt := 162) dX3_netFor_151 (by decide) rC_l (fun hc151 => ?_) (fun hc151 => ?_)
            · refine fx_iload dX3_netFor_162 rfl ?_
              exact fx_ireq dX3_netFor_164 rfl rfl rfl rfl
            · exact absurd (nI_pos' (by omega)) hc151
          · exact absurd (Int32.le_refl _) hc58
      | succ q ih =>
        intro c hc l8 Vx nx hhx tx
        have hc64 : c < 64 := by omega
        have e1 : jnf (G4 1) n b (c + 1) = if G4 1 (18 + c) = nI 1 then jnf (G4 1) n b c else (if jcv (upd (G4 1) (18 + c) (nI 1)) n b 20 < (jnf (G4 1) n b c).2 then nI c else (jnf (G4 1) n b c).1, min (jnf (G4 1) n b c).2 (jcv (upd (G4 1) (18 + c) (nI 1)) n b 20)) := rfl
        have hl := jnf_le (G4 1) n b c
        have ihx := fun l8 Vx nx hx tx => ih (c + 1) (by omega) l8 Vx nx hx tx
        rw [e1] at ihx
        generalize hj : jnf (G4 1) n b c = J at *
        by_cases hnet : G4 1 (18 + c) = nI 1
        · rw [if_pos hnet] at ihx
          obtain ⟨V', n', h', t', ih1⟩ := ihx l8 Vx nx hhx tx
          refine ⟨V', n', h', t', ?_⟩
          refine fx_iload dX3_netFor_54 rfl ?_
          refine fx_bipush (v := nI 64) dX3_netFor_56 (by decide) ?_
          refine fx_icmp_ge (tgt := 149) dX3_netFor_58 (by decide) jout_l (fun hc58 => ?_) (fun hc58 => ?_)
          · exact absurd hc58 (nI_ge (by omega) (by decide))
          · refine fx_aload_n dX3_netFor_61 rfl rfl ?_
            refine fx_get dX3_netFor_62 kX3_10 rfl rfl ?_
            refine fx_iload dX3_netFor_65 rfl ?_
            refine fx_callVv dX3_netFor_67 vX2_hasNet lX3_55 (by decide) rfl (Nat.le_of_ble_eq_true rfl) (jHn hI hc64) rfl ?_
            rw [decide_eq_true hnet]
            refine fx_if_eq (tgt := 76) dX3_netFor_70 (by decide) jout_l (fun hc70 => ?_) (fun hc70 => ?_)
            · exact absurd hc70 (by decide)
            · refine fx_goto (tgt := 143) dX3_netFor_73 (by decide) ?_
              refine fs_iinc_7 (w := nI 1) dX3_netFor_143 (by decide) rfl (by decide) ?_
              refine fx_goto (tgt := 54) dX3_netFor_146 (by decide) ?_
              rw [nI_add]
              exact ih1
        · rw [if_neg hnet] at ihx
          have hWc := jW_net (c := c) hW hc64 (Or.inr (rfl : nI 1 = nI 1))
          have hr := jcv_r (n := n) (b := b) (upd (G4 1) (18 + c) (nI 1)) 20
          have hsub := fun r hr => jcv_sub (n := n) (b := b) (r := r) (R := 20) (upd (G4 1) (18 + c) (nI 1)) hr (by decide)
          have hcvc := hcv c hc64
          have eT := fun (m : Nat) (hm : m < 1000) => jTi (F := F) (N := N) (G := G) (h := G4 1 0) (t := 0) (b := b) (m := m) hm hb hWc (by decide)
          generalize hz : jcv (upd (G4 1) (18 + c) (nI 1)) n b 20 = z at *
          have Kup : z < min 21 J.2 → ∀ (Vy : Nat → Int32) (ny : Nat) (hy : Int32) (ty : Nat), ∃ (V' : Nat → Int32) (n' : Nat) (h' : Int32) (t' : Nat), Fx mX3_netFor (jout F N G X V' n' h' t') 123 [some (.ref 0), some (.int (nI b)), some (.int wv), some (.long (lN S0.2.2.2)), none, some (.int J.1), some (.int (nI (min 21 J.2))), some (.int (nI c)), some (.int (nI z))] [] (jC F N G 9 Vy ny hy ty) := by
            intro hlt Vy ny hy ty
            rw [if_pos (by omega), Nat.min_eq_right (by omega), show min 21 z = z by omega] at ihx
            obtain ⟨V', n', h', t', ih1⟩ := ihx (some (.int (nI z))) Vy ny hy ty
            refine ⟨V', n', h', t', ?_⟩
            refine fx_iload dX3_netFor_123 rfl ?_
            refine fx_if_lt (tgt := 143) dX3_netFor_125 (by decide) jout_l (fun hc125 => ?_) (fun hc125 => ?_)
            · exact absurd hc125 (nI_pos (by omega))
            · refine fx_iload dX3_netFor_128 rfl ?_
              refine fx_iload dX3_netFor_130 rfl ?_
              refine fx_icmp_ge (tgt := 143) dX3_netFor_132 (by decide) jout_l (fun hc132 => ?_) (fun hc132 => ?_)
              · exact absurd hc132 (nI_ge hlt (by omega))
              · refine fx_iload dX3_netFor_135 rfl ?_
                refine fs_istore_6 dX3_netFor_137 rfl (by decide) ?_
                refine fx_iload dX3_netFor_139 rfl ?_
                refine fs_istore_5 dX3_netFor_141 rfl (by decide) ?_
                refine fs_iinc_7 (w := nI 1) dX3_netFor_143 (by decide) rfl (by decide) ?_
                refine fx_goto (tgt := 54) dX3_netFor_146 (by decide) ?_
                rw [nI_add]
                exact ih1
          have Ksk : ¬ z < min 21 J.2 → ∀ (v : Int32), (v = (-1) ∨ v = nI z) → ∀ (Vy : Nat → Int32) (ny : Nat) (hy : Int32) (ty : Nat), ∃ (V' : Nat → Int32) (n' : Nat) (h' : Int32) (t' : Nat), Fx mX3_netFor (jout F N G X V' n' h' t') 123 [some (.ref 0), some (.int (nI b)), some (.int wv), some (.long (lN S0.2.2.2)), none, some (.int J.1), some (.int (nI (min 21 J.2))), some (.int (nI c)), some (.int v)] [] (jC F N G 9 Vy ny hy ty) := by
            intro hlt v hv Vy ny hy ty
            rw [if_neg (by omega), Nat.min_eq_left (by omega)] at ihx
            obtain ⟨V', n', h', t', ih1⟩ := ihx (some (.int v)) Vy ny hy ty
            refine ⟨V', n', h', t', ?_⟩
            rcases hv with rfl | rfl
            · refine fx_iload dX3_netFor_123 rfl ?_
              refine fx_if_lt (tgt := 143) dX3_netFor_125 (by decide) jout_l (fun hc125 => ?_) (fun hc125 => ?_)
              · refine fs_iinc_7 (w := nI 1) dX3_netFor_143 (by decide) rfl (by decide) ?_
                refine fx_goto (tgt := 54) dX3_netFor_146 (by decide) ?_
                rw [nI_add]
                exact ih1
              · exact absurd (by decide) hc125
            · refine fx_iload dX3_netFor_123 rfl ?_
              refine fx_if_lt (tgt := 143) dX3_netFor_125 (by decide) jout_l (fun hc125 => ?_) (fun hc125 => ?_)
              · exact absurd hc125 (nI_pos (by omega))
              · refine fx_iload dX3_netFor_128 rfl ?_
                refine fx_iload dX3_netFor_130 rfl ?_
                refine fx_icmp_ge (tgt := 143) dX3_netFor_132 (by decide) jout_l (fun hc132 => ?_) (fun hc132 => ?_)
                · refine fs_iinc_7 (w := nI 1) dX3_netFor_143 (by decide) rfl (by decide) ?_
                  refine fx_goto (tgt := 54) dX3_netFor_146 (by decide) ?_
                  rw [nI_add]
                  exact ih1
                · exact absurd (nI_le (by omega) (by omega)) hc132
          cases htb : S0.2.2.2.testBit c
          · have K : ∃ (V' : Nat → Int32) (n' : Nat) (h' : Int32) (t' : Nat), Fx mX3_netFor (jout F N G X V' n' h' t') 123 [some (.ref 0), some (.int (nI b)), some (.int wv), some (.long (lN S0.2.2.2)), none, some (.int J.1), some (.int (nI (min 21 J.2))), some (.int (nI c)), some (.int wv)] [] (jC F N G 9 Vx nx hhx tx) := by
              rw [← hcvc htb] at hw
              by_cases hlt : z < min 21 J.2
              · rw [if_pos (by omega)] at hw
                have := Kup hlt Vx nx hhx tx
                rw [← hw] at this ⊢
                exact this
              · refine Ksk hlt wv ?_ Vx nx hhx tx
                rw [← hw]
                by_cases q : z < 1000
                · rw [if_pos q]; exact Or.inr rfl
                · rw [if_neg q]; exact Or.inl rfl
            obtain ⟨V', n', h', t', K1⟩ := K
            refine ⟨V', n', h', t', ?_⟩
            refine fx_iload dX3_netFor_54 rfl ?_
            refine fx_bipush (v := nI 64) dX3_netFor_56 (by decide) ?_
            refine fx_icmp_ge (tgt := 149) dX3_netFor_58 (by decide) jout_l (fun hc58 => ?_) (fun hc58 => ?_)
            · exact absurd hc58 (nI_ge (by omega) (by decide))
            · refine fx_aload_n dX3_netFor_61 rfl rfl ?_
              refine fx_get dX3_netFor_62 kX3_10 rfl rfl ?_
              refine fx_iload dX3_netFor_65 rfl ?_
              refine fx_callVv dX3_netFor_67 vX2_hasNet lX3_55 (by decide) rfl (Nat.le_of_ble_eq_true rfl) (jHn hI hc64) rfl ?_
              rw [decide_eq_false hnet]
              refine fx_if_eq (tgt := 76) dX3_netFor_70 (by decide) jout_l (fun hc70 => ?_) (fun hc70 => ?_)
              · refine fx_iload_n dX3_netFor_76 rfl rfl ?_
                refine fs_istore_8 dX3_netFor_77 rfl (by decide) ?_
                refine fx_lload_n dX3_netFor_79 rfl rfl ?_
                refine fx_iload dX3_netFor_80 rfl ?_
                refine fx_callSv dX3_netFor_82 sX3_holds lX3_168 (by decide) (Nat.le_of_ble_eq_true rfl) (eX3_holds hT hc64) rfl ?_
                rw [htb]
                refine fx_if_eq (tgt := 123) dX3_netFor_85 (by decide) jout_l (fun hc85 => ?_) (fun hc85 => ?_)
                · exact K1
                · exact absurd rfl hc85
              · exact absurd rfl hc70
          · by_cases hf : min 21 J.2 = 0
            · obtain ⟨V', n', h', t', K1⟩ := Ksk (by omega) (-1) (Or.inl rfl) (upd (G4 1) (18 + c) (nI 1)) n (G4 1 0) 0
              refine ⟨V', n', h', t', ?_⟩
              rw [hf] at K1 ⊢
              refine fx_iload dX3_netFor_54 rfl ?_
              refine fx_bipush (v := nI 64) dX3_netFor_56 (by decide) ?_
              refine fx_icmp_ge (tgt := 149) dX3_netFor_58 (by decide) jout_l (fun hc58 => ?_) (fun hc58 => ?_)
              · exact absurd hc58 (nI_ge (by omega) (by decide))
              · refine fx_aload_n dX3_netFor_61 rfl rfl ?_
                refine fx_get dX3_netFor_62 kX3_10 rfl rfl ?_
                refine fx_iload dX3_netFor_65 rfl ?_
                refine fx_callVv dX3_netFor_67 vX2_hasNet lX3_55 (by decide) rfl (Nat.le_of_ble_eq_true rfl) (jHn hI hc64) rfl ?_
                rw [decide_eq_false hnet]
                refine fx_if_eq (tgt := 76) dX3_netFor_70 (by decide) jout_l (fun hc70 => ?_) (fun hc70 => ?_)
                · refine fx_iload_n dX3_netFor_76 rfl rfl ?_
                  refine fs_istore_8 dX3_netFor_77 rfl (by decide) ?_
                  refine fx_lload_n dX3_netFor_79 rfl rfl ?_
                  refine fx_iload dX3_netFor_80 rfl ?_
                  refine fx_callSv dX3_netFor_82 sX3_holds lX3_168 (by decide) (Nat.le_of_ble_eq_true rfl) (eX3_holds hT hc64) rfl ?_
                  rw [htb]
                  refine fx_if_eq (tgt := 123) dX3_netFor_85 (by decide) jout_l (fun hc85 => ?_) (fun hc85 => ?_)
                  · exact absurd hc85 (by decide)
                  · refine fx_aload_n dX3_netFor_88 rfl rfl ?_
                    refine fx_get dX3_netFor_89 kX3_16 rfl rfl ?_
                    refine fx_aload_n dX3_netFor_92 rfl rfl ?_
                    refine fx_get dX3_netFor_93 kX3_10 rfl rfl ?_
                    refine fx_callVn dX3_netFor_96 vX2_becomes lX3_154 (by decide) rfl (Nat.le_of_ble_eq_true rfl) (jBe hI) rfl ?_
                    refine fx_aload_n dX3_netFor_99 rfl rfl ?_
                    refine fx_get dX3_netFor_100 kX3_16 rfl rfl ?_
                    refine fx_iload dX3_netFor_103 rfl ?_
                    refine fx_iconst (v := nI 1) dX3_netFor_105 (by decide) ?_
                    refine fx_callVn dX3_netFor_106 vX2_setNet lX3_58 (by decide) rfl (Nat.le_of_ble_eq_true rfl) (jSe hc64) rfl ?_
                    refine fx_aload_n dX3_netFor_109 rfl rfl ?_
                    refine fx_get dX3_netFor_110 kX3_16 rfl rfl ?_
                    refine fx_iload_n dX3_netFor_113 rfl rfl ?_
                    refine fx_iload dX3_netFor_114 rfl ?_
                    refine fx_iconst (v := nI 1) dX3_netFor_116 (by decide) ?_
                    refine fx_isub dX3_netFor_117 ?_
                    refine fx_as (y := (-1)) (by decide) ?_
                    refine fx_callVv dX3_netFor_118 vX2_tillCaught lX3_162 (by decide) rfl (Nat.le_of_ble_eq_true rfl) jTn rfl ?_
                    refine fs_istore_8 dX3_netFor_121 rfl (by decide) ?_
                    exact K1
                · exact absurd rfl hc70
            · have eT1 := eT (min 21 J.2 - 1) (by omega)
              rw [hsub (min 21 J.2 - 1) (by omega)] at eT1
              by_cases hlt : z ≤ min 21 J.2 - 1
              · rw [if_pos hlt, if_pos (by omega)] at eT1
                obtain ⟨V', n', h', t', K1⟩ := Kup (by omega) _ n _ _
                refine ⟨V', n', h', t', ?_⟩
                refine fx_iload dX3_netFor_54 rfl ?_
                refine fx_bipush (v := nI 64) dX3_netFor_56 (by decide) ?_
                refine fx_icmp_ge (tgt := 149) dX3_netFor_58 (by decide) jout_l (fun hc58 => ?_) (fun hc58 => ?_)
                · exact absurd hc58 (nI_ge (by omega) (by decide))
                · refine fx_aload_n dX3_netFor_61 rfl rfl ?_
                  refine fx_get dX3_netFor_62 kX3_10 rfl rfl ?_
                  refine fx_iload dX3_netFor_65 rfl ?_
                  refine fx_callVv dX3_netFor_67 vX2_hasNet lX3_55 (by decide) rfl (Nat.le_of_ble_eq_true rfl) (jHn hI hc64) rfl ?_
                  rw [decide_eq_false hnet]
                  refine fx_if_eq (tgt := 76) dX3_netFor_70 (by decide) jout_l (fun hc70 => ?_) (fun hc70 => ?_)
                  · refine fx_iload_n dX3_netFor_76 rfl rfl ?_
                    refine fs_istore_8 dX3_netFor_77 rfl (by decide) ?_
                    refine fx_lload_n dX3_netFor_79 rfl rfl ?_
                    refine fx_iload dX3_netFor_80 rfl ?_
                    refine fx_callSv dX3_netFor_82 sX3_holds lX3_168 (by decide) (Nat.le_of_ble_eq_true rfl) (eX3_holds hT hc64) rfl ?_
                    rw [htb]
                    refine fx_if_eq (tgt := 123) dX3_netFor_85 (by decide) jout_l (fun hc85 => ?_) (fun hc85 => ?_)
                    · exact absurd hc85 (by decide)
                    · refine fx_aload_n dX3_netFor_88 rfl rfl ?_
                      refine fx_get dX3_netFor_89 kX3_16 rfl rfl ?_
                      refine fx_aload_n dX3_netFor_92 rfl rfl ?_
                      refine fx_get dX3_netFor_93 kX3_10 rfl rfl ?_
                      refine fx_callVn dX3_netFor_96 vX2_becomes lX3_154 (by decide) rfl (Nat.le_of_ble_eq_true rfl) (jBe hI) rfl ?_
                      refine fx_aload_n dX3_netFor_99 rfl rfl ?_
                      refine fx_get dX3_netFor_100 kX3_16 rfl rfl ?_
                      refine fx_iload dX3_netFor_103 rfl ?_
                      refine fx_iconst (v := nI 1) dX3_netFor_105 (by decide) ?_
                      refine fx_callVn dX3_netFor_106 vX2_setNet lX3_58 (by decide) rfl (Nat.le_of_ble_eq_true rfl) (jSe hc64) rfl ?_
                      refine fx_aload_n dX3_netFor_109 rfl rfl ?_
                      refine fx_get dX3_netFor_110 kX3_16 rfl rfl ?_
                      refine fx_iload_n dX3_netFor_113 rfl rfl ?_
                      refine fx_iload dX3_netFor_114 rfl ?_
                      refine fx_iconst (v := nI 1) dX3_netFor_116 (by decide) ?_
                      refine fx_isub dX3_netFor_117 ?_
                      rw [pk_sub (by omega)]
                      refine fx_callVv dX3_netFor_118 vX2_tillCaught lX3_162 (by decide) rfl (Nat.le_of_ble_eq_true rfl) eT1 rfl ?_
                      refine fs_istore_8 dX3_netFor_121 rfl (by decide) ?_
                      exact K1
                  · exact absurd rfl hc70
              · rw [if_neg hlt, if_neg (by decide)] at eT1
                obtain ⟨V', n', h', t', K1⟩ := Ksk (by omega) (-1) (Or.inl rfl) _ n _ _
                refine ⟨V', n', h', t', ?_⟩
                refine fx_iload dX3_netFor_54 rfl ?_
                refine fx_bipush (v := nI 64) dX3_netFor_56 (by decide) ?_
                refine fx_icmp_ge (tgt := 149) dX3_netFor_58 (by decide) jout_l (fun hc58 => ?_) (fun hc58 => ?_)
                · exact absurd hc58 (nI_ge (by omega) (by decide))
                · refine fx_aload_n dX3_netFor_61 rfl rfl ?_
                  refine fx_get dX3_netFor_62 kX3_10 rfl rfl ?_
                  refine fx_iload dX3_netFor_65 rfl ?_
                  refine fx_callVv dX3_netFor_67 vX2_hasNet lX3_55 (by decide) rfl (Nat.le_of_ble_eq_true rfl) (jHn hI hc64) rfl ?_
                  rw [decide_eq_false hnet]
                  refine fx_if_eq (tgt := 76) dX3_netFor_70 (by decide) jout_l (fun hc70 => ?_) (fun hc70 => ?_)
                  · refine fx_iload_n dX3_netFor_76 rfl rfl ?_
                    refine fs_istore_8 dX3_netFor_77 rfl (by decide) ?_
                    refine fx_lload_n dX3_netFor_79 rfl rfl ?_
                    refine fx_iload dX3_netFor_80 rfl ?_
                    refine fx_callSv dX3_netFor_82 sX3_holds lX3_168 (by decide) (Nat.le_of_ble_eq_true rfl) (eX3_holds hT hc64) rfl ?_
                    rw [htb]
                    refine fx_if_eq (tgt := 123) dX3_netFor_85 (by decide) jout_l (fun hc85 => ?_) (fun hc85 => ?_)
                    · exact absurd hc85 (by decide)
                    · refine fx_aload_n dX3_netFor_88 rfl rfl ?_
                      refine fx_get dX3_netFor_89 kX3_16 rfl rfl ?_
                      refine fx_aload_n dX3_netFor_92 rfl rfl ?_
                      refine fx_get dX3_netFor_93 kX3_10 rfl rfl ?_
                      refine fx_callVn dX3_netFor_96 vX2_becomes lX3_154 (by decide) rfl (Nat.le_of_ble_eq_true rfl) (jBe hI) rfl ?_
                      refine fx_aload_n dX3_netFor_99 rfl rfl ?_
                      refine fx_get dX3_netFor_100 kX3_16 rfl rfl ?_
                      refine fx_iload dX3_netFor_103 rfl ?_
                      refine fx_iconst (v := nI 1) dX3_netFor_105 (by decide) ?_
                      refine fx_callVn dX3_netFor_106 vX2_setNet lX3_58 (by decide) rfl (Nat.le_of_ble_eq_true rfl) (jSe hc64) rfl ?_
                      refine fx_aload_n dX3_netFor_109 rfl rfl ?_
                      refine fx_get dX3_netFor_110 kX3_16 rfl rfl ?_
                      refine fx_iload_n dX3_netFor_113 rfl rfl ?_
                      refine fx_iload dX3_netFor_114 rfl ?_
                      refine fx_iconst (v := nI 1) dX3_netFor_116 (by decide) ?_
                      refine fx_isub dX3_netFor_117 ?_
                      rw [pk_sub (by omega)]
                      refine fx_callVv dX3_netFor_118 vX2_tillCaught lX3_162 (by decide) rfl (Nat.le_of_ble_eq_true rfl) eT1 rfl ?_
                      refine fs_istore_8 dX3_netFor_121 rfl (by decide) ?_
                      exact K1
                  · exact absurd rfl hc70
    obtain ⟨V', n', h', t', H0⟩ := H 64 0 (by omega) none S0.2.1 n S0.2.2.1 S0.2.2.2
    refine jP_out (V := V') (n := n') (h := h') (t := t') R0 hA e4 ?_
    have el : (rC F N G).length = (jout F N G X V' n' h' t').2.length := jout_l
    refine mx_of (L := [some (.ref 0), some (.int (nI b)), none, none, none, none, none, none, none]) (by decide) (fun _ => rfl) (fun _ => Nat.le_of_ble_eq_true rfl) ?_
    refine fx_aload_n dX3_netFor_0 rfl rfl ?_
    refine fx_iload_n dX3_netFor_1 rfl rfl ?_
    refine fx_callVv dX3_netFor_2 vX3_isBell lX3_91 (by decide) rfl (Nat.le_of_ble_eq_true rfl) (eX3_isBell hI hn8) rfl ?_
    refine fx_if_ne (tgt := 14) dX3_netFor_5 (by decide) el (fun hc5 => ?_) (fun hc5 => ?_)
    · refine fx_aload_n dX3_netFor_14 rfl rfl ?_
      refine fx_get dX3_netFor_15 kX3_16 rfl rfl ?_
      refine fx_aload_n dX3_netFor_18 rfl rfl ?_
      refine fx_get dX3_netFor_19 kX3_10 rfl rfl ?_
      refine fx_callVn dX3_netFor_22 vX2_becomes lX3_154 (by decide) rfl (Nat.le_of_ble_eq_true rfl) (jBe0 hI i2) rfl ?_
      refine fx_aload_n dX3_netFor_25 rfl rfl ?_
      refine fx_get dX3_netFor_26 kX3_16 rfl rfl ?_
      refine fx_iload_n dX3_netFor_29 rfl rfl ?_
      refine fx_bipush (v := nI 20) dX3_netFor_30 (by decide) ?_
      refine fx_callVv dX3_netFor_32 vX2_tillCaught lX3_162 (by decide) rfl (Nat.le_of_ble_eq_true rfl) eT0 rfl ?_
      refine fs_istore_n_2 dX3_netFor_35 rfl (by decide) ?_
      refine fx_aload_n dX3_netFor_36 rfl rfl ?_
      refine fx_get dX3_netFor_37 kX3_16 rfl rfl ?_
      refine fx_get dX3_netFor_40 kX3_165 rfl rfl ?_
      rw [show pN N 9 S0.2.1 S0.2.2.2 9 13 = lN S0.2.2.2 from rfl]
      refine fs_lstore_n_3 dX3_netFor_43 rfl (by decide) ?_
      refine fx_iconst (v := (-1)) dX3_netFor_44 (by decide) ?_
      refine fs_istore_5 dX3_netFor_45 rfl (by decide) ?_
      refine fx_bipush (v := nI 21) dX3_netFor_47 (by decide) ?_
      refine fs_istore_6 dX3_netFor_49 rfl (by decide) ?_
      refine fx_iconst (v := nI 0) dX3_netFor_51 (by decide) ?_
      refine fs_istore_7 dX3_netFor_52 rfl (by decide) ?_
      exact H0
    · exact absurd (nI_eq0' hc5) ha
theorem eX3_best_n {a : Int32} (h : jwi a (nI 0) (nI 20) = false) : Mx mX3_best [.ref 0, .int a] (rC F N G) (some (.int (jfd 0))) (rC F N (ga G 36 (jf1 (G 36) 0))) := by
  refine mx_of (L := [some (.ref 0), some (.int a), none, none, none, none, none, none, none]) (by decide) (fun _ => rfl) (fun _ => Nat.le_of_ble_eq_true rfl) ?_
  refine fx_iload_n dX3_best_0 rfl rfl ?_
  refine fx_if_lt (tgt := 10) dX3_best_1 (by decide) rC_l (fun hc1 => ?_) (fun hc1 => ?_)
  · refine fx_aload_n dX3_best_10 rfl rfl ?_
    refine fx_iconst (v := nI 0) dX3_best_11 (by decide) ?_
    refine fx_callVv dX3_best_12 vX3_finding lX3_51 (by decide) rfl (Nat.le_of_ble_eq_true rfl) (eX3_finding (k := 0) (by decide)) rfl ?_
    exact fx_ireq dX3_best_15 rfl rfl rfl rfl
  · refine fx_iload_n dX3_best_4 rfl rfl ?_
    refine fx_bipush (v := nI 20) dX3_best_5 (by decide) ?_
    refine fx_icmp_le (tgt := 16) dX3_best_7 (by decide) rC_l (fun hc7 => ?_) (fun hc7 => ?_)
    · exact jtf h (jwi_in (by rw [nI_0]; exact hc1) (Int32.not_lt.mpr hc7))
    · refine fx_aload_n dX3_best_10 rfl rfl ?_
      refine fx_iconst (v := nI 0) dX3_best_11 (by decide) ?_
      refine fx_callVv dX3_best_12 vX3_finding lX3_51 (by decide) rfl (Nat.le_of_ble_eq_true rfl) (eX3_finding (k := 0) (by decide)) rfl ?_
      exact fx_ireq dX3_best_15 rfl rfl rfl rfl
theorem P_best (R : jR F4 G4 F N G) (a : Int32) : jP mX4_best mX3_best [.int a] F4 G4 F N G := by
  by_cases ha : jwi a (nI 0) (nI 20) = false
  · exact ⟨_, _, _, _, _, _, eX4_best_n ha, eX3_best_n ha, jR_f R (by decide)⟩
  · obtain ⟨u, hu, rfl⟩ := jwi_of (k := 20) (by decide) (jbt_t ha)
    have R0 := R
    obtain ⟨⟨n, t, hW, hS, hH, ht, hI⟩, ⟨V2, n2, h2, t2, i2⟩, -, ⟨c1, c2, c3⟩, -⟩ := R
    have hn8 := hW.2.1
    obtain ⟨m, A, hA, e4⟩ := eX4_best_y (F := F4) c1 hW hu c3
    have hx := jbt_or (G4 1) n u 64
    generalize hX : (jbt (G4 1) n u 64).1 = X at e4 hx
    have eT0 := jRu (F := F) (N := N) (G := G) (h := G4 1 0) (t := 0) (m := u) (by omega) hW (by decide)
    have hT := (jrS_W (h := G4 1 0) (t := 0) hW (by decide) u).2
    have hsn := fun (c : Nat) (hc : c < 64) => jtr_sN (x := nI 1) (h := G4 1 0) (m := u) hc hW
    have eE := jE_sN (jrS_E (h := G4 1 0) (t := 0) hW (by decide) u).1 n
    generalize hS0 : jrS (G4 1) n (G4 1 0) 0 u = S0 at *
    have hIk := jI_p (F := F) (N := N) (G := G) (w := 9) (V := S0.2.1) (n := n) (h := S0.2.2.1) (t := S0.2.2.2)
    have hb0 := jsN_256 (V := jhrs (G4 1) n u) hn8
    generalize hwv : jsN (jhrs (G4 1) n u) n = wv at *
    have H : ∀ (q c : Nat), c + q = 64 → ∀ (l8 : Option Value) (Vx : Nat → Int32) (nx : Nat) (hx : Int32) (tx : Nat), ∃ (V' : Nat → Int32) (n' : Nat) (h' : Int32) (t' : Nat), Fx mX3_best (jout F N G X V' n' h' t') 63 [some (.ref 0), some (.int (nI u)), some (.int (nI (jp wv))), some (.long (lN S0.2.2.2)), none, some (.int (jbt (G4 1) n u c).1), some (.int (jbt (G4 1) n u c).2), some (.int (nI c)), l8] [] (jC F N G 9 Vx nx hx tx) := by
      intro q
      induction q with
      | zero =>
        intro c hc l8 Vx nx hhx tx
        have hc' : c = 64 := by omega
        subst hc'
        refine ⟨Vx, nx, hhx, tx, ?_⟩
        rw [hX]
        rcases hx with hx | ⟨d, hd, hx⟩
        · rw [hx, show jout F N G (-1) Vx nx hhx tx = (some (.int (jfd 3)), rC (pF F 9 Vx nx hhx) (pN N 9 Vx tx) (ga (pG G 9 Vx) 36 (jf1 (G 36) 3))) from if_pos rfl]
          refine fx_iload dX3_best_63 rfl ?_
          refine fx_bipush (v := nI 64) dX3_best_65 (by decide) ?_
          refine fx_icmp_ge (tgt := 159) dX3_best_67 (by decide) rC_l (fun hc67 => ?_) (fun hc67 => ?_)
          · refine fx_iload dX3_best_159 rfl ?_
            refine fx_if_ge (tgt := 172) dX3_best_161 (by decide) rC_l (fun hc161 => ?_) (fun hc161 => ?_)
            · exact absurd hc161 (by decide)
            · refine fx_aload_n dX3_best_164 rfl rfl ?_
              refine fx_iconst (v := nI 3) dX3_best_165 (by decide) ?_
              refine fx_callVv dX3_best_166 vX3_finding lX3_51 (by decide) rfl (Nat.le_of_ble_eq_true rfl) (jFi9 (k := 3) (by decide)) rfl ?_
              refine fx_goto (tgt := 174) dX3_best_169 (by decide) ?_
              exact fx_ireq dX3_best_174 rfl rfl rfl rfl
          · exact absurd (Int32.le_refl _) hc67
        · rw [hx, show jout F N G (nI d) Vx nx hhx tx = (some (.int (nI d)), jC F N G 9 Vx nx hhx tx) from if_neg (nI_m1 (by omega))]
          refine fx_iload dX3_best_63 rfl ?_
          refine fx_bipush (v := nI 64) dX3_best_65 (by decide) ?_
          refine fx_icmp_ge (tgt := 159) dX3_best_67 (by decide) rC_l (fun hc67 => ?_) (fun hc67 => ?_)
          · refine fx_iload dX3_best_159 rfl ?_
            refine fx_if_ge (tgt := 172) dX3_best_161 (by decide) rC_l (fun hc161 => ?_) (fun hc161 => ?_)
            · refine fx_iload dX3_best_172 rfl ?_
              exact fx_ireq dX3_best_174 rfl rfl rfl rfl
            · exact absurd (nI_pos' (by omega)) hc161
          · exact absurd (Int32.le_refl _) hc67
      | succ q ih =>
        intro c hc l8 Vx nx hhx tx
        have hc64 : c < 64 := by omega
        have e1 : jbt (G4 1) n u (c + 1) = if G4 1 (18 + c) = nI 1 then jbt (G4 1) n u c else (if (jbt (G4 1) n u c).2 < nI (jp (jsN (jhrs (upd (G4 1) (18 + c) (nI 1)) n u) n)) then nI c else (jbt (G4 1) n u c).1, jmax (jbt (G4 1) n u c).2 (nI (jp (jsN (jhrs (upd (G4 1) (18 + c) (nI 1)) n u) n)))) := rfl
        have ihx := fun l8 Vx nx hx tx => ih (c + 1) (by omega) l8 Vx nx hx tx
        rw [e1] at ihx
        generalize hj : jbt (G4 1) n u c = J at *
        by_cases hnet : G4 1 (18 + c) = nI 1
        · rw [if_pos hnet] at ihx
          obtain ⟨V', n', h', t', ih1⟩ := ihx l8 Vx nx hhx tx
          refine ⟨V', n', h', t', ?_⟩
          refine fx_iload dX3_best_63 rfl ?_
          refine fx_bipush (v := nI 64) dX3_best_65 (by decide) ?_
          refine fx_icmp_ge (tgt := 159) dX3_best_67 (by decide) jout_l (fun hc67 => ?_) (fun hc67 => ?_)
          · exact absurd hc67 (nI_ge (by omega) (by decide))
          · refine fx_aload_n dX3_best_70 rfl rfl ?_
            refine fx_get dX3_best_71 kX3_10 rfl rfl ?_
            refine fx_iload dX3_best_74 rfl ?_
            refine fx_callVv dX3_best_76 vX2_hasNet lX3_55 (by decide) rfl (Nat.le_of_ble_eq_true rfl) (jHn hI hc64) rfl ?_
            rw [decide_eq_true hnet]
            refine fx_if_eq (tgt := 85) dX3_best_79 (by decide) jout_l (fun hc79 => ?_) (fun hc79 => ?_)
            · exact absurd hc79 (by decide)
            · refine fx_goto (tgt := 153) dX3_best_82 (by decide) ?_
              refine fs_iinc_7 (w := nI 1) dX3_best_153 (by decide) rfl (by decide) ?_
              refine fx_goto (tgt := 63) dX3_best_156 (by decide) ?_
              rw [nI_add]
              exact ih1
        · rw [if_neg hnet] at ihx
          have hWc := jW_net (c := c) hW hc64 (Or.inr (rfl : nI 1 = nI 1))
          have hsc := hsn c hc64
          have eT := jRu (F := F) (N := N) (G := G) (h := G4 1 0) (t := 0) (m := u) (by omega) hWc (by decide)
          have eE2 := jE_sN (jrS_E (h := G4 1 0) (t := 0) hWc (by decide) u).1 n
          have hz8 := jsN_256 (V := jhrs (upd (G4 1) (18 + c) (nI 1)) n u) hn8
          generalize hz : jsN (jhrs (upd (G4 1) (18 + c) (nI 1)) n u) n = z at *
          generalize jrS (upd (G4 1) (18 + c) (nI 1)) n (G4 1 0) 0 u = S at *
          have hIz := jI_p (F := F) (N := N) (G := G) (w := 9) (V := S.2.1) (n := n) (h := S.2.2.1) (t := S.2.2.2)
          have K : ∀ (Vy : Nat → Int32) (ny : Nat) (hy : Int32) (ty : Nat), ∃ (V' : Nat → Int32) (n' : Nat) (h' : Int32) (t' : Nat), Fx mX3_best (jout F N G X V' n' h' t') 138 [some (.ref 0), some (.int (nI u)), some (.int (nI (jp wv))), some (.long (lN S0.2.2.2)), none, some (.int J.1), some (.int J.2), some (.int (nI c)), some (.int (nI (jp z)))] [] (jC F N G 9 Vy ny hy ty) := by
            intro Vy ny hy ty
            by_cases hlt : J.2 < nI (jp z)
            · rw [if_pos hlt, show jmax J.2 (nI (jp z)) = nI (jp z) from if_pos hlt] at ihx
              obtain ⟨V', n', h', t', ih1⟩ := ihx (some (.int (nI (jp z)))) Vy ny hy ty
              refine ⟨V', n', h', t', ?_⟩
              refine fx_iload dX3_best_138 rfl ?_
              refine fx_iload dX3_best_140 rfl ?_
              refine fx_icmp_le (tgt := 153) dX3_best_142 (by decide) jout_l (fun hc142 => ?_) (fun hc142 => ?_)
              · exact absurd hlt (Int32.not_lt.mpr hc142)
              · refine fx_iload dX3_best_145 rfl ?_
                refine fs_istore_6 dX3_best_147 rfl (by decide) ?_
                refine fx_iload dX3_best_149 rfl ?_
                refine fs_istore_5 dX3_best_151 rfl (by decide) ?_
                refine fs_iinc_7 (w := nI 1) dX3_best_153 (by decide) rfl (by decide) ?_
                refine fx_goto (tgt := 63) dX3_best_156 (by decide) ?_
                rw [nI_add]
                exact ih1
            · rw [if_neg hlt, show jmax J.2 (nI (jp z)) = J.2 from if_neg hlt] at ihx
              obtain ⟨V', n', h', t', ih1⟩ := ihx (some (.int (nI (jp z)))) Vy ny hy ty
              refine ⟨V', n', h', t', ?_⟩
              refine fx_iload dX3_best_138 rfl ?_
              refine fx_iload dX3_best_140 rfl ?_
              refine fx_icmp_le (tgt := 153) dX3_best_142 (by decide) jout_l (fun hc142 => ?_) (fun hc142 => ?_)
              · refine fs_iinc_7 (w := nI 1) dX3_best_153 (by decide) rfl (by decide) ?_
                refine fx_goto (tgt := 63) dX3_best_156 (by decide) ?_
                rw [nI_add]
                exact ih1
              · exact absurd (Int32.not_lt.mp hlt) hc142
          cases htb : S0.2.2.2.testBit c
          · obtain ⟨V', n', h', t', K1⟩ := K Vx nx hhx tx
            refine ⟨V', n', h', t', ?_⟩
            rw [hsc htb] at K1
            refine fx_iload dX3_best_63 rfl ?_
            refine fx_bipush (v := nI 64) dX3_best_65 (by decide) ?_
            refine fx_icmp_ge (tgt := 159) dX3_best_67 (by decide) jout_l (fun hc67 => ?_) (fun hc67 => ?_)
            · exact absurd hc67 (nI_ge (by omega) (by decide))
            · refine fx_aload_n dX3_best_70 rfl rfl ?_
              refine fx_get dX3_best_71 kX3_10 rfl rfl ?_
              refine fx_iload dX3_best_74 rfl ?_
              refine fx_callVv dX3_best_76 vX2_hasNet lX3_55 (by decide) rfl (Nat.le_of_ble_eq_true rfl) (jHn hI hc64) rfl ?_
              rw [decide_eq_false hnet]
              refine fx_if_eq (tgt := 85) dX3_best_79 (by decide) jout_l (fun hc79 => ?_) (fun hc79 => ?_)
              · refine fx_iload_n dX3_best_85 rfl rfl ?_
                refine fs_istore_8 dX3_best_86 rfl (by decide) ?_
                refine fx_lload_n dX3_best_88 rfl rfl ?_
                refine fx_iload dX3_best_89 rfl ?_
                refine fx_callSv dX3_best_91 sX3_holds lX3_168 (by decide) (Nat.le_of_ble_eq_true rfl) (eX3_holds hT hc64) rfl ?_
                rw [htb]
                refine fx_if_eq (tgt := 138) dX3_best_94 (by decide) jout_l (fun hc94 => ?_) (fun hc94 => ?_)
                · exact K1
                · exact absurd rfl hc94
              · exact absurd rfl hc79
          · obtain ⟨V', n', h', t', K1⟩ := K S.2.1 n S.2.2.1 S.2.2.2
            refine ⟨V', n', h', t', ?_⟩
            refine fx_iload dX3_best_63 rfl ?_
            refine fx_bipush (v := nI 64) dX3_best_65 (by decide) ?_
            refine fx_icmp_ge (tgt := 159) dX3_best_67 (by decide) jout_l (fun hc67 => ?_) (fun hc67 => ?_)
            · exact absurd hc67 (nI_ge (by omega) (by decide))
            · refine fx_aload_n dX3_best_70 rfl rfl ?_
              refine fx_get dX3_best_71 kX3_10 rfl rfl ?_
              refine fx_iload dX3_best_74 rfl ?_
              refine fx_callVv dX3_best_76 vX2_hasNet lX3_55 (by decide) rfl (Nat.le_of_ble_eq_true rfl) (jHn hI hc64) rfl ?_
              rw [decide_eq_false hnet]
              refine fx_if_eq (tgt := 85) dX3_best_79 (by decide) jout_l (fun hc79 => ?_) (fun hc79 => ?_)
              · refine fx_iload_n dX3_best_85 rfl rfl ?_
                refine fs_istore_8 dX3_best_86 rfl (by decide) ?_
                refine fx_lload_n dX3_best_88 rfl rfl ?_
                refine fx_iload dX3_best_89 rfl ?_
                refine fx_callSv dX3_best_91 sX3_holds lX3_168 (by decide) (Nat.le_of_ble_eq_true rfl) (eX3_holds hT hc64) rfl ?_
                rw [htb]
                refine fx_if_eq (tgt := 138) dX3_best_94 (by decide) jout_l (fun hc94 => ?_) (fun hc94 => ?_)
                · exact absurd hc94 (by decide)
                · refine fx_aload_n dX3_best_97 rfl rfl ?_
                  refine fx_get dX3_best_98 kX3_16 rfl rfl ?_
                  refine fx_aload_n dX3_best_101 rfl rfl ?_
                  refine fx_get dX3_best_102 kX3_10 rfl rfl ?_
                  refine fx_callVn dX3_best_105 vX2_becomes lX3_154 (by decide) rfl (Nat.le_of_ble_eq_true rfl) (jBe hI) rfl ?_
                  refine fx_aload_n dX3_best_108 rfl rfl ?_
                  refine fx_get dX3_best_109 kX3_16 rfl rfl ?_
                  refine fx_iload dX3_best_112 rfl ?_
                  refine fx_iconst (v := nI 1) dX3_best_114 (by decide) ?_
                  refine fx_callVn dX3_best_115 vX2_setNet lX3_58 (by decide) rfl (Nat.le_of_ble_eq_true rfl) (jSe hc64) rfl ?_
                  refine fx_aload_n dX3_best_118 rfl rfl ?_
                  refine fx_get dX3_best_119 kX3_16 rfl rfl ?_
                  refine fx_iload_n dX3_best_122 rfl rfl ?_
                  refine fx_callVn dX3_best_123 vX2_runHours lX3_158 (by decide) rfl (Nat.le_of_ble_eq_true rfl) eT rfl ?_
                  refine fx_aload_n dX3_best_126 rfl rfl ?_
                  refine fx_get dX3_best_127 kX3_16 rfl rfl ?_
                  refine fx_get dX3_best_130 kX3_125 rfl rfl ?_
                  rw [jI_c hIz, eE2]
                  refine fx_callSv dX3_best_133 sJ6_bitCount_0f7a4 lX3_128 (by decide) (Nat.le_of_ble_eq_true rfl) (eJ6_bitCount_0f7a4 hz8) rfl ?_
                  refine fs_istore_8 dX3_best_136 rfl (by decide) ?_
                  exact K1
              · exact absurd rfl hc79
    obtain ⟨V', n', h', t', H0⟩ := H 64 0 (by omega) none S0.2.1 n S0.2.2.1 S0.2.2.2
    refine jP_out (V := V') (n := n') (h := h') (t := t') R0 hA e4 ?_
    have el : (rC F N G).length = (jout F N G X V' n' h' t').2.length := jout_l
    refine mx_of (L := [some (.ref 0), some (.int (nI u)), none, none, none, none, none, none, none]) (by decide) (fun _ => rfl) (fun _ => Nat.le_of_ble_eq_true rfl) ?_
    refine fx_iload_n dX3_best_0 rfl rfl ?_
    refine fx_if_lt (tgt := 10) dX3_best_1 (by decide) el (fun hc1 => ?_) (fun hc1 => ?_)
    · exact absurd hc1 (nI_pos (by omega))
    · refine fx_iload_n dX3_best_4 rfl rfl ?_
      refine fx_bipush (v := nI 20) dX3_best_5 (by decide) ?_
      refine fx_icmp_le (tgt := 16) dX3_best_7 (by decide) el (fun hc7 => ?_) (fun hc7 => ?_)
      · refine fx_aload_n dX3_best_16 rfl rfl ?_
        refine fx_get dX3_best_17 kX3_16 rfl rfl ?_
        refine fx_aload_n dX3_best_20 rfl rfl ?_
        refine fx_get dX3_best_21 kX3_10 rfl rfl ?_
        refine fx_callVn dX3_best_24 vX2_becomes lX3_154 (by decide) rfl (Nat.le_of_ble_eq_true rfl) (jBe0 hI i2) rfl ?_
        refine fx_aload_n dX3_best_27 rfl rfl ?_
        refine fx_get dX3_best_28 kX3_16 rfl rfl ?_
        refine fx_iload_n dX3_best_31 rfl rfl ?_
        refine fx_callVn dX3_best_32 vX2_runHours lX3_158 (by decide) rfl (Nat.le_of_ble_eq_true rfl) eT0 rfl ?_
        refine fx_aload_n dX3_best_35 rfl rfl ?_
        refine fx_get dX3_best_36 kX3_16 rfl rfl ?_
        refine fx_get dX3_best_39 kX3_125 rfl rfl ?_
        rw [jI_c hIk, eE]
        refine fx_callSv dX3_best_42 sJ6_bitCount_0f7a4 lX3_128 (by decide) (Nat.le_of_ble_eq_true rfl) (eJ6_bitCount_0f7a4 hb0) rfl ?_
        refine fs_istore_n_2 dX3_best_45 rfl (by decide) ?_
        refine fx_aload_n dX3_best_46 rfl rfl ?_
        refine fx_get dX3_best_47 kX3_16 rfl rfl ?_
        refine fx_get dX3_best_50 kX3_165 rfl rfl ?_
        rw [show pN N 9 S0.2.1 S0.2.2.2 9 13 = lN S0.2.2.2 from rfl]
        refine fs_lstore_n_3 dX3_best_53 rfl (by decide) ?_
        refine fx_iconst (v := (-1)) dX3_best_54 (by decide) ?_
        refine fs_istore_5 dX3_best_55 rfl (by decide) ?_
        refine fx_iconst (v := (-1)) dX3_best_57 (by decide) ?_
        refine fs_istore_6 dX3_best_58 rfl (by decide) ?_
        refine fx_iconst (v := nI 0) dX3_best_60 (by decide) ?_
        refine fs_istore_7 dX3_best_61 rfl (by decide) ?_
        exact H0
      · exact absurd (nI_le hu (by decide)) hc7
end
