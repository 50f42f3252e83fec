/-! ===== the class: tokens ===== -/
set_option maxRecDepth 100000
def qC (F : Nat → Nat → Int32) (a b c d e : Int32) : Nat → Nat → Int32 := fun p j => if p = 25 then (if j = 2 then a else if j = 3 then b else if j = 4 then c else if j = 5 then d else if j = 6 then e else F p j) else F p j
section
variable {F : Nat → Nat → Int32} {a b c d e x : Int32}
theorem r1 : qC F a b c d e 25 1 = F 25 1 := rfl
theorem r2 : qC F a b c d e 25 2 = a := rfl
theorem r3 : qC F a b c d e 25 3 = b := rfl
theorem r4 : qC F a b c d e 25 4 = c := rfl
theorem r5 : qC F a b c d e 25 5 = d := rfl
theorem r6 : qC F a b c d e 25 6 = e := rfl
theorem qC_o {p j : Nat} (h : p ≠ 25) : qC F a b c d e p j = F p j := by unfold qC; rw [if_neg h]
theorem qC_x {j : Nat} {v : Nat → Int32} (hv : ∀ k, qC F a b c d e 25 k = v k) : qC F a b c d e = fun p k => if p = 25 then v k else F p k := by
  funext p k
  by_cases h : p = 25
  · subst h; rw [if_pos rfl]; exact hv k
  · rw [if_neg h, qC_o h]
theorem qC_put {j : Nat} {G : Nat → Nat → Int32} (h1 : ∀ k, k ≠ j → G 25 k = qC F a b c d e 25 k) (h2 : G 25 j = x) (h3 : ∀ p k, p ≠ 25 → G p k = F p k) : f2 (qC F a b c d e) 25 j x = G := by
  funext p k
  by_cases hp : p = 25
  · subst hp
    by_cases hk : k = j
    · subst hk; rw [f2_s, h2]
    · rw [f2_n _ _ (Or.inr hk), h1 k hk]
  · rw [f2_n _ _ (Or.inl hp), qC_o hp, h3 p k hp]
theorem qC_2 : f2 (qC F a b c d e) 25 2 x = qC F x b c d e := qC_put (fun k hk => by unfold qC; rw [if_pos rfl, if_pos rfl, if_neg hk, if_neg hk]) rfl (fun p k hp => qC_o hp)
theorem qC_3 : f2 (qC F a b c d e) 25 3 x = qC F a x c d e := qC_put (fun k hk => by unfold qC; rw [if_pos rfl, if_pos rfl, if_neg hk, if_neg hk]) rfl (fun p k hp => qC_o hp)
theorem qC_4 : f2 (qC F a b c d e) 25 4 x = qC F a b x d e := qC_put (fun k hk => by unfold qC; rw [if_pos rfl, if_pos rfl, if_neg hk, if_neg hk]) rfl (fun p k hp => qC_o hp)
theorem qC_5 : f2 (qC F a b c d e) 25 5 x = qC F a b c x e := qC_put (fun k hk => by unfold qC; rw [if_pos rfl, if_pos rfl, if_neg hk, if_neg hk]) rfl (fun p k hp => qC_o hp)
theorem qC_6 : f2 (qC F a b c d e) 25 6 x = qC F a b c d x := qC_put (fun k hk => by unfold qC; rw [if_pos rfl, if_pos rfl, if_neg hk, if_neg hk]) rfl (fun p k hp => qC_o hp)
end
theorem plt_y {x : Int32} (h : ¬ x < nI 97) (h2 : ¬ nI 122 < x) : plt x = true := jwi_in h h2
theorem plt_lo {x : Int32} (h : x < nI 97) : ¬ plt x = true := fun q => by rw [show plt x = false from jwi_lo h] at q; exact absurd q (by decide)
theorem plt_hi {x : Int32} (h : nI 122 < x) : ¬ plt x = true := fun q => by rw [show plt x = false from jwi_hi h] at q; exact absurd q (by decide)
theorem pdg_y {x : Int32} (h : ¬ x < nI 48) (h2 : ¬ nI 57 < x) : pdg x = true := jwi_in h h2
theorem pdg_lo {x : Int32} (h : x < nI 48) : ¬ pdg x = true := fun q => by rw [show pdg x = false from jwi_lo h] at q; exact absurd q (by decide)
theorem pdg_hi {x : Int32} (h : nI 57 < x) : ¬ pdg x = true := fun q => by rw [show pdg x = false from jwi_hi h] at q; exact absurd q (by decide)
def nv (B : Nat → Int32) (z s : Nat) (d : Int32) : Int32 := if kd B z s = 2 then nI (vc B z s 0) else d
/-- the tape at the token that begins at s -/
abbrev sC (F : Nat → Nat → Int32) (N : Nat → Nat → Int64) (G : Nat → Nat → Int32) (B : Nat → Int32) (z s : Nat) (d f : Int32) : zH := rC (qC F (nI (kd B z s)) (nI s) (nI (en B z s)) d f) N G
section
variable {F : Nat → Nat → Int32} {N : Nat → Nat → Int64} {G : Nat → Nat → Int32} {B : Nat → Int32} {z s : Nat}
theorem eX1_advance {e : Nat} {a b d f : Int32} (hz : F 25 1 = nI z) (hb : ∀ i, i < z → G 26 i = B i) (hB : jBy B z) (he : e ≤ z) : Mx mX1_advance [.ref 25] (rC (qC F a b (nI e) d f) N G) none (sC F N G B z (sk B z e) (nv B z (sk B z e) d) f) := by
  refine mx_of (L := [some (.ref 25), none]) (by decide) (fun _ => rfl) (fun _ => Nat.le_of_ble_eq_true rfl) ?_
  have hz1 := hB.1
  have hsl := sk_le (B := B) he
  have hz2 : ∀ a b c d e : Int32, qC F a b c d e 25 1 = nI z := fun _ _ _ _ _ => r1.trans hz
  have K46 : ∀ s, s ≤ z → Fx mX1_advance (none, rC (qC F (nI (kd B z s)) (nI s) (nI (en B z s)) (nv B z s d) f) N G) 46 [some (.ref 25), none] [] (rC (qC F a (nI s) (nI e) d f) N G) := by
    intro s hs
    have K78 : Fx mX1_advance (none, rC (qC F (nI (kd B z s)) (nI s) (nI (en B z s)) (nv B z s d) f) N G) 78 [some (.ref 25), none] [.int (btk B z s)] (rC (qC F a (nI s) (nI s) d f) N G) := by
      by_cases h0 : btk B z s < 0
      · rw [show en B z s = s from if_pos (kd_0 h0), show nv B z s d = d by unfold nv; rw [kd_0 h0]; rfl, kd_0 h0]
        refine fs_istore_n_1 dX1_advance_78 rfl (by decide) ?_
        refine fx_iload_n dX1_advance_79 rfl rfl ?_
        refine fx_if_ge (tgt := 91) dX1_advance_80 (by decide) rC_l (fun hc80 => ?_) (fun hc80 => ?_)
        · exact absurd h0 (Int32.not_lt.mpr hc80)
        · refine fx_aload_n dX1_advance_83 rfl rfl ?_
          refine fx_iconst (v := nI 0) dX1_advance_84 (by decide) ?_
          refine fx_put dX1_advance_85 kX1_32 rfl (Nat.le_of_ble_eq_true rfl) (fun _ => rfl) rfl rfl u1_2 ?_
          rw [qC_2]
          refine fx_goto (tgt := 299) dX1_advance_88 (by decide) ?_
          exact fx_vreq dX1_advance_299 rfl rfl
      · by_cases h1 : plt (btk B z s) = true
        · have ek := kd_1 h0 h1
          rw [show en B z s = rn plt B z s by unfold en; rw [ek]; rfl, show nv B z s d = d by unfold nv; rw [ek]; rfl, ek]
          have HL : ∀ (r k : Nat), k + r = z → rn plt B z k = rn plt B z s → Fx mX1_advance (none, rC (qC F (nI 1) (nI s) (nI (rn plt B z s)) d f) N G) 108 [some (.ref 25), some (.int (btk B z s))] [] (rC (qC F (nI 1) (nI s) (nI k) d f) N G) := by
            intro r
            induction r with
            | zero =>
              intro k hk hr
              have q : ¬ plt (btk B z k) = true := fun q => by have := btk_lt plt_m q; omega
              rw [← hr, rn_n q]
              refine fx_aload_n dX1_advance_108 rfl rfl ?_
              refine fx_get dX1_advance_109 kX1_22 rfl rfl ?_
              rw [r4]
              refine fx_aload_n dX1_advance_112 rfl rfl ?_
              refine fx_get dX1_advance_113 kX1_15 rfl rfl ?_
              rw [hz2]
              refine fx_icmp_ge (tgt := 299) dX1_advance_116 (by decide) rC_l (fun hc116 => ?_) (fun hc116 => ?_)
              · exact fx_vreq dX1_advance_299 rfl rfl
              · exact absurd (nI_le (by omega) (by omega)) hc116
            | succ r ih =>
              intro k hk hr
              have ebt : btk B z k = B k := btk_in (by omega)
              by_cases q : plt (btk B z k) = true
              · have ih1 := ih (k + 1) (by omega) (by rw [← rn_y plt_m q]; exact hr)
                rw [ebt] at q
                refine fx_aload_n dX1_advance_108 rfl rfl ?_
                refine fx_get dX1_advance_109 kX1_22 rfl rfl ?_
                rw [r4]
                refine fx_aload_n dX1_advance_112 rfl rfl ?_
                refine fx_get dX1_advance_113 kX1_15 rfl rfl ?_
                rw [hz2]
                refine fx_icmp_ge (tgt := 299) dX1_advance_116 (by decide) rC_l (fun hc116 => ?_) (fun hc116 => ?_)
                · exact absurd hc116 (nI_ge (by omega) (by omega))
                · refine fx_aload_n dX1_advance_119 rfl rfl ?_
                  refine fx_get dX1_advance_120 kX1_9 rfl rfl ?_
                  refine fx_aload_n dX1_advance_123 rfl rfl ?_
                  refine fx_get dX1_advance_124 kX1_22 rfl rfl ?_
                  rw [r4]
                  refine fx_iald dX1_advance_127 rfl (vp_in_nI (by omega) (by decide)) ?_
                  rw [nI_clamp (by omega), hb k (by omega)]
                  refine fx_bipush (v := nI 97) dX1_advance_128 (by decide) ?_
                  refine fx_icmp_lt (tgt := 299) dX1_advance_130 (by decide) rC_l (fun hc130 => ?_) (fun hc130 => ?_)
                  · exact absurd q (plt_lo hc130)
                  · refine fx_aload_n dX1_advance_133 rfl rfl ?_
                    refine fx_get dX1_advance_134 kX1_9 rfl rfl ?_
                    refine fx_aload_n dX1_advance_137 rfl rfl ?_
                    refine fx_get dX1_advance_138 kX1_22 rfl rfl ?_
                    rw [r4]
                    refine fx_iald dX1_advance_141 rfl (vp_in_nI (by omega) (by decide)) ?_
                    rw [nI_clamp (by omega), hb k (by omega)]
                    refine fx_bipush (v := nI 122) dX1_advance_142 (by decide) ?_
                    refine fx_icmp_gt (tgt := 299) dX1_advance_144 (by decide) rC_l (fun hc144 => ?_) (fun hc144 => ?_)
                    · exact absurd q (plt_hi hc144)
                    · refine fx_aload_n dX1_advance_147 rfl rfl ?_
                      refine fx_dup dX1_advance_148 rfl ?_
                      refine fx_get dX1_advance_149 kX1_22 rfl rfl ?_
                      rw [r4]
                      refine fx_iconst (v := nI 1) dX1_advance_152 (by decide) ?_
                      refine fx_iadd dX1_advance_153 ?_
                      rw [nI_add]
                      refine fx_put dX1_advance_154 kX1_22 rfl (Nat.le_of_ble_eq_true rfl) (fun _ => rfl) rfl rfl u1_4 ?_
                      rw [qC_4]
                      refine fx_goto (tgt := 108) dX1_advance_157 (by decide) ?_
                      exact ih1
              · rw [← hr, rn_n q]
                rw [ebt] at q
                refine fx_aload_n dX1_advance_108 rfl rfl ?_
                refine fx_get dX1_advance_109 kX1_22 rfl rfl ?_
                rw [r4]
                refine fx_aload_n dX1_advance_112 rfl rfl ?_
                refine fx_get dX1_advance_113 kX1_15 rfl rfl ?_
                rw [hz2]
                refine fx_icmp_ge (tgt := 299) dX1_advance_116 (by decide) rC_l (fun hc116 => ?_) (fun hc116 => ?_)
                · exact absurd hc116 (nI_ge (by omega) (by omega))
                · refine fx_aload_n dX1_advance_119 rfl rfl ?_
                  refine fx_get dX1_advance_120 kX1_9 rfl rfl ?_
                  refine fx_aload_n dX1_advance_123 rfl rfl ?_
                  refine fx_get dX1_advance_124 kX1_22 rfl rfl ?_
                  rw [r4]
                  refine fx_iald dX1_advance_127 rfl (vp_in_nI (by omega) (by decide)) ?_
                  rw [nI_clamp (by omega), hb k (by omega)]
                  refine fx_bipush (v := nI 97) dX1_advance_128 (by decide) ?_
                  refine fx_icmp_lt (tgt := 299) dX1_advance_130 (by decide) rC_l (fun hc130 => ?_) (fun hc130 => ?_)
                  · exact fx_vreq dX1_advance_299 rfl rfl
                  · refine fx_aload_n dX1_advance_133 rfl rfl ?_
                    refine fx_get dX1_advance_134 kX1_9 rfl rfl ?_
                    refine fx_aload_n dX1_advance_137 rfl rfl ?_
                    refine fx_get dX1_advance_138 kX1_22 rfl rfl ?_
                    rw [r4]
                    refine fx_iald dX1_advance_141 rfl (vp_in_nI (by omega) (by decide)) ?_
                    rw [nI_clamp (by omega), hb k (by omega)]
                    refine fx_bipush (v := nI 122) dX1_advance_142 (by decide) ?_
                    refine fx_icmp_gt (tgt := 299) dX1_advance_144 (by decide) rC_l (fun hc144 => ?_) (fun hc144 => ?_)
                    · exact fx_vreq dX1_advance_299 rfl rfl
                    · exact absurd (plt_y hc130 hc144) q
          refine fs_istore_n_1 dX1_advance_78 rfl (by decide) ?_
          refine fx_iload_n dX1_advance_79 rfl rfl ?_
          refine fx_if_ge (tgt := 91) dX1_advance_80 (by decide) rC_l (fun hc80 => ?_) (fun hc80 => ?_)
          · refine fx_iload_n dX1_advance_91 rfl rfl ?_
            refine fx_bipush (v := nI 97) dX1_advance_92 (by decide) ?_
            refine fx_icmp_lt (tgt := 160) dX1_advance_94 (by decide) rC_l (fun hc94 => ?_) (fun hc94 => ?_)
            · exact absurd h1 (plt_lo hc94)
            · refine fx_iload_n dX1_advance_97 rfl rfl ?_
              refine fx_bipush (v := nI 122) dX1_advance_98 (by decide) ?_
              refine fx_icmp_gt (tgt := 160) dX1_advance_100 (by decide) rC_l (fun hc100 => ?_) (fun hc100 => ?_)
              · exact absurd h1 (plt_hi hc100)
              · refine fx_aload_n dX1_advance_103 rfl rfl ?_
                refine fx_iconst (v := nI 1) dX1_advance_104 (by decide) ?_
                refine fx_put dX1_advance_105 kX1_32 rfl (Nat.le_of_ble_eq_true rfl) (fun _ => rfl) rfl rfl u1_2 ?_
                rw [qC_2]
                exact HL (z - s) s (by omega) rfl
          · exact absurd (Int32.not_lt.mp h0) hc80
        · have K160 : Fx mX1_advance (none, rC (qC F (nI (kd B z s)) (nI s) (nI (en B z s)) (nv B z s d) f) N G) 160 [some (.ref 25), some (.int (btk B z s))] [] (rC (qC F a (nI s) (nI s) d f) N G) := by
            by_cases h2 : pdg (btk B z s) = true
            · have ek := kd_2 h0 h1 h2
              rw [show en B z s = rn pdg B z s by unfold en; rw [ek]; rfl, show nv B z s d = nI (vc B z s 0) by unfold nv; rw [ek]; rfl, ek]
              have HD : ∀ (r k v : Nat), k + r = z → v ≤ 9999 → rn pdg B z k = rn pdg B z s → vc B z k v = vc B z s 0 → Fx mX1_advance (none, rC (qC F (nI 2) (nI s) (nI (rn pdg B z s)) (nI (vc B z s 0)) f) N G) 182 [some (.ref 25), some (.int (btk B z s))] [] (rC (qC F (nI 2) (nI s) (nI k) (nI v) f) N G) := by
                intro r
                induction r with
                | zero =>
                  intro k v hk hv hr hvl
                  have q : ¬ pdg (btk B z k) = true := fun q => by have := btk_lt pdg_m q; omega
                  rw [← hr, ← hvl, rn_n q, vc_n q]
                  refine fx_aload_n dX1_advance_182 rfl rfl ?_
                  refine fx_get dX1_advance_183 kX1_22 rfl rfl ?_
                  rw [r4]
                  refine fx_aload_n dX1_advance_186 rfl rfl ?_
                  refine fx_get dX1_advance_187 kX1_15 rfl rfl ?_
                  rw [hz2]
                  refine fx_icmp_ge (tgt := 299) dX1_advance_190 (by decide) rC_l (fun hc190 => ?_) (fun hc190 => ?_)
                  · exact fx_vreq dX1_advance_299 rfl rfl
                  · exact absurd (nI_le (by omega) (by omega)) hc190
                | succ r ih =>
                  intro k v hk hv hr hvl
                  have ebt : btk B z k = B k := btk_in (by omega)
                  by_cases q : pdg (btk B z k) = true
                  · obtain ⟨b, hb1, hb2, hb3⟩ := pdg_of q
                    have ih1 := ih (k + 1) (if v < 1000 then 10 * v + ((btk B z k).toNatClampNeg - 48) else 1000) (by omega) (by rw [hb3, nI_clamp (by omega)]; split <;> omega) (by rw [← rn_y pdg_m q]; exact hr) (by rw [← vc_y q]; exact hvl)
                    rw [hb3, nI_clamp (by omega)] at ih1
                    rw [ebt] at q hb3
                    by_cases hv2 : v < 1000
                    · rw [if_pos hv2] at ih1
                      refine fx_aload_n dX1_advance_182 rfl rfl ?_
                      refine fx_get dX1_advance_183 kX1_22 rfl rfl ?_
                      rw [r4]
                      refine fx_aload_n dX1_advance_186 rfl rfl ?_
                      refine fx_get dX1_advance_187 kX1_15 rfl rfl ?_
                      rw [hz2]
                      refine fx_icmp_ge (tgt := 299) dX1_advance_190 (by decide) rC_l (fun hc190 => ?_) (fun hc190 => ?_)
                      · exact absurd hc190 (nI_ge (by omega) (by omega))
                      · refine fx_aload_n dX1_advance_193 rfl rfl ?_
                        refine fx_get dX1_advance_194 kX1_9 rfl rfl ?_
                        refine fx_aload_n dX1_advance_197 rfl rfl ?_
                        refine fx_get dX1_advance_198 kX1_22 rfl rfl ?_
                        rw [r4]
                        refine fx_iald dX1_advance_201 rfl (vp_in_nI (by omega) (by decide)) ?_
                        rw [nI_clamp (by omega), hb k (by omega)]
                        refine fx_bipush (v := nI 48) dX1_advance_202 (by decide) ?_
                        refine fx_icmp_lt (tgt := 299) dX1_advance_204 (by decide) rC_l (fun hc204 => ?_) (fun hc204 => ?_)
                        · exact absurd q (pdg_lo hc204)
                        · refine fx_aload_n dX1_advance_207 rfl rfl ?_
                          refine fx_get dX1_advance_208 kX1_9 rfl rfl ?_
                          refine fx_aload_n dX1_advance_211 rfl rfl ?_
                          refine fx_get dX1_advance_212 kX1_22 rfl rfl ?_
                          rw [r4]
                          refine fx_iald dX1_advance_215 rfl (vp_in_nI (by omega) (by decide)) ?_
                          rw [nI_clamp (by omega), hb k (by omega)]
                          refine fx_bipush (v := nI 57) dX1_advance_216 (by decide) ?_
                          refine fx_icmp_gt (tgt := 299) dX1_advance_218 (by decide) rC_l (fun hc218 => ?_) (fun hc218 => ?_)
                          · exact absurd q (pdg_hi hc218)
                          · refine fx_aload_n dX1_advance_221 rfl rfl ?_
                            refine fx_aload_n dX1_advance_222 rfl rfl ?_
                            refine fx_get dX1_advance_223 kX1_38 rfl rfl ?_
                            rw [r5]
                            refine fx_sipush (v := nI 1000) dX1_advance_226 (by decide) ?_
                            refine fx_icmp_ge (tgt := 255) dX1_advance_229 (by decide) rC_l (fun hc229 => ?_) (fun hc229 => ?_)
                            · exact absurd hc229 (nI_ge hv2 (by decide))
                            · refine fx_aload_n dX1_advance_232 rfl rfl ?_
                              refine fx_get dX1_advance_233 kX1_38 rfl rfl ?_
                              rw [r5]
                              refine fx_bipush (v := nI 10) dX1_advance_236 (by decide) ?_
                              refine fx_imul dX1_advance_238 ?_
                              refine fx_aload_n dX1_advance_239 rfl rfl ?_
                              refine fx_get dX1_advance_240 kX1_9 rfl rfl ?_
                              refine fx_aload_n dX1_advance_243 rfl rfl ?_
                              refine fx_get dX1_advance_244 kX1_22 rfl rfl ?_
                              rw [r4]
                              refine fx_iald dX1_advance_247 rfl (vp_in_nI (by omega) (by decide)) ?_
                              rw [nI_clamp (by omega), hb k (by omega), hb3, pk_mul]
                              refine fx_iadd dX1_advance_248 ?_
                              rw [nI_add]
                              refine fx_bipush (v := nI 48) dX1_advance_249 (by decide) ?_
                              refine fx_isub dX1_advance_251 ?_
                              rw [pk_sub (by omega), show v * 10 + b - 48 = 10 * v + (b - 48) by omega]
                              refine fx_goto (tgt := 258) dX1_advance_252 (by decide) ?_
                              refine fx_put dX1_advance_258 kX1_38 rfl (Nat.le_of_ble_eq_true rfl) (fun _ => rfl) rfl rfl u1_5 ?_
                              rw [qC_5]
                              refine fx_aload_n dX1_advance_261 rfl rfl ?_
                              refine fx_dup dX1_advance_262 rfl ?_
                              refine fx_get dX1_advance_263 kX1_22 rfl rfl ?_
                              rw [r4]
                              refine fx_iconst (v := nI 1) dX1_advance_266 (by decide) ?_
                              refine fx_iadd dX1_advance_267 ?_
                              rw [nI_add]
                              refine fx_put dX1_advance_268 kX1_22 rfl (Nat.le_of_ble_eq_true rfl) (fun _ => rfl) rfl rfl u1_4 ?_
                              rw [qC_4]
                              refine fx_goto (tgt := 182) dX1_advance_271 (by decide) ?_
                              exact ih1
                    · rw [if_neg hv2] at ih1
                      refine fx_aload_n dX1_advance_182 rfl rfl ?_
                      refine fx_get dX1_advance_183 kX1_22 rfl rfl ?_
                      rw [r4]
                      refine fx_aload_n dX1_advance_186 rfl rfl ?_
                      refine fx_get dX1_advance_187 kX1_15 rfl rfl ?_
                      rw [hz2]
                      refine fx_icmp_ge (tgt := 299) dX1_advance_190 (by decide) rC_l (fun hc190 => ?_) (fun hc190 => ?_)
                      · exact absurd hc190 (nI_ge (by omega) (by omega))
                      · refine fx_aload_n dX1_advance_193 rfl rfl ?_
                        refine fx_get dX1_advance_194 kX1_9 rfl rfl ?_
                        refine fx_aload_n dX1_advance_197 rfl rfl ?_
                        refine fx_get dX1_advance_198 kX1_22 rfl rfl ?_
                        rw [r4]
                        refine fx_iald dX1_advance_201 rfl (vp_in_nI (by omega) (by decide)) ?_
                        rw [nI_clamp (by omega), hb k (by omega)]
                        refine fx_bipush (v := nI 48) dX1_advance_202 (by decide) ?_
                        refine fx_icmp_lt (tgt := 299) dX1_advance_204 (by decide) rC_l (fun hc204 => ?_) (fun hc204 => ?_)
                        · exact absurd q (pdg_lo hc204)
                        · refine fx_aload_n dX1_advance_207 rfl rfl ?_
                          refine fx_get dX1_advance_208 kX1_9 rfl rfl ?_
                          refine fx_aload_n dX1_advance_211 rfl rfl ?_
                          refine fx_get dX1_advance_212 kX1_22 rfl rfl ?_
                          rw [r4]
                          refine fx_iald dX1_advance_215 rfl (vp_in_nI (by omega) (by decide)) ?_
                          rw [nI_clamp (by omega), hb k (by omega)]
                          refine fx_bipush (v := nI 57) dX1_advance_216 (by decide) ?_
                          refine fx_icmp_gt (tgt := 299) dX1_advance_218 (by decide) rC_l (fun hc218 => ?_) (fun hc218 => ?_)
                          · exact absurd q (pdg_hi hc218)
                          · refine fx_aload_n dX1_advance_221 rfl rfl ?_
                            refine fx_aload_n dX1_advance_222 rfl rfl ?_
                            refine fx_get dX1_advance_223 kX1_38 rfl rfl ?_
                            rw [r5]
                            refine fx_sipush (v := nI 1000) dX1_advance_226 (by decide) ?_
                            refine fx_icmp_ge (tgt := 255) dX1_advance_229 (by decide) rC_l (fun hc229 => ?_) (fun hc229 => ?_)
                            · refine fx_sipush (v := nI 1000) dX1_advance_255 (by decide) ?_
                              refine fx_put dX1_advance_258 kX1_38 rfl (Nat.le_of_ble_eq_true rfl) (fun _ => rfl) rfl rfl u1_5 ?_
                              rw [qC_5]
                              refine fx_aload_n dX1_advance_261 rfl rfl ?_
                              refine fx_dup dX1_advance_262 rfl ?_
                              refine fx_get dX1_advance_263 kX1_22 rfl rfl ?_
                              rw [r4]
                              refine fx_iconst (v := nI 1) dX1_advance_266 (by decide) ?_
                              refine fx_iadd dX1_advance_267 ?_
                              rw [nI_add]
                              refine fx_put dX1_advance_268 kX1_22 rfl (Nat.le_of_ble_eq_true rfl) (fun _ => rfl) rfl rfl u1_4 ?_
                              rw [qC_4]
                              refine fx_goto (tgt := 182) dX1_advance_271 (by decide) ?_
                              exact ih1
                            · exact absurd (nI_le (by omega) (by omega)) hc229
                  · rw [← hr, ← hvl, rn_n q, vc_n q]
                    rw [ebt] at q
                    refine fx_aload_n dX1_advance_182 rfl rfl ?_
                    refine fx_get dX1_advance_183 kX1_22 rfl rfl ?_
                    rw [r4]
                    refine fx_aload_n dX1_advance_186 rfl rfl ?_
                    refine fx_get dX1_advance_187 kX1_15 rfl rfl ?_
                    rw [hz2]
                    refine fx_icmp_ge (tgt := 299) dX1_advance_190 (by decide) rC_l (fun hc190 => ?_) (fun hc190 => ?_)
                    · exact absurd hc190 (nI_ge (by omega) (by omega))
                    · refine fx_aload_n dX1_advance_193 rfl rfl ?_
                      refine fx_get dX1_advance_194 kX1_9 rfl rfl ?_
                      refine fx_aload_n dX1_advance_197 rfl rfl ?_
                      refine fx_get dX1_advance_198 kX1_22 rfl rfl ?_
                      rw [r4]
                      refine fx_iald dX1_advance_201 rfl (vp_in_nI (by omega) (by decide)) ?_
                      rw [nI_clamp (by omega), hb k (by omega)]
                      refine fx_bipush (v := nI 48) dX1_advance_202 (by decide) ?_
                      refine fx_icmp_lt (tgt := 299) dX1_advance_204 (by decide) rC_l (fun hc204 => ?_) (fun hc204 => ?_)
                      · exact fx_vreq dX1_advance_299 rfl rfl
                      · refine fx_aload_n dX1_advance_207 rfl rfl ?_
                        refine fx_get dX1_advance_208 kX1_9 rfl rfl ?_
                        refine fx_aload_n dX1_advance_211 rfl rfl ?_
                        refine fx_get dX1_advance_212 kX1_22 rfl rfl ?_
                        rw [r4]
                        refine fx_iald dX1_advance_215 rfl (vp_in_nI (by omega) (by decide)) ?_
                        rw [nI_clamp (by omega), hb k (by omega)]
                        refine fx_bipush (v := nI 57) dX1_advance_216 (by decide) ?_
                        refine fx_icmp_gt (tgt := 299) dX1_advance_218 (by decide) rC_l (fun hc218 => ?_) (fun hc218 => ?_)
                        · exact fx_vreq dX1_advance_299 rfl rfl
                        · exact absurd (pdg_y hc204 hc218) q
              refine fx_iload_n dX1_advance_160 rfl rfl ?_
              refine fx_bipush (v := nI 48) dX1_advance_161 (by decide) ?_
              refine fx_icmp_lt (tgt := 274) dX1_advance_163 (by decide) rC_l (fun hc163 => ?_) (fun hc163 => ?_)
              · exact absurd h2 (pdg_lo hc163)
              · refine fx_iload_n dX1_advance_166 rfl rfl ?_
                refine fx_bipush (v := nI 57) dX1_advance_167 (by decide) ?_
                refine fx_icmp_gt (tgt := 274) dX1_advance_169 (by decide) rC_l (fun hc169 => ?_) (fun hc169 => ?_)
                · exact absurd h2 (pdg_hi hc169)
                · refine fx_aload_n dX1_advance_172 rfl rfl ?_
                  refine fx_iconst (v := nI 2) dX1_advance_173 (by decide) ?_
                  refine fx_put dX1_advance_174 kX1_32 rfl (Nat.le_of_ble_eq_true rfl) (fun _ => rfl) rfl rfl u1_2 ?_
                  rw [qC_2]
                  refine fx_aload_n dX1_advance_177 rfl rfl ?_
                  refine fx_iconst (v := nI 0) dX1_advance_178 (by decide) ?_
                  refine fx_put dX1_advance_179 kX1_38 rfl (Nat.le_of_ble_eq_true rfl) (fun _ => rfl) rfl rfl u1_5 ?_
                  rw [qC_5]
                  exact HD (z - s) s 0 (by omega) (by decide) rfl rfl
            · have K274 : Fx mX1_advance (none, rC (qC F (nI (kd B z s)) (nI s) (nI (en B z s)) (nv B z s d) f) N G) 274 [some (.ref 25), some (.int (btk B z s))] [] (rC (qC F a (nI s) (nI s) d f) N G) := by
                by_cases h3 : btk B z s = nI 59
                · have ek := kd_3 h0 h1 h2 h3
                  rw [show en B z s = s + 1 by unfold en; rw [ek]; rfl, show nv B z s d = d by unfold nv; rw [ek]; rfl, ek]
                  refine fx_aload_n dX1_advance_274 rfl rfl ?_
                  refine fx_iload_n dX1_advance_275 rfl rfl ?_
                  refine fx_bipush (v := nI 59) dX1_advance_276 (by decide) ?_
                  refine fx_icmp_ne (tgt := 285) dX1_advance_278 (by decide) rC_l (fun hc278 => ?_) (fun hc278 => ?_)
                  · exact absurd h3 hc278
                  · refine fx_iconst (v := nI 3) dX1_advance_281 (by decide) ?_
                    refine fx_goto (tgt := 286) dX1_advance_282 (by decide) ?_
                    refine fx_put dX1_advance_286 kX1_32 rfl (Nat.le_of_ble_eq_true rfl) (fun _ => rfl) rfl rfl u1_2 ?_
                    rw [qC_2]
                    refine fx_aload_n dX1_advance_289 rfl rfl ?_
                    refine fx_dup dX1_advance_290 rfl ?_
                    refine fx_get dX1_advance_291 kX1_22 rfl rfl ?_
                    rw [r4]
                    refine fx_iconst (v := nI 1) dX1_advance_294 (by decide) ?_
                    refine fx_iadd dX1_advance_295 ?_
                    rw [nI_add]
                    refine fx_put dX1_advance_296 kX1_22 rfl (Nat.le_of_ble_eq_true rfl) (fun _ => rfl) rfl rfl u1_4 ?_
                    rw [qC_4]
                    exact fx_vreq dX1_advance_299 rfl rfl
                · have ek := kd_4 h0 h1 h2 h3
                  rw [show en B z s = s + 1 by unfold en; rw [ek]; rfl, show nv B z s d = d by unfold nv; rw [ek]; rfl, ek]
                  refine fx_aload_n dX1_advance_274 rfl rfl ?_
                  refine fx_iload_n dX1_advance_275 rfl rfl ?_
                  refine fx_bipush (v := nI 59) dX1_advance_276 (by decide) ?_
                  refine fx_icmp_ne (tgt := 285) dX1_advance_278 (by decide) rC_l (fun hc278 => ?_) (fun hc278 => ?_)
                  · refine fx_iconst (v := nI 4) dX1_advance_285 (by decide) ?_
                    refine fx_put dX1_advance_286 kX1_32 rfl (Nat.le_of_ble_eq_true rfl) (fun _ => rfl) rfl rfl u1_2 ?_
                    rw [qC_2]
                    refine fx_aload_n dX1_advance_289 rfl rfl ?_
                    refine fx_dup dX1_advance_290 rfl ?_
                    refine fx_get dX1_advance_291 kX1_22 rfl rfl ?_
                    rw [r4]
                    refine fx_iconst (v := nI 1) dX1_advance_294 (by decide) ?_
                    refine fx_iadd dX1_advance_295 ?_
                    rw [nI_add]
                    refine fx_put dX1_advance_296 kX1_22 rfl (Nat.le_of_ble_eq_true rfl) (fun _ => rfl) rfl rfl u1_4 ?_
                    rw [qC_4]
                    exact fx_vreq dX1_advance_299 rfl rfl
                  · exact absurd hc278 h3
              refine fx_iload_n dX1_advance_160 rfl rfl ?_
              refine fx_bipush (v := nI 48) dX1_advance_161 (by decide) ?_
              refine fx_icmp_lt (tgt := 274) dX1_advance_163 (by decide) rC_l (fun hc163 => ?_) (fun hc163 => ?_)
              · exact K274
              · refine fx_iload_n dX1_advance_166 rfl rfl ?_
                refine fx_bipush (v := nI 57) dX1_advance_167 (by decide) ?_
                refine fx_icmp_gt (tgt := 274) dX1_advance_169 (by decide) rC_l (fun hc169 => ?_) (fun hc169 => ?_)
                · exact K274
                · exact absurd (pdg_y hc163 hc169) h2
          refine fs_istore_n_1 dX1_advance_78 rfl (by decide) ?_
          refine fx_iload_n dX1_advance_79 rfl rfl ?_
          refine fx_if_ge (tgt := 91) dX1_advance_80 (by decide) rC_l (fun hc80 => ?_) (fun hc80 => ?_)
          · refine fx_iload_n dX1_advance_91 rfl rfl ?_
            refine fx_bipush (v := nI 97) dX1_advance_92 (by decide) ?_
            refine fx_icmp_lt (tgt := 160) dX1_advance_94 (by decide) rC_l (fun hc94 => ?_) (fun hc94 => ?_)
            · exact K160
            · refine fx_iload_n dX1_advance_97 rfl rfl ?_
              refine fx_bipush (v := nI 122) dX1_advance_98 (by decide) ?_
              refine fx_icmp_gt (tgt := 160) dX1_advance_100 (by decide) rC_l (fun hc100 => ?_) (fun hc100 => ?_)
              · exact K160
              · exact absurd (plt_y hc94 hc100) h1
          · exact absurd (Int32.not_lt.mp h0) hc80
    by_cases hsz : s < z
    · rw [btk_in hsz] at K78
      refine fx_aload_n dX1_advance_46 rfl rfl ?_
      refine fx_aload_n dX1_advance_47 rfl rfl ?_
      refine fx_get dX1_advance_48 kX1_35 rfl rfl ?_
      rw [r3]
      refine fx_put dX1_advance_51 kX1_22 rfl (Nat.le_of_ble_eq_true rfl) (fun _ => rfl) rfl rfl u1_4 ?_
      rw [qC_4]
      refine fx_aload_n dX1_advance_54 rfl rfl ?_
      refine fx_get dX1_advance_55 kX1_35 rfl rfl ?_
      rw [r3]
      refine fx_aload_n dX1_advance_58 rfl rfl ?_
      refine fx_get dX1_advance_59 kX1_15 rfl rfl ?_
      rw [hz2]
      refine fx_icmp_ge (tgt := 77) dX1_advance_62 (by decide) rC_l (fun hc62 => ?_) (fun hc62 => ?_)
      · exact absurd hc62 (nI_ge hsz (by omega))
      · refine fx_aload_n dX1_advance_65 rfl rfl ?_
        refine fx_get dX1_advance_66 kX1_9 rfl rfl ?_
        refine fx_aload_n dX1_advance_69 rfl rfl ?_
        refine fx_get dX1_advance_70 kX1_35 rfl rfl ?_
        rw [r3]
        refine fx_iald dX1_advance_73 rfl (vp_in_nI (by omega) (by decide)) ?_
        rw [nI_clamp (by omega), hb s hsz]
        refine fx_goto (tgt := 78) dX1_advance_74 (by decide) ?_
        exact K78
    · rw [btk_out hsz] at K78
      refine fx_aload_n dX1_advance_46 rfl rfl ?_
      refine fx_aload_n dX1_advance_47 rfl rfl ?_
      refine fx_get dX1_advance_48 kX1_35 rfl rfl ?_
      rw [r3]
      refine fx_put dX1_advance_51 kX1_22 rfl (Nat.le_of_ble_eq_true rfl) (fun _ => rfl) rfl rfl u1_4 ?_
      rw [qC_4]
      refine fx_aload_n dX1_advance_54 rfl rfl ?_
      refine fx_get dX1_advance_55 kX1_35 rfl rfl ?_
      rw [r3]
      refine fx_aload_n dX1_advance_58 rfl rfl ?_
      refine fx_get dX1_advance_59 kX1_15 rfl rfl ?_
      rw [hz2]
      refine fx_icmp_ge (tgt := 77) dX1_advance_62 (by decide) rC_l (fun hc62 => ?_) (fun hc62 => ?_)
      · refine fx_iconst (v := (-1)) dX1_advance_77 (by decide) ?_
        exact K78
      · exact absurd (nI_le (by omega) (by omega)) hc62
  have H : ∀ (r k : Nat), k + r = z → rn psp B z k = sk B z e → Fx mX1_advance (none, sC F N G B z (sk B z e) (nv B z (sk B z e) d) f) 8 [some (.ref 25), none] [] (rC (qC F a (nI k) (nI e) d f) N G) := by
    intro r
    induction r with
    | zero =>
      intro k hk hr
      have q : ¬ psp (btk B z k) = true := fun q => by have := btk_lt psp_m q; omega
      have K := K46 _ hsl
      rw [rn_n q] at hr
      rw [← hr] at K ⊢
      refine fx_aload_n dX1_advance_8 rfl rfl ?_
      refine fx_get dX1_advance_9 kX1_35 rfl rfl ?_
      rw [r3]
      refine fx_aload_n dX1_advance_12 rfl rfl ?_
      refine fx_get dX1_advance_13 kX1_15 rfl rfl ?_
      rw [hz2]
      refine fx_icmp_ge (tgt := 46) dX1_advance_16 (by decide) rC_l (fun hc16 => ?_) (fun hc16 => ?_)
      · exact K
      · exact absurd (nI_le (by omega) (by omega)) hc16
    | succ r ih =>
      intro k hk hr
      have ebt : btk B z k = B k := btk_in (by omega)
      by_cases q : psp (btk B z k) = true
      · have ih1 := ih (k + 1) (by omega) (by rw [← rn_y psp_m q]; exact hr)
        rw [ebt] at q
        refine fx_aload_n dX1_advance_8 rfl rfl ?_
        refine fx_get dX1_advance_9 kX1_35 rfl rfl ?_
        rw [r3]
        refine fx_aload_n dX1_advance_12 rfl rfl ?_
        refine fx_get dX1_advance_13 kX1_15 rfl rfl ?_
        rw [hz2]
        refine fx_icmp_ge (tgt := 46) dX1_advance_16 (by decide) rC_l (fun hc16 => ?_) (fun hc16 => ?_)
        · exact absurd hc16 (nI_ge (by omega) (by omega))
        · refine fx_aload_n dX1_advance_19 rfl rfl ?_
          refine fx_get dX1_advance_20 kX1_9 rfl rfl ?_
          refine fx_aload_n dX1_advance_23 rfl rfl ?_
          refine fx_get dX1_advance_24 kX1_35 rfl rfl ?_
          rw [r3]
          refine fx_iald dX1_advance_27 rfl (vp_in_nI (by omega) (by decide)) ?_
          rw [nI_clamp (by omega), hb k (by omega)]
          refine fx_bipush (v := nI 32) dX1_advance_28 (by decide) ?_
          refine fx_icmp_ne (tgt := 46) dX1_advance_30 (by decide) rC_l (fun hc30 => ?_) (fun hc30 => ?_)
          · exact absurd (of_decide_eq_true q) hc30
          · refine fx_aload_n dX1_advance_33 rfl rfl ?_
            refine fx_dup dX1_advance_34 rfl ?_
            refine fx_get dX1_advance_35 kX1_35 rfl rfl ?_
            rw [r3]
            refine fx_iconst (v := nI 1) dX1_advance_38 (by decide) ?_
            refine fx_iadd dX1_advance_39 ?_
            rw [nI_add]
            refine fx_put dX1_advance_40 kX1_35 rfl (Nat.le_of_ble_eq_true rfl) (fun _ => rfl) rfl rfl u1_3 ?_
            rw [qC_3]
            refine fx_goto (tgt := 8) dX1_advance_43 (by decide) ?_
            exact ih1
      · have K := K46 _ hsl
        rw [rn_n q] at hr
        rw [ebt] at q
        rw [← hr] at K ⊢
        refine fx_aload_n dX1_advance_8 rfl rfl ?_
        refine fx_get dX1_advance_9 kX1_35 rfl rfl ?_
        rw [r3]
        refine fx_aload_n dX1_advance_12 rfl rfl ?_
        refine fx_get dX1_advance_13 kX1_15 rfl rfl ?_
        rw [hz2]
        refine fx_icmp_ge (tgt := 46) dX1_advance_16 (by decide) rC_l (fun hc16 => ?_) (fun hc16 => ?_)
        · exact absurd hc16 (nI_ge (by omega) (by omega))
        · refine fx_aload_n dX1_advance_19 rfl rfl ?_
          refine fx_get dX1_advance_20 kX1_9 rfl rfl ?_
          refine fx_aload_n dX1_advance_23 rfl rfl ?_
          refine fx_get dX1_advance_24 kX1_35 rfl rfl ?_
          rw [r3]
          refine fx_iald dX1_advance_27 rfl (vp_in_nI (by omega) (by decide)) ?_
          rw [nI_clamp (by omega), hb k (by omega)]
          refine fx_bipush (v := nI 32) dX1_advance_28 (by decide) ?_
          refine fx_icmp_ne (tgt := 46) dX1_advance_30 (by decide) rC_l (fun hc30 => ?_) (fun hc30 => ?_)
          · exact K
          · exact absurd (decide_eq_true hc30) q
  have H0 := H (z - e) e (by omega) rfl
  refine fx_aload_n dX1_advance_0 rfl rfl ?_
  refine fx_aload_n dX1_advance_1 rfl rfl ?_
  refine fx_get dX1_advance_2 kX1_22 rfl rfl ?_
  rw [r4]
  refine fx_put dX1_advance_5 kX1_35 rfl (Nat.le_of_ble_eq_true rfl) (fun _ => rfl) rfl rfl u1_3 ?_
  rw [qC_3]
  exact H0
end
