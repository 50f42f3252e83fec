/-! ===== the reference: tokens ===== -/
set_option maxRecDepth 100000
def qM (F : Nat → Int32) (a b c d w m n : Int32) : Nat → Int32 := fun j => if j = 11 then a else if j = 12 then b else if j = 13 then c else if j = 14 then d else if j = 15 then w else if j = 18 then m else if j = 19 then n else F j
section
variable {F : Nat → Int32} {a b c d w m n x : Int32}
theorem q10 : qM F a b c d w m n 10 = F 10 := rfl
theorem q11 : qM F a b c d w m n 11 = a := rfl
theorem q12 : qM F a b c d w m n 12 = b := rfl
theorem q13 : qM F a b c d w m n 13 = c := rfl
theorem q14 : qM F a b c d w m n 14 = d := rfl
theorem q15 : qM F a b c d w m n 15 = w := rfl
theorem q18 : qM F a b c d w m n 18 = m := rfl
theorem q19 : qM F a b c d w m n 19 = n := rfl
theorem qM_id : qM F (F 11) (F 12) (F 13) (F 14) (F 15) (F 18) (F 19) = F := by
  funext j
  unfold qM
  split
  · next h => rw [h]
  · split
    · next h => rw [h]
    · split
      · next h => rw [h]
      · split
        · next h => rw [h]
        · split
          · next h => rw [h]
          · split
            · next h => rw [h]
            · split
              · next h => rw [h]
              · rfl
theorem qM_n {j : Nat} (h : j ≠ 11 ∧ j ≠ 12 ∧ j ≠ 13 ∧ j ≠ 14 ∧ j ≠ 15 ∧ j ≠ 18 ∧ j ≠ 19) : qM F a b c d w m n j = F j := by
  unfold qM
  rw [if_neg h.1, if_neg h.2.1, if_neg h.2.2.1, if_neg h.2.2.2.1, if_neg h.2.2.2.2.1, if_neg h.2.2.2.2.2.1, if_neg h.2.2.2.2.2.2]
theorem qM_11 : upd (qM F a b c d w m n) 11 x = qM F x b c d w m n := by
  funext j
  by_cases h : j = 11
  · subst h; rw [pk_us]; rfl
  · rw [pk_un h]; unfold qM; rw [if_neg h, if_neg h]
theorem qM_12 : upd (qM F a b c d w m n) 12 x = qM F a x c d w m n := by
  funext j
  by_cases h : j = 12
  · subst h; rw [pk_us]; rfl
  · rw [pk_un h]; unfold qM; rw [if_neg h, if_neg h]
theorem qM_13 : upd (qM F a b c d w m n) 13 x = qM F a b x d w m n := by
  funext j
  by_cases h : j = 13
  · subst h; rw [pk_us]; rfl
  · rw [pk_un h]; unfold qM; rw [if_neg h, if_neg h]
theorem qM_14 : upd (qM F a b c d w m n) 14 x = qM F a b c x w m n := by
  funext j
  by_cases h : j = 14
  · subst h; rw [pk_us]; rfl
  · rw [pk_un h]; unfold qM; rw [if_neg h, if_neg h]
theorem qM_15 : upd (qM F a b c d w m n) 15 x = qM F a b c d x m n := by
  funext j
  by_cases h : j = 15
  · subst h; rw [pk_us]; rfl
  · rw [pk_un h]; unfold qM; rw [if_neg h, if_neg h]
theorem qM_18 : upd (qM F a b c d w m n) 18 x = qM F a b c d w x n := by
  funext j
  by_cases h : j = 18
  · subst h; rw [pk_us]; rfl
  · rw [pk_un h]; unfold qM; rw [if_neg h, if_neg h]
theorem qM_19 : upd (qM F a b c d w m n) 19 x = qM F a b c d w m x := by
  funext j
  by_cases h : j = 19
  · subst h; rw [pk_us]; rfl
  · rw [pk_un h]; unfold qM; rw [if_neg h, if_neg h]
end
/-- the reference at the token that begins at s -/
abbrev sM (F : Nat → Int32) (G : Nat → Nat → Int32) (z s : Nat) (w : Bool) (m n : Int32) : zH := rM (qM F (nI s) (nI (en (G 8) z s)) (nI (min 3 (kd (G 8) z s))) (nI (va (G 8) z s)) (jB w) m n) G
section
variable {F : Nat → Int32} {G : Nat → Nat → Int32} {z s : Nat} {m n : Int32}
theorem eX4_byteAt {F : Nat → Int32} {k : Nat} (hz : F 10 = nI z) (hB : jBy (G 8) z) (hk : k < 2 ^ 31) : Mx mX4_byteAt [.ref 0, .int (nI k)] (rM F G) (some (.int (btk (G 8) z k))) (rM F G) := by
  refine mx_of (L := [some (.ref 0), some (.int (nI k))]) (by decide) (fun _ => rfl) (fun _ => Nat.le_of_ble_eq_true rfl) ?_
  have hz1 := hB.1
  by_cases h : k < z
  · rw [btk_in h]
    refine fx_iload_n dX4_byteAt_0 rfl rfl ?_
    refine fx_aload_n dX4_byteAt_1 rfl rfl ?_
    refine fx_get dX4_byteAt_2 kX4_258 rfl rfl ?_
    rw [hz]
    refine fx_icmp_ge (tgt := 17) dX4_byteAt_5 (by decide) rfl (fun hc5 => ?_) (fun hc5 => ?_)
    · exact absurd hc5 (nI_ge h (by omega))
    · refine fx_aload_n dX4_byteAt_8 rfl rfl ?_
      refine fx_get dX4_byteAt_9 kX4_31 rfl rfl ?_
      refine fx_iload_n dX4_byteAt_12 rfl rfl ?_
      refine fx_iald dX4_byteAt_13 rfl (vp_in_nI (by omega) (by decide)) ?_
      rw [nI_clamp (by omega)]
      refine fx_goto (tgt := 18) dX4_byteAt_14 (by decide) ?_
      exact fx_ireq dX4_byteAt_18 rfl rfl rfl rfl
  · rw [btk_out h]
    refine fx_iload_n dX4_byteAt_0 rfl rfl ?_
    refine fx_aload_n dX4_byteAt_1 rfl rfl ?_
    refine fx_get dX4_byteAt_2 kX4_258 rfl rfl ?_
    rw [hz]
    refine fx_icmp_ge (tgt := 17) dX4_byteAt_5 (by decide) rfl (fun hc5 => ?_) (fun hc5 => ?_)
    · refine fx_iconst (v := (-1)) dX4_byteAt_17 (by decide) ?_
      exact fx_ireq dX4_byteAt_18 rfl rfl rfl rfl
    · exact absurd (nI_le (by omega) hk) hc5
theorem eX4_next {e : Nat} {a c d w : Int32} (hz : F 10 = nI z) (hB : jBy (G 8) z) (he : e ≤ z) : Mx mX4_next [.ref 0] (rM (qM F a (nI e) c d w m n) G) none (rM (qM F (nI (sk (G 8) z e)) (nI (en (G 8) z (sk (G 8) z e))) (nI (min 3 (kd (G 8) z (sk (G 8) z e)))) (nI (va (G 8) z (sk (G 8) z e))) w m n) G) := by
  refine mx_of (L := [some (.ref 0), none]) (by decide) (fun _ => rfl) (fun _ => Nat.le_of_ble_eq_true rfl) ?_
  have hz1 := hB.1
  have hsl := sk_le (B := G 8) he
  have eB : ∀ (a b c d w : Int32) (k : Nat), k < 2 ^ 31 → Mx mX4_byteAt [.ref 0, .int (nI k)] (rM (qM F a b c d w m n) G) (some (.int (btk (G 8) z k))) (rM (qM F a b c d w m n) G) := fun a b c d w k hk => eX4_byteAt (F := qM F a b c d w m n) (q10.trans hz) hB hk
  have K34 : ∀ (s : Nat), s ≤ z → Fx mX4_next (none, rM (qM F (nI s) (nI (en (G 8) z s)) (nI (min 3 (kd (G 8) z s))) (nI (va (G 8) z s)) w m n) G) 34 [some (.ref 0), none] [] (rM (qM F (nI s) (nI e) c d w m n) G) := by
    intro s hs
    by_cases h0 : btk (G 8) z s < 0
    · rw [show en (G 8) z s = s from if_pos (kd_0 h0), show va (G 8) z s = 0 by unfold va; rw [kd_0 h0]; rfl, kd_0 h0]
      refine fx_aload_n dX4_next_34 rfl rfl ?_
      refine fx_aload_n dX4_next_35 rfl rfl ?_
      refine fx_get dX4_next_36 kX4_265 rfl rfl ?_
      rw [q11]
      refine fx_callVv dX4_next_39 vX4_byteAt lX4_268 (by decide) rfl (Nat.le_of_ble_eq_true rfl) (eB _ _ _ _ _ _ (by omega)) rfl ?_
      refine fs_istore_n_1 dX4_next_42 rfl (by decide) ?_
      refine fx_aload_n dX4_next_43 rfl rfl ?_
      refine fx_aload_n dX4_next_44 rfl rfl ?_
      refine fx_get dX4_next_45 kX4_265 rfl rfl ?_
      rw [q11]
      refine fx_put dX4_next_48 kX4_262 rfl (Nat.le_of_ble_eq_true rfl) (fun _ => rfl) rfl rfl (u4_12 ..) ?_
      rw [qM_12]
      refine fx_aload_n dX4_next_51 rfl rfl ?_
      refine fx_iconst (v := nI 0) dX4_next_52 (by decide) ?_
      refine fx_put dX4_next_53 kX4_271 rfl (Nat.le_of_ble_eq_true rfl) (fun _ => rfl) rfl rfl (u4_14 ..) ?_
      rw [qM_14]
      refine fx_iload_n dX4_next_56 rfl rfl ?_
      refine fx_if_ge (tgt := 68) dX4_next_57 (by decide) rfl (fun hc57 => ?_) (fun hc57 => ?_)
      · exact absurd h0 (Int32.not_lt.mpr hc57)
      · refine fx_aload_n dX4_next_60 rfl rfl ?_
        refine fx_iconst (v := nI 0) dX4_next_61 (by decide) ?_
        refine fx_put dX4_next_62 kX4_274 rfl (Nat.le_of_ble_eq_true rfl) (fun _ => rfl) rfl rfl (u4_13 ..) ?_
        rw [qM_13]
        refine fx_goto (tgt := 206) dX4_next_65 (by decide) ?_
        exact fx_vreq dX4_next_206 rfl rfl
    · by_cases h1 : plt (btk (G 8) z s) = true
      · have ek := kd_1 h0 h1
        have h1' : jwi (btk (G 8) z s) (nI 97) (nI 122) = true := h1
        rw [show en (G 8) z s = rn plt (G 8) z s by unfold en; rw [ek]; rfl, show va (G 8) z s = 0 by unfold va; rw [ek]; rfl, ek]
        have HL : ∀ (d k : Nat), k + d = z → rn plt (G 8) z k = rn plt (G 8) z s → Fx mX4_next (none, rM (qM F (nI s) (nI (rn plt (G 8) z s)) (nI (min 3 1)) (nI 0) w m n) G) 84 [some (.ref 0), some (.int (btk (G 8) z s))] [] (rM (qM F (nI s) (nI k) (nI 1) (nI 0) w m n) G) := by
          intro d
          induction d with
          | zero =>
            intro k hk hr
            have q : ¬ plt (btk (G 8) z k) = true := fun q => by have := btk_lt plt_m q; omega
            rw [← hr, rn_n q]
            refine fx_aload_n dX4_next_84 rfl rfl ?_
            refine fx_aload_n dX4_next_85 rfl rfl ?_
            refine fx_get dX4_next_86 kX4_262 rfl rfl ?_
            rw [q12]
            refine fx_callVv dX4_next_89 vX4_byteAt lX4_268 (by decide) rfl (Nat.le_of_ble_eq_true rfl) (eB _ _ _ _ _ _ (by omega)) rfl ?_
            refine fx_bipush (v := nI 97) dX4_next_92 (by decide) ?_
            refine fx_bipush (v := nI 122) dX4_next_94 (by decide) ?_
            refine fx_callSv dX4_next_96 sX4_within lX4_74 (by decide) (Nat.le_of_ble_eq_true rfl) eX4_within rfl ?_
            refine fx_if_eq (tgt := 206) dX4_next_99 (by decide) rfl (fun hc99 => ?_) (fun hc99 => ?_)
            · exact fx_vreq dX4_next_206 rfl rfl
            · exact absurd (nI_ne0' hc99) q
          | succ d ih =>
            intro k hk hr
            by_cases q : plt (btk (G 8) z k) = true
            · have ih1 := ih (k + 1) (by omega) (by rw [← rn_y plt_m q]; exact hr)
              refine fx_aload_n dX4_next_84 rfl rfl ?_
              refine fx_aload_n dX4_next_85 rfl rfl ?_
              refine fx_get dX4_next_86 kX4_262 rfl rfl ?_
              rw [q12]
              refine fx_callVv dX4_next_89 vX4_byteAt lX4_268 (by decide) rfl (Nat.le_of_ble_eq_true rfl) (eB _ _ _ _ _ _ (by omega)) rfl ?_
              refine fx_bipush (v := nI 97) dX4_next_92 (by decide) ?_
              refine fx_bipush (v := nI 122) dX4_next_94 (by decide) ?_
              refine fx_callSv dX4_next_96 sX4_within lX4_74 (by decide) (Nat.le_of_ble_eq_true rfl) eX4_within rfl ?_
              refine fx_if_eq (tgt := 206) dX4_next_99 (by decide) rfl (fun hc99 => ?_) (fun hc99 => ?_)
              · exact absurd q (by rw [show plt (btk (G 8) z k) = false from nI_eq0' hc99]; decide)
              · refine fx_aload_n dX4_next_102 rfl rfl ?_
                refine fx_dup dX4_next_103 rfl ?_
                refine fx_get dX4_next_104 kX4_262 rfl rfl ?_
                rw [q12]
                refine fx_iconst (v := nI 1) dX4_next_107 (by decide) ?_
                refine fx_iadd dX4_next_108 ?_
                rw [nI_add]
                refine fx_put dX4_next_109 kX4_262 rfl (Nat.le_of_ble_eq_true rfl) (fun _ => rfl) rfl rfl (u4_12 ..) ?_
                rw [qM_12]
                refine fx_goto (tgt := 84) dX4_next_112 (by decide) ?_
                exact ih1
            · rw [← hr, rn_n q]
              refine fx_aload_n dX4_next_84 rfl rfl ?_
              refine fx_aload_n dX4_next_85 rfl rfl ?_
              refine fx_get dX4_next_86 kX4_262 rfl rfl ?_
              rw [q12]
              refine fx_callVv dX4_next_89 vX4_byteAt lX4_268 (by decide) rfl (Nat.le_of_ble_eq_true rfl) (eB _ _ _ _ _ _ (by omega)) rfl ?_
              refine fx_bipush (v := nI 97) dX4_next_92 (by decide) ?_
              refine fx_bipush (v := nI 122) dX4_next_94 (by decide) ?_
              refine fx_callSv dX4_next_96 sX4_within lX4_74 (by decide) (Nat.le_of_ble_eq_true rfl) eX4_within rfl ?_
              refine fx_if_eq (tgt := 206) dX4_next_99 (by decide) rfl (fun hc99 => ?_) (fun hc99 => ?_)
              · exact fx_vreq dX4_next_206 rfl rfl
              · exact absurd (nI_ne0' hc99) q
        refine fx_aload_n dX4_next_34 rfl rfl ?_
        refine fx_aload_n dX4_next_35 rfl rfl ?_
        refine fx_get dX4_next_36 kX4_265 rfl rfl ?_
        rw [q11]
        refine fx_callVv dX4_next_39 vX4_byteAt lX4_268 (by decide) rfl (Nat.le_of_ble_eq_true rfl) (eB _ _ _ _ _ _ (by omega)) rfl ?_
        refine fs_istore_n_1 dX4_next_42 rfl (by decide) ?_
        refine fx_aload_n dX4_next_43 rfl rfl ?_
        refine fx_aload_n dX4_next_44 rfl rfl ?_
        refine fx_get dX4_next_45 kX4_265 rfl rfl ?_
        rw [q11]
        refine fx_put dX4_next_48 kX4_262 rfl (Nat.le_of_ble_eq_true rfl) (fun _ => rfl) rfl rfl (u4_12 ..) ?_
        rw [qM_12]
        refine fx_aload_n dX4_next_51 rfl rfl ?_
        refine fx_iconst (v := nI 0) dX4_next_52 (by decide) ?_
        refine fx_put dX4_next_53 kX4_271 rfl (Nat.le_of_ble_eq_true rfl) (fun _ => rfl) rfl rfl (u4_14 ..) ?_
        rw [qM_14]
        refine fx_iload_n dX4_next_56 rfl rfl ?_
        refine fx_if_ge (tgt := 68) dX4_next_57 (by decide) rfl (fun hc57 => ?_) (fun hc57 => ?_)
        · refine fx_iload_n dX4_next_68 rfl rfl ?_
          refine fx_bipush (v := nI 97) dX4_next_69 (by decide) ?_
          refine fx_bipush (v := nI 122) dX4_next_71 (by decide) ?_
          refine fx_callSv dX4_next_73 sX4_within lX4_74 (by decide) (Nat.le_of_ble_eq_true rfl) eX4_within rfl ?_
          rw [h1']
          refine fx_if_eq (tgt := 115) dX4_next_76 (by decide) rfl (fun hc76 => ?_) (fun hc76 => ?_)
          · exact absurd hc76 (by decide)
          · refine fx_aload_n dX4_next_79 rfl rfl ?_
            refine fx_iconst (v := nI 1) dX4_next_80 (by decide) ?_
            refine fx_put dX4_next_81 kX4_274 rfl (Nat.le_of_ble_eq_true rfl) (fun _ => rfl) rfl rfl (u4_13 ..) ?_
            rw [qM_13]
            exact HL (z - s) s (by omega) rfl
        · exact absurd (Int32.not_lt.mp h0) hc57
      · have h1' : jwi (btk (G 8) z s) (nI 97) (nI 122) = false := jbt_f' h1
        by_cases h2 : pdg (btk (G 8) z s) = true
        · have ek := kd_2 h0 h1 h2
          have h2' : jwi (btk (G 8) z s) (nI 48) (nI 57) = true := h2
          rw [show en (G 8) z s = rn pdg (G 8) z s by unfold en; rw [ek]; rfl, show va (G 8) z s = vl (G 8) z s 0 by unfold va; rw [ek]; rfl, ek]
          have HD : ∀ (d k v : Nat), k + d = z → v ≤ 1000 → rn pdg (G 8) z k = rn pdg (G 8) z s → vl (G 8) z k v = vl (G 8) z s 0 → Fx mX4_next (none, rM (qM F (nI s) (nI (rn pdg (G 8) z s)) (nI (min 3 2)) (nI (vl (G 8) z s 0)) w m n) G) 131 [some (.ref 0), some (.int (btk (G 8) z s))] [] (rM (qM F (nI s) (nI k) (nI 2) (nI v) w m n) G) := by
            intro d
            induction d with
            | zero =>
              intro k v hk hv hr hvl
              have q : ¬ pdg (btk (G 8) z k) = true := fun q => by have := btk_lt pdg_m q; omega
              rw [← hr, ← hvl, rn_n q, vl_n q]
              refine fx_aload_n dX4_next_131 rfl rfl ?_
              refine fx_aload_n dX4_next_132 rfl rfl ?_
              refine fx_get dX4_next_133 kX4_262 rfl rfl ?_
              rw [q12]
              refine fx_callVv dX4_next_136 vX4_byteAt lX4_268 (by decide) rfl (Nat.le_of_ble_eq_true rfl) (eB _ _ _ _ _ _ (by omega)) rfl ?_
              refine fx_bipush (v := nI 48) dX4_next_139 (by decide) ?_
              refine fx_bipush (v := nI 57) dX4_next_141 (by decide) ?_
              refine fx_callSv dX4_next_143 sX4_within lX4_74 (by decide) (Nat.le_of_ble_eq_true rfl) eX4_within rfl ?_
              refine fx_if_eq (tgt := 206) dX4_next_146 (by decide) rfl (fun hc146 => ?_) (fun hc146 => ?_)
              · exact fx_vreq dX4_next_206 rfl rfl
              · exact absurd (nI_ne0' hc146) q
            | succ d ih =>
              intro k v hk hv hr hvl
              by_cases q : pdg (btk (G 8) z k) = true
              · obtain ⟨b, hb1, hb2, hb3⟩ := pdg_of q
                have ih1 := ih (k + 1) (min 1000 (10 * v + ((btk (G 8) z k).toNatClampNeg - 48))) (by omega) (by omega) (by rw [← rn_y pdg_m q]; exact hr) (by rw [← vl_y q]; exact hvl)
                rw [hb3, nI_clamp (by omega)] at ih1
                refine fx_aload_n dX4_next_131 rfl rfl ?_
                refine fx_aload_n dX4_next_132 rfl rfl ?_
                refine fx_get dX4_next_133 kX4_262 rfl rfl ?_
                rw [q12]
                refine fx_callVv dX4_next_136 vX4_byteAt lX4_268 (by decide) rfl (Nat.le_of_ble_eq_true rfl) (eB _ _ _ _ _ _ (by omega)) rfl ?_
                refine fx_bipush (v := nI 48) dX4_next_139 (by decide) ?_
                refine fx_bipush (v := nI 57) dX4_next_141 (by decide) ?_
                refine fx_callSv dX4_next_143 sX4_within lX4_74 (by decide) (Nat.le_of_ble_eq_true rfl) eX4_within rfl ?_
                refine fx_if_eq (tgt := 206) dX4_next_146 (by decide) rfl (fun hc146 => ?_) (fun hc146 => ?_)
                · exact absurd q (by rw [show pdg (btk (G 8) z k) = false from nI_eq0' hc146]; decide)
                · refine fx_aload_n dX4_next_149 rfl rfl ?_
                  refine fx_sipush (v := nI 1000) dX4_next_150 (by decide) ?_
                  refine fx_bipush (v := nI 10) dX4_next_153 (by decide) ?_
                  refine fx_aload_n dX4_next_155 rfl rfl ?_
                  refine fx_get dX4_next_156 kX4_271 rfl rfl ?_
                  rw [q14]
                  refine fx_imul dX4_next_159 ?_
                  refine fx_aload_n dX4_next_160 rfl rfl ?_
                  refine fx_aload_n dX4_next_161 rfl rfl ?_
                  refine fx_get dX4_next_162 kX4_262 rfl rfl ?_
                  rw [q12]
                  refine fx_callVv dX4_next_165 vX4_byteAt lX4_268 (by decide) rfl (Nat.le_of_ble_eq_true rfl) (eB _ _ _ _ _ _ (by omega)) rfl ?_
                  refine fx_iadd dX4_next_168 ?_
                  refine fx_bipush (v := nI 48) dX4_next_169 (by decide) ?_
                  refine fx_isub dX4_next_171 ?_
                  rw [hb3, pk_mul, nI_add, pk_sub (by omega), show 10 * v + b - 48 = 10 * v + (b - 48) by omega]
                  refine fx_min dX4_next_172 lX4_125 (by decide) (Nat.le_of_ble_eq_true rfl) ?_
                  rw [jmin_n (by decide) (by omega)]
                  refine fx_put dX4_next_175 kX4_271 rfl (Nat.le_of_ble_eq_true rfl) (fun _ => rfl) rfl rfl (u4_14 ..) ?_
                  rw [qM_14]
                  refine fx_aload_n dX4_next_178 rfl rfl ?_
                  refine fx_dup dX4_next_179 rfl ?_
                  refine fx_get dX4_next_180 kX4_262 rfl rfl ?_
                  rw [q12]
                  refine fx_iconst (v := nI 1) dX4_next_183 (by decide) ?_
                  refine fx_iadd dX4_next_184 ?_
                  rw [nI_add]
                  refine fx_put dX4_next_185 kX4_262 rfl (Nat.le_of_ble_eq_true rfl) (fun _ => rfl) rfl rfl (u4_12 ..) ?_
                  rw [qM_12]
                  refine fx_goto (tgt := 131) dX4_next_188 (by decide) ?_
                  exact ih1
              · rw [← hr, ← hvl, rn_n q, vl_n q]
                refine fx_aload_n dX4_next_131 rfl rfl ?_
                refine fx_aload_n dX4_next_132 rfl rfl ?_
                refine fx_get dX4_next_133 kX4_262 rfl rfl ?_
                rw [q12]
                refine fx_callVv dX4_next_136 vX4_byteAt lX4_268 (by decide) rfl (Nat.le_of_ble_eq_true rfl) (eB _ _ _ _ _ _ (by omega)) rfl ?_
                refine fx_bipush (v := nI 48) dX4_next_139 (by decide) ?_
                refine fx_bipush (v := nI 57) dX4_next_141 (by decide) ?_
                refine fx_callSv dX4_next_143 sX4_within lX4_74 (by decide) (Nat.le_of_ble_eq_true rfl) eX4_within rfl ?_
                refine fx_if_eq (tgt := 206) dX4_next_146 (by decide) rfl (fun hc146 => ?_) (fun hc146 => ?_)
                · exact fx_vreq dX4_next_206 rfl rfl
                · exact absurd (nI_ne0' hc146) q
          refine fx_aload_n dX4_next_34 rfl rfl ?_
          refine fx_aload_n dX4_next_35 rfl rfl ?_
          refine fx_get dX4_next_36 kX4_265 rfl rfl ?_
          rw [q11]
          refine fx_callVv dX4_next_39 vX4_byteAt lX4_268 (by decide) rfl (Nat.le_of_ble_eq_true rfl) (eB _ _ _ _ _ _ (by omega)) rfl ?_
          refine fs_istore_n_1 dX4_next_42 rfl (by decide) ?_
          refine fx_aload_n dX4_next_43 rfl rfl ?_
          refine fx_aload_n dX4_next_44 rfl rfl ?_
          refine fx_get dX4_next_45 kX4_265 rfl rfl ?_
          rw [q11]
          refine fx_put dX4_next_48 kX4_262 rfl (Nat.le_of_ble_eq_true rfl) (fun _ => rfl) rfl rfl (u4_12 ..) ?_
          rw [qM_12]
          refine fx_aload_n dX4_next_51 rfl rfl ?_
          refine fx_iconst (v := nI 0) dX4_next_52 (by decide) ?_
          refine fx_put dX4_next_53 kX4_271 rfl (Nat.le_of_ble_eq_true rfl) (fun _ => rfl) rfl rfl (u4_14 ..) ?_
          rw [qM_14]
          refine fx_iload_n dX4_next_56 rfl rfl ?_
          refine fx_if_ge (tgt := 68) dX4_next_57 (by decide) rfl (fun hc57 => ?_) (fun hc57 => ?_)
          · refine fx_iload_n dX4_next_68 rfl rfl ?_
            refine fx_bipush (v := nI 97) dX4_next_69 (by decide) ?_
            refine fx_bipush (v := nI 122) dX4_next_71 (by decide) ?_
            refine fx_callSv dX4_next_73 sX4_within lX4_74 (by decide) (Nat.le_of_ble_eq_true rfl) eX4_within rfl ?_
            rw [h1']
            refine fx_if_eq (tgt := 115) dX4_next_76 (by decide) rfl (fun hc76 => ?_) (fun hc76 => ?_)
            · refine fx_iload_n dX4_next_115 rfl rfl ?_
              refine fx_bipush (v := nI 48) dX4_next_116 (by decide) ?_
              refine fx_bipush (v := nI 57) dX4_next_118 (by decide) ?_
              refine fx_callSv dX4_next_120 sX4_within lX4_74 (by decide) (Nat.le_of_ble_eq_true rfl) eX4_within rfl ?_
              rw [h2']
              refine fx_if_eq (tgt := 191) dX4_next_123 (by decide) rfl (fun hc123 => ?_) (fun hc123 => ?_)
              · exact absurd hc123 (by decide)
              · refine fx_aload_n dX4_next_126 rfl rfl ?_
                refine fx_iconst (v := nI 2) dX4_next_127 (by decide) ?_
                refine fx_put dX4_next_128 kX4_274 rfl (Nat.le_of_ble_eq_true rfl) (fun _ => rfl) rfl rfl (u4_13 ..) ?_
                rw [qM_13]
                exact HD (z - s) s 0 (by omega) (by decide) rfl rfl
            · exact absurd rfl hc76
          · exact absurd (Int32.not_lt.mp h0) hc57
        · have h2' : jwi (btk (G 8) z s) (nI 48) (nI 57) = false := jbt_f' h2
          have ek : ¬ kd (G 8) z s = 0 ∧ ¬ kd (G 8) z s = 1 ∧ ¬ kd (G 8) z s = 2 ∧ min 3 (kd (G 8) z s) = 3 := by
            by_cases h3 : btk (G 8) z s = nI 59
            · rw [kd_3 h0 h1 h2 h3]; decide
            · rw [kd_4 h0 h1 h2 h3]; decide
          rw [show en (G 8) z s = s + 1 by unfold en; rw [if_neg ek.1, if_neg ek.2.1, if_neg ek.2.2.1], show va (G 8) z s = 0 from if_neg ek.2.2.1, ek.2.2.2]
          refine fx_aload_n dX4_next_34 rfl rfl ?_
          refine fx_aload_n dX4_next_35 rfl rfl ?_
          refine fx_get dX4_next_36 kX4_265 rfl rfl ?_
          rw [q11]
          refine fx_callVv dX4_next_39 vX4_byteAt lX4_268 (by decide) rfl (Nat.le_of_ble_eq_true rfl) (eB _ _ _ _ _ _ (by omega)) rfl ?_
          refine fs_istore_n_1 dX4_next_42 rfl (by decide) ?_
          refine fx_aload_n dX4_next_43 rfl rfl ?_
          refine fx_aload_n dX4_next_44 rfl rfl ?_
          refine fx_get dX4_next_45 kX4_265 rfl rfl ?_
          rw [q11]
          refine fx_put dX4_next_48 kX4_262 rfl (Nat.le_of_ble_eq_true rfl) (fun _ => rfl) rfl rfl (u4_12 ..) ?_
          rw [qM_12]
          refine fx_aload_n dX4_next_51 rfl rfl ?_
          refine fx_iconst (v := nI 0) dX4_next_52 (by decide) ?_
          refine fx_put dX4_next_53 kX4_271 rfl (Nat.le_of_ble_eq_true rfl) (fun _ => rfl) rfl rfl (u4_14 ..) ?_
          rw [qM_14]
          refine fx_iload_n dX4_next_56 rfl rfl ?_
          refine fx_if_ge (tgt := 68) dX4_next_57 (by decide) rfl (fun hc57 => ?_) (fun hc57 => ?_)
          · refine fx_iload_n dX4_next_68 rfl rfl ?_
            refine fx_bipush (v := nI 97) dX4_next_69 (by decide) ?_
            refine fx_bipush (v := nI 122) dX4_next_71 (by decide) ?_
            refine fx_callSv dX4_next_73 sX4_within lX4_74 (by decide) (Nat.le_of_ble_eq_true rfl) eX4_within rfl ?_
            rw [h1']
            refine fx_if_eq (tgt := 115) dX4_next_76 (by decide) rfl (fun hc76 => ?_) (fun hc76 => ?_)
            · refine fx_iload_n dX4_next_115 rfl rfl ?_
              refine fx_bipush (v := nI 48) dX4_next_116 (by decide) ?_
              refine fx_bipush (v := nI 57) dX4_next_118 (by decide) ?_
              refine fx_callSv dX4_next_120 sX4_within lX4_74 (by decide) (Nat.le_of_ble_eq_true rfl) eX4_within rfl ?_
              rw [h2']
              refine fx_if_eq (tgt := 191) dX4_next_123 (by decide) rfl (fun hc123 => ?_) (fun hc123 => ?_)
              · refine fx_aload_n dX4_next_191 rfl rfl ?_
                refine fx_iconst (v := nI 3) dX4_next_192 (by decide) ?_
                refine fx_put dX4_next_193 kX4_274 rfl (Nat.le_of_ble_eq_true rfl) (fun _ => rfl) rfl rfl (u4_13 ..) ?_
                rw [qM_13]
                refine fx_aload_n dX4_next_196 rfl rfl ?_
                refine fx_dup dX4_next_197 rfl ?_
                refine fx_get dX4_next_198 kX4_262 rfl rfl ?_
                rw [q12]
                refine fx_iconst (v := nI 1) dX4_next_201 (by decide) ?_
                refine fx_iadd dX4_next_202 ?_
                rw [nI_add]
                refine fx_put dX4_next_203 kX4_262 rfl (Nat.le_of_ble_eq_true rfl) (fun _ => rfl) rfl rfl (u4_12 ..) ?_
                rw [qM_12]
                exact fx_vreq dX4_next_206 rfl rfl
              · exact absurd rfl hc123
            · exact absurd rfl hc76
          · exact absurd (Int32.not_lt.mp h0) hc57
  have H : ∀ (r k : Nat), k + r = z → rn psp (G 8) z k = sk (G 8) z e → Fx mX4_next (none, rM (qM F (nI (sk (G 8) z e)) (nI (en (G 8) z (sk (G 8) z e))) (nI (min 3 (kd (G 8) z (sk (G 8) z e)))) (nI (va (G 8) z (sk (G 8) z e))) w m n) G) 8 [some (.ref 0), none] [] (rM (qM F (nI k) (nI e) c d w m n) G) := by
    intro r
    induction r with
    | zero =>
      intro k hk hr
      have q : ¬ psp (btk (G 8) z k) = true := fun q => by have := btk_lt psp_m q; omega
      have K := K34 _ hsl
      rw [rn_n q] at hr
      rw [← hr] at K ⊢
      refine fx_aload_n dX4_next_8 rfl rfl ?_
      refine fx_aload_n dX4_next_9 rfl rfl ?_
      refine fx_get dX4_next_10 kX4_265 rfl rfl ?_
      rw [q11]
      refine fx_callVv dX4_next_13 vX4_byteAt lX4_268 (by decide) rfl (Nat.le_of_ble_eq_true rfl) (eB _ _ _ _ _ _ (by omega)) rfl ?_
      refine fx_bipush (v := nI 32) dX4_next_16 (by decide) ?_
      refine fx_icmp_ne (tgt := 34) dX4_next_18 (by decide) rfl (fun hc18 => ?_) (fun hc18 => ?_)
      · exact K
      · exact absurd (decide_eq_true hc18) q
    | succ r ih =>
      intro k hk hr
      by_cases q : psp (btk (G 8) z k) = true
      · have ih1 := ih (k + 1) (by omega) (by rw [← rn_y psp_m q]; exact hr)
        refine fx_aload_n dX4_next_8 rfl rfl ?_
        refine fx_aload_n dX4_next_9 rfl rfl ?_
        refine fx_get dX4_next_10 kX4_265 rfl rfl ?_
        rw [q11]
        refine fx_callVv dX4_next_13 vX4_byteAt lX4_268 (by decide) rfl (Nat.le_of_ble_eq_true rfl) (eB _ _ _ _ _ _ (by omega)) rfl ?_
        refine fx_bipush (v := nI 32) dX4_next_16 (by decide) ?_
        refine fx_icmp_ne (tgt := 34) dX4_next_18 (by decide) rfl (fun hc18 => ?_) (fun hc18 => ?_)
        · exact absurd (of_decide_eq_true q) hc18
        · refine fx_aload_n dX4_next_21 rfl rfl ?_
          refine fx_dup dX4_next_22 rfl ?_
          refine fx_get dX4_next_23 kX4_265 rfl rfl ?_
          rw [q11]
          refine fx_iconst (v := nI 1) dX4_next_26 (by decide) ?_
          refine fx_iadd dX4_next_27 ?_
          rw [nI_add]
          refine fx_put dX4_next_28 kX4_265 rfl (Nat.le_of_ble_eq_true rfl) (fun _ => rfl) rfl rfl (u4_11 ..) ?_
          rw [qM_11]
          refine fx_goto (tgt := 8) dX4_next_31 (by decide) ?_
          exact ih1
      · have K := K34 _ hsl
        rw [rn_n q] at hr
        rw [← hr] at K ⊢
        refine fx_aload_n dX4_next_8 rfl rfl ?_
        refine fx_aload_n dX4_next_9 rfl rfl ?_
        refine fx_get dX4_next_10 kX4_265 rfl rfl ?_
        rw [q11]
        refine fx_callVv dX4_next_13 vX4_byteAt lX4_268 (by decide) rfl (Nat.le_of_ble_eq_true rfl) (eB _ _ _ _ _ _ (by omega)) rfl ?_
        refine fx_bipush (v := nI 32) dX4_next_16 (by decide) ?_
        refine fx_icmp_ne (tgt := 34) dX4_next_18 (by decide) rfl (fun hc18 => ?_) (fun hc18 => ?_)
        · exact K
        · exact absurd (decide_eq_true hc18) q
  have H0 := H (z - e) e (by omega) rfl
  refine fx_aload_n dX4_next_0 rfl rfl ?_
  refine fx_aload_n dX4_next_1 rfl rfl ?_
  refine fx_get dX4_next_2 kX4_262 rfl rfl ?_
  rw [q12]
  refine fx_put dX4_next_5 kX4_265 rfl (Nat.le_of_ble_eq_true rfl) (fun _ => rfl) rfl rfl (u4_11 ..) ?_
  rw [qM_11]
  exact H0
end
