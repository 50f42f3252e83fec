/-! ===== hours: what an hour does not depend on ===== -/
set_option maxRecDepth 100000
/-- rows that differ in their hours alone -/
def jE (V V' : Nat → Int32) : Prop := ∀ i, i ≠ 0 → V i = V' i
section
variable {V V' : Nat → Int32} {n : Nat}
theorem jE_r : jE V V := fun _ _ => rfl
theorem jE_s (e : jE V V') : jE V' V := fun i h => (e i h).symm
theorem jE_t {W : Nat → Int32} (e : jE V V') (e2 : jE V' W) : jE V W := fun i h => (e i h).trans (e2 i h)
theorem jE_u (e : jE V V') (k : Nat) (x : Int32) : jE (upd V k x) (upd V' k x) := by
  intro i hi
  by_cases q : i = k
  · subst q; rw [pk_us, pk_us]
  · rw [pk_un q, pk_un q]; exact e i hi
theorem jE_0 (x : Int32) : jE (upd V 0 x) V := fun i hi => pk_un hi
theorem jE_far (e : jE V V') (c : Nat) : ∀ k, jfar V c k = jfar V' c k := by
  intro k
  induction k with
  | zero => exact e 1 (by decide)
  | succ k ih =>
    have e1 : ∀ W, jfar W c (k + 1) = if W (14 + k) < 0 then jfar W c k else jmin (jfar W c k) (japart (nI c) (W (14 + k))) := fun W => rfl
    rw [e1, e1, ih, e (14 + k) (by omega)]
theorem jE_plain (e : jE V V') (c : Nat) : jplain V c = jplain V' c := by unfold jplain; rw [jE_far e, e (82 + c) (by omega)]
theorem jE_near (e : jE V V') (b c kd : Nat) : ∀ o, jnear V b c kd o = jnear V' b c kd o := by
  intro o
  induction o with
  | zero => rfl
  | succ o ih =>
    have e1 : ∀ W, jnear W b c kd (o + 1) = if jnr W b kd o = true ∧ (jnear W b c kd o < 0 ∨ japart (nI c) (W (146 + 5 * o + 1)) < jnear W b c kd o) then japart (nI c) (W (146 + 5 * o + 1)) else jnear W b c kd o := fun W => rfl
    have e2 : jnr V b kd o = jnr V' b kd o := by unfold jnr; rw [e (146 + 5 * o + 4) (by omega), e (146 + 5 * o + 0) (by omega)]
    rw [e1, e1, ih, e2, e (146 + 5 * o + 1) (by omega)]
theorem jE_worth (e : jE V V') (b c : Nat) : jworth V b c n = jworth V' b c n := by
  unfold jworth jwk jten jlone
  rw [e (146 + 5 * b + 0) (by omega), jE_plain e, jE_near e b c 0, jE_near e b c 1, e (82 + c) (by omega)]
theorem jE_nx (e : jE V V') (b a : Nat) : ∀ k, jnx V b n a k = jnx V' b n a k := by
  intro k
  induction k with
  | zero => show (a, _) = (a, _); rw [jE_worth e]
  | succ k ih =>
    have e1 : ∀ W, jnx W b n a (k + 1) = if jbes a k < 0 then jnx W b n a k else (if (jnx W b n a k).2 < jworth W b (jbesN a k) n then jbesN a k else (jnx W b n a k).1, jmax (jnx W b n a k).2 (jworth W b (jbesN a k) n)) := fun W => rfl
    rw [e1, e1, ih, jE_worth e]
theorem jE_next (e : jE V V') (b : Nat) : jnext V b n = jnext V' b n := by unfold jnext; rw [e (146 + 5 * b + 1) (by omega), jE_nx e]
theorem jhv_1 (V : Nat → Int32) (n b : Nat) : jhv V n (b + 1) = if jhv V n b (146 + 5 * b + 4) = nI 1 then jhv V n b else upd (upd (jhv V n b) (146 + 5 * b + 1) (nI (jnext (jhv V n b) b n))) (146 + 5 * b + 4) (jB (decide (jhv V n b (18 + jnext (jhv V n b) b n) = nI 1))) := rfl
theorem jhm_1 (V : Nat → Int32) (n b : Nat) : jhm V n (b + 1) = if jhv V n b (146 + 5 * b + 4) = nI 1 then jhm V n b else (jhm V n b || (!decide (nI (jnext (jhv V n b) b n) = jhv V n b (146 + 5 * b + 1)) || decide (jhv V n b (18 + jnext (jhv V n b) b n) = nI 1))) := rfl
theorem jE_hv (e : jE V V') : ∀ b, jE (jhv V n b) (jhv V' n b) := by
  intro b
  induction b with
  | zero => exact e
  | succ b ih =>
    rw [jhv_1, jhv_1, ← ih (146 + 5 * b + 4) (by omega), ← jE_next ih, ← ih (18 + jnext (jhv V n b) b n) (by omega)]
    by_cases q : jhv V n b (146 + 5 * b + 4) = nI 1
    · rw [if_pos q, if_pos q]; exact ih
    · rw [if_neg q, if_neg q]; exact jE_u (jE_u ih _ _) _ _
theorem jE_hm (e : jE V V') : ∀ b, jhm V n b = jhm V' n b := by
  intro b
  induction b with
  | zero => rfl
  | succ b ih =>
    have i := jE_hv (n := n) e b
    rw [jhm_1, jhm_1, ← i (146 + 5 * b + 4) (by omega), ← jE_next i, ← i (18 + jnext (jhv V n b) b n) (by omega), ← i (146 + 5 * b + 1) (by omega), ih]
theorem jE_hour (e : jE V V') : jE (jhour V n) (jhour V' n) := fun i hi => by unfold jhour; rw [pk_un hi, pk_un hi]; exact jE_hv e n i hi
theorem jE_hv_hour : jE (jhour V n) (jhv V n n) := jE_0 _
theorem jhm_f {b : Nat} (h : jhm V n (b + 1) = false) : jhm V n b = false := by
  rw [jhm_1] at h
  by_cases q : jhv V n b (146 + 5 * b + 4) = nI 1
  · rw [if_pos q] at h; exact h
  · rw [if_neg q] at h
    cases e : jhm V n b
    · rfl
    · rw [e, Bool.true_or] at h; exact absurd h (by decide)
/-- where nothing moves nothing changes -/
theorem jhv_id (hV : jW V n) : ∀ b, b ≤ n → jhm V n b = false → jhv V n b = V := by
  intro b
  induction b with
  | zero => intro _ _; rfl
  | succ b ih =>
    intro hb hm
    have i := ih (by omega) (jhm_f hm)
    rw [jhv_1]
    rw [jhm_1] at hm
    rw [i] at hm ⊢
    by_cases q : V (146 + 5 * b + 4) = nI 1
    · rw [if_pos q]
    · rw [if_neg q] at hm ⊢
      simp only [Bool.or_eq_false_iff, Bool.not_eq_false', decide_eq_true_eq, decide_eq_false_iff_not] at hm
      obtain ⟨-, h1, h2⟩ := hm
      rw [h1, upd_id, decide_eq_false h2]
      obtain ⟨-, -, -, -, g4⟩ := hV.2.2.1 b (by omega)
      rcases g4 with g4 | g4
      · rw [show jB false = V (146 + 5 * b + 4) from g4.symm, upd_id]
      · exact absurd g4 q
theorem jE_hrs (e : jE V V') : ∀ k, jE (jhrs V n k) (jhrs V' n k) := by
  intro k
  induction k with
  | zero => exact e
  | succ k ih => exact jE_hour ih
theorem jhrs_add (V : Nat → Int32) (n h : Nat) : ∀ c, jhrs (jhrs V n h) n c = jhrs V n (h + c) := by
  intro c
  induction c with
  | zero => rfl
  | succ c ih => show jhour _ n = jhour _ n; rw [ih]; rfl
/-- where an hour changes nothing no hour does -/
theorem jhrs_id (hV : jW V n) (hm : jmov V n = false) : ∀ k, jE (jhrs V n k) V := by
  intro k
  induction k with
  | zero => exact jE_r
  | succ k ih =>
    refine jE_t (jE_hour ih) ?_
    refine jE_t jE_hv_hour ?_
    rw [jhv_id hV n (Nat.le_refl n) hm]
    exact jE_r
end
/-- the cells trodden in an hour -/
def jtd (V : Nat → Int32) (n t : Nat) : Nat → Nat
  | 0 => t
  | b + 1 => if jhv V n b (146 + 5 * b + 4) = nI 1 then jtd V n t b else jtd V n t b ||| 2 ^ jnext (jhv V n b) b n
theorem jtd_1 (V : Nat → Int32) (n t b : Nat) : jtd V n t (b + 1) = if jhv V n b (146 + 5 * b + 4) = nI 1 then jtd V n t b else jtd V n t b ||| 2 ^ jnext (jhv V n b) b n := rfl
theorem jtd_lt {V : Nat → Int32} {n t : Nat} (hV : jW V n) (ht : t < 2 ^ 64) : ∀ b, b ≤ n → jtd V n t b < 2 ^ 64 := by
  intro b
  induction b with
  | zero => intro _; exact ht
  | succ b ih =>
    intro hb
    rw [jtd_1]
    by_cases q : jhv V n b (146 + 5 * b + 4) = nI 1
    · rw [if_pos q]; exact ih (by omega)
    · rw [if_neg q]; exact Nat.or_lt_two_pow (ih (by omega)) (Nat.pow_lt_pow_right (by decide) (jnext_lt (jW_hv hV b (by omega)) (by omega)))
abbrev jC (F : Nat → Nat → Int32) (N : Nat → Nat → Int64) (G : Nat → Nat → Int32) (w : Nat) (V : Nat → Int32) (n : Nat) (h : Int32) (t : Nat) : zH := rC (pF F w V n h) (pN N w V t) (pG G w V)
theorem jB_o1 (b : Bool) : jB b ||| nI 1 = jB true := by cases b <;> decide
theorem jB_o0 (b : Bool) : jB b ||| nI 0 = jB b := by cases b <;> decide
theorem jl1 : (1 : Int64) = lN 1 := by decide
section
variable {F : Nat → Nat → Int32} {N : Nat → Nat → Int64} {G : Nat → Nat → Int32} {w : Nat} {V : Nat → Int32} {n : Nat} {h0 : Int32} {t : Nat}
theorem eX2_hourGoes (hw : zw w) (hI : jI F N G w V n h0 t) (hV : jW V n) (ht : t < 2 ^ 64) : Mx mX2_hourGoes [.ref w] (rC F N G) (some (.int (jB (jmov V n)))) (jC F N G w (jhv V n n) n (jmin (h0 + nI 1) (nI 99999)) (jtd V n t n)) := by
  refine mx_of (L := [some (.ref w), none, none, none]) (by decide) (fun _ => rfl) (fun _ => Nat.le_of_ble_eq_true rfl) ?_
  have hn8 := hV.2.1
  have H : ∀ (k b : Nat), b + k = n → ∀ x3 : Option Value, Fx mX2_hourGoes (some (.int (jB (jmov V n))), jC F N G w (jhv V n n) n (jmin (h0 + nI 1) (nI 99999)) (jtd V n t n)) 4 [some (.ref w), some (.int (jB (jhm V n b))), some (.int (nI b)), x3] [] (jC F N G w (jhv V n b) n h0 (jtd V n t b)) := by
    intro k
    induction k with
    | zero =>
      intro b hb x3
      have hb' : b = n := by omega
      subst hb'
      have hIU := jI_p (F := F) (N := N) (G := G) (w := w) (V := jhv V b b) (n := b) (h := h0) (t := jtd V b t b)
      refine fx_iload_n dX2_hourGoes_4 rfl rfl ?_
      refine fx_aload_n dX2_hourGoes_5 rfl rfl ?_
      refine fx_get dX2_hourGoes_6 kX2_47 (a2 hw) rfl ?_
      rw [jI_5 hIU]
      refine fx_icmp_ge (tgt := 91) dX2_hourGoes_9 (by decide) rfl (fun hc9 => ?_) (fun hc9 => ?_)
      · refine fx_aload_n dX2_hourGoes_91 rfl rfl ?_
        refine fx_aload_n dX2_hourGoes_92 rfl rfl ?_
        refine fx_get dX2_hourGoes_93 kX2_40 (a2 hw) rfl ?_
        rw [jI_0 hIU]
        refine fx_iconst (v := nI 1) dX2_hourGoes_96 (by decide) ?_
        refine fx_iadd dX2_hourGoes_97 ?_
        refine fx_ldc dX2_hourGoes_98 qX2_111 ?_
        rw [j99999]
        refine fx_min dX2_hourGoes_100 lX2_92 (by decide) (Nat.le_of_ble_eq_true rfl) ?_
        refine fx_put dX2_hourGoes_103 kX2_40 (a2 hw) (Nat.le_of_ble_eq_true rfl) (fun _ => rfl) rfl rfl (u2_0 hw) ?_
        refine fx_iload_n dX2_hourGoes_106 rfl rfl ?_
        exact fx_ireq dX2_hourGoes_107 rfl (jB_n _) rfl (j_can (jI_wh hIU) (jFr_f jFr_p (Or.inl rfl)))
      · exact absurd (Int32.le_refl _) hc9
    | succ k ih =>
      intro b hb x3
      have ih1 := ih (b + 1) (by omega)
      rw [jhv_1, jhm_1, jtd_1] at ih1
      have hU := jW_hv hV b (by omega)
      have hT := jtd_lt hV ht b (by omega)
      generalize jhv V n b = U at *
      generalize jtd V n t b = t1 at *
      generalize jhm V n b = m at *
      have hIU := jI_p (F := F) (N := N) (G := G) (w := w) (V := U) (n := n) (h := h0) (t := t1)
      have hq := jnext_lt hU (show b < n by omega)
      by_cases hc : U (146 + 5 * b + 4) = nI 1
      · rw [if_pos hc, if_pos hc, if_pos hc] at ih1
        refine fx_iload_n dX2_hourGoes_4 rfl rfl ?_
        refine fx_aload_n dX2_hourGoes_5 rfl rfl ?_
        refine fx_get dX2_hourGoes_6 kX2_47 (a2 hw) rfl ?_
        rw [jI_5 hIU]
        refine fx_icmp_ge (tgt := 91) dX2_hourGoes_9 (by decide) rfl (fun hc9 => ?_) (fun hc9 => ?_)
        · exact absurd hc9 (nI_ge (by omega) (by omega))
        · refine fx_aload_n dX2_hourGoes_12 rfl rfl ?_
          refine fx_iload_n dX2_hourGoes_13 rfl rfl ?_
          refine fx_callVv dX2_hourGoes_14 vX2_isFree lX2_68 (by decide) (a2 hw) (Nat.le_of_ble_eq_true rfl) (eX2_isFree hw hIU hn8 (by omega)) rfl ?_
          rw [decide_eq_true hc]
          refine fx_if_eq (tgt := 85) dX2_hourGoes_17 (by decide) rfl (fun hc17 => ?_) (fun hc17 => ?_)
          · refine fs_iinc_2 (w := nI 1) dX2_hourGoes_85 (by decide) rfl (by decide) ?_
            refine fx_goto (tgt := 4) dX2_hourGoes_88 (by decide) ?_
            rw [nI_add]
            exact ih1 _
          · exact absurd (by decide) hc17
      · rw [if_neg hc, if_neg hc, if_neg hc] at ih1
        have en := eX2_nextCell hw hIU hU (show b < n by omega)
        generalize jnext U b n = q at *
        have hc0 : U (146 + 5 * b + 4) = nI 0 := by
          obtain ⟨-, -, -, -, g4⟩ := hU.2.2.1 b (by omega)
          exact g4.elim id (fun z => absurd z hc)
        have hI1 := jI_wt (jI_w1 (x := nI q) hIU (show b < 8 by omega)) (t2 := t1 ||| 2 ^ q) rfl
        have hF1 : jFr F N G w (pF F w U n h0) (n2 (pN N w U t1) w 13 (lN (t1 ||| 2 ^ q))) (ga (pG G w U) (w + 4) (upd (pG G w U (w + 4)) b (nI q))) := jFr_g (jFr_n jFr_p (Or.inr rfl)) (by decide)
        have e1 := j_can hI1 hF1
        have hIV := jI_p (F := F) (N := N) (G := G) (w := w) (V := upd U (146 + 5 * b + 1) (nI q)) (n := n) (h := h0) (t := t1 ||| 2 ^ q)
        have eN := eX2_hasNet hw hIV hq
        rw [pk_un (show 18 + q ≠ 146 + 5 * b + 1 by omega)] at eN
        have J85 : ∀ mv : Bool, mv = (m || !decide (nI q = U (146 + 5 * b + 1))) → Fx mX2_hourGoes (some (.int (jB (jmov V n))), jC F N G w (jhv V n n) n (jmin (h0 + nI 1) (nI 99999)) (jtd V n t n)) 43 [some (.ref w), some (.int (jB m)), some (.int (nI b)), some (.int (nI q))] [.int (jB mv)] (jC F N G w U n h0 t1) := by
          intro mv emv
          rw [← Bool.or_assoc, ← emv] at ih1
          by_cases hn : U (18 + q) = nI 1
          · have eU : jB true = nI 1 := rfl
            rw [decide_eq_true hn, Bool.or_true, eU] at ih1
            have e2 := j_can (jI_wc (b := b) (x := nI 1) hIV (v := nI (jsN (upd U (146 + 5 * b + 1) (nI q)) n) ||| nI (2 ^ b)) (by rw [nI_or, jsN_s (by omega)])) (jFr_f (jFr_p (F := F) (N := N) (G := G)) (by decide))
            refine fs_istore_n_1 dX2_hourGoes_43 rfl (by decide) ?_
            refine fx_aload_n dX2_hourGoes_44 rfl rfl ?_
            refine fx_get dX2_hourGoes_45 kX2_21 (a2 hw) rfl ?_
            refine fx_iload_n dX2_hourGoes_48 rfl rfl ?_
            refine fx_iload_n dX2_hourGoes_49 rfl rfl ?_
            refine fx_iast dX2_hourGoes_50 (a2_4 hw) (vp_in_nI (by omega) (by decide)) (w2_4 hw) ?_
            rw [nI_clamp (by omega)]
            refine fx_aload_n dX2_hourGoes_51 rfl rfl ?_
            refine fx_dup dX2_hourGoes_52 rfl ?_
            refine fx_get dX2_hourGoes_53 kX2_53 (a2 hw) rfl ?_
            rw [jI_t hIU]
            refine fx_lconst (v := 1) dX2_hourGoes_56 (by decide) ?_
            refine fx_iload_n dX2_hourGoes_57 rfl rfl ?_
            refine fx_lshl dX2_hourGoes_58 ?_
            rw [jl1, wb_shl 1 hq, Nat.one_mul]
            refine fx_lor dX2_hourGoes_59 ?_
            rw [wb_or hT (Nat.pow_lt_pow_right (by decide) hq)]
            refine fx_put dX2_hourGoes_60 kX2_53 (a2 hw) (Nat.le_of_ble_eq_true rfl) (fun _ => rfl) rfl rfl (u2_13 hw) ?_
            rw [e1]
            refine fx_aload_n dX2_hourGoes_63 rfl rfl ?_
            refine fx_iload_n dX2_hourGoes_64 rfl rfl ?_
            refine fx_callVv dX2_hourGoes_65 vX2_hasNet lX2_108 (by decide) (a2 hw) (Nat.le_of_ble_eq_true rfl) eN rfl ?_
            rw [decide_eq_true hn]
            refine fx_if_eq (tgt := 85) dX2_hourGoes_68 (by decide) rfl (fun hc68 => ?_) (fun hc68 => ?_)
            · exact absurd hc68 (by decide)
            · refine fx_aload_n dX2_hourGoes_71 rfl rfl ?_
              refine fx_dup dX2_hourGoes_72 rfl ?_
              refine fx_get dX2_hourGoes_73 kX2_50 (a2 hw) rfl ?_
              rw [jI_c hIV]
              refine fx_iconst (v := nI 1) dX2_hourGoes_76 (by decide) ?_
              refine fx_iload_n dX2_hourGoes_77 rfl rfl ?_
              refine fx_ishl dX2_hourGoes_78 ?_
              rw [nI_shl1 b (by omega)]
              refine fx_ior dX2_hourGoes_79 ?_
              refine fx_put dX2_hourGoes_80 kX2_50 (a2 hw) (Nat.le_of_ble_eq_true rfl) (fun _ => rfl) rfl rfl (u2_10 hw) ?_
              rw [e2]
              refine fx_iconst (v := nI 1) dX2_hourGoes_83 (by decide) ?_
              refine fs_istore_n_1 dX2_hourGoes_84 rfl (by decide) ?_
              refine fs_iinc_2 (w := nI 1) dX2_hourGoes_85 (by decide) rfl (by decide) ?_
              refine fx_goto (tgt := 4) dX2_hourGoes_88 (by decide) ?_
              rw [nI_add]
              exact ih1 _
          · rw [decide_eq_false hn, Bool.or_false, show jB false = upd U (146 + 5 * b + 1) (nI q) (146 + 5 * b + 4) by rw [pk_un (by omega), hc0]; rfl, upd_id] at ih1
            refine fs_istore_n_1 dX2_hourGoes_43 rfl (by decide) ?_
            refine fx_aload_n dX2_hourGoes_44 rfl rfl ?_
            refine fx_get dX2_hourGoes_45 kX2_21 (a2 hw) rfl ?_
            refine fx_iload_n dX2_hourGoes_48 rfl rfl ?_
            refine fx_iload_n dX2_hourGoes_49 rfl rfl ?_
            refine fx_iast dX2_hourGoes_50 (a2_4 hw) (vp_in_nI (by omega) (by decide)) (w2_4 hw) ?_
            rw [nI_clamp (by omega)]
            refine fx_aload_n dX2_hourGoes_51 rfl rfl ?_
            refine fx_dup dX2_hourGoes_52 rfl ?_
            refine fx_get dX2_hourGoes_53 kX2_53 (a2 hw) rfl ?_
            rw [jI_t hIU]
            refine fx_lconst (v := 1) dX2_hourGoes_56 (by decide) ?_
            refine fx_iload_n dX2_hourGoes_57 rfl rfl ?_
            refine fx_lshl dX2_hourGoes_58 ?_
            rw [jl1, wb_shl 1 hq, Nat.one_mul]
            refine fx_lor dX2_hourGoes_59 ?_
            rw [wb_or hT (Nat.pow_lt_pow_right (by decide) hq)]
            refine fx_put dX2_hourGoes_60 kX2_53 (a2 hw) (Nat.le_of_ble_eq_true rfl) (fun _ => rfl) rfl rfl (u2_13 hw) ?_
            rw [e1]
            refine fx_aload_n dX2_hourGoes_63 rfl rfl ?_
            refine fx_iload_n dX2_hourGoes_64 rfl rfl ?_
            refine fx_callVv dX2_hourGoes_65 vX2_hasNet lX2_108 (by decide) (a2 hw) (Nat.le_of_ble_eq_true rfl) eN rfl ?_
            rw [decide_eq_false hn]
            refine fx_if_eq (tgt := 85) dX2_hourGoes_68 (by decide) rfl (fun hc68 => ?_) (fun hc68 => ?_)
            · refine fs_iinc_2 (w := nI 1) dX2_hourGoes_85 (by decide) rfl (by decide) ?_
              refine fx_goto (tgt := 4) dX2_hourGoes_88 (by decide) ?_
              rw [nI_add]
              exact ih1 _
            · exact absurd rfl hc68
        refine fx_iload_n dX2_hourGoes_4 rfl rfl ?_
        refine fx_aload_n dX2_hourGoes_5 rfl rfl ?_
        refine fx_get dX2_hourGoes_6 kX2_47 (a2 hw) rfl ?_
        rw [jI_5 hIU]
        refine fx_icmp_ge (tgt := 91) dX2_hourGoes_9 (by decide) rfl (fun hc9 => ?_) (fun hc9 => ?_)
        · exact absurd hc9 (nI_ge (by omega) (by omega))
        · refine fx_aload_n dX2_hourGoes_12 rfl rfl ?_
          refine fx_iload_n dX2_hourGoes_13 rfl rfl ?_
          refine fx_callVv dX2_hourGoes_14 vX2_isFree lX2_68 (by decide) (a2 hw) (Nat.le_of_ble_eq_true rfl) (eX2_isFree hw hIU hn8 (by omega)) rfl ?_
          rw [decide_eq_false hc]
          refine fx_if_eq (tgt := 85) dX2_hourGoes_17 (by decide) rfl (fun hc17 => ?_) (fun hc17 => ?_)
          · exact absurd hc17 (by decide)
          · refine fx_aload_n dX2_hourGoes_20 rfl rfl ?_
            refine fx_iload_n dX2_hourGoes_21 rfl rfl ?_
            refine fx_callVv dX2_hourGoes_22 vX2_nextCell lX2_105 (by decide) (a2 hw) (Nat.le_of_ble_eq_true rfl) en rfl ?_
            refine fs_istore_n_3 dX2_hourGoes_25 rfl (by decide) ?_
            refine fx_iload_n dX2_hourGoes_26 rfl rfl ?_
            refine fx_iload_n dX2_hourGoes_27 rfl rfl ?_
            refine fx_aload_n dX2_hourGoes_28 rfl rfl ?_
            refine fx_get dX2_hourGoes_29 kX2_21 (a2 hw) rfl ?_
            refine fx_iload_n dX2_hourGoes_32 rfl rfl ?_
            refine fx_iald dX2_hourGoes_33 (a2_4 hw) (vp_in_nI (by omega) (by decide)) ?_
            rw [nI_clamp (by omega), jI_a4 hIU, jbf_e (by omega)]
            refine fx_icmp_eq (tgt := 41) dX2_hourGoes_34 (by decide) rfl (fun hc34 => ?_) (fun hc34 => ?_)
            · refine fx_iconst (v := nI 0) dX2_hourGoes_41 (by decide) ?_
              refine fx_ior dX2_hourGoes_42 ?_
              first | (rw [jB_o0]; exact J85 m (by rw [decide_eq_true hc34]; exact (Bool.or_false m).symm)) | (rw [jB_o1]; exact J85 true (by rw [decide_eq_false hc34]; exact (Bool.or_true m).symm))
            · refine fx_iconst (v := nI 1) dX2_hourGoes_37 (by decide) ?_
              refine fx_goto (tgt := 42) dX2_hourGoes_38 (by decide) ?_
              refine fx_ior dX2_hourGoes_42 ?_
              first | (rw [jB_o0]; exact J85 m (by rw [decide_eq_true hc34]; exact (Bool.or_false m).symm)) | (rw [jB_o1]; exact J85 true (by rw [decide_eq_false hc34]; exact (Bool.or_true m).symm))
  have H0 := H n 0 (by omega) none
  rw [show jhv V n 0 = V from rfl, show jtd V n t 0 = t from rfl, show jhm V n 0 = false from rfl] at H0
  rw [j_can hI jFr_r]
  refine fx_iconst (v := nI 0) dX2_hourGoes_0 (by decide) ?_
  refine fs_istore_n_1 dX2_hourGoes_1 rfl (by decide) ?_
  refine fx_iconst (v := nI 0) dX2_hourGoes_2 (by decide) ?_
  refine fs_istore_n_2 dX2_hourGoes_3 rfl (by decide) ?_
  exact H0
end
