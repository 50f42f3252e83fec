/-! ===== the class: hours run, till a bell is caught ===== -/
set_option maxRecDepth 100000
theorem rC_l {F F' : Nat → Nat → Int32} {N N' : Nat → Nat → Int64} {G G' : Nat → Nat → Int32} : (rC F N G).length = (rC F' N' G').length := rfl
section
variable {F F' F2 : Nat → Nat → Int32} {N N' N2 : Nat → Nat → Int64} {G G' G2 : Nat → Nat → Int32} {w : Nat} {V V' : Nat → Int32} {n n' : Nat} {h0 h' : Int32} {t t' : Nat}
theorem jFr_tr (a : jFr F N G w F' N' G') (b : jFr F' N' G' w F2 N2 G2) : jFr F N G w F2 N2 G2 := ⟨fun p s q => (b.1 p s q).trans (a.1 p s q), fun p s q => (b.2.1 p s q).trans (a.2.1 p s q), fun p q => (b.2.2 p q).trans (a.2.2 p q)⟩
theorem jC_C : jC (pF F w V n h0) (pN N w V t) (pG G w V) w V' n' h' t' = jC F N G w V' n' h' t' := j_can jI_p (jFr_tr jFr_p jFr_p)
theorem jC_v (e : jE V' V) : jC F N G w V' n h0 t = jC F N G w V n h0 t := j_can (jI_v jI_p (fun i hi => (e i hi).symm)) jFr_p
end
section
variable {F : Nat → Nat → Int32} {N : Nat → Nat → Int64} {G : Nat → Nat → Int32} {w : Nat} {V : Nat → Int32} {n : Nat} {h0 : Int32} {t : Nat}
theorem eX2_strike (hw : zw w) (hI : jI F N G w V n h0 t) (hV : jW V n) (hn : 0 < n) : Mx mX2_strike [.ref w] (rC F N G) none (jC F N G w (jstr V n) n h0 t) := by
  refine mx_of (L := [some (.ref w), none, none]) (by decide) (fun _ => rfl) (fun _ => Nat.le_of_ble_eq_true rfl) ?_
  have hn8 := hV.2.1
  obtain ⟨e1, e2⟩ := jq_e (V 3)
  obtain ⟨e3, e4⟩ := jq_e (jz (V 3))
  have hm : jq (V 3) % n < n := Nat.mod_lt _ hn
  have c1 := eX2_draw hw hI
  have i1 := jI_p (F := F) (N := N) (G := G) (w := w) (V := upd V 3 (jz (V 3))) (n := n) (h := h0) (t := t)
  have c2 := eX2_draw hw i1
  rw [jC_C, pk_us, upd_upd] at c2
  have i2 := jI_p (F := F) (N := N) (G := G) (w := w) (V := upd V 3 (jz (jz (V 3)))) (n := n) (h := h0) (t := t)
  have c3 := eX2_isFree hw i2 hn8 hm
  rw [pk_un (by omega)] at c3
  unfold jstr
  generalize hB : jq (V 3) % n = b at *
  have hW := j_can (F := F) (N := N) (G := G) (jI_w1 (x := nI (jq (jz (V 3)) % 64)) i2 (show b < 8 by omega)) (jFr_g (j := 4) jFr_p (by decide))
  generalize jq (V 3) = q1 at *
  generalize jq (jz (V 3)) = q2 at *
  by_cases hc : V (146 + 5 * b + 4) = nI 1
  · rw [if_pos hc, show upd (upd V 3 (jz (jz (V 3)))) (146 + 5 * b + 1) (V (146 + 5 * b + 1)) = upd V 3 (jz (jz (V 3))) by rw [show V (146 + 5 * b + 1) = upd V 3 (jz (jz (V 3))) (146 + 5 * b + 1) by rw [pk_un (by omega)], upd_id]]
    refine fx_aload_n dX2_strike_0 rfl rfl ?_
    refine fx_get dX2_strike_1 kX2_47 (a2 hw) rfl ?_
    rw [jI_5 hI]
    refine fx_iconst (v := nI 1) dX2_strike_4 (by decide) ?_
    refine fx_icmp_ge (tgt := 9) dX2_strike_5 (by decide) rC_l (fun hc5 => ?_) (fun hc5 => ?_)
    · refine fx_aload_n dX2_strike_9 rfl rfl ?_
      refine fx_callVv dX2_strike_10 vX2_draw lX2_117 (by decide) (a2 hw) (Nat.le_of_ble_eq_true rfl) c1 rfl ?_
      refine fx_aload_n dX2_strike_13 rfl rfl ?_
      refine fx_get dX2_strike_14 kX2_47 (a2 hw) rfl ?_
      rw [jI_5 i1]
      refine fx_irem dX2_strike_17 (nI_ne0 hn (by omega)) ?_
      rw [pk_rem (by omega) hn (by omega), hB]
      refine fs_istore_n_1 dX2_strike_18 rfl (by decide) ?_
      refine fx_aload_n dX2_strike_19 rfl rfl ?_
      refine fx_callVv dX2_strike_20 vX2_draw lX2_117 (by decide) (a2 hw) (Nat.le_of_ble_eq_true rfl) c2 rfl ?_
      refine fx_bipush (v := nI 64) dX2_strike_23 (by decide) ?_
      refine fx_irem dX2_strike_25 (by decide) ?_
      rw [pk_rem (by omega) (by decide) (by decide)]
      refine fs_istore_n_2 dX2_strike_26 rfl (by decide) ?_
      refine fx_aload_n dX2_strike_27 rfl rfl ?_
      refine fx_iload_n dX2_strike_28 rfl rfl ?_
      refine fx_callVv dX2_strike_29 vX2_isFree lX2_68 (by decide) (a2 hw) (Nat.le_of_ble_eq_true rfl) c3 rfl ?_
      rw [decide_eq_true hc]
      refine fx_if_eq (tgt := 42) dX2_strike_32 (by decide) rC_l (fun hc32 => ?_) (fun hc32 => ?_)
      · exact fx_vreq dX2_strike_42 rfl rfl
      · exact absurd (by decide) hc32
    · exact absurd (nI_le hn (by omega)) hc5
  · rw [if_neg hc]
    refine fx_aload_n dX2_strike_0 rfl rfl ?_
    refine fx_get dX2_strike_1 kX2_47 (a2 hw) rfl ?_
    rw [jI_5 hI]
    refine fx_iconst (v := nI 1) dX2_strike_4 (by decide) ?_
    refine fx_icmp_ge (tgt := 9) dX2_strike_5 (by decide) rC_l (fun hc5 => ?_) (fun hc5 => ?_)
    · refine fx_aload_n dX2_strike_9 rfl rfl ?_
      refine fx_callVv dX2_strike_10 vX2_draw lX2_117 (by decide) (a2 hw) (Nat.le_of_ble_eq_true rfl) c1 rfl ?_
      refine fx_aload_n dX2_strike_13 rfl rfl ?_
      refine fx_get dX2_strike_14 kX2_47 (a2 hw) rfl ?_
      rw [jI_5 i1]
      refine fx_irem dX2_strike_17 (nI_ne0 hn (by omega)) ?_
      rw [pk_rem (by omega) hn (by omega), hB]
      refine fs_istore_n_1 dX2_strike_18 rfl (by decide) ?_
      refine fx_aload_n dX2_strike_19 rfl rfl ?_
      refine fx_callVv dX2_strike_20 vX2_draw lX2_117 (by decide) (a2 hw) (Nat.le_of_ble_eq_true rfl) c2 rfl ?_
      refine fx_bipush (v := nI 64) dX2_strike_23 (by decide) ?_
      refine fx_irem dX2_strike_25 (by decide) ?_
      rw [pk_rem (by omega) (by decide) (by decide)]
      refine fs_istore_n_2 dX2_strike_26 rfl (by decide) ?_
      refine fx_aload_n dX2_strike_27 rfl rfl ?_
      refine fx_iload_n dX2_strike_28 rfl rfl ?_
      refine fx_callVv dX2_strike_29 vX2_isFree lX2_68 (by decide) (a2 hw) (Nat.le_of_ble_eq_true rfl) c3 rfl ?_
      rw [decide_eq_false hc]
      refine fx_if_eq (tgt := 42) dX2_strike_32 (by decide) rC_l (fun hc32 => ?_) (fun hc32 => ?_)
      · exact absurd hc32 (by decide)
      · refine fx_aload_n dX2_strike_35 rfl rfl ?_
        refine fx_get dX2_strike_36 kX2_21 (a2 hw) rfl ?_
        refine fx_iload_n dX2_strike_39 rfl rfl ?_
        refine fx_iload_n dX2_strike_40 rfl rfl ?_
        refine fx_iast dX2_strike_41 (a2_4 hw) (vp_in_nI (by omega) (by decide)) (w2_4 hw) ?_
        rw [nI_clamp (by omega)]
        exact fx_vreq dX2_strike_42 rfl hW
    · exact absurd (nI_le hn (by omega)) hc5
end
/-- the hours of a trial, till one changes nothing: whether the last one did, the row, the hour, what is trodden -/
def jrS (V : Nat → Int32) (n : Nat) (h : Int32) (t : Nat) : Nat → Bool × (Nat → Int32) × Int32 × Nat
  | 0 => (true, V, h, t)
  | k + 1 => if (jrS V n h t k).1 = true then (jmov (jrS V n h t k).2.1 n, jhv (jrS V n h t k).2.1 n n, jmin ((jrS V n h t k).2.2.1 + nI 1) (nI 99999), jtd (jrS V n h t k).2.1 n (jrS V n h t k).2.2.2 n) else jrS V n h t k
section
variable {V : Nat → Int32} {n : Nat} {h : Int32} {t : Nat}
theorem jrS_1 (k : Nat) : jrS V n h t (k + 1) = if (jrS V n h t k).1 = true then (jmov (jrS V n h t k).2.1 n, jhv (jrS V n h t k).2.1 n n, jmin ((jrS V n h t k).2.2.1 + nI 1) (nI 99999), jtd (jrS V n h t k).2.1 n (jrS V n h t k).2.2.2 n) else jrS V n h t k := rfl
theorem jrS_stop {i : Nat} (hs : (jrS V n h t i).1 = false) : ∀ k, jrS V n h t (i + k) = jrS V n h t i := by
  intro k
  induction k with
  | zero => rfl
  | succ k ih => rw [show i + (k + 1) = (i + k) + 1 from rfl, jrS_1, ih, hs, if_neg (by decide)]
theorem jrS_W (hV : jW V n) (ht : t < 2 ^ 64) : ∀ k, jW (jrS V n h t k).2.1 n ∧ (jrS V n h t k).2.2.2 < 2 ^ 64 := by
  intro k
  induction k with
  | zero => exact ⟨hV, ht⟩
  | succ k ih =>
    rw [jrS_1]
    by_cases e : (jrS V n h t k).1 = true
    · rw [if_pos e]; exact ⟨jW_hv ih.1 n (Nat.le_refl n), jtd_lt ih.1 ih.2 n (Nat.le_refl n)⟩
    · rw [if_neg e]; exact ih
theorem jrS_E (hV : jW V n) (ht : t < 2 ^ 64) : ∀ k, jE (jrS V n h t k).2.1 (jhrs V n k) ∧ ((jrS V n h t k).1 = false → jmov (jrS V n h t k).2.1 n = false) := by
  intro k
  induction k with
  | zero => exact ⟨jE_r, fun z => absurd (show true = false from z) (by decide)⟩
  | succ k ih =>
    have hW := (jrS_W (h := h) hV ht k).1
    have eH : jhrs V n (k + 1) = jhour (jhrs V n k) n := rfl
    rw [jrS_1, eH]
    by_cases e : (jrS V n h t k).1 = true
    · rw [if_pos e]
      refine ⟨jE_s (jE_t jE_hv_hour (jE_hv (jE_s ih.1) n)), fun z => ?_⟩
      have z' : jmov (jrS V n h t k).2.1 n = false := z
      show jmov (jhv (jrS V n h t k).2.1 n n) n = false
      rw [jhv_id hW n (Nat.le_refl n) z']
      exact z'
    · rw [if_neg e]
      have e' : (jrS V n h t k).1 = false := by cases q : (jrS V n h t k).1; rfl; exact absurd q e
      have z' := ih.2 e'
      refine ⟨jE_s (jE_t (jE_hour (jE_s ih.1)) (jE_t jE_hv_hour ?_)), fun _ => z'⟩
      rw [jhv_id hW n (Nat.le_refl n) z']
      exact jE_r
/-- when a bell is caught in a trial, and behind how many of its hours that is known -/
def jta (V : Nat → Int32) (n : Nat) (h : Int32) (t b : Nat) : Nat → Nat → Int32 × Nat
  | 0, i => if (jrS V n h t i).2.1 (146 + 5 * b + 4) = nI 1 then (nI i, i) else ((-1), i)
  | k + 1, i => if (jrS V n h t i).2.1 (146 + 5 * b + 4) = nI 1 then (nI i, i) else if (jrS V n h t (i + 1)).1 = true then jta V n h t b k (i + 1) else ((-1), i + 1)
theorem jta_e (hV : jW V n) (ht : t < 2 ^ 64) (b : Nat) : ∀ k i, (jta V n h t b k i).1 = if jhrs V n (i + jcnt (jhrs V n i) n b k) (146 + 5 * b + 4) = nI 1 then nI (i + jcnt (jhrs V n i) n b k) else (-1) := by
  intro k
  induction k with
  | zero =>
    intro i
    have e := (jrS_E (h := h) hV ht i).1 (146 + 5 * b + 4) (by omega)
    show (if (jrS V n h t i).2.1 (146 + 5 * b + 4) = nI 1 then (nI i, i) else ((-1), i)).1 = if jhrs V n i (146 + 5 * b + 4) = nI 1 then nI i else (-1)
    rw [e]
    by_cases q : jhrs V n i (146 + 5 * b + 4) = nI 1
    · rw [if_pos q, if_pos q]
    · rw [if_neg q, if_neg q]
  | succ k ih =>
    intro i
    have e := (jrS_E (h := h) hV ht i).1 (146 + 5 * b + 4) (by omega)
    have e0 : jta V n h t b (k + 1) i = if (jrS V n h t i).2.1 (146 + 5 * b + 4) = nI 1 then (nI i, i) else if (jrS V n h t (i + 1)).1 = true then jta V n h t b k (i + 1) else ((-1), i + 1) := rfl
    have e2 : jcnt (jhrs V n i) n b (k + 1) = if jhrs V n i (146 + 5 * b + 4) = nI 1 then 0 else jcnt (jhour (jhrs V n i) n) n b k + 1 := rfl
    rw [e0, e, e2]
    by_cases q : jhrs V n i (146 + 5 * b + 4) = nI 1
    · rw [if_pos q, if_pos q, Nat.add_zero, if_pos q]
    · rw [if_neg q, if_neg q]
      by_cases f : (jrS V n h t (i + 1)).1 = true
      · rw [if_pos f, ih (i + 1)]
        show (if jhrs V n (i + 1 + jcnt (jhour (jhrs V n i) n) n b k) (146 + 5 * b + 4) = nI 1 then nI (i + 1 + jcnt (jhour (jhrs V n i) n) n b k) else (-1)) = _
        rw [show i + 1 + jcnt (jhour (jhrs V n i) n) n b k = i + (jcnt (jhour (jhrs V n i) n) n b k + 1) by omega]
      · rw [if_neg f]
        have f' : (jrS V n h t (i + 1)).1 = false := by cases q : (jrS V n h t (i + 1)).1; rfl; exact absurd q f
        obtain ⟨s1, s2⟩ := jrS_E (h := h) hV ht (i + 1)
        have hm : jmov (jhrs V n (i + 1)) n = false := by
          have := s2 f'
          unfold jmov at this ⊢
          rw [← jE_hm s1]; exact this
        have hf : jhrs V n (i + 1) (146 + 5 * b + 4) = jhrs V n i (146 + 5 * b + 4) ∨ True := Or.inr trivial
        have key : jhrs V n (i + (jcnt (jhour (jhrs V n i) n) n b k + 1)) (146 + 5 * b + 4) = jhrs V n (i + 1) (146 + 5 * b + 4) := by
          rw [show i + (jcnt (jhour (jhrs V n i) n) n b k + 1) = (i + 1) + jcnt (jhour (jhrs V n i) n) n b k by omega, ← jhrs_add]
          exact jhrs_id (jW_hrs hV (i + 1)) hm _ _ (by omega)
        have key2 : jhrs V n (i + 1) (146 + 5 * b + 4) = jhrs V n i (146 + 5 * b + 4) := by
          rw [← s1 _ (by omega), ← e]
          rw [jrS_1] at f' ⊢
          by_cases g : (jrS V n h t i).1 = true
          · rw [if_pos g] at f' ⊢
            have f2 : jmov (jrS V n h t i).2.1 n = false := f'
            show jhv (jrS V n h t i).2.1 n n (146 + 5 * b + 4) = _
            rw [jhv_id (jrS_W (h := h) hV ht i).1 n (Nat.le_refl n) f2]
          · rw [if_neg g]
        rw [key, key2, if_neg q]
end
section
variable {F : Nat → Nat → Int32} {N : Nat → Nat → Int64} {G : Nat → Nat → Int32} {w : Nat} {V : Nat → Int32} {n : Nat} {h0 : Int32} {t : Nat}
abbrev jD (F : Nat → Nat → Int32) (N : Nat → Nat → Int64) (G : Nat → Nat → Int32) (w : Nat) (n : Nat) (s : Bool × (Nat → Int32) × Int32 × Nat) : zH := jC F N G w s.2.1 n s.2.2.1 s.2.2.2
theorem jD_step (hw : zw w) (hV : jW V n) (ht : t < 2 ^ 64) (i : Nat) (hs : (jrS V n h0 t i).1 = true) : Mx mX2_hourGoes [.ref w] (jD F N G w n (jrS V n h0 t i)) (some (.int (jB (jrS V n h0 t (i + 1)).1))) (jD F N G w n (jrS V n h0 t (i + 1))) := by
  obtain ⟨h1, h2⟩ := jrS_W (h := h0) hV ht i
  have := eX2_hourGoes (F := pF F w (jrS V n h0 t i).2.1 n (jrS V n h0 t i).2.2.1) (N := pN N w (jrS V n h0 t i).2.1 (jrS V n h0 t i).2.2.2) (G := pG G w (jrS V n h0 t i).2.1) hw jI_p h1 h2
  rw [jC_C] at this
  rw [jrS_1, if_pos hs]
  exact this
theorem eX2_runHours {m : Nat} (hm : m < 1000) (hw : zw w) (hI : jI F N G w V n h0 t) (hV : jW V n) (ht : t < 2 ^ 64) : Mx mX2_runHours [.ref w, .int (nI m)] (rC F N G) none (jD F N G w n (jrS V n h0 t m)) := by
  refine mx_of (L := [some (.ref w), some (.int (nI m)), none, none]) (by decide) (fun _ => rfl) (fun _ => Nat.le_of_ble_eq_true rfl) ?_
  have H : ∀ (k i : Nat), i + k = m → Fx mX2_runHours (none, jD F N G w n (jrS V n h0 t m)) 4 [some (.ref w), some (.int (nI m)), some (.int (jB (jrS V n h0 t i).1)), some (.int (nI i))] [] (jD F N G w n (jrS V n h0 t i)) := by
    intro k
    induction k with
    | zero =>
      intro i hi
      have hi' : i = m := by omega
      subst hi'
      refine fx_iload_n dX2_runHours_4 rfl rfl ?_
      refine fx_iload_n dX2_runHours_5 rfl rfl ?_
      refine fx_icmp_ge (tgt := 24) dX2_runHours_6 (by decide) rC_l (fun hc6 => ?_) (fun hc6 => ?_)
      · exact fx_vreq dX2_runHours_24 rfl rfl
      · exact absurd (Int32.le_refl _) hc6
    | succ k ih =>
      intro i hi
      have ih1 := ih (i + 1) (by omega)
      cases hs : (jrS V n h0 t i).1
      · have e := jrS_stop hs (k + 1)
        rw [hi] at e
        rw [e]
        refine fx_iload_n dX2_runHours_4 rfl rfl ?_
        refine fx_iload_n dX2_runHours_5 rfl rfl ?_
        refine fx_icmp_ge (tgt := 24) dX2_runHours_6 (by decide) rC_l (fun hc6 => ?_) (fun hc6 => ?_)
        · exact absurd hc6 (nI_ge (by omega) (by omega))
        · refine fx_iload_n dX2_runHours_9 rfl rfl ?_
          refine fx_if_eq (tgt := 24) dX2_runHours_10 (by decide) rC_l (fun hc10 => ?_) (fun hc10 => ?_)
          · exact fx_vreq dX2_runHours_24 rfl rfl
          · exact absurd (by decide) hc10
      · refine fx_iload_n dX2_runHours_4 rfl rfl ?_
        refine fx_iload_n dX2_runHours_5 rfl rfl ?_
        refine fx_icmp_ge (tgt := 24) dX2_runHours_6 (by decide) rC_l (fun hc6 => ?_) (fun hc6 => ?_)
        · exact absurd hc6 (nI_ge (by omega) (by omega))
        · refine fx_iload_n dX2_runHours_9 rfl rfl ?_
          refine fx_if_eq (tgt := 24) dX2_runHours_10 (by decide) rC_l (fun hc10 => ?_) (fun hc10 => ?_)
          · exact absurd hc10 (by decide)
          · refine fx_aload_n dX2_runHours_13 rfl rfl ?_
            refine fx_callVv dX2_runHours_14 vX2_hourGoes lX2_112 (by decide) (a2 hw) (Nat.le_of_ble_eq_true rfl) (jD_step hw hV ht i hs) rfl ?_
            refine fs_istore_n_2 dX2_runHours_17 rfl (by decide) ?_
            refine fs_iinc_3 (w := nI 1) dX2_runHours_18 (by decide) rfl (by decide) ?_
            refine fx_goto (tgt := 4) dX2_runHours_21 (by decide) ?_
            rw [nI_add]
            exact ih1
  have H0 := H m 0 (by omega)
  rw [j_can hI jFr_r]
  refine fx_iconst (v := nI 1) dX2_runHours_0 (by decide) ?_
  refine fs_istore_n_2 dX2_runHours_1 rfl (by decide) ?_
  refine fx_iconst (v := nI 0) dX2_runHours_2 (by decide) ?_
  refine fs_istore_n_3 dX2_runHours_3 rfl (by decide) ?_
  exact H0
theorem eX2_tillCaught {b m : Nat} (hm : m < 1000) (hb : b < n) (hw : zw w) (hI : jI F N G w V n h0 t) (hV : jW V n) (ht : t < 2 ^ 64) : Mx mX2_tillCaught [.ref w, .int (nI b), .int (nI m)] (rC F N G) (some (.int (jta V n h0 t b m 0).1)) (jD F N G w n (jrS V n h0 t (jta V n h0 t b m 0).2)) := by
  refine mx_of (L := [some (.ref w), some (.int (nI b)), some (.int (nI m)), none, none]) (by decide) (fun _ => rfl) (fun _ => Nat.le_of_ble_eq_true rfl) ?_
  have hn8 := hV.2.1
  have H : ∀ (k i : Nat), i + k = m → (jrS V n h0 t i).1 = true → ∀ r, r = jta V n h0 t b k i → Fx mX2_tillCaught (some (.int r.1), jD F N G w n (jrS V n h0 t r.2)) 5 [some (.ref w), some (.int (nI b)), some (.int (nI m)), some (.int (nI 1)), some (.int (nI i))] [] (jD F N G w n (jrS V n h0 t i)) := by
    intro k
    induction k with
    | zero =>
      intro i hi hs r hr
      have hi' : i = m := by omega
      subst hi'
      have e0 : jta V n h0 t b 0 i = if (jrS V n h0 t i).2.1 (146 + 5 * b + 4) = nI 1 then (nI i, i) else ((-1), i) := rfl
      have eI := eX2_isFree hw (jI_p (F := F) (N := N) (G := G) (w := w) (V := (jrS V n h0 t i).2.1) (n := n) (h := (jrS V n h0 t i).2.2.1) (t := (jrS V n h0 t i).2.2.2)) hn8 hb
      by_cases hc : (jrS V n h0 t i).2.1 (146 + 5 * b + 4) = nI 1
      · rw [e0, if_pos hc] at hr
        subst hr
        rw [decide_eq_true hc] at eI
        refine fx_iload dX2_tillCaught_5 rfl ?_
        refine fx_iload_n dX2_tillCaught_7 rfl rfl ?_
        refine fx_icmp_gt (tgt := 51) dX2_tillCaught_8 (by decide) rC_l (fun hc8 => ?_) (fun hc8 => ?_)
        · exact absurd hc8 (nI_nlt (Nat.le_refl _) (by omega))
        · refine fx_iload_n dX2_tillCaught_11 rfl rfl ?_
          refine fx_if_eq (tgt := 51) dX2_tillCaught_12 (by decide) rC_l (fun hc12 => ?_) (fun hc12 => ?_)
          · exact absurd hc12 (by decide)
          · refine fx_aload_n dX2_tillCaught_15 rfl rfl ?_
            refine fx_iload_n dX2_tillCaught_16 rfl rfl ?_
            refine fx_callVv dX2_tillCaught_17 vX2_isFree lX2_68 (by decide) (a2 hw) (Nat.le_of_ble_eq_true rfl) eI rfl ?_
            refine fx_if_ne (tgt := 26) dX2_tillCaught_20 (by decide) rC_l (fun hc20 => ?_) (fun hc20 => ?_)
            · exact absurd rfl hc20
            · refine fx_iload dX2_tillCaught_23 rfl ?_
              exact fx_ireq dX2_tillCaught_25 rfl rfl rfl rfl
      · rw [e0, if_neg hc] at hr
        subst hr
        rw [decide_eq_false hc] at eI
        refine fx_iload dX2_tillCaught_5 rfl ?_
        refine fx_iload_n dX2_tillCaught_7 rfl rfl ?_
        refine fx_icmp_gt (tgt := 51) dX2_tillCaught_8 (by decide) rC_l (fun hc8 => ?_) (fun hc8 => ?_)
        · exact absurd hc8 (nI_nlt (Nat.le_refl _) (by omega))
        · refine fx_iload_n dX2_tillCaught_11 rfl rfl ?_
          refine fx_if_eq (tgt := 51) dX2_tillCaught_12 (by decide) rC_l (fun hc12 => ?_) (fun hc12 => ?_)
          · exact absurd hc12 (by decide)
          · refine fx_aload_n dX2_tillCaught_15 rfl rfl ?_
            refine fx_iload_n dX2_tillCaught_16 rfl rfl ?_
            refine fx_callVv dX2_tillCaught_17 vX2_isFree lX2_68 (by decide) (a2 hw) (Nat.le_of_ble_eq_true rfl) eI rfl ?_
            refine fx_if_ne (tgt := 26) dX2_tillCaught_20 (by decide) rC_l (fun hc20 => ?_) (fun hc20 => ?_)
            · refine fx_iload dX2_tillCaught_26 rfl ?_
              refine fx_iload_n dX2_tillCaught_28 rfl rfl ?_
              refine fx_icmp_ge (tgt := 43) dX2_tillCaught_29 (by decide) rC_l (fun hc29 => ?_) (fun hc29 => ?_)
              · refine fx_iconst (v := nI 0) dX2_tillCaught_43 (by decide) ?_
                refine fs_istore_n_3 dX2_tillCaught_44 rfl (by decide) ?_
                refine fs_iinc_4 (w := nI 1) dX2_tillCaught_45 (by decide) rfl (by decide) ?_
                refine fx_goto (tgt := 5) dX2_tillCaught_48 (by decide) ?_
                rw [nI_add]
                refine fx_iload dX2_tillCaught_5 rfl ?_
                refine fx_iload_n dX2_tillCaught_7 rfl rfl ?_
                refine fx_icmp_gt (tgt := 51) dX2_tillCaught_8 (by decide) rfl (fun hc8 => ?_) (fun hc8 => absurd (nI_lt (by omega) (by omega)) hc8)
                refine fx_iconst (v := (-1)) dX2_tillCaught_51 (by decide) ?_
                exact fx_ireq dX2_tillCaught_52 rfl rfl rfl rfl
              · exact absurd (Int32.le_refl _) hc29
            · exact absurd hc20 (by decide)
    | succ k ih =>
      intro i hi hs r hr
      have e0 : jta V n h0 t b (k + 1) i = if (jrS V n h0 t i).2.1 (146 + 5 * b + 4) = nI 1 then (nI i, i) else if (jrS V n h0 t (i + 1)).1 = true then jta V n h0 t b k (i + 1) else ((-1), i + 1) := rfl
      have eI := eX2_isFree hw (jI_p (F := F) (N := N) (G := G) (w := w) (V := (jrS V n h0 t i).2.1) (n := n) (h := (jrS V n h0 t i).2.2.1) (t := (jrS V n h0 t i).2.2.2)) hn8 hb
      have eG := jD_step (F := F) (N := N) (G := G) hw hV ht i hs
      by_cases hc : (jrS V n h0 t i).2.1 (146 + 5 * b + 4) = nI 1
      · rw [e0, if_pos hc] at hr
        subst hr
        rw [decide_eq_true hc] at eI
        refine fx_iload dX2_tillCaught_5 rfl ?_
        refine fx_iload_n dX2_tillCaught_7 rfl rfl ?_
        refine fx_icmp_gt (tgt := 51) dX2_tillCaught_8 (by decide) rC_l (fun hc8 => ?_) (fun hc8 => ?_)
        · exact absurd hc8 (nI_nlt (by omega) (by omega))
        · refine fx_iload_n dX2_tillCaught_11 rfl rfl ?_
          refine fx_if_eq (tgt := 51) dX2_tillCaught_12 (by decide) rC_l (fun hc12 => ?_) (fun hc12 => ?_)
          · exact absurd hc12 (by decide)
          · refine fx_aload_n dX2_tillCaught_15 rfl rfl ?_
            refine fx_iload_n dX2_tillCaught_16 rfl rfl ?_
            refine fx_callVv dX2_tillCaught_17 vX2_isFree lX2_68 (by decide) (a2 hw) (Nat.le_of_ble_eq_true rfl) eI rfl ?_
            refine fx_if_ne (tgt := 26) dX2_tillCaught_20 (by decide) rC_l (fun hc20 => ?_) (fun hc20 => ?_)
            · exact absurd rfl hc20
            · refine fx_iload dX2_tillCaught_23 rfl ?_
              exact fx_ireq dX2_tillCaught_25 rfl rfl rfl rfl
      · rw [e0, if_neg hc] at hr
        rw [decide_eq_false hc] at eI
        cases f : (jrS V n h0 t (i + 1)).1
        · rw [f, if_neg (by decide)] at hr
          rw [f] at eG
          subst hr
          refine fx_iload dX2_tillCaught_5 rfl ?_
          refine fx_iload_n dX2_tillCaught_7 rfl rfl ?_
          refine fx_icmp_gt (tgt := 51) dX2_tillCaught_8 (by decide) rC_l (fun hc8 => ?_) (fun hc8 => ?_)
          · exact absurd hc8 (nI_nlt (by omega) (by omega))
          · refine fx_iload_n dX2_tillCaught_11 rfl rfl ?_
            refine fx_if_eq (tgt := 51) dX2_tillCaught_12 (by decide) rC_l (fun hc12 => ?_) (fun hc12 => ?_)
            · exact absurd hc12 (by decide)
            · refine fx_aload_n dX2_tillCaught_15 rfl rfl ?_
              refine fx_iload_n dX2_tillCaught_16 rfl rfl ?_
              refine fx_callVv dX2_tillCaught_17 vX2_isFree lX2_68 (by decide) (a2 hw) (Nat.le_of_ble_eq_true rfl) eI rfl ?_
              refine fx_if_ne (tgt := 26) dX2_tillCaught_20 (by decide) rC_l (fun hc20 => ?_) (fun hc20 => ?_)
              · refine fx_iload dX2_tillCaught_26 rfl ?_
                refine fx_iload_n dX2_tillCaught_28 rfl rfl ?_
                refine fx_icmp_ge (tgt := 43) dX2_tillCaught_29 (by decide) rC_l (fun hc29 => ?_) (fun hc29 => ?_)
                · exact absurd hc29 (nI_ge (by omega) (by omega))
                · refine fx_aload_n dX2_tillCaught_32 rfl rfl ?_
                  refine fx_callVv dX2_tillCaught_33 vX2_hourGoes lX2_112 (by decide) (a2 hw) (Nat.le_of_ble_eq_true rfl) eG rfl ?_
                  refine fx_if_eq (tgt := 43) dX2_tillCaught_36 (by decide) rC_l (fun hc36 => ?_) (fun hc36 => ?_)
                  · refine fx_iconst (v := nI 0) dX2_tillCaught_43 (by decide) ?_
                    refine fs_istore_n_3 dX2_tillCaught_44 rfl (by decide) ?_
                    refine fs_iinc_4 (w := nI 1) dX2_tillCaught_45 (by decide) rfl (by decide) ?_
                    refine fx_goto (tgt := 5) dX2_tillCaught_48 (by decide) ?_
                    rw [nI_add]
                    refine fx_iload dX2_tillCaught_5 rfl ?_
                    refine fx_iload_n dX2_tillCaught_7 rfl rfl ?_
                    refine fx_icmp_gt (tgt := 51) dX2_tillCaught_8 (by decide) rfl (fun hc8 => absurd hc8 (nI_nlt (by omega) (by omega))) (fun hc8 => ?_)
                    refine fx_iload_n dX2_tillCaught_11 rfl rfl ?_
                    refine fx_if_eq (tgt := 51) dX2_tillCaught_12 (by decide) rfl (fun hc12 => ?_) (fun hc12 => absurd rfl hc12)
                    refine fx_iconst (v := (-1)) dX2_tillCaught_51 (by decide) ?_
                    exact fx_ireq dX2_tillCaught_52 rfl rfl rfl rfl
                  · exact absurd rfl hc36
              · exact absurd hc20 (by decide)
        · rw [f, if_pos rfl] at hr
          rw [f] at eG
          have ih1 := ih (i + 1) (by omega) f r hr
          refine fx_iload dX2_tillCaught_5 rfl ?_
          refine fx_iload_n dX2_tillCaught_7 rfl rfl ?_
          refine fx_icmp_gt (tgt := 51) dX2_tillCaught_8 (by decide) rC_l (fun hc8 => ?_) (fun hc8 => ?_)
          · exact absurd hc8 (nI_nlt (by omega) (by omega))
          · refine fx_iload_n dX2_tillCaught_11 rfl rfl ?_
            refine fx_if_eq (tgt := 51) dX2_tillCaught_12 (by decide) rC_l (fun hc12 => ?_) (fun hc12 => ?_)
            · exact absurd hc12 (by decide)
            · refine fx_aload_n dX2_tillCaught_15 rfl rfl ?_
              refine fx_iload_n dX2_tillCaught_16 rfl rfl ?_
              refine fx_callVv dX2_tillCaught_17 vX2_isFree lX2_68 (by decide) (a2 hw) (Nat.le_of_ble_eq_true rfl) eI rfl ?_
              refine fx_if_ne (tgt := 26) dX2_tillCaught_20 (by decide) rC_l (fun hc20 => ?_) (fun hc20 => ?_)
              · refine fx_iload dX2_tillCaught_26 rfl ?_
                refine fx_iload_n dX2_tillCaught_28 rfl rfl ?_
                refine fx_icmp_ge (tgt := 43) dX2_tillCaught_29 (by decide) rC_l (fun hc29 => ?_) (fun hc29 => ?_)
                · exact absurd hc29 (nI_ge (by omega) (by omega))
                · refine fx_aload_n dX2_tillCaught_32 rfl rfl ?_
                  refine fx_callVv dX2_tillCaught_33 vX2_hourGoes lX2_112 (by decide) (a2 hw) (Nat.le_of_ble_eq_true rfl) eG rfl ?_
                  refine fx_if_eq (tgt := 43) dX2_tillCaught_36 (by decide) rC_l (fun hc36 => ?_) (fun hc36 => ?_)
                  · exact absurd hc36 (by decide)
                  · refine fx_iconst (v := nI 1) dX2_tillCaught_39 (by decide) ?_
                    refine fx_goto (tgt := 44) dX2_tillCaught_40 (by decide) ?_
                    refine fs_istore_n_3 dX2_tillCaught_44 rfl (by decide) ?_
                    refine fs_iinc_4 (w := nI 1) dX2_tillCaught_45 (by decide) rfl (by decide) ?_
                    refine fx_goto (tgt := 5) dX2_tillCaught_48 (by decide) ?_
                    rw [nI_add]
                    exact ih1
              · exact absurd hc20 (by decide)
  have H0 := H m 0 (by omega) rfl _ rfl
  rw [j_can hI jFr_r]
  refine fx_iconst (v := nI 1) dX2_tillCaught_0 (by decide) ?_
  refine fs_istore_n_3 dX2_tillCaught_1 rfl (by decide) ?_
  refine fx_iconst (v := nI 0) dX2_tillCaught_2 (by decide) ?_
  refine fs_istore_4 dX2_tillCaught_3 rfl (by decide) ?_
  exact H0
theorem eX2_tillCaught_n {b : Nat} (hI : jI F N G w V n h0 t) : Mx mX2_tillCaught [.ref w, .int (nI b), .int (-1)] (rC F N G) (some (.int (-1))) (jD F N G w n (jrS V n h0 t 0)) := by
  refine mx_of (L := [some (.ref w), some (.int (nI b)), some (.int (-1)), none, none]) (by decide) (fun _ => rfl) (fun _ => Nat.le_of_ble_eq_true rfl) ?_
  rw [j_can hI jFr_r]
  refine fx_iconst (v := nI 1) dX2_tillCaught_0 (by decide) ?_
  refine fs_istore_n_3 dX2_tillCaught_1 rfl (by decide) ?_
  refine fx_iconst (v := nI 0) dX2_tillCaught_2 (by decide) ?_
  refine fs_istore_4 dX2_tillCaught_3 rfl (by decide) ?_
  refine fx_iload dX2_tillCaught_5 rfl ?_
  refine fx_iload_n dX2_tillCaught_7 rfl rfl ?_
  refine fx_icmp_gt (tgt := 51) dX2_tillCaught_8 (by decide) rfl (fun hc8 => ?_) (fun hc8 => absurd (by decide) hc8)
  refine fx_iconst (v := (-1)) dX2_tillCaught_51 (by decide) ?_
  exact fx_ireq dX2_tillCaught_52 rfl rfl rfl rfl
end
