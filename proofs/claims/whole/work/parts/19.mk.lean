/-! ===== the reference: public methods, second part ===== -/
set_option maxRecDepth 100000
/-- what the trials leave: isMoved, aside -/
def jsp (V : Nat → Int32) : Nat → Nat
  | 0 => 0
  | s + 1 => jsp V s + (if V (4 + s) < 0 then 0 else 1)
/-- netFor: what the reference has found ahead of cell c -/
def jnf (V : Nat → Int32) (n b : Nat) : Nat → Int32 × Nat
  | 0 => ((-1), 1000000)
  | c + 1 => if V (18 + c) = nI 1 then jnf V n b c else (if jcv (upd V (18 + c) (nI 1)) n b 20 < (jnf V n b c).2 then nI c else (jnf V n b c).1, min (jnf V n b c).2 (jcv (upd V (18 + c) (nI 1)) n b 20))
def jbt (V : Nat → Int32) (n t : Nat) : Nat → Int32 × Int32
  | 0 => ((-1), (-1))
  | c + 1 => if V (18 + c) = nI 1 then jbt V n t c else (if (jbt V n t c).2 < nI (jp (jsN (jhrs (upd V (18 + c) (nI 1)) n t) n)) then nI c else (jbt V n t c).1, jmax (jbt V n t c).2 (nI (jp (jsN (jhrs (upd V (18 + c) (nI 1)) n t) n))))
def jdv (V : Nat → Int32) (n h b : Nat) : Nat → Int32 × Nat
  | 0 => ((-1), 1000000)
  | c + 1 => (if jcv (upd V (14 + h) (nI c)) n b 20 < (jdv V n h b c).2 then nI c else (jdv V n h b c).1, min (jdv V n h b c).2 (jcv (upd V (14 + h) (nI c)) n b 20))
def jkf (V : Nat → Int32) (n b : Nat) : Nat → Int32 × Int32
  | 0 => ((-1), (-1))
  | k + 1 => (if (jkf V n b k).2 < nI (min 60 (jcv (upd V (146 + 5 * b + 0) (nI k)) n b 60)) then nI k else (jkf V n b k).1, jmax (jkf V n b k).2 (nI (min 60 (jcv (upd V (146 + 5 * b + 0) (nI k)) n b 60))))
theorem jcv_lt (V : Nat → Int32) (n b r : Nat) (hr : r < 1000) : jcv V n b r < 1000 ∨ jcv V n b r = 1000000 := by
  unfold jcv
  have := jcnt_le n b r V
  by_cases h : jhrs V n (jcnt V n b r) (146 + 5 * b + 4) = nI 1
  · rw [if_pos h]; exact Or.inl (by omega)
  · rw [if_neg h]; exact Or.inr rfl
theorem jW_net {V : Nat → Int32} {n c : Nat} {x : Int32} (h : jW V n) (hc : c < 64) (hx : x = nI 0 ∨ x = nI 1) : jW (upd V (18 + c) x) n := by
  obtain ⟨h1, h2, h3, h4, h5, h6, h7, h8⟩ := h
  refine ⟨by rw [pk_un (by omega)]; exact h1, h2, fun o ho => ?_, fun q hq => by rw [pk_un (by omega)]; exact h4 q hq, fun q hq => ?_, fun q hq => by rw [pk_un (by omega)]; exact h6 q hq, by rw [pk_un (by omega)]; exact h7, fun k hk => by rw [pk_un (by omega)]; exact h8 k hk⟩
  · rw [pk_un (by omega), pk_un (by omega), pk_un (by omega), pk_un (by omega), pk_un (by omega)]
    exact h3 o ho
  · by_cases e : q = c
    · subst e; rw [pk_us]; exact hx
    · rw [pk_un (by omega)]; exact h5 q hq
theorem jW_hunter {V : Nat → Int32} {n c : Nat} {x : Int32} (h : jW V n) (hc : c < 4) (hx : x = (-1) ∨ ∃ c, c < 64 ∧ x = nI c) : jW (upd V (14 + c) x) n := by
  obtain ⟨h1, h2, h3, h4, h5, h6, h7, h8⟩ := h
  refine ⟨by rw [pk_un (by omega)]; exact h1, h2, fun o ho => ?_, fun q hq => ?_, fun q hq => by rw [pk_un (by omega)]; exact h5 q hq, fun q hq => by rw [pk_un (by omega)]; exact h6 q hq, by rw [pk_un (by omega)]; exact h7, fun k hk => by rw [pk_un (by omega)]; exact h8 k hk⟩
  · rw [pk_un (by omega), pk_un (by omega), pk_un (by omega), pk_un (by omega), pk_un (by omega)]
    exact h3 o ho
  · by_cases e : q = c
    · subst e; rw [pk_us]; exact hx
    · rw [pk_un (by omega)]; exact h4 q hq
theorem jgood_0 {k : Nat} (hk : k < 7) : jgood 0 (nI k) := ⟨fun _ => ⟨k, hk, rfl⟩, fun h => absurd h (by decide), fun h => absurd h (by decide), fun h => absurd h (by decide), fun h => absurd h (by decide)⟩
/-- put back: nothing is left of a try in a row -/
theorem upd_back {V : Nat → Int32} {k : Nat} {x y : Int32} (h : V k = y) : upd (upd V k x) k y = V := by rw [upd_upd, ← h, upd_id]
/-- the number of the row 'aside' and of isMoved behind the tries -/
abbrev rMt (F : Nat → Int32) (G : Nat → Nat → Int32) (m : Int32) (A : Nat → Int32) : zH := rM (upd F 7 m) (ga G 3 A)
section
variable {F : Nat → Int32} {G : Nat → Nat → Int32} {n : Nat}
theorem eX4_now_n {a : Int32} (h : jwi a (nI 0) (nI 4) = false) : Mx mX4_now [.ref 0, .int a] (rM F G) (some (.int (jfd 0))) (rMn F G 0) := by
  refine mx_of (L := [some (.ref 0), some (.int a)]) (by decide) (fun _ => rfl) (fun _ => Nat.le_of_ble_eq_true rfl) ?_
  refine fx_iload_n dX4_now_0 rfl rfl ?_
  refine fx_tableOut (tgt := 65) dX4_now_1 (jwi_out (k := 4) (by decide) h) (by decide) ?_
  refine fx_aload_n dX4_now_65 rfl rfl ?_
  refine fx_ldc dX4_now_66 qX4_69 ?_
  refine fx_callVv dX4_now_68 vX4_finding lX4_88 (by decide) rfl (Nat.le_of_ble_eq_true rfl) (eX4_finding (k := 0) (by decide) (by decide)) rfl ?_
  exact fx_ireq dX4_now_71 rfl rfl rfl rfl
theorem eX4_now_y {j : Nat} (hV : jW (G 1) n) (hj : j ≤ 4) : Mx mX4_now [.ref 0, .int (nI j)] (rM F G) (some (.int (if j = 0 then G 1 0 else if j = 1 then nI (jsN (G 1) n) else if j = 2 then nI (jnets (G 1) 64) else if j = 3 then G 1 1 else jcw (G 1) n))) (rM F G) := by
  refine mx_of (L := [some (.ref 0), some (.int (nI j))]) (by decide) (fun _ => rfl) (fun _ => Nat.le_of_ble_eq_true rfl) ?_
  rcases (show j = 0 ∨ j = 1 ∨ j = 2 ∨ j = 3 ∨ j = 4 by omega) with rfl | rfl | rfl | rfl | rfl
  · refine fx_iload_n dX4_now_0 rfl rfl ?_
    refine fx_tableIn (tgt := 36) dX4_now_1 (by decide) (by decide) rfl (by decide) ?_
    refine fx_aload_n dX4_now_36 rfl rfl ?_
    refine fx_get dX4_now_37 kX4_9 rfl rfl ?_
    refine fx_iconst (v := nI 0) dX4_now_40 (by decide) ?_
    refine fx_iald dX4_now_41 rfl (vp_in_nI (by decide) (by decide)) ?_
    rw [nI_clamp (n := 0) (by decide)]
    exact fx_ireq dX4_now_42 rfl rfl rfl rfl
  · refine fx_iload_n dX4_now_0 rfl rfl ?_
    refine fx_tableIn (tgt := 43) dX4_now_1 (by decide) (by decide) rfl (by decide) ?_
    refine fx_aload_n dX4_now_43 rfl rfl ?_
    refine fx_callVv dX4_now_44 vX4_caughtNow lX4_178 (by decide) rfl (Nat.le_of_ble_eq_true rfl) (eX4_caughtNow hV) rfl ?_
    exact fx_ireq dX4_now_47 rfl rfl rfl rfl
  · refine fx_iload_n dX4_now_0 rfl rfl ?_
    refine fx_tableIn (tgt := 48) dX4_now_1 (by decide) (by decide) rfl (by decide) ?_
    refine fx_aload_n dX4_now_48 rfl rfl ?_
    refine fx_callVv dX4_now_49 vX4_nets lX4_185 (by decide) rfl (Nat.le_of_ble_eq_true rfl) (eX4_nets hV) rfl ?_
    exact fx_ireq dX4_now_52 rfl rfl rfl rfl
  · refine fx_iload_n dX4_now_0 rfl rfl ?_
    refine fx_tableIn (tgt := 53) dX4_now_1 (by decide) (by decide) rfl (by decide) ?_
    refine fx_aload_n dX4_now_53 rfl rfl ?_
    refine fx_get dX4_now_54 kX4_9 rfl rfl ?_
    refine fx_iconst (v := nI 1) dX4_now_57 (by decide) ?_
    refine fx_iald dX4_now_58 rfl (vp_in_nI (by decide) (by decide)) ?_
    rw [nI_clamp (n := 1) (by decide)]
    exact fx_ireq dX4_now_59 rfl rfl rfl rfl
  · refine fx_iload_n dX4_now_0 rfl rfl ?_
    refine fx_tableIn (tgt := 60) dX4_now_1 (by decide) (by decide) rfl (by decide) ?_
    refine fx_aload_n dX4_now_60 rfl rfl ?_
    refine fx_callVv dX4_now_61 vX4_caughtWeight lX4_188 (by decide) rfl (Nat.le_of_ble_eq_true rfl) (eX4_caughtWeight hV) rfl ?_
    exact fx_ireq dX4_now_64 rfl rfl rfl rfl
theorem eX4_ahead_n {a b : Int32} (hV : jW (G 1) n) (h : jwi a (nI 0) (nI n - nI 1) = false ∨ jwi b (nI 0) (nI 60) = false) : Mx mX4_ahead [.ref 0, .int a, .int b] (rM F G) (some (.int (jfd 0))) (rMn F G 0) := by
  refine mx_of (L := [some (.ref 0), some (.int a), some (.int b)]) (by decide) (fun _ => rfl) (fun _ => Nat.le_of_ble_eq_true rfl) ?_
  refine fx_aload_n dX4_ahead_0 rfl rfl ?_
  refine fx_iload_n dX4_ahead_1 rfl rfl ?_
  refine fx_callVv dX4_ahead_2 vX4_isBell lX4_141 (by decide) rfl (Nat.le_of_ble_eq_true rfl) (eX4_isBell hV) rfl ?_
  refine fx_if_eq (tgt := 28) dX4_ahead_5 (by decide) rfl (fun hc5 => ?_) (fun hc5 => ?_)
  · refine fx_aload_n dX4_ahead_28 rfl rfl ?_
    refine fx_ldc dX4_ahead_29 qX4_69 ?_
    refine fx_callVv dX4_ahead_31 vX4_finding lX4_88 (by decide) rfl (Nat.le_of_ble_eq_true rfl) (eX4_finding (k := 0) (by decide) (by decide)) rfl ?_
    exact fx_ireq dX4_ahead_34 rfl rfl rfl rfl
  · refine fx_iload_n dX4_ahead_8 rfl rfl ?_
    refine fx_iconst (v := nI 0) dX4_ahead_9 (by decide) ?_
    refine fx_bipush (v := nI 60) dX4_ahead_10 (by decide) ?_
    refine fx_callSv dX4_ahead_12 sX4_within lX4_74 (by decide) (Nat.le_of_ble_eq_true rfl) eX4_within rfl ?_
    refine fx_if_eq (tgt := 28) dX4_ahead_15 (by decide) rfl (fun hc15 => ?_) (fun hc15 => ?_)
    · refine fx_aload_n dX4_ahead_28 rfl rfl ?_
      refine fx_ldc dX4_ahead_29 qX4_69 ?_
      refine fx_callVv dX4_ahead_31 vX4_finding lX4_88 (by decide) rfl (Nat.le_of_ble_eq_true rfl) (eX4_finding (k := 0) (by decide) (by decide)) rfl ?_
      exact fx_ireq dX4_ahead_34 rfl rfl rfl rfl
    · exact h.elim (fun q => jtf q (nI_ne0' hc5)) (fun q => jtf q (nI_ne0' hc15))
theorem eX4_ahead_y {b t : Nat} (hK : jK G) (hV : jW (G 1) n) (hb : b < n) (ht : t ≤ 60) (h3 : ∀ k, 186 ≤ k → G 3 k = 0) : Mx mX4_ahead [.ref 0, .int (nI b), .int (nI t)] (rM F G) (some (.int (jhrs (G 1) n t (146 + 5 * b + 1)))) (rMt F G (jmv (F 7) (G 1) n t) (G 1)) := by
  refine mx_of (L := [some (.ref 0), some (.int (nI b)), some (.int (nI t))]) (by decide) (fun _ => rfl) (fun _ => Nat.le_of_ble_eq_true rfl) ?_
  have hn8 := hV.2.1
  refine fx_aload_n dX4_ahead_0 rfl rfl ?_
  refine fx_iload_n dX4_ahead_1 rfl rfl ?_
  refine fx_callVv dX4_ahead_2 vX4_isBell lX4_141 (by decide) rfl (Nat.le_of_ble_eq_true rfl) (eX4_isBell hV) rfl ?_
  rw [jbell_y hb hn8]
  refine fx_if_eq (tgt := 28) dX4_ahead_5 (by decide) rfl (fun hc5 => ?_) (fun hc5 => ?_)
  · exact absurd hc5 (by decide)
  · refine fx_iload_n dX4_ahead_8 rfl rfl ?_
    refine fx_iconst (v := nI 0) dX4_ahead_9 (by decide) ?_
    refine fx_bipush (v := nI 60) dX4_ahead_10 (by decide) ?_
    refine fx_callSv dX4_ahead_12 sX4_within lX4_74 (by decide) (Nat.le_of_ble_eq_true rfl) eX4_within rfl ?_
    rw [jwi_n (by omega) (by decide)]
    refine fx_if_eq (tgt := 28) dX4_ahead_15 (by decide) rfl (fun hc15 => ?_) (fun hc15 => ?_)
    · exact absurd hc15 (by decide)
    · refine fx_aload_n dX4_ahead_18 rfl rfl ?_
      refine fx_iload_n dX4_ahead_19 rfl rfl ?_
      refine fx_iload_n dX4_ahead_20 rfl rfl ?_
      refine fx_iconst (v := nI 1) dX4_ahead_21 (by decide) ?_
      refine fx_callVv dX4_ahead_22 vX4_fieldBehind lX4_194 (by decide) rfl (Nat.le_of_ble_eq_true rfl) (eX4_fieldBehind (by omega) hK hV hb (by decide) h3) rfl ?_
      refine fx_goto (tgt := 34) dX4_ahead_25 (by decide) ?_
      exact fx_ireq dX4_ahead_34 rfl rfl rfl rfl
theorem eX4_when_n {a : Int32} (hV : jW (G 1) n) (h : jwi a (nI 0) (nI n - nI 1) = false) : Mx mX4_when [.ref 0, .int a] (rM F G) (some (.int (jfd 0))) (rMn F G 0) := by
  refine mx_of (L := [some (.ref 0), some (.int a)]) (by decide) (fun _ => rfl) (fun _ => Nat.le_of_ble_eq_true rfl) ?_
  refine fx_aload_n dX4_when_0 rfl rfl ?_
  refine fx_iload_n dX4_when_1 rfl rfl ?_
  refine fx_callVv dX4_when_2 vX4_isBell lX4_141 (by decide) rfl (Nat.le_of_ble_eq_true rfl) (eX4_isBell hV) rfl ?_
  refine fx_if_eq (tgt := 22) dX4_when_5 (by decide) rfl (fun hc5 => ?_) (fun hc5 => ?_)
  · refine fx_aload_n dX4_when_22 rfl rfl ?_
    refine fx_ldc dX4_when_23 qX4_69 ?_
    refine fx_callVv dX4_when_25 vX4_finding lX4_88 (by decide) rfl (Nat.le_of_ble_eq_true rfl) (eX4_finding (k := 0) (by decide) (by decide)) rfl ?_
    exact fx_ireq dX4_when_28 rfl rfl rfl rfl
  · exact jtf h (nI_ne0' hc5)
theorem eX4_when_y {b : Nat} (hK : jK G) (hV : jW (G 1) n) (hb : b < n) (h3 : ∀ k, 186 ≤ k → G 3 k = 0) (h : jcv (G 1) n b 60 < 1000) : Mx mX4_when [.ref 0, .int (nI b)] (rM F G) (some (.int (nI (jcv (G 1) n b 60)))) (rMt F G (jmv (F 7) (G 1) n (jcnt (G 1) n b 60)) (G 1)) := by
  refine mx_of (L := [some (.ref 0), some (.int (nI b))]) (by decide) (fun _ => rfl) (fun _ => Nat.le_of_ble_eq_true rfl) ?_
  have hn8 := hV.2.1
  refine fx_aload_n dX4_when_0 rfl rfl ?_
  refine fx_iload_n dX4_when_1 rfl rfl ?_
  refine fx_callVv dX4_when_2 vX4_isBell lX4_141 (by decide) rfl (Nat.le_of_ble_eq_true rfl) (eX4_isBell hV) rfl ?_
  rw [jbell_y hb hn8]
  refine fx_if_eq (tgt := 22) dX4_when_5 (by decide) rfl (fun hc5 => ?_) (fun hc5 => ?_)
  · exact absurd hc5 (by decide)
  · refine fx_aload_n dX4_when_8 rfl rfl ?_
    refine fx_aload_n dX4_when_9 rfl rfl ?_
    refine fx_iload_n dX4_when_10 rfl rfl ?_
    refine fx_bipush (v := nI 60) dX4_when_11 (by decide) ?_
    refine fx_callVv dX4_when_13 vX4_caughtIn lX4_199 (by decide) rfl (Nat.le_of_ble_eq_true rfl) (eX4_caughtIn (by decide) hK hV hb h3) rfl ?_
    refine fx_callVv dX4_when_16 vX4_told lX4_202 (by decide) rfl (Nat.le_of_ble_eq_true rfl) (eX4_told_y (by omega)) rfl ?_
    refine fx_goto (tgt := 28) dX4_when_19 (by decide) ?_
    exact fx_ireq dX4_when_28 rfl rfl rfl rfl
theorem eX4_when_z {b : Nat} (hK : jK G) (hV : jW (G 1) n) (hb : b < n) (h3 : ∀ k, 186 ≤ k → G 3 k = 0) (h : jcv (G 1) n b 60 = 1000000) : Mx mX4_when [.ref 0, .int (nI b)] (rM F G) (some (.int (jfd 3))) (rM (upd F 7 (jmv (F 7) (G 1) n (jcnt (G 1) n b 60))) (ga (ga G 3 (G 1)) 4 (jfc (G 4) 3))) := by
  refine mx_of (L := [some (.ref 0), some (.int (nI b))]) (by decide) (fun _ => rfl) (fun _ => Nat.le_of_ble_eq_true rfl) ?_
  have hn8 := hV.2.1
  have eT := eX4_told_n (F := upd F 7 (jmv (F 7) (G 1) n (jcnt (G 1) n b 60))) (G := ga G 3 (G 1))
  rw [ga_n _ _ (show (4 : Nat) ≠ 3 by decide)] at eT
  refine fx_aload_n dX4_when_0 rfl rfl ?_
  refine fx_iload_n dX4_when_1 rfl rfl ?_
  refine fx_callVv dX4_when_2 vX4_isBell lX4_141 (by decide) rfl (Nat.le_of_ble_eq_true rfl) (eX4_isBell hV) rfl ?_
  rw [jbell_y hb hn8]
  refine fx_if_eq (tgt := 22) dX4_when_5 (by decide) rfl (fun hc5 => ?_) (fun hc5 => ?_)
  · exact absurd hc5 (by decide)
  · refine fx_aload_n dX4_when_8 rfl rfl ?_
    refine fx_aload_n dX4_when_9 rfl rfl ?_
    refine fx_iload_n dX4_when_10 rfl rfl ?_
    refine fx_bipush (v := nI 60) dX4_when_11 (by decide) ?_
    refine fx_callVv dX4_when_13 vX4_caughtIn lX4_199 (by decide) rfl (Nat.le_of_ble_eq_true rfl) (eX4_caughtIn (by decide) hK hV hb h3) rfl ?_
    rw [h]
    refine fx_callVv dX4_when_16 vX4_told lX4_202 (by decide) rfl (Nat.le_of_ble_eq_true rfl) eT rfl ?_
    refine fx_goto (tgt := 28) dX4_when_19 (by decide) ?_
    exact fx_ireq dX4_when_28 rfl rfl rfl rfl
theorem eX4_caught_n {a : Int32} (h : jwi a (nI 0) (nI 60) = false) : Mx mX4_caught [.ref 0, .int a] (rM F G) (some (.int (jfd 0))) (rMn F G 0) := by
  refine mx_of (L := [some (.ref 0), some (.int a)]) (by decide) (fun _ => rfl) (fun _ => Nat.le_of_ble_eq_true rfl) ?_
  refine fx_iload_n dX4_caught_0 rfl rfl ?_
  refine fx_iconst (v := nI 0) dX4_caught_1 (by decide) ?_
  refine fx_bipush (v := nI 60) dX4_caught_2 (by decide) ?_
  refine fx_callSv dX4_caught_4 sX4_within lX4_74 (by decide) (Nat.le_of_ble_eq_true rfl) eX4_within rfl ?_
  refine fx_if_eq (tgt := 18) dX4_caught_7 (by decide) rfl (fun hc7 => ?_) (fun hc7 => ?_)
  · refine fx_aload_n dX4_caught_18 rfl rfl ?_
    refine fx_ldc dX4_caught_19 qX4_69 ?_
    refine fx_callVv dX4_caught_21 vX4_finding lX4_88 (by decide) rfl (Nat.le_of_ble_eq_true rfl) (eX4_finding (k := 0) (by decide) (by decide)) rfl ?_
    exact fx_ireq dX4_caught_24 rfl rfl rfl rfl
  · exact jtf h (nI_ne0' hc7)
theorem eX4_caught_y {t : Nat} (hK : jK G) (hV : jW (G 1) n) (ht : t ≤ 60) (h3 : ∀ k, 186 ≤ k → G 3 k = 0) : Mx mX4_caught [.ref 0, .int (nI t)] (rM F G) (some (.int (nI (jsN (jhrs (G 1) n t) n)))) (rMt F G (jmv (F 7) (G 1) n t) (G 1)) := by
  refine mx_of (L := [some (.ref 0), some (.int (nI t))]) (by decide) (fun _ => rfl) (fun _ => Nat.le_of_ble_eq_true rfl) ?_
  refine fx_iload_n dX4_caught_0 rfl rfl ?_
  refine fx_iconst (v := nI 0) dX4_caught_1 (by decide) ?_
  refine fx_bipush (v := nI 60) dX4_caught_2 (by decide) ?_
  refine fx_callSv dX4_caught_4 sX4_within lX4_74 (by decide) (Nat.le_of_ble_eq_true rfl) eX4_within rfl ?_
  rw [jwi_n (by omega) (by decide)]
  refine fx_if_eq (tgt := 18) dX4_caught_7 (by decide) rfl (fun hc7 => ?_) (fun hc7 => ?_)
  · exact absurd hc7 (by decide)
  · refine fx_aload_n dX4_caught_10 rfl rfl ?_
    refine fx_iload_n dX4_caught_11 rfl rfl ?_
    refine fx_callVv dX4_caught_12 vX4_setBehind lX4_205 (by decide) rfl (Nat.le_of_ble_eq_true rfl) (eX4_setBehind (by omega) hK hV h3) rfl ?_
    refine fx_goto (tgt := 24) dX4_caught_15 (by decide) ?_
    exact fx_ireq dX4_caught_24 rfl rfl rfl rfl
theorem eX4_stock_n {a b c : Int32} (h : jwi a (nI 0) (nI 9999) = false ∨ jwi b (nI 0) (nI 999) = false ∨ jwi c (nI 0) (nI 99) = false) : Mx mX4_stock [.ref 0, .int a, .int b, .int c] (rM F G) (some (.int (jfd 0))) (rMn F G 0) := by
  refine mx_of (L := [some (.ref 0), some (.int a), some (.int b), some (.int c)]) (by decide) (fun _ => rfl) (fun _ => Nat.le_of_ble_eq_true rfl) ?_
  refine fx_iload_n dX4_stock_0 rfl rfl ?_
  refine fx_iconst (v := nI 0) dX4_stock_1 (by decide) ?_
  refine fx_sipush (v := nI 9999) dX4_stock_2 (by decide) ?_
  refine fx_callSv dX4_stock_5 sX4_within lX4_74 (by decide) (Nat.le_of_ble_eq_true rfl) eX4_within rfl ?_
  refine fx_if_eq (tgt := 41) dX4_stock_8 (by decide) rfl (fun hc8 => ?_) (fun hc8 => ?_)
  · refine fx_aload_n dX4_stock_41 rfl rfl ?_
    refine fx_ldc dX4_stock_42 qX4_69 ?_
    refine fx_callVv dX4_stock_44 vX4_finding lX4_88 (by decide) rfl (Nat.le_of_ble_eq_true rfl) (eX4_finding (k := 0) (by decide) (by decide)) rfl ?_
    exact fx_ireq dX4_stock_47 rfl rfl rfl rfl
  · refine fx_iload_n dX4_stock_11 rfl rfl ?_
    refine fx_iconst (v := nI 0) dX4_stock_12 (by decide) ?_
    refine fx_sipush (v := nI 999) dX4_stock_13 (by decide) ?_
    refine fx_callSv dX4_stock_16 sX4_within lX4_74 (by decide) (Nat.le_of_ble_eq_true rfl) eX4_within rfl ?_
    refine fx_if_eq (tgt := 41) dX4_stock_19 (by decide) rfl (fun hc19 => ?_) (fun hc19 => ?_)
    · refine fx_aload_n dX4_stock_41 rfl rfl ?_
      refine fx_ldc dX4_stock_42 qX4_69 ?_
      refine fx_callVv dX4_stock_44 vX4_finding lX4_88 (by decide) rfl (Nat.le_of_ble_eq_true rfl) (eX4_finding (k := 0) (by decide) (by decide)) rfl ?_
      exact fx_ireq dX4_stock_47 rfl rfl rfl rfl
    · refine fx_iload_n dX4_stock_22 rfl rfl ?_
      refine fx_iconst (v := nI 0) dX4_stock_23 (by decide) ?_
      refine fx_bipush (v := nI 99) dX4_stock_24 (by decide) ?_
      refine fx_callSv dX4_stock_26 sX4_within lX4_74 (by decide) (Nat.le_of_ble_eq_true rfl) eX4_within rfl ?_
      refine fx_if_eq (tgt := 41) dX4_stock_29 (by decide) rfl (fun hc29 => ?_) (fun hc29 => ?_)
      · refine fx_aload_n dX4_stock_41 rfl rfl ?_
        refine fx_ldc dX4_stock_42 qX4_69 ?_
        refine fx_callVv dX4_stock_44 vX4_finding lX4_88 (by decide) rfl (Nat.le_of_ble_eq_true rfl) (eX4_finding (k := 0) (by decide) (by decide)) rfl ?_
        exact fx_ireq dX4_stock_47 rfl rfl rfl rfl
      · exact h.elim (fun q => jtf q (nI_ne0' hc8)) (fun q => q.elim (fun q => jtf q (nI_ne0' hc19)) (fun q => jtf q (nI_ne0' hc29)))
theorem eX4_stock_y {m c y : Nat} (hm : m ≤ 9999) (hc : c ≤ 999) (hy : y ≤ 99) : Mx mX4_stock [.ref 0, .int (nI m), .int (nI c), .int (nI y)] (rM F G) (some (.int (nI (jstk m c y)))) (rM F G) := by
  refine mx_of (L := [some (.ref 0), some (.int (nI m)), some (.int (nI c)), some (.int (nI y))]) (by decide) (fun _ => rfl) (fun _ => Nat.le_of_ble_eq_true rfl) ?_
  refine fx_iload_n dX4_stock_0 rfl rfl ?_
  refine fx_iconst (v := nI 0) dX4_stock_1 (by decide) ?_
  refine fx_sipush (v := nI 9999) dX4_stock_2 (by decide) ?_
  refine fx_callSv dX4_stock_5 sX4_within lX4_74 (by decide) (Nat.le_of_ble_eq_true rfl) eX4_within rfl ?_
  rw [jwi_n (by omega) (by decide)]
  refine fx_if_eq (tgt := 41) dX4_stock_8 (by decide) rfl (fun hc8 => ?_) (fun hc8 => ?_)
  · exact absurd hc8 (by decide)
  · refine fx_iload_n dX4_stock_11 rfl rfl ?_
    refine fx_iconst (v := nI 0) dX4_stock_12 (by decide) ?_
    refine fx_sipush (v := nI 999) dX4_stock_13 (by decide) ?_
    refine fx_callSv dX4_stock_16 sX4_within lX4_74 (by decide) (Nat.le_of_ble_eq_true rfl) eX4_within rfl ?_
    rw [jwi_n (by omega) (by decide)]
    refine fx_if_eq (tgt := 41) dX4_stock_19 (by decide) rfl (fun hc19 => ?_) (fun hc19 => ?_)
    · exact absurd hc19 (by decide)
    · refine fx_iload_n dX4_stock_22 rfl rfl ?_
      refine fx_iconst (v := nI 0) dX4_stock_23 (by decide) ?_
      refine fx_bipush (v := nI 99) dX4_stock_24 (by decide) ?_
      refine fx_callSv dX4_stock_26 sX4_within lX4_74 (by decide) (Nat.le_of_ble_eq_true rfl) eX4_within rfl ?_
      rw [jwi_n (by omega) (by decide)]
      refine fx_if_eq (tgt := 41) dX4_stock_29 (by decide) rfl (fun hc29 => ?_) (fun hc29 => ?_)
      · exact absurd hc29 (by decide)
      · refine fx_iload_n dX4_stock_32 rfl rfl ?_
        refine fx_iload_n dX4_stock_33 rfl rfl ?_
        refine fx_iload_n dX4_stock_34 rfl rfl ?_
        refine fx_callSv dX4_stock_35 sX4_stockBehind lX4_236 (by decide) (Nat.le_of_ble_eq_true rfl) (eX4_stockBehind hm hc hy) rfl ?_
        refine fx_goto (tgt := 47) dX4_stock_38 (by decide) ?_
        exact fx_ireq dX4_stock_47 rfl rfl rfl rfl
/-- the greatest catch with which a stock is no less, seen from above -/
def jls (m y : Nat) : Nat → Nat
  | 0 => 0
  | c + 1 => if jstk m (c + 1) y < m then jls m y c else c + 1
theorem eX4_lasts_n {a b : Int32} (h : jwi a (nI 0) (nI 9999) = false ∨ jwi b (nI 1) (nI 99) = false) : Mx mX4_lasts [.ref 0, .int a, .int b] (rM F G) (some (.int (jfd 0))) (rMn F G 0) := by
  refine mx_of (L := [some (.ref 0), some (.int a), some (.int b), none]) (by decide) (fun _ => rfl) (fun _ => Nat.le_of_ble_eq_true rfl) ?_
  refine fx_iload_n dX4_lasts_0 rfl rfl ?_
  refine fx_iconst (v := nI 0) dX4_lasts_1 (by decide) ?_
  refine fx_sipush (v := nI 9999) dX4_lasts_2 (by decide) ?_
  refine fx_callSv dX4_lasts_5 sX4_within lX4_74 (by decide) (Nat.le_of_ble_eq_true rfl) eX4_within rfl ?_
  refine fx_if_eq (tgt := 21) dX4_lasts_8 (by decide) rfl (fun hc8 => ?_) (fun hc8 => ?_)
  · refine fx_aload_n dX4_lasts_21 rfl rfl ?_
    refine fx_ldc dX4_lasts_22 qX4_69 ?_
    refine fx_callVv dX4_lasts_24 vX4_finding lX4_88 (by decide) rfl (Nat.le_of_ble_eq_true rfl) (eX4_finding (k := 0) (by decide) (by decide)) rfl ?_
    exact fx_ireq dX4_lasts_27 rfl rfl rfl rfl
  · refine fx_iload_n dX4_lasts_11 rfl rfl ?_
    refine fx_iconst (v := nI 1) dX4_lasts_12 (by decide) ?_
    refine fx_bipush (v := nI 99) dX4_lasts_13 (by decide) ?_
    refine fx_callSv dX4_lasts_15 sX4_within lX4_74 (by decide) (Nat.le_of_ble_eq_true rfl) eX4_within rfl ?_
    refine fx_if_ne (tgt := 28) dX4_lasts_18 (by decide) rfl (fun hc18 => ?_) (fun hc18 => ?_)
    · exact h.elim (fun q => jtf q (nI_ne0' hc8)) (fun q => jtf q (nI_ne0' hc18))
    · refine fx_aload_n dX4_lasts_21 rfl rfl ?_
      refine fx_ldc dX4_lasts_22 qX4_69 ?_
      refine fx_callVv dX4_lasts_24 vX4_finding lX4_88 (by decide) rfl (Nat.le_of_ble_eq_true rfl) (eX4_finding (k := 0) (by decide) (by decide)) rfl ?_
      exact fx_ireq dX4_lasts_27 rfl rfl rfl rfl
theorem eX4_lasts_y {m y : Nat} (hm : m ≤ 9999) (hy : jwi (nI y) (nI 1) (nI 99) = true) (hy2 : y ≤ 99) : Mx mX4_lasts [.ref 0, .int (nI m), .int (nI y)] (rM F G) (some (.int (nI (jls m y 999)))) (rM F G) := by
  refine mx_of (L := [some (.ref 0), some (.int (nI m)), some (.int (nI y)), none]) (by decide) (fun _ => rfl) (fun _ => Nat.le_of_ble_eq_true rfl) ?_
  have H : ∀ c, c ≤ 999 → Fx mX4_lasts (some (.int (nI (jls m y c))), rM F G) 32 [some (.ref 0), some (.int (nI m)), some (.int (nI y)), some (.int (nI c))] [] (rM F G) := by
    intro c
    induction c with
    | zero =>
      intro _
      refine fx_iload_n dX4_lasts_32 rfl rfl ?_
      refine fx_if_le (tgt := 52) dX4_lasts_33 (by decide) rfl (fun hc33 => ?_) (fun hc33 => ?_)
      · refine fx_iload_n dX4_lasts_52 rfl rfl ?_
        exact fx_ireq dX4_lasts_53 rfl rfl rfl rfl
      · exact absurd (by decide) hc33
    | succ c ih =>
      intro hc
      have hs := jstk_le (n := m) (c := c + 1) hm y
      have ih1 := ih (by omega)
      have e1 : jls m y (c + 1) = if jstk m (c + 1) y < m then jls m y c else c + 1 := rfl
      rw [e1]
      by_cases h : jstk m (c + 1) y < m
      · rw [if_pos h]
        refine fx_iload_n dX4_lasts_32 rfl rfl ?_
        refine fx_if_le (tgt := 52) dX4_lasts_33 (by decide) rfl (fun hc33 => ?_) (fun hc33 => ?_)
        · exact absurd hc33 (nI_nle (by omega) (by omega))
        · refine fx_iload_n dX4_lasts_36 rfl rfl ?_
          refine fx_iload_n dX4_lasts_37 rfl rfl ?_
          refine fx_iload_n dX4_lasts_38 rfl rfl ?_
          refine fx_callSv dX4_lasts_39 sX4_stockBehind lX4_236 (by decide) (Nat.le_of_ble_eq_true rfl) (eX4_stockBehind hm hc hy2) rfl ?_
          refine fx_iload_n dX4_lasts_42 rfl rfl ?_
          refine fx_icmp_ge (tgt := 52) dX4_lasts_43 (by decide) rfl (fun hc43 => ?_) (fun hc43 => ?_)
          · exact absurd hc43 (nI_ge h (by omega))
          · refine fs_iinc_3 (w := (-1)) dX4_lasts_46 (by decide) rfl (by decide) ?_
            rw [pk_m1]
            refine fx_goto (tgt := 32) dX4_lasts_49 (by decide) ?_
            exact ih1
      · rw [if_neg h]
        refine fx_iload_n dX4_lasts_32 rfl rfl ?_
        refine fx_if_le (tgt := 52) dX4_lasts_33 (by decide) rfl (fun hc33 => ?_) (fun hc33 => ?_)
        · exact absurd hc33 (nI_nle (by omega) (by omega))
        · refine fx_iload_n dX4_lasts_36 rfl rfl ?_
          refine fx_iload_n dX4_lasts_37 rfl rfl ?_
          refine fx_iload_n dX4_lasts_38 rfl rfl ?_
          refine fx_callSv dX4_lasts_39 sX4_stockBehind lX4_236 (by decide) (Nat.le_of_ble_eq_true rfl) (eX4_stockBehind hm hc hy2) rfl ?_
          refine fx_iload_n dX4_lasts_42 rfl rfl ?_
          refine fx_icmp_ge (tgt := 52) dX4_lasts_43 (by decide) rfl (fun hc43 => ?_) (fun hc43 => ?_)
          · refine fx_iload_n dX4_lasts_52 rfl rfl ?_
            exact fx_ireq dX4_lasts_53 rfl rfl rfl rfl
          · exact absurd (nI_le (by omega) (by omega)) hc43
  refine fx_iload_n dX4_lasts_0 rfl rfl ?_
  refine fx_iconst (v := nI 0) dX4_lasts_1 (by decide) ?_
  refine fx_sipush (v := nI 9999) dX4_lasts_2 (by decide) ?_
  refine fx_callSv dX4_lasts_5 sX4_within lX4_74 (by decide) (Nat.le_of_ble_eq_true rfl) eX4_within rfl ?_
  rw [jwi_n (by omega) (by decide)]
  refine fx_if_eq (tgt := 21) dX4_lasts_8 (by decide) rfl (fun hc8 => ?_) (fun hc8 => ?_)
  · exact absurd hc8 (by decide)
  · refine fx_iload_n dX4_lasts_11 rfl rfl ?_
    refine fx_iconst (v := nI 1) dX4_lasts_12 (by decide) ?_
    refine fx_bipush (v := nI 99) dX4_lasts_13 (by decide) ?_
    refine fx_callSv dX4_lasts_15 sX4_within lX4_74 (by decide) (Nat.le_of_ble_eq_true rfl) eX4_within rfl ?_
    rw [hy]
    refine fx_if_ne (tgt := 28) dX4_lasts_18 (by decide) rfl (fun hc18 => ?_) (fun hc18 => ?_)
    · refine fx_sipush (v := nI 999) dX4_lasts_28 (by decide) ?_
      refine fs_istore_n_3 dX4_lasts_31 rfl (by decide) ?_
      exact H 999 (by decide)
    · exact absurd hc18 (by decide)
def jfac : Nat → Int64
  | 0 => 1
  | k + 1 => if k = 0 then 1 else jfac k * (nI (k + 1)).toInt64
theorem eX4_changes_n {a : Int32} (h : jwi a (nI 0) (nI 20) = false) : Mx mX4_changes [.ref 0, .int a] (rM F G) (some (.long (jfd 0).toInt64)) (rMn F G 0) := by
  refine mx_of (L := [some (.ref 0), some (.int a), none, none, none]) (by decide) (fun _ => rfl) (fun _ => Nat.le_of_ble_eq_true rfl) ?_
  refine fx_iload_n dX4_changes_0 rfl rfl ?_
  refine fx_iconst (v := nI 0) dX4_changes_1 (by decide) ?_
  refine fx_bipush (v := nI 20) dX4_changes_2 (by decide) ?_
  refine fx_callSv dX4_changes_4 sX4_within lX4_74 (by decide) (Nat.le_of_ble_eq_true rfl) eX4_within rfl ?_
  refine fx_if_ne (tgt := 18) dX4_changes_7 (by decide) rfl (fun hc7 => ?_) (fun hc7 => ?_)
  · exact jtf h (nI_ne0' hc7)
  · refine fx_aload_n dX4_changes_10 rfl rfl ?_
    refine fx_ldc dX4_changes_11 qX4_69 ?_
    refine fx_callVv dX4_changes_13 vX4_finding lX4_88 (by decide) rfl (Nat.le_of_ble_eq_true rfl) (eX4_finding (k := 0) (by decide) (by decide)) rfl ?_
    refine fx_i2l dX4_changes_16 ?_
    exact fx_lreq dX4_changes_17 rfl rfl rfl
theorem eX4_changes_y {m : Nat} (hm : m ≤ 20) : Mx mX4_changes [.ref 0, .int (nI m)] (rM F G) (some (.long (jfac m))) (rM F G) := by
  refine mx_of (L := [some (.ref 0), some (.int (nI m)), none, none, none]) (by decide) (fun _ => rfl) (fun _ => Nat.le_of_ble_eq_true rfl) ?_
  have H : ∀ (k i : Nat), i + k = m → 1 ≤ i → Fx mX4_changes (some (.long (jfac m)), rM F G) 23 [some (.ref 0), some (.int (nI m)), some (.long (jfac i)), none, some (.int (nI (i + 1)))] [] (rM F G) := by
    intro k
    induction k with
    | zero =>
      intro i hi h1
      have hi' : i = m := by omega
      subst hi'
      refine fx_iload dX4_changes_23 rfl ?_
      refine fx_iload_n dX4_changes_25 rfl rfl ?_
      refine fx_icmp_gt (tgt := 41) dX4_changes_26 (by decide) rfl (fun hc26 => ?_) (fun hc26 => ?_)
      · refine fx_lload_n dX4_changes_41 rfl rfl ?_
        exact fx_lreq dX4_changes_42 rfl rfl rfl
      · exact absurd (nI_lt (by omega) (by omega)) hc26
    | succ k ih =>
      intro i hi h1
      have ih1 := ih (i + 1) (by omega) (by omega)
      have e1 : jfac (i + 1) = jfac i * (nI (i + 1)).toInt64 := by show (if i = 0 then _ else _) = _; rw [if_neg (by omega)]
      rw [e1] at ih1
      refine fx_iload dX4_changes_23 rfl ?_
      refine fx_iload_n dX4_changes_25 rfl rfl ?_
      refine fx_icmp_gt (tgt := 41) dX4_changes_26 (by decide) rfl (fun hc26 => ?_) (fun hc26 => ?_)
      · exact absurd hc26 (nI_nlt (by omega) (by omega))
      · refine fx_lload_n dX4_changes_29 rfl rfl ?_
        refine fx_iload dX4_changes_30 rfl ?_
        refine fx_i2l dX4_changes_32 ?_
        refine fx_lmul dX4_changes_33 ?_
        refine fs_lstore_n_2 dX4_changes_34 rfl (by decide) ?_
        refine fs_iinc_4 (w := nI 1) dX4_changes_35 (by decide) rfl (by decide) ?_
        refine fx_goto (tgt := 23) dX4_changes_38 (by decide) ?_
        rw [nI_add]
        exact ih1
  by_cases h0 : m = 0
  · subst h0
    refine fx_iload_n dX4_changes_0 rfl rfl ?_
    refine fx_iconst (v := nI 0) dX4_changes_1 (by decide) ?_
    refine fx_bipush (v := nI 20) dX4_changes_2 (by decide) ?_
    refine fx_callSv dX4_changes_4 sX4_within lX4_74 (by decide) (Nat.le_of_ble_eq_true rfl) eX4_within rfl ?_
    rw [jwi_n (by omega) (by decide)]
    refine fx_if_ne (tgt := 18) dX4_changes_7 (by decide) rfl (fun hc7 => ?_) (fun hc7 => ?_)
    · refine fx_lconst (v := 1) dX4_changes_18 (by decide) ?_
      refine fs_lstore_n_2 dX4_changes_19 rfl (by decide) ?_
      refine fx_iconst (v := nI 2) dX4_changes_20 (by decide) ?_
      refine fs_istore_4 dX4_changes_21 rfl (by decide) ?_
      refine fx_iload dX4_changes_23 rfl ?_
      refine fx_iload_n dX4_changes_25 rfl rfl ?_
      refine fx_icmp_gt (tgt := 41) dX4_changes_26 (by decide) rfl (fun hc26 => ?_) (fun hc26 => ?_)
      · refine fx_lload_n dX4_changes_41 rfl rfl ?_
        exact fx_lreq dX4_changes_42 rfl rfl rfl
      · exact absurd (by decide) hc26
    · exact absurd hc7 (by decide)
  · have H1 := H (m - 1) 1 (by omega) (by omega)
    refine fx_iload_n dX4_changes_0 rfl rfl ?_
    refine fx_iconst (v := nI 0) dX4_changes_1 (by decide) ?_
    refine fx_bipush (v := nI 20) dX4_changes_2 (by decide) ?_
    refine fx_callSv dX4_changes_4 sX4_within lX4_74 (by decide) (Nat.le_of_ble_eq_true rfl) eX4_within rfl ?_
    rw [jwi_n (by omega) (by decide)]
    refine fx_if_ne (tgt := 18) dX4_changes_7 (by decide) rfl (fun hc7 => ?_) (fun hc7 => ?_)
    · refine fx_lconst (v := 1) dX4_changes_18 (by decide) ?_
      refine fs_lstore_n_2 dX4_changes_19 rfl (by decide) ?_
      refine fx_iconst (v := nI 2) dX4_changes_20 (by decide) ?_
      refine fs_istore_4 dX4_changes_21 rfl (by decide) ?_
      exact H1
    · exact absurd hc7 (by decide)
end
