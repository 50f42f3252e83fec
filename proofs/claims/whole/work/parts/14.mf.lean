/-! ===== the reference: sets, counts, what will be ===== -/
set_option maxRecDepth 100000
/-- the caught ones of the bells up to b, as a set -/
def jsN (V : Nat → Int32) : Nat → Nat
  | 0 => 0
  | b + 1 => jsN V b ||| (if V (146 + 5 * b + 4) = nI 1 then 2 ^ b else 0)
theorem jsN_1 (V : Nat → Int32) (b : Nat) : jsN V (b + 1) = jsN V b ||| (if V (146 + 5 * b + 4) = nI 1 then 2 ^ b else 0) := rfl
theorem jsN_lt (V : Nat → Int32) : ∀ b, jsN V b < 2 ^ b := by
  intro b
  induction b with
  | zero => exact (by decide : 0 < 2 ^ 0)
  | succ b ih =>
    unfold jsN
    refine Nat.or_lt_two_pow (Nat.lt_of_lt_of_le ih (Nat.pow_le_pow_right (by decide) (by omega))) ?_
    by_cases e : V (146 + 5 * b + 4) = nI 1
    · rw [if_pos e]; exact Nat.pow_lt_pow_right (by decide) (by omega)
    · rw [if_neg e]; exact Nat.pow_pos (by decide)
theorem jsN_256 {V : Nat → Int32} {n : Nat} (hn : n ≤ 8) : jsN V n < 256 := Nat.lt_of_lt_of_le (jsN_lt V n) (Nat.le_trans (Nat.pow_le_pow_right (by decide) hn) (by decide))
theorem nI_or (a b : Nat) : nI a ||| nI b = nI (a ||| b) := by
  apply Int32.toBitVec_inj.mp
  show BitVec.ofNat 32 a ||| BitVec.ofNat 32 b = BitVec.ofNat 32 (a ||| b)
  rw [BitVec.ofNat_or]
theorem nI_shl1 : ∀ b, b < 16 → nI 1 <<< (nI b &&& 31) = nI (2 ^ b) := by decide +kernel
/-- how many there are in a set -/
def jpop : Nat → Nat → Nat
  | 0, _ => 0
  | k + 1, x => jpop k (x / 2) + x % 2
abbrev jp (x : Nat) : Nat := jpop 8 x
theorem jp_step : ∀ x, x < 256 → x ≠ 0 → nI x &&& (nI x - nI 1) = nI (x &&& (x - 1)) ∧ (x &&& (x - 1)) < x ∧ jp (x &&& (x - 1)) + 1 = jp x := by decide +kernel
theorem jp_le : ∀ x, x < 256 → jp x ≤ 8 := by decide +kernel
theorem nI_eq0 {x : Nat} (hx : x < 2 ^ 31) : nI x = 0 → x = 0 := fun h => by
  have := (nI_eq (a := x) (b := 0) hx (by decide)).mp (by rw [h, nI_0])
  exact this
theorem eX4_bits {x : Nat} {h : zH} (hx : x < 256) : Mx mX4_bits [.int (nI x)] h (some (.int (nI (jp x)))) h := by
  refine mx_of (L := [some (.int (nI x)), none, none]) (by decide) (fun _ => rfl) (fun _ => Nat.le_of_ble_eq_true rfl) ?_
  have H : ∀ (m y k : Nat), y ≤ m → y < 256 → k + jp y = jp x → Fx mX4_bits (some (.int (nI (jp x))), h) 4 [some (.int (nI x)), some (.int (nI k)), some (.int (nI y))] [] h := by
    intro m
    induction m with
    | zero =>
      intro y k hy hy2 e
      have hy0 : y = 0 := by omega
      subst hy0
      have e' : k = jp x := by rw [← e]; rfl
      refine fx_iload_n dX4_bits_4 rfl rfl ?_
      refine fx_if_eq (tgt := 20) dX4_bits_5 (by decide) rfl (fun hc5 => ?_) (fun hc5 => ?_)
      · refine fx_iload_n dX4_bits_20 rfl rfl ?_
        exact fx_ireq dX4_bits_21 rfl rfl (by rw [e']) rfl
      · exact absurd (by decide) hc5
    | succ m ih =>
      intro y k hy hy2 e
      by_cases h0 : y = 0
      · exact ih y k (by omega) hy2 e
      · obtain ⟨e1, e2, e3⟩ := jp_step y hy2 h0
        refine fx_iload_n dX4_bits_4 rfl rfl ?_
        refine fx_if_eq (tgt := 20) dX4_bits_5 (by decide) rfl (fun hc5 => ?_) (fun hc5 => ?_)
        · exact absurd (nI_eq0 (by omega) hc5) h0
        · refine fs_iinc_1 (w := nI 1) dX4_bits_8 (by decide) rfl (by decide) ?_
          refine fx_iload_n dX4_bits_11 rfl rfl ?_
          refine fx_iload_n dX4_bits_12 rfl rfl ?_
          refine fx_iconst (v := nI 1) dX4_bits_13 (by decide) ?_
          refine fx_isub dX4_bits_14 ?_
          refine fx_iand dX4_bits_15 ?_
          rw [e1]
          refine fs_istore_n_2 dX4_bits_16 rfl (by decide) ?_
          refine fx_goto (tgt := 4) dX4_bits_17 (by decide) ?_
          rw [nI_add]
          exact ih _ _ (by omega) (by omega) (by omega)
  refine fx_iconst (v := nI 0) dX4_bits_0 (by decide) ?_
  refine fs_istore_n_1 dX4_bits_1 rfl (by decide) ?_
  refine fx_iload_n dX4_bits_2 rfl rfl ?_
  refine fs_istore_n_2 dX4_bits_3 rfl (by decide) ?_
  exact H x x 0 (Nat.le_refl x) hx (by omega)
/-- how many hours go by till a bell is caught, r at most -/
def jcnt (V : Nat → Int32) (n b : Nat) : Nat → Nat
  | 0 => 0
  | r + 1 => if V (146 + 5 * b + 4) = nI 1 then 0 else jcnt (jhour V n) n b r + 1
def jcv (V : Nat → Int32) (n b r : Nat) : Nat := if jhrs V n (jcnt V n b r) (146 + 5 * b + 4) = nI 1 then jcnt V n b r else 1000000
theorem jhrs_1 (V : Nat → Int32) (n : Nat) : ∀ k, jhrs (jhour V n) n k = jhrs V n (k + 1) := by
  intro k
  induction k with
  | zero => rfl
  | succ k ih => unfold jhrs; rw [ih]
theorem jcnt_le (n b : Nat) : ∀ (r : Nat) (V : Nat → Int32), jcnt V n b r ≤ r := by
  intro r
  induction r with
  | zero => intro V; exact Nat.le_refl 0
  | succ r ih =>
    intro V
    unfold jcnt
    by_cases e : V (146 + 5 * b + 4) = nI 1
    · rw [if_pos e]; omega
    · rw [if_neg e]
      have := ih (jhour V n)
      omega
section
variable {F : Nat → Int32} {G : Nat → Nat → Int32} {n : Nat}
theorem eX4_isBell {v : Int32} (hV : jW (G 1) n) : Mx mX4_isBell [.ref 0, .int v] (rM F G) (some (.int (jB (jwi v (nI 0) (nI n - nI 1))))) (rM F G) := by
  refine mx_of (L := [some (.ref 0), some (.int v)]) (by decide) (fun _ => rfl) (fun _ => Nat.le_of_ble_eq_true rfl) ?_
  refine fx_iload_n dX4_isBell_0 rfl rfl ?_
  refine fx_iconst (v := nI 0) dX4_isBell_1 (by decide) ?_
  refine fx_aload_n dX4_isBell_2 rfl rfl ?_
  refine fx_get dX4_isBell_3 kX4_9 rfl rfl ?_
  refine fx_iconst (v := nI 2) dX4_isBell_6 (by decide) ?_
  refine fx_iald dX4_isBell_7 rfl (vp_in_nI (by decide) (by decide)) ?_
  rw [nI_clamp (n := 2) (by decide), hV.1]
  refine fx_iconst (v := nI 1) dX4_isBell_8 (by decide) ?_
  refine fx_isub dX4_isBell_9 ?_
  refine fx_callSv dX4_isBell_10 sX4_within lX4_74 (by decide) (Nat.le_of_ble_eq_true rfl) eX4_within rfl ?_
  exact fx_ireq dX4_isBell_13 rfl (jB_n _) rfl rfl
theorem eX4_caughtNow (hV : jW (G 1) n) : Mx mX4_caughtNow [.ref 0] (rM F G) (some (.int (nI (jsN (G 1) n)))) (rM F G) := by
  refine mx_of (L := [some (.ref 0), none, none]) (by decide) (fun _ => rfl) (fun _ => Nat.le_of_ble_eq_true rfl) ?_
  have hn8 := hV.2.1
  have H : ∀ (k b : Nat), b + k = n → Fx mX4_caughtNow (some (.int (nI (jsN (G 1) n))), rM F G) 4 [some (.ref 0), some (.int (nI (jsN (G 1) b))), some (.int (nI b))] [] (rM F G) := by
    intro k
    induction k with
    | zero =>
      intro b hb
      have hb' : b = n := by omega
      subst hb'
      refine fx_iload_n dX4_caughtNow_4 rfl rfl ?_
      refine fx_aload_n dX4_caughtNow_5 rfl rfl ?_
      refine fx_get dX4_caughtNow_6 kX4_9 rfl rfl ?_
      refine fx_iconst (v := nI 2) dX4_caughtNow_9 (by decide) ?_
      refine fx_iald dX4_caughtNow_10 rfl (vp_in_nI (by decide) (by decide)) ?_
      rw [nI_clamp (n := 2) (by decide), hV.1]
      refine fx_icmp_ge (tgt := 38) dX4_caughtNow_11 (by decide) rfl (fun hc11 => ?_) (fun hc11 => ?_)
      · refine fx_iload_n dX4_caughtNow_38 rfl rfl ?_
        exact fx_ireq dX4_caughtNow_39 rfl rfl rfl rfl
      · exact absurd (Int32.le_refl _) hc11
    | succ k ih =>
      intro b hb
      have ih1 := ih (b + 1) (by omega)
      by_cases hc : G 1 (146 + 5 * b + 4) = nI 1
      · have e1 : jsN (G 1) (b + 1) = jsN (G 1) b ||| 2 ^ b := by rw [jsN_1, if_pos hc]
        rw [e1] at ih1
        refine fx_iload_n dX4_caughtNow_4 rfl rfl ?_
        refine fx_aload_n dX4_caughtNow_5 rfl rfl ?_
        refine fx_get dX4_caughtNow_6 kX4_9 rfl rfl ?_
        refine fx_iconst (v := nI 2) dX4_caughtNow_9 (by decide) ?_
        refine fx_iald dX4_caughtNow_10 rfl (vp_in_nI (by decide) (by decide)) ?_
        rw [nI_clamp (n := 2) (by decide), hV.1]
        refine fx_icmp_ge (tgt := 38) dX4_caughtNow_11 (by decide) rfl (fun hc11 => ?_) (fun hc11 => ?_)
        · exact absurd hc11 (nI_ge (by omega) (by omega))
        · refine fx_iload_n dX4_caughtNow_14 rfl rfl ?_
          refine fx_aload_n dX4_caughtNow_15 rfl rfl ?_
          refine fx_iload_n dX4_caughtNow_16 rfl rfl ?_
          refine fx_callVv dX4_caughtNow_17 vX4_isCaught lX4_115 (by decide) rfl (Nat.le_of_ble_eq_true rfl) (eX4_isCaught (by omega)) rfl ?_
          rw [decide_eq_true hc]
          refine fx_if_eq (tgt := 29) dX4_caughtNow_20 (by decide) rfl (fun hc20 => ?_) (fun hc20 => ?_)
          · exact absurd hc20 (by decide)
          · refine fx_iconst (v := nI 1) dX4_caughtNow_23 (by decide) ?_
            refine fx_iload_n dX4_caughtNow_24 rfl rfl ?_
            refine fx_ishl dX4_caughtNow_25 ?_
            rw [nI_shl1 b (by omega)]
            refine fx_goto (tgt := 30) dX4_caughtNow_26 (by decide) ?_
            refine fx_ior dX4_caughtNow_30 ?_
            rw [nI_or]
            refine fs_istore_n_1 dX4_caughtNow_31 rfl (by decide) ?_
            refine fs_iinc_2 (w := nI 1) dX4_caughtNow_32 (by decide) rfl (by decide) ?_
            refine fx_goto (tgt := 4) dX4_caughtNow_35 (by decide) ?_
            rw [nI_add]
            exact ih1
      · have e1 : jsN (G 1) (b + 1) = jsN (G 1) b ||| 0 := by rw [jsN_1, if_neg hc]
        rw [e1] at ih1
        refine fx_iload_n dX4_caughtNow_4 rfl rfl ?_
        refine fx_aload_n dX4_caughtNow_5 rfl rfl ?_
        refine fx_get dX4_caughtNow_6 kX4_9 rfl rfl ?_
        refine fx_iconst (v := nI 2) dX4_caughtNow_9 (by decide) ?_
        refine fx_iald dX4_caughtNow_10 rfl (vp_in_nI (by decide) (by decide)) ?_
        rw [nI_clamp (n := 2) (by decide), hV.1]
        refine fx_icmp_ge (tgt := 38) dX4_caughtNow_11 (by decide) rfl (fun hc11 => ?_) (fun hc11 => ?_)
        · exact absurd hc11 (nI_ge (by omega) (by omega))
        · refine fx_iload_n dX4_caughtNow_14 rfl rfl ?_
          refine fx_aload_n dX4_caughtNow_15 rfl rfl ?_
          refine fx_iload_n dX4_caughtNow_16 rfl rfl ?_
          refine fx_callVv dX4_caughtNow_17 vX4_isCaught lX4_115 (by decide) rfl (Nat.le_of_ble_eq_true rfl) (eX4_isCaught (by omega)) rfl ?_
          rw [decide_eq_false hc]
          refine fx_if_eq (tgt := 29) dX4_caughtNow_20 (by decide) rfl (fun hc20 => ?_) (fun hc20 => ?_)
          · refine fx_iconst (v := nI 0) dX4_caughtNow_29 (by decide) ?_
            refine fx_ior dX4_caughtNow_30 ?_
            rw [nI_or]
            refine fs_istore_n_1 dX4_caughtNow_31 rfl (by decide) ?_
            refine fs_iinc_2 (w := nI 1) dX4_caughtNow_32 (by decide) rfl (by decide) ?_
            refine fx_goto (tgt := 4) dX4_caughtNow_35 (by decide) ?_
            rw [nI_add]
            exact ih1
          · exact absurd rfl hc20
  refine fx_iconst (v := nI 0) dX4_caughtNow_0 (by decide) ?_
  refine fs_istore_n_1 dX4_caughtNow_1 rfl (by decide) ?_
  refine fx_iconst (v := nI 0) dX4_caughtNow_2 (by decide) ?_
  refine fs_istore_n_2 dX4_caughtNow_3 rfl (by decide) ?_
  exact H n 0 (by omega)
theorem eX4_caughtIn {b t : Nat} (ht : t < 1000) (hK : jK G) (hV : jW (G 1) n) (hb : b < n) (h3 : ∀ k, 186 ≤ k → G 3 k = 0) : Mx mX4_caughtIn [.ref 0, .int (nI b), .int (nI t)] (rM F G) (some (.int (nI (jcv (G 1) n b t)))) (rM (upd F 7 (jmv (F 7) (G 1) n (jcnt (G 1) n b t))) (ga G 3 (G 1))) := by
  refine mx_of (L := [some (.ref 0), some (.int (nI b)), some (.int (nI t)), none]) (by decide) (fun _ => rfl) (fun _ => Nat.le_of_ble_eq_true rfl) ?_
  have hn8 := hV.2.1
  have h1 := hV.2.2.2.2.2.2.2
  generalize hc : jcnt (G 1) n b t = c
  have hcv : jcv (G 1) n b t = if jhrs (G 1) n c (146 + 5 * b + 4) = nI 1 then c else 1000000 := by unfold jcv; rw [hc]
  have eG : ∀ W : Nat → Int32, ga (ga (ga G 3 (G 1)) 1 W) 1 ((ga (ga G 3 (G 1)) 1 W) 3) = ga G 3 (G 1) := by
    intro W
    rw [ga_n _ _ (show (3 : Nat) ≠ 1 by decide), ga_s, ga_ga, ga_comm _ _ _ (show (3 : Nat) ≠ 1 by decide), ga_id]
  have eI : ∀ (F2 : Nat → Int32) (h : Nat), Mx mX4_isCaught [.ref 0, .int (nI b)] (rM F2 (ga (ga G 3 (G 1)) 1 (jhrs (G 1) n h))) (some (.int (jB (decide (jhrs (G 1) n h (146 + 5 * b + 4) = nI 1))))) (rM F2 (ga (ga G 3 (G 1)) 1 (jhrs (G 1) n h))) := by
    intro F2 h
    have := eX4_isCaught (F := F2) (G := ga (ga G 3 (G 1)) 1 (jhrs (G 1) n h)) (b := b) (by omega)
    rw [ga_s] at this
    exact this
  have J36 : Fx mX4_caughtIn (some (.int (nI (jcv (G 1) n b t))), rM (upd F 7 (jmv (F 7) (G 1) n c)) (ga G 3 (G 1))) 36 [some (.ref 0), some (.int (nI b)), some (.int (nI t)), some (.int (nI c))] [] (rM (upd F 7 (jmv (F 7) (G 1) n c)) (ga (ga G 3 (G 1)) 1 (jhrs (G 1) n c))) := by
    have eP : ∀ v : Int32, Mx mX4_putBack [.ref 0, .int v] (rM (upd F 7 (jmv (F 7) (G 1) n c)) (ga (ga G 3 (G 1)) 1 (jhrs (G 1) n c))) (some (.int v)) (rM (upd F 7 (jmv (F 7) (G 1) n c)) (ga G 3 (G 1))) := by
      intro v
      have := eX4_putBack (F := upd F 7 (jmv (F 7) (G 1) n c)) (G := ga (ga G 3 (G 1)) 1 (jhrs (G 1) n c)) (v := v) (by rw [ga_s]; exact (jW_hrs hV c).2.2.2.2.2.2.2) (by rw [ga_n _ _ (by decide), ga_s]; exact h1)
      rw [eG] at this
      exact this
    by_cases hcg : jhrs (G 1) n c (146 + 5 * b + 4) = nI 1
    · rw [hcv, if_pos hcg]
      refine fx_aload_n dX4_caughtIn_36 rfl rfl ?_
      refine fx_aload_n dX4_caughtIn_37 rfl rfl ?_
      refine fx_iload_n dX4_caughtIn_38 rfl rfl ?_
      refine fx_callVv dX4_caughtIn_39 vX4_isCaught lX4_115 (by decide) rfl (Nat.le_of_ble_eq_true rfl) (eI _ _) rfl ?_
      rw [decide_eq_true hcg]
      refine fx_if_eq (tgt := 49) dX4_caughtIn_42 (by decide) rfl (fun hc42 => ?_) (fun hc42 => ?_)
      · exact absurd hc42 (by decide)
      · refine fx_iload_n dX4_caughtIn_45 rfl rfl ?_
        refine fx_goto (tgt := 51) dX4_caughtIn_46 (by decide) ?_
        refine fx_callVv dX4_caughtIn_51 vX4_putBack lX4_191 (by decide) rfl (Nat.le_of_ble_eq_true rfl) (eP _) rfl ?_
        exact fx_ireq dX4_caughtIn_54 rfl rfl rfl rfl
    · rw [hcv, if_neg hcg]
      refine fx_aload_n dX4_caughtIn_36 rfl rfl ?_
      refine fx_aload_n dX4_caughtIn_37 rfl rfl ?_
      refine fx_iload_n dX4_caughtIn_38 rfl rfl ?_
      refine fx_callVv dX4_caughtIn_39 vX4_isCaught lX4_115 (by decide) rfl (Nat.le_of_ble_eq_true rfl) (eI _ _) rfl ?_
      rw [decide_eq_false hcg]
      refine fx_if_eq (tgt := 49) dX4_caughtIn_42 (by decide) rfl (fun hc42 => ?_) (fun hc42 => ?_)
      · refine fx_ldc dX4_caughtIn_49 qX4_197 ?_
        refine fx_callVv dX4_caughtIn_51 vX4_putBack lX4_191 (by decide) rfl (Nat.le_of_ble_eq_true rfl) (eP _) rfl ?_
        exact fx_ireq dX4_caughtIn_54 rfl rfl (by decide) rfl
      · exact absurd rfl hc42
  have H : ∀ (k h : Nat), h + k = t → c = h + jcnt (jhrs (G 1) n h) n b k → Fx mX4_caughtIn (some (.int (nI (jcv (G 1) n b t))), rM (upd F 7 (jmv (F 7) (G 1) n c)) (ga G 3 (G 1))) 13 [some (.ref 0), some (.int (nI b)), some (.int (nI t)), some (.int (nI h))] [] (rM (upd F 7 (jmv (F 7) (G 1) n h)) (ga (ga G 3 (G 1)) 1 (jhrs (G 1) n h))) := by
    intro k
    induction k with
    | zero =>
      intro h hh e
      have e' : h = c := by rw [e]; rfl
      subst e'
      refine fx_iload_n dX4_caughtIn_13 rfl rfl ?_
      refine fx_iload_n dX4_caughtIn_14 rfl rfl ?_
      refine fx_icmp_ge (tgt := 36) dX4_caughtIn_15 (by decide) rfl (fun hc15 => ?_) (fun hc15 => ?_)
      · exact J36
      · exact absurd (nI_le (by omega) (by omega)) hc15
    | succ k ih =>
      intro h hh e
      unfold jcnt at e
      by_cases hcg : jhrs (G 1) n h (146 + 5 * b + 4) = nI 1
      · rw [if_pos hcg] at e
        have e' : h = c := by rw [e]; rfl
        subst e'
        refine fx_iload_n dX4_caughtIn_13 rfl rfl ?_
        refine fx_iload_n dX4_caughtIn_14 rfl rfl ?_
        refine fx_icmp_ge (tgt := 36) dX4_caughtIn_15 (by decide) rfl (fun hc15 => ?_) (fun hc15 => ?_)
        · exact absurd hc15 (nI_ge (by omega) (by omega))
        · refine fx_aload_n dX4_caughtIn_18 rfl rfl ?_
          refine fx_iload_n dX4_caughtIn_19 rfl rfl ?_
          refine fx_callVv dX4_caughtIn_20 vX4_isCaught lX4_115 (by decide) rfl (Nat.le_of_ble_eq_true rfl) (eI _ _) rfl ?_
          rw [decide_eq_true hcg]
          refine fx_if_ne (tgt := 36) dX4_caughtIn_23 (by decide) rfl (fun hc23 => ?_) (fun hc23 => ?_)
          · exact J36
          · exact absurd hc23 (by decide)
      · rw [if_neg hcg] at e
        have eH := eX4_hour (F := upd F 7 (jmv (F 7) (G 1) n h)) (G := ga (ga G 3 (G 1)) 1 (jhrs (G 1) n h)) (n := n) ((hK.ga (by decide)).ga (by decide)) (by rw [ga_s]; exact jW_hrs hV h)
        rw [ga_s, upd_upd, ga_ga] at eH
        refine fx_iload_n dX4_caughtIn_13 rfl rfl ?_
        refine fx_iload_n dX4_caughtIn_14 rfl rfl ?_
        refine fx_icmp_ge (tgt := 36) dX4_caughtIn_15 (by decide) rfl (fun hc15 => ?_) (fun hc15 => ?_)
        · exact absurd hc15 (nI_ge (by omega) (by omega))
        · refine fx_aload_n dX4_caughtIn_18 rfl rfl ?_
          refine fx_iload_n dX4_caughtIn_19 rfl rfl ?_
          refine fx_callVv dX4_caughtIn_20 vX4_isCaught lX4_115 (by decide) rfl (Nat.le_of_ble_eq_true rfl) (eI _ _) rfl ?_
          rw [decide_eq_false hcg]
          refine fx_if_ne (tgt := 36) dX4_caughtIn_23 (by decide) rfl (fun hc23 => ?_) (fun hc23 => ?_)
          · exact absurd rfl hc23
          · refine fx_aload_n dX4_caughtIn_26 rfl rfl ?_
            refine fx_callVn dX4_caughtIn_27 vX4_hour lX4_169 (by decide) rfl (Nat.le_of_ble_eq_true rfl) eH rfl ?_
            refine fs_iinc_3 (w := nI 1) dX4_caughtIn_30 (by decide) rfl (by decide) ?_
            refine fx_goto (tgt := 13) dX4_caughtIn_33 (by decide) ?_
            rw [nI_add]
            exact ih (h + 1) (by omega) (by rw [e]; show _ = h + 1 + jcnt (jhour (jhrs (G 1) n h) n) n b k; omega)
  have H0 := H t 0 (by omega) (by rw [← hc]; show _ = 0 + jcnt (G 1) n b t; omega)
  rw [show jmv (F 7) (G 1) n 0 = F 7 from rfl, show jhrs (G 1) n 0 = G 1 from rfl, upd_id, ga_comm _ _ _ (show (3 : Nat) ≠ 1 by decide), ga_id] at H0
  refine fx_aload_n dX4_caughtIn_0 rfl rfl ?_
  refine fx_get dX4_caughtIn_1 kX4_9 rfl rfl ?_
  refine fx_aload_n dX4_caughtIn_4 rfl rfl ?_
  refine fx_get dX4_caughtIn_5 kX4_16 rfl rfl ?_
  refine fx_callSn dX4_caughtIn_8 sX4_copyRow lX4_70 (by decide) (Nat.le_of_ble_eq_true rfl) (eX4_copyRow (Or.inl rfl) (Or.inr (Or.inr rfl)) (by decide) h1 h3) rfl ?_
  refine fx_iconst (v := nI 0) dX4_caughtIn_11 (by decide) ?_
  refine fs_istore_n_3 dX4_caughtIn_12 rfl (by decide) ?_
  exact H0
/-- a field of a bell behind hours -/
theorem eX4_fieldBehind {b t f : Nat} (ht : t < 1000) (hK : jK G) (hV : jW (G 1) n) (hb : b < n) (hf : f < 5) (h3 : ∀ k, 186 ≤ k → G 3 k = 0) : Mx mX4_fieldBehind [.ref 0, .int (nI b), .int (nI t), .int (nI f)] (rM F G) (some (.int (jhrs (G 1) n t (146 + 5 * b + f)))) (rM (upd F 7 (jmv (F 7) (G 1) n t)) (ga G 3 (G 1))) := by
  refine mx_of (L := [some (.ref 0), some (.int (nI b)), some (.int (nI t)), some (.int (nI f))]) (by decide) (fun _ => rfl) (fun _ => Nat.le_of_ble_eq_true rfl) ?_
  have hn8 := hV.2.1
  have h1 := hV.2.2.2.2.2.2.2
  have eH := eX4_hours (F := F) (G := ga G 3 (G 1)) (n := n) ht (hK.ga (by decide)) (by rw [ga_n _ _ (by decide)]; exact hV)
  rw [ga_n _ _ (show (1 : Nat) ≠ 3 by decide)] at eH
  have eB := eM_bell (F := upd F 7 (jmv (F 7) (G 1) n t)) (G := ga (ga G 3 (G 1)) 1 (jhrs (G 1) n t)) (b := b) (f := f) (by omega) hf
  rw [ga_s] at eB
  have eP := eX4_putBack (F := upd F 7 (jmv (F 7) (G 1) n t)) (G := ga (ga G 3 (G 1)) 1 (jhrs (G 1) n t)) (v := jhrs (G 1) n t (146 + 5 * b + f)) (by rw [ga_s]; exact (jW_hrs hV t).2.2.2.2.2.2.2) (by rw [ga_n _ _ (by decide), ga_s]; exact h1)
  have eZ : ga (ga G 3 (G 1)) 1 (G 1) = ga G 3 (G 1) := by rw [ga_comm _ _ _ (show (3 : Nat) ≠ 1 by decide), ga_id]
  rw [ga_n _ _ (show (3 : Nat) ≠ 1 by decide), ga_s, ga_ga, eZ] at eP
  refine fx_aload_n dX4_fieldBehind_0 rfl rfl ?_
  refine fx_get dX4_fieldBehind_1 kX4_9 rfl rfl ?_
  refine fx_aload_n dX4_fieldBehind_4 rfl rfl ?_
  refine fx_get dX4_fieldBehind_5 kX4_16 rfl rfl ?_
  refine fx_callSn dX4_fieldBehind_8 sX4_copyRow lX4_70 (by decide) (Nat.le_of_ble_eq_true rfl) (eX4_copyRow (Or.inl rfl) (Or.inr (Or.inr rfl)) (by decide) h1 h3) rfl ?_
  refine fx_aload_n dX4_fieldBehind_11 rfl rfl ?_
  refine fx_iload_n dX4_fieldBehind_12 rfl rfl ?_
  refine fx_callVn dX4_fieldBehind_13 vX4_hours lX4_174 (by decide) rfl (Nat.le_of_ble_eq_true rfl) eH rfl ?_
  refine fx_aload_n dX4_fieldBehind_16 rfl rfl ?_
  refine fx_aload_n dX4_fieldBehind_17 rfl rfl ?_
  refine fx_iload_n dX4_fieldBehind_18 rfl rfl ?_
  refine fx_iload_n dX4_fieldBehind_19 rfl rfl ?_
  refine fx_callVv dX4_fieldBehind_20 vX4_bellIs lX4_101 (by decide) rfl (Nat.le_of_ble_eq_true rfl) eB rfl ?_
  refine fx_callVv dX4_fieldBehind_23 vX4_putBack lX4_191 (by decide) rfl (Nat.le_of_ble_eq_true rfl) eP rfl ?_
  exact fx_ireq dX4_fieldBehind_26 rfl rfl rfl rfl
/-- the caught ones behind hours -/
theorem eX4_setBehind {t : Nat} (ht : t < 1000) (hK : jK G) (hV : jW (G 1) n) (h3 : ∀ k, 186 ≤ k → G 3 k = 0) : Mx mX4_setBehind [.ref 0, .int (nI t)] (rM F G) (some (.int (nI (jsN (jhrs (G 1) n t) n)))) (rM (upd F 7 (jmv (F 7) (G 1) n t)) (ga G 3 (G 1))) := by
  refine mx_of (L := [some (.ref 0), some (.int (nI t))]) (by decide) (fun _ => rfl) (fun _ => Nat.le_of_ble_eq_true rfl) ?_
  have h1 := hV.2.2.2.2.2.2.2
  have eH := eX4_hours (F := F) (G := ga G 3 (G 1)) (n := n) ht (hK.ga (by decide)) (by rw [ga_n _ _ (by decide)]; exact hV)
  rw [ga_n _ _ (show (1 : Nat) ≠ 3 by decide)] at eH
  have eB := eX4_caughtNow (F := upd F 7 (jmv (F 7) (G 1) n t)) (G := ga (ga G 3 (G 1)) 1 (jhrs (G 1) n t)) (n := n) (by rw [ga_s]; exact jW_hrs hV t)
  rw [ga_s] at eB
  have eP := eX4_putBack (F := upd F 7 (jmv (F 7) (G 1) n t)) (G := ga (ga G 3 (G 1)) 1 (jhrs (G 1) n t)) (v := nI (jsN (jhrs (G 1) n t) n)) (by rw [ga_s]; exact (jW_hrs hV t).2.2.2.2.2.2.2) (by rw [ga_n _ _ (by decide), ga_s]; exact h1)
  have eZ : ga (ga G 3 (G 1)) 1 (G 1) = ga G 3 (G 1) := by rw [ga_comm _ _ _ (show (3 : Nat) ≠ 1 by decide), ga_id]
  rw [ga_n _ _ (show (3 : Nat) ≠ 1 by decide), ga_s, ga_ga, eZ] at eP
  refine fx_aload_n dX4_setBehind_0 rfl rfl ?_
  refine fx_get dX4_setBehind_1 kX4_9 rfl rfl ?_
  refine fx_aload_n dX4_setBehind_4 rfl rfl ?_
  refine fx_get dX4_setBehind_5 kX4_16 rfl rfl ?_
  refine fx_callSn dX4_setBehind_8 sX4_copyRow lX4_70 (by decide) (Nat.le_of_ble_eq_true rfl) (eX4_copyRow (Or.inl rfl) (Or.inr (Or.inr rfl)) (by decide) h1 h3) rfl ?_
  refine fx_aload_n dX4_setBehind_11 rfl rfl ?_
  refine fx_iload_n dX4_setBehind_12 rfl rfl ?_
  refine fx_callVn dX4_setBehind_13 vX4_hours lX4_174 (by decide) rfl (Nat.le_of_ble_eq_true rfl) eH rfl ?_
  refine fx_aload_n dX4_setBehind_16 rfl rfl ?_
  refine fx_aload_n dX4_setBehind_17 rfl rfl ?_
  refine fx_callVv dX4_setBehind_18 vX4_caughtNow lX4_178 (by decide) rfl (Nat.le_of_ble_eq_true rfl) eB rfl ?_
  refine fx_callVv dX4_setBehind_21 vX4_putBack lX4_191 (by decide) rfl (Nat.le_of_ble_eq_true rfl) eP rfl ?_
  exact fx_ireq dX4_setBehind_24 rfl rfl rfl rfl
/-- a number of hours, or none -/
theorem eX4_told_y {x : Nat} (hx : x < 1000000) : Mx mX4_told [.ref 0, .int (nI x)] (rM F G) (some (.int (nI x))) (rM F G) := by
  refine mx_of (L := [some (.ref 0), some (.int (nI x))]) (by decide) (fun _ => rfl) (fun _ => Nat.le_of_ble_eq_true rfl) ?_
  refine fx_iload_n dX4_told_0 rfl rfl ?_
  refine fx_ldc dX4_told_1 qX4_197 ?_
  refine fx_icmp_ne (tgt := 15) dX4_told_3 (by decide) rfl (fun hc3 => ?_) (fun hc3 => ?_)
  · refine fx_iload_n dX4_told_15 rfl rfl ?_
    exact fx_ireq dX4_told_16 rfl rfl rfl rfl
  · exact absurd hc3 (fun q => by have := (nI_eq (a := x) (b := 1000000) (by omega) (by decide)).mp q; omega)
theorem eX4_told_n : Mx mX4_told [.ref 0, .int (nI 1000000)] (rM F G) (some (.int (jfd 3))) (rM F (ga G 4 (jfc (G 4) 3))) := by
  refine mx_of (L := [some (.ref 0), some (.int (nI 1000000))]) (by decide) (fun _ => rfl) (fun _ => Nat.le_of_ble_eq_true rfl) ?_
  refine fx_iload_n dX4_told_0 rfl rfl ?_
  refine fx_ldc dX4_told_1 qX4_197 ?_
  refine fx_icmp_ne (tgt := 15) dX4_told_3 (by decide) rfl (fun hc3 => ?_) (fun hc3 => ?_)
  · exact absurd (by decide) hc3
  · refine fx_aload_n dX4_told_6 rfl rfl ?_
    refine fx_ldc dX4_told_7 qX4_198 ?_
    refine fx_callVv dX4_told_9 vX4_finding lX4_88 (by decide) rfl (Nat.le_of_ble_eq_true rfl) (eX4_finding (k := 3) (by decide) (by decide)) rfl ?_
    refine fx_goto (tgt := 16) dX4_told_12 (by decide) ?_
    exact fx_ireq dX4_told_16 rfl rfl rfl rfl
theorem eX4_orNone_y {x : Nat} (hx : x < 1000000) : Mx mX4_orNone [.ref 0, .int (nI x)] (rM F G) (some (.int (nI x))) (rM F G) := by
  refine mx_of (L := [some (.ref 0), some (.int (nI x))]) (by decide) (fun _ => rfl) (fun _ => Nat.le_of_ble_eq_true rfl) ?_
  refine fx_iload_n dX4_orNone_0 rfl rfl ?_
  refine fx_if_ge (tgt := 13) dX4_orNone_1 (by decide) rfl (fun hc1 => ?_) (fun hc1 => ?_)
  · refine fx_iload_n dX4_orNone_13 rfl rfl ?_
    exact fx_ireq dX4_orNone_14 rfl rfl rfl rfl
  · exact absurd (nI_pos' (by omega)) hc1
theorem eX4_orNone_n : Mx mX4_orNone [.ref 0, .int (-1)] (rM F G) (some (.int (jfd 3))) (rM F (ga G 4 (jfc (G 4) 3))) := by
  refine mx_of (L := [some (.ref 0), some (.int (-1))]) (by decide) (fun _ => rfl) (fun _ => Nat.le_of_ble_eq_true rfl) ?_
  refine fx_iload_n dX4_orNone_0 rfl rfl ?_
  refine fx_if_ge (tgt := 13) dX4_orNone_1 (by decide) rfl (fun hc1 => ?_) (fun hc1 => ?_)
  · exact absurd hc1 (by decide)
  · refine fx_aload_n dX4_orNone_4 rfl rfl ?_
    refine fx_ldc dX4_orNone_5 qX4_198 ?_
    refine fx_callVv dX4_orNone_7 vX4_finding lX4_88 (by decide) rfl (Nat.le_of_ble_eq_true rfl) (eX4_finding (k := 3) (by decide) (by decide)) rfl ?_
    refine fx_goto (tgt := 14) dX4_orNone_10 (by decide) ?_
    exact fx_ireq dX4_orNone_14 rfl rfl rfl rfl
end
