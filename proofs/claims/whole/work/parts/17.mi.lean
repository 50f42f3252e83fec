/-! ===== the reference: rings ===== -/
set_option maxRecDepth 100000
def jnote (V : Nat → Int32) (b : Nat) : Nat := (V (146 + 5 * b + 2)).toNatClampNeg
def jnb (V : Nat → Int32) (x b : Nat) : Nat := if x.testBit b = true then 2 ^ jnote V b else 0
def jnt (V : Nat → Int32) (x : Nat) : Nat → Nat
  | 0 => 0
  | b + 1 => jnt V x b ||| jnb V x b
def jar (V : Nat → Int32) (x : Nat) : Nat → Bool
  | 0 => true
  | b + 1 => jar V x b && decide (jnt V x b &&& jnb V x b = 0)
/-- a set of bells is a ring -/
def jring (V : Nat → Int32) (n x : Nat) : Bool := jar V x n && jstep (jnt V x n)
theorem jnote_lt {V : Nat → Int32} {n b : Nat} (hV : jW V n) (hb : b < n) : jnote V b < 12 ∧ V (146 + 5 * b + 2) = nI (jnote V b) := by
  obtain ⟨-, -, ⟨t, ht, e⟩, -⟩ := hV.2.2.1 b hb
  unfold jnote
  rw [e, nI_clamp (by omega)]
  exact ⟨ht, rfl⟩
theorem jnb_lt {V : Nat → Int32} {n b : Nat} (hV : jW V n) (hb : b < n) (x : Nat) : jnb V x b < 2 ^ 12 := by
  unfold jnb
  by_cases h : x.testBit b = true
  · rw [if_pos h]; exact Nat.pow_lt_pow_right (by decide) (jnote_lt hV hb).1
  · rw [if_neg h]; decide
theorem jnt_lt {V : Nat → Int32} {n : Nat} (hV : jW V n) (x : Nat) : ∀ b, b ≤ n → jnt V x b < 2 ^ 12 := by
  intro b
  induction b with
  | zero => intro _; exact (by decide : 0 < 2 ^ 12)
  | succ b ih => intro hb; exact Nat.or_lt_two_pow (ih (by omega)) (jnb_lt hV (by omega) x)
theorem nI_and (a b : Nat) : nI a &&& nI b = nI (a &&& b) := by
  apply Int32.toBitVec_inj.mp
  show BitVec.ofNat 32 a &&& BitVec.ofNat 32 b = BitVec.ofNat 32 (a &&& b)
  rw [BitVec.ofNat_and]
def jgr (V : Nat → Int32) (n : Nat) : Nat → Nat
  | 0 => 0
  | s + 1 => if s = 0 then 0 else if jp (jgr V n s) < jp s ∧ jring V n s = true then s else jgr V n s
theorem jgr_lt (V : Nat → Int32) (n : Nat) : ∀ s, jgr V n s ≤ s := by
  intro s
  induction s with
  | zero => exact Nat.le_refl 0
  | succ s ih =>
    unfold jgr
    by_cases h0 : s = 0
    · rw [if_pos h0]; omega
    · rw [if_neg h0]
      by_cases h : jp (jgr V n s) < jp s ∧ jring V n s = true
      · rw [if_pos h]; omega
      · rw [if_neg h]; omega
def jpl (V : Nat → Int32) (n : Nat) : Nat → Nat
  | 0 => 0
  | s + 1 => if s = 0 then 0 else jpl V n s + (if jring V n s = true then 1 else 0)
theorem jpl_le (V : Nat → Int32) (n : Nat) : ∀ s, jpl V n s ≤ s := by
  intro s
  induction s with
  | zero => exact Nat.le_refl 0
  | succ s ih =>
    unfold jpl
    by_cases h0 : s = 0
    · rw [if_pos h0]; omega
    · rw [if_neg h0]; by_cases h : jring V n s = true <;> simp only [h] <;> simp <;> omega
def jno (V : Nat → Int32) : Nat → Nat
  | 0 => 0
  | b + 1 => jno V b ||| 2 ^ jnote V b
theorem jno_lt {V : Nat → Int32} {n : Nat} (hV : jW V n) : ∀ b, b ≤ n → jno V b < 2 ^ 12 := by
  intro b
  induction b with
  | zero => intro _; exact (by decide : 0 < 2 ^ 12)
  | succ b ih => intro hb; exact Nat.or_lt_two_pow (ih (by omega)) (Nat.pow_lt_pow_right (by decide) (jnote_lt hV (by omega)).1)
def jwn (x : Nat) : Nat → Nat
  | 0 => 0
  | k + 1 => if k = 0 then 0 else if (jlg (x ||| 2 ^ jwn x k) 12).1 < (jlg (x ||| 2 ^ k) 12).1 then k else jwn x k
theorem jwn_lt (x : Nat) : ∀ k, jwn x k ≤ k := by
  intro k
  induction k with
  | zero => exact Nat.le_refl 0
  | succ k ih =>
    unfold jwn
    by_cases h0 : k = 0
    · rw [if_pos h0]; omega
    · rw [if_neg h0]
      by_cases h : (jlg (x ||| 2 ^ jwn x k) 12).1 < (jlg (x ||| 2 ^ k) 12).1
      · rw [if_pos h]; omega
      · rw [if_neg h]; omega
section
variable {F : Nat → Int32} {G : Nat → Nat → Int32} {n : Nat}
theorem eX4_areRing {x : Nat} (hV : jW (G 1) n) (hx : x < 2 ^ 31) : Mx mX4_areRing [.ref 0, .int (nI x)] (rM F G) (some (.int (jB (jring (G 1) n x)))) (rM F G) := by
  refine mx_of (L := [some (.ref 0), some (.int (nI x)), none, none, none, none]) (by decide) (fun _ => rfl) (fun _ => Nat.le_of_ble_eq_true rfl) ?_
  have hn8 := hV.2.1
  have H : ∀ (k b : Nat), b + k = n → ∀ x5 : Option Value, Fx mX4_areRing (some (.int (jB (jring (G 1) n x))), rM F G) 7 [some (.ref 0), some (.int (nI x)), some (.int (nI (jnt (G 1) x b))), some (.int (jB (jar (G 1) x b))), some (.int (nI b)), x5] [] (rM F G) := by
    intro k
    induction k with
    | zero =>
      intro b hb x5
      have hb' : b = n := by omega
      subst hb'
      have hlt := jnt_lt hV x b (Nat.le_refl b)
      refine fx_iload dX4_areRing_7 rfl ?_
      refine fx_aload_n dX4_areRing_9 rfl rfl ?_
      refine fx_get dX4_areRing_10 kX4_9 rfl rfl ?_
      refine fx_iconst (v := nI 2) dX4_areRing_13 (by decide) ?_
      refine fx_iald dX4_areRing_14 rfl (vp_in_nI (by decide) (by decide)) ?_
      rw [nI_clamp (n := 2) (by decide), hV.1]
      refine fx_icmp_ge (tgt := 70) dX4_areRing_15 (by decide) rfl (fun hc15 => ?_) (fun hc15 => ?_)
      · refine fx_iload_n dX4_areRing_70 rfl rfl ?_
        refine fx_if_eq (tgt := 85) dX4_areRing_71 (by decide) rfl (fun hc71 => ?_) (fun hc71 => ?_)
        · refine fx_iconst (v := nI 0) dX4_areRing_85 (by decide) ?_
          exact fx_ireq dX4_areRing_86 rfl (jB_n _) (by unfold jring; first | (rw [nI_ne0' hc71, nI_ne0' hc78]; rfl) | (rw [nI_eq0' hc78, Bool.and_false]; rfl) | (rw [nI_eq0' hc71]; rfl)) rfl
        · refine fx_iload_n dX4_areRing_74 rfl rfl ?_
          refine fx_callSv dX4_areRing_75 sX4_stepBySteps lX4_242 (by decide) (Nat.le_of_ble_eq_true rfl) (eX4_stepBySteps (by omega)) rfl ?_
          refine fx_if_eq (tgt := 85) dX4_areRing_78 (by decide) rfl (fun hc78 => ?_) (fun hc78 => ?_)
          · refine fx_iconst (v := nI 0) dX4_areRing_85 (by decide) ?_
            exact fx_ireq dX4_areRing_86 rfl (jB_n _) (by unfold jring; first | (rw [nI_ne0' hc71, nI_ne0' hc78]; rfl) | (rw [nI_eq0' hc78, Bool.and_false]; rfl) | (rw [nI_eq0' hc71]; rfl)) rfl
          · refine fx_iconst (v := nI 1) dX4_areRing_81 (by decide) ?_
            refine fx_goto (tgt := 86) dX4_areRing_82 (by decide) ?_
            exact fx_ireq dX4_areRing_86 rfl (jB_n _) (by unfold jring; first | (rw [nI_ne0' hc71, nI_ne0' hc78]; rfl) | (rw [nI_eq0' hc78, Bool.and_false]; rfl) | (rw [nI_eq0' hc71]; rfl)) rfl
      · exact absurd (Int32.le_refl _) hc15
    | succ k ih =>
      intro b hb x5
      obtain ⟨ht, et⟩ := jnote_lt hV (show b < n by omega)
      have hlt := jnt_lt hV x b (by omega)
      have hlt2 := jnb_lt hV (show b < n by omega) x
      have ih1 := ih (b + 1) (by omega)
      have e1 : jnt (G 1) x (b + 1) = jnt (G 1) x b ||| jnb (G 1) x b := rfl
      have e2 : jar (G 1) x (b + 1) = (jar (G 1) x b && decide (jnt (G 1) x b &&& jnb (G 1) x b = 0)) := rfl
      have J40 : ∀ x5 : Option Value, Fx mX4_areRing (some (.int (jB (jring (G 1) n x))), rM F G) 40 [some (.ref 0), some (.int (nI x)), some (.int (nI (jnt (G 1) x b))), some (.int (jB (jar (G 1) x b))), some (.int (nI b)), x5] [.int (nI (jnb (G 1) x b))] (rM F G) := by
        intro x5
        have hlt3 : jnt (G 1) x b &&& jnb (G 1) x b < 2 ^ 31 := Nat.lt_of_le_of_lt Nat.and_le_left (by omega)
        refine fs_istore_5 dX4_areRing_40 rfl (by decide) ?_
        refine fx_iload_n dX4_areRing_42 rfl rfl ?_
        refine fx_if_eq (tgt := 57) dX4_areRing_43 (by decide) rfl (fun hc43 => ?_) (fun hc43 => ?_)
        · refine fx_iconst (v := nI 0) dX4_areRing_57 (by decide) ?_
          refine fs_istore_n_3 dX4_areRing_58 rfl (by decide) ?_
          refine fx_iload_n dX4_areRing_59 rfl rfl ?_
          refine fx_iload dX4_areRing_60 rfl ?_
          refine fx_ior dX4_areRing_62 ?_
          rw [nI_or]
          refine fs_istore_n_2 dX4_areRing_63 rfl (by decide) ?_
          refine fs_iinc_4 (w := nI 1) dX4_areRing_64 (by decide) rfl (by decide) ?_
          refine fx_goto (tgt := 7) dX4_areRing_67 (by decide) ?_
          rw [nI_add]
          first | (rw [e1, e2, nI_ne0' hc43, decide_eq_true (nI_eq0 hlt3 hc50)] at ih1; exact ih1 _) | (rw [e1, e2, decide_eq_false (fun q => hc50 (by rw [q]; exact nI_0)), Bool.and_false] at ih1; exact ih1 _) | (rw [e1, e2, nI_eq0' hc43, Bool.false_and] at ih1; exact ih1 _)
        · refine fx_iload_n dX4_areRing_46 rfl rfl ?_
          refine fx_iload dX4_areRing_47 rfl ?_
          refine fx_iand dX4_areRing_49 ?_
          rw [nI_and]
          refine fx_if_ne (tgt := 57) dX4_areRing_50 (by decide) rfl (fun hc50 => ?_) (fun hc50 => ?_)
          · refine fx_iconst (v := nI 0) dX4_areRing_57 (by decide) ?_
            refine fs_istore_n_3 dX4_areRing_58 rfl (by decide) ?_
            refine fx_iload_n dX4_areRing_59 rfl rfl ?_
            refine fx_iload dX4_areRing_60 rfl ?_
            refine fx_ior dX4_areRing_62 ?_
            rw [nI_or]
            refine fs_istore_n_2 dX4_areRing_63 rfl (by decide) ?_
            refine fs_iinc_4 (w := nI 1) dX4_areRing_64 (by decide) rfl (by decide) ?_
            refine fx_goto (tgt := 7) dX4_areRing_67 (by decide) ?_
            rw [nI_add]
            first | (rw [e1, e2, nI_ne0' hc43, decide_eq_true (nI_eq0 hlt3 hc50)] at ih1; exact ih1 _) | (rw [e1, e2, decide_eq_false (fun q => hc50 (by rw [q]; exact nI_0)), Bool.and_false] at ih1; exact ih1 _) | (rw [e1, e2, nI_eq0' hc43, Bool.false_and] at ih1; exact ih1 _)
          · refine fx_iconst (v := nI 1) dX4_areRing_53 (by decide) ?_
            refine fx_goto (tgt := 58) dX4_areRing_54 (by decide) ?_
            refine fs_istore_n_3 dX4_areRing_58 rfl (by decide) ?_
            refine fx_iload_n dX4_areRing_59 rfl rfl ?_
            refine fx_iload dX4_areRing_60 rfl ?_
            refine fx_ior dX4_areRing_62 ?_
            rw [nI_or]
            refine fs_istore_n_2 dX4_areRing_63 rfl (by decide) ?_
            refine fs_iinc_4 (w := nI 1) dX4_areRing_64 (by decide) rfl (by decide) ?_
            refine fx_goto (tgt := 7) dX4_areRing_67 (by decide) ?_
            rw [nI_add]
            first | (rw [e1, e2, nI_ne0' hc43, decide_eq_true (nI_eq0 hlt3 hc50)] at ih1; exact ih1 _) | (rw [e1, e2, decide_eq_false (fun q => hc50 (by rw [q]; exact nI_0)), Bool.and_false] at ih1; exact ih1 _) | (rw [e1, e2, nI_eq0' hc43, Bool.false_and] at ih1; exact ih1 _)
      cases hbit : x.testBit b
      · have e3 : jnb (G 1) x b = 0 := by unfold jnb; rw [hbit]; exact if_neg (by decide)
        rw [e3] at J40
        refine fx_iload dX4_areRing_7 rfl ?_
        refine fx_aload_n dX4_areRing_9 rfl rfl ?_
        refine fx_get dX4_areRing_10 kX4_9 rfl rfl ?_
        refine fx_iconst (v := nI 2) dX4_areRing_13 (by decide) ?_
        refine fx_iald dX4_areRing_14 rfl (vp_in_nI (by decide) (by decide)) ?_
        rw [nI_clamp (n := 2) (by decide), hV.1]
        refine fx_icmp_ge (tgt := 70) dX4_areRing_15 (by decide) rfl (fun hc15 => ?_) (fun hc15 => ?_)
        · exact absurd hc15 (nI_ge (by omega) (by omega))
        · refine fx_iload_n dX4_areRing_18 rfl rfl ?_
          refine fx_iload dX4_areRing_19 rfl ?_
          refine fx_callSv dX4_areRing_21 sX4_has lX4_239 (by decide) (Nat.le_of_ble_eq_true rfl) (eX4_has hx (by omega)) rfl ?_
          rw [hbit]
          refine fx_if_eq (tgt := 39) dX4_areRing_24 (by decide) rfl (fun hc24 => ?_) (fun hc24 => ?_)
          · refine fx_iconst (v := nI 0) dX4_areRing_39 (by decide) ?_
            exact J40 _
          · exact absurd rfl hc24
      · have e3 : jnb (G 1) x b = 2 ^ jnote (G 1) b := by unfold jnb; rw [hbit]; exact if_pos rfl
        rw [e3] at J40
        refine fx_iload dX4_areRing_7 rfl ?_
        refine fx_aload_n dX4_areRing_9 rfl rfl ?_
        refine fx_get dX4_areRing_10 kX4_9 rfl rfl ?_
        refine fx_iconst (v := nI 2) dX4_areRing_13 (by decide) ?_
        refine fx_iald dX4_areRing_14 rfl (vp_in_nI (by decide) (by decide)) ?_
        rw [nI_clamp (n := 2) (by decide), hV.1]
        refine fx_icmp_ge (tgt := 70) dX4_areRing_15 (by decide) rfl (fun hc15 => ?_) (fun hc15 => ?_)
        · exact absurd hc15 (nI_ge (by omega) (by omega))
        · refine fx_iload_n dX4_areRing_18 rfl rfl ?_
          refine fx_iload dX4_areRing_19 rfl ?_
          refine fx_callSv dX4_areRing_21 sX4_has lX4_239 (by decide) (Nat.le_of_ble_eq_true rfl) (eX4_has hx (by omega)) rfl ?_
          rw [hbit]
          refine fx_if_eq (tgt := 39) dX4_areRing_24 (by decide) rfl (fun hc24 => ?_) (fun hc24 => ?_)
          · exact absurd hc24 (by decide)
          · refine fx_iconst (v := nI 1) dX4_areRing_27 (by decide) ?_
            refine fx_aload_n dX4_areRing_28 rfl rfl ?_
            refine fx_iload dX4_areRing_29 rfl ?_
            refine fx_iconst (v := nI 2) dX4_areRing_31 (by decide) ?_
            refine fx_callVv dX4_areRing_32 vX4_bellIs lX4_101 (by decide) rfl (Nat.le_of_ble_eq_true rfl) (eM_bell (by omega) (by decide)) rfl ?_
            rw [et]
            refine fx_ishl dX4_areRing_35 ?_
            rw [nI_shl1 _ (by omega)]
            refine fx_goto (tgt := 40) dX4_areRing_36 (by decide) ?_
            exact J40 _
  refine fx_iconst (v := nI 0) dX4_areRing_0 (by decide) ?_
  refine fs_istore_n_2 dX4_areRing_1 rfl (by decide) ?_
  refine fx_iconst (v := nI 1) dX4_areRing_2 (by decide) ?_
  refine fs_istore_n_3 dX4_areRing_3 rfl (by decide) ?_
  refine fx_iconst (v := nI 0) dX4_areRing_4 (by decide) ?_
  refine fs_istore_4 dX4_areRing_5 rfl (by decide) ?_
  exact H n 0 (by omega) _
theorem jpow8 {n : Nat} (h : n ≤ 8) : 2 ^ n ≤ 256 ∧ 1 ≤ 2 ^ n := ⟨Nat.le_trans (Nat.pow_le_pow_right (by decide) h) (by decide), Nat.one_le_two_pow⟩
theorem eX4_greatest (hV : jW (G 1) n) : Mx mX4_greatest [.ref 0] (rM F G) (some (.int (nI (jgr (G 1) n (2 ^ n))))) (rM F G) := by
  refine mx_of (L := [some (.ref 0), none, none]) (by decide) (fun _ => rfl) (fun _ => Nat.le_of_ble_eq_true rfl) ?_
  have hn8 := hV.2.1
  obtain ⟨hp1, hp2⟩ := jpow8 hn8
  have H : ∀ (k s : Nat), s + k = 2 ^ n → 1 ≤ s → Fx mX4_greatest (some (.int (nI (jgr (G 1) n (2 ^ n)))), rM F G) 4 [some (.ref 0), some (.int (nI (jgr (G 1) n s))), some (.int (nI s))] [] (rM F G) := by
    intro k
    induction k with
    | zero =>
      intro s hs h1
      have hs' : s = 2 ^ n := by omega
      subst hs'
      refine fx_iload_n dX4_greatest_4 rfl rfl ?_
      refine fx_iconst (v := nI 1) dX4_greatest_5 (by decide) ?_
      refine fx_aload_n dX4_greatest_6 rfl rfl ?_
      refine fx_get dX4_greatest_7 kX4_9 rfl rfl ?_
      refine fx_iconst (v := nI 2) dX4_greatest_10 (by decide) ?_
      refine fx_iald dX4_greatest_11 rfl (vp_in_nI (by decide) (by decide)) ?_
      rw [nI_clamp (n := 2) (by decide), hV.1]
      refine fx_ishl dX4_greatest_12 ?_
      rw [nI_shl1 n (by omega)]
      refine fx_icmp_ge (tgt := 47) dX4_greatest_13 (by decide) rfl (fun hc13 => ?_) (fun hc13 => ?_)
      · refine fx_iload_n dX4_greatest_47 rfl rfl ?_
        exact fx_ireq dX4_greatest_48 rfl rfl rfl rfl
      · exact absurd (Int32.le_refl _) hc13
    | succ k ih =>
      intro s hs h1
      have hle := jgr_lt (G 1) n s
      have ih1 := ih (s + 1) (by omega) (by omega)
      have e1 : jgr (G 1) n (s + 1) = if jp (jgr (G 1) n s) < jp s ∧ jring (G 1) n s = true then s else jgr (G 1) n s := by show (if s = 0 then _ else _) = _; rw [if_neg (by omega)]
      have hb1 := jp_le s (by omega)
      have hb2 := jp_le (jgr (G 1) n s) (by omega)
      rw [e1] at ih1
      refine fx_iload_n dX4_greatest_4 rfl rfl ?_
      refine fx_iconst (v := nI 1) dX4_greatest_5 (by decide) ?_
      refine fx_aload_n dX4_greatest_6 rfl rfl ?_
      refine fx_get dX4_greatest_7 kX4_9 rfl rfl ?_
      refine fx_iconst (v := nI 2) dX4_greatest_10 (by decide) ?_
      refine fx_iald dX4_greatest_11 rfl (vp_in_nI (by decide) (by decide)) ?_
      rw [nI_clamp (n := 2) (by decide), hV.1]
      refine fx_ishl dX4_greatest_12 ?_
      rw [nI_shl1 n (by omega)]
      refine fx_icmp_ge (tgt := 47) dX4_greatest_13 (by decide) rfl (fun hc13 => ?_) (fun hc13 => ?_)
      · exact absurd hc13 (nI_ge (by omega) (by omega))
      · refine fx_iload_n dX4_greatest_16 rfl rfl ?_
        refine fx_callSv dX4_greatest_17 sX4_bits lX4_182 (by decide) (Nat.le_of_ble_eq_true rfl) (eX4_bits (by omega)) rfl ?_
        refine fx_iload_n dX4_greatest_20 rfl rfl ?_
        refine fx_callSv dX4_greatest_21 sX4_bits lX4_182 (by decide) (Nat.le_of_ble_eq_true rfl) (eX4_bits (by omega)) rfl ?_
        refine fx_icmp_le (tgt := 39) dX4_greatest_24 (by decide) rfl (fun hc24 => ?_) (fun hc24 => ?_)
        · refine fx_iload_n dX4_greatest_39 rfl rfl ?_
          refine fs_istore_n_1 dX4_greatest_40 rfl (by decide) ?_
          refine fs_iinc_2 (w := nI 1) dX4_greatest_41 (by decide) rfl (by decide) ?_
          refine fx_goto (tgt := 4) dX4_greatest_44 (by decide) ?_
          rw [nI_add]
          first | (rw [if_pos ⟨(nI_ltI (by omega) (by omega)).mp (Int32.not_le.mp hc24), nI_ne0' hc32⟩] at ih1; exact ih1) | (rw [if_neg (fun q => by rw [nI_eq0' hc32] at q; exact absurd q.2 (by decide))] at ih1; exact ih1) | (rw [if_neg (fun q => absurd ((nI_leI (by omega) (by omega)).mp hc24) (by omega))] at ih1; exact ih1)
        · refine fx_aload_n dX4_greatest_27 rfl rfl ?_
          refine fx_iload_n dX4_greatest_28 rfl rfl ?_
          refine fx_callVv dX4_greatest_29 vX4_areRing lX4_245 (by decide) rfl (Nat.le_of_ble_eq_true rfl) (eX4_areRing hV (by omega)) rfl ?_
          refine fx_if_eq (tgt := 39) dX4_greatest_32 (by decide) rfl (fun hc32 => ?_) (fun hc32 => ?_)
          · refine fx_iload_n dX4_greatest_39 rfl rfl ?_
            refine fs_istore_n_1 dX4_greatest_40 rfl (by decide) ?_
            refine fs_iinc_2 (w := nI 1) dX4_greatest_41 (by decide) rfl (by decide) ?_
            refine fx_goto (tgt := 4) dX4_greatest_44 (by decide) ?_
            rw [nI_add]
            first | (rw [if_pos ⟨(nI_ltI (by omega) (by omega)).mp (Int32.not_le.mp hc24), nI_ne0' hc32⟩] at ih1; exact ih1) | (rw [if_neg (fun q => by rw [nI_eq0' hc32] at q; exact absurd q.2 (by decide))] at ih1; exact ih1) | (rw [if_neg (fun q => absurd ((nI_leI (by omega) (by omega)).mp hc24) (by omega))] at ih1; exact ih1)
          · refine fx_iload_n dX4_greatest_35 rfl rfl ?_
            refine fx_goto (tgt := 40) dX4_greatest_36 (by decide) ?_
            refine fs_istore_n_1 dX4_greatest_40 rfl (by decide) ?_
            refine fs_iinc_2 (w := nI 1) dX4_greatest_41 (by decide) rfl (by decide) ?_
            refine fx_goto (tgt := 4) dX4_greatest_44 (by decide) ?_
            rw [nI_add]
            first | (rw [if_pos ⟨(nI_ltI (by omega) (by omega)).mp (Int32.not_le.mp hc24), nI_ne0' hc32⟩] at ih1; exact ih1) | (rw [if_neg (fun q => by rw [nI_eq0' hc32] at q; exact absurd q.2 (by decide))] at ih1; exact ih1) | (rw [if_neg (fun q => absurd ((nI_leI (by omega) (by omega)).mp hc24) (by omega))] at ih1; exact ih1)
  have H0 := H (2 ^ n - 1) 1 (by omega) (by omega)
  refine fx_iconst (v := nI 0) dX4_greatest_0 (by decide) ?_
  refine fs_istore_n_1 dX4_greatest_1 rfl (by decide) ?_
  refine fx_iconst (v := nI 1) dX4_greatest_2 (by decide) ?_
  refine fs_istore_n_2 dX4_greatest_3 rfl (by decide) ?_
  exact H0
theorem eX4_ring (hV : jW (G 1) n) : Mx mX4_ring [.ref 0] (rM F G) (some (.int (nI (jp (jgr (G 1) n (2 ^ n)))))) (rM F G) := by
  refine mx_of (L := [some (.ref 0)]) (by decide) (fun _ => rfl) (fun _ => Nat.le_of_ble_eq_true rfl) ?_
  obtain ⟨hp1, hp2⟩ := jpow8 hV.2.1
  have hlt : jgr (G 1) n (2 ^ n) < 256 := by
    have e : 2 ^ n = (2 ^ n - 1) + 1 := by omega
    rw [e]
    unfold jgr
    have := jgr_lt (G 1) n (2 ^ n - 1)
    by_cases h0 : 2 ^ n - 1 = 0
    · rw [if_pos h0]; decide
    · rw [if_neg h0]
      by_cases h : jp (jgr (G 1) n (2 ^ n - 1)) < jp (2 ^ n - 1) ∧ jring (G 1) n (2 ^ n - 1) = true
      · rw [if_pos h]; omega
      · rw [if_neg h]; omega
  refine fx_aload_n dX4_ring_0 rfl rfl ?_
  refine fx_callVv dX4_ring_1 vX4_greatest lX4_248 (by decide) rfl (Nat.le_of_ble_eq_true rfl) (eX4_greatest hV) rfl ?_
  refine fx_callSv dX4_ring_4 sX4_bits lX4_182 (by decide) (Nat.le_of_ble_eq_true rfl) (eX4_bits hlt) rfl ?_
  exact fx_ireq dX4_ring_7 rfl rfl rfl rfl
theorem eX4_rings (hV : jW (G 1) n) : Mx mX4_rings [.ref 0] (rM F G) (some (.int (nI (jgr (G 1) n (2 ^ n))))) (rM F G) := by
  refine mx_of (L := [some (.ref 0)]) (by decide) (fun _ => rfl) (fun _ => Nat.le_of_ble_eq_true rfl) ?_
  refine fx_aload_n dX4_rings_0 rfl rfl ?_
  refine fx_callVv dX4_rings_1 vX4_greatest lX4_248 (by decide) rfl (Nat.le_of_ble_eq_true rfl) (eX4_greatest hV) rfl ?_
  exact fx_ireq dX4_rings_4 rfl rfl rfl rfl
theorem eX4_peals (hV : jW (G 1) n) : Mx mX4_peals [.ref 0] (rM F G) (some (.int (nI (jpl (G 1) n (2 ^ n))))) (rM F G) := by
  refine mx_of (L := [some (.ref 0), none, none]) (by decide) (fun _ => rfl) (fun _ => Nat.le_of_ble_eq_true rfl) ?_
  have hn8 := hV.2.1
  obtain ⟨hp1, hp2⟩ := jpow8 hn8
  have H : ∀ (k s : Nat), s + k = 2 ^ n → 1 ≤ s → Fx mX4_peals (some (.int (nI (jpl (G 1) n (2 ^ n)))), rM F G) 4 [some (.ref 0), some (.int (nI (jpl (G 1) n s))), some (.int (nI s))] [] (rM F G) := by
    intro k
    induction k with
    | zero =>
      intro s hs h1
      have hs' : s = 2 ^ n := by omega
      subst hs'
      refine fx_iload_n dX4_peals_4 rfl rfl ?_
      refine fx_iconst (v := nI 1) dX4_peals_5 (by decide) ?_
      refine fx_aload_n dX4_peals_6 rfl rfl ?_
      refine fx_get dX4_peals_7 kX4_9 rfl rfl ?_
      refine fx_iconst (v := nI 2) dX4_peals_10 (by decide) ?_
      refine fx_iald dX4_peals_11 rfl (vp_in_nI (by decide) (by decide)) ?_
      rw [nI_clamp (n := 2) (by decide), hV.1]
      refine fx_ishl dX4_peals_12 ?_
      rw [nI_shl1 n (by omega)]
      refine fx_icmp_ge (tgt := 38) dX4_peals_13 (by decide) rfl (fun hc13 => ?_) (fun hc13 => ?_)
      · refine fx_iload_n dX4_peals_38 rfl rfl ?_
        exact fx_ireq dX4_peals_39 rfl rfl rfl rfl
      · exact absurd (Int32.le_refl _) hc13
    | succ k ih =>
      intro s hs h1
      have ih1 := ih (s + 1) (by omega) (by omega)
      have e1 : jpl (G 1) n (s + 1) = jpl (G 1) n s + (if jring (G 1) n s = true then 1 else 0) := by show (if s = 0 then _ else _) = _; rw [if_neg (by omega)]
      rw [e1] at ih1
      refine fx_iload_n dX4_peals_4 rfl rfl ?_
      refine fx_iconst (v := nI 1) dX4_peals_5 (by decide) ?_
      refine fx_aload_n dX4_peals_6 rfl rfl ?_
      refine fx_get dX4_peals_7 kX4_9 rfl rfl ?_
      refine fx_iconst (v := nI 2) dX4_peals_10 (by decide) ?_
      refine fx_iald dX4_peals_11 rfl (vp_in_nI (by decide) (by decide)) ?_
      rw [nI_clamp (n := 2) (by decide), hV.1]
      refine fx_ishl dX4_peals_12 ?_
      rw [nI_shl1 n (by omega)]
      refine fx_icmp_ge (tgt := 38) dX4_peals_13 (by decide) rfl (fun hc13 => ?_) (fun hc13 => ?_)
      · exact absurd hc13 (nI_ge (by omega) (by omega))
      · refine fx_iload_n dX4_peals_16 rfl rfl ?_
        refine fx_aload_n dX4_peals_17 rfl rfl ?_
        refine fx_iload_n dX4_peals_18 rfl rfl ?_
        refine fx_callVv dX4_peals_19 vX4_areRing lX4_245 (by decide) rfl (Nat.le_of_ble_eq_true rfl) (eX4_areRing hV (by omega)) rfl ?_
        refine fx_if_eq (tgt := 29) dX4_peals_22 (by decide) rfl (fun hc22 => ?_) (fun hc22 => ?_)
        · refine fx_iconst (v := nI 0) dX4_peals_29 (by decide) ?_
          refine fx_iadd dX4_peals_30 ?_
          rw [nI_add]
          refine fs_istore_n_1 dX4_peals_31 rfl (by decide) ?_
          refine fs_iinc_2 (w := nI 1) dX4_peals_32 (by decide) rfl (by decide) ?_
          refine fx_goto (tgt := 4) dX4_peals_35 (by decide) ?_
          rw [nI_add]
          first | (rw [if_pos (nI_ne0' hc22)] at ih1; exact ih1) | (rw [if_neg (fun q => by rw [nI_eq0' hc22] at q; exact absurd q (by decide))] at ih1; exact ih1)
        · refine fx_iconst (v := nI 1) dX4_peals_25 (by decide) ?_
          refine fx_goto (tgt := 30) dX4_peals_26 (by decide) ?_
          refine fx_iadd dX4_peals_30 ?_
          rw [nI_add]
          refine fs_istore_n_1 dX4_peals_31 rfl (by decide) ?_
          refine fs_iinc_2 (w := nI 1) dX4_peals_32 (by decide) rfl (by decide) ?_
          refine fx_goto (tgt := 4) dX4_peals_35 (by decide) ?_
          rw [nI_add]
          first | (rw [if_pos (nI_ne0' hc22)] at ih1; exact ih1) | (rw [if_neg (fun q => by rw [nI_eq0' hc22] at q; exact absurd q (by decide))] at ih1; exact ih1)
  have H0 := H (2 ^ n - 1) 1 (by omega) (by omega)
  refine fx_iconst (v := nI 0) dX4_peals_0 (by decide) ?_
  refine fs_istore_n_1 dX4_peals_1 rfl (by decide) ?_
  refine fx_iconst (v := nI 1) dX4_peals_2 (by decide) ?_
  refine fs_istore_n_2 dX4_peals_3 rfl (by decide) ?_
  exact H0
theorem eX4_wanted (hV : jW (G 1) n) : Mx mX4_wanted [.ref 0] (rM F G) (some (.int (nI (jwn (jno (G 1) n) 12)))) (rM F G) := by
  refine mx_of (L := [some (.ref 0), none, none, none]) (by decide) (fun _ => rfl) (fun _ => Nat.le_of_ble_eq_true rfl) ?_
  have hn8 := hV.2.1
  have hno := jno_lt hV n (Nat.le_refl n)
  have hno2 : ∀ k, k < 12 → jno (G 1) n ||| 2 ^ k < 2 ^ 31 := fun k hk => Nat.lt_of_lt_of_le (Nat.or_lt_two_pow hno (Nat.pow_lt_pow_right (by decide) hk)) (by decide)
  have H2 : ∀ (k i : Nat), i + k = 12 → 1 ≤ i → Fx mX4_wanted (some (.int (nI (jwn (jno (G 1) n) 12))), rM F G) 35 [some (.ref 0), some (.int (nI (jno (G 1) n))), some (.int (nI (jwn (jno (G 1) n) i))), some (.int (nI i))] [] (rM F G) := by
    intro k
    induction k with
    | zero =>
      intro i hi h1
      have hi' : i = 12 := by omega
      subst hi'
      refine fx_iload_n dX4_wanted_35 rfl rfl ?_
      refine fx_bipush (v := nI 12) dX4_wanted_36 (by decide) ?_
      refine fx_icmp_ge (tgt := 72) dX4_wanted_38 (by decide) rfl (fun hc38 => ?_) (fun hc38 => ?_)
      · refine fx_iload_n dX4_wanted_72 rfl rfl ?_
        exact fx_ireq dX4_wanted_73 rfl rfl rfl rfl
      · exact absurd (Int32.le_refl _) hc38
    | succ k ih =>
      intro i hi h1
      have hle : jwn (jno (G 1) n) i ≤ i := jwn_lt _ i
      have ih1 := ih (i + 1) (by omega) (by omega)
      have e1 : jwn (jno (G 1) n) (i + 1) = if (jlg (jno (G 1) n ||| 2 ^ jwn (jno (G 1) n) i) 12).1 < (jlg (jno (G 1) n ||| 2 ^ i) 12).1 then i else jwn (jno (G 1) n) i := by show (if i = 0 then _ else _) = _; rw [if_neg (by omega)]
      rw [e1] at ih1
      refine fx_iload_n dX4_wanted_35 rfl rfl ?_
      refine fx_bipush (v := nI 12) dX4_wanted_36 (by decide) ?_
      refine fx_icmp_ge (tgt := 72) dX4_wanted_38 (by decide) rfl (fun hc38 => ?_) (fun hc38 => ?_)
      · exact absurd hc38 (nI_ge (by omega) (by omega))
      · refine fx_iload_n dX4_wanted_41 rfl rfl ?_
        refine fx_iconst (v := nI 1) dX4_wanted_42 (by decide) ?_
        refine fx_iload_n dX4_wanted_43 rfl rfl ?_
        refine fx_ishl dX4_wanted_44 ?_
        rw [nI_shl1 _ (by omega)]
        refine fx_ior dX4_wanted_45 ?_
        rw [nI_or]
        refine fx_callSv dX4_wanted_46 sX4_longest lX4_251 (by decide) (Nat.le_of_ble_eq_true rfl) (eX4_longest (hno2 _ (by omega))) rfl ?_
        refine fx_iload_n dX4_wanted_49 rfl rfl ?_
        refine fx_iconst (v := nI 1) dX4_wanted_50 (by decide) ?_
        refine fx_iload_n dX4_wanted_51 rfl rfl ?_
        refine fx_ishl dX4_wanted_52 ?_
        rw [nI_shl1 _ (by omega)]
        refine fx_ior dX4_wanted_53 ?_
        rw [nI_or]
        refine fx_callSv dX4_wanted_54 sX4_longest lX4_251 (by decide) (Nat.le_of_ble_eq_true rfl) (eX4_longest (hno2 _ (by omega))) rfl ?_
        refine fx_icmp_le (tgt := 64) dX4_wanted_57 (by decide) rfl (fun hc57 => ?_) (fun hc57 => ?_)
        · refine fx_iload_n dX4_wanted_64 rfl rfl ?_
          refine fs_istore_n_2 dX4_wanted_65 rfl (by decide) ?_
          refine fs_iinc_3 (w := nI 1) dX4_wanted_66 (by decide) rfl (by decide) ?_
          refine fx_goto (tgt := 35) dX4_wanted_69 (by decide) ?_
          rw [nI_add]
          first | (rw [if_pos (Int32.not_le.mp hc57)] at ih1; exact ih1) | (rw [if_neg (Int32.not_lt.mpr hc57)] at ih1; exact ih1)
        · refine fx_iload_n dX4_wanted_60 rfl rfl ?_
          refine fx_goto (tgt := 65) dX4_wanted_61 (by decide) ?_
          refine fs_istore_n_2 dX4_wanted_65 rfl (by decide) ?_
          refine fs_iinc_3 (w := nI 1) dX4_wanted_66 (by decide) rfl (by decide) ?_
          refine fx_goto (tgt := 35) dX4_wanted_69 (by decide) ?_
          rw [nI_add]
          first | (rw [if_pos (Int32.not_le.mp hc57)] at ih1; exact ih1) | (rw [if_neg (Int32.not_lt.mpr hc57)] at ih1; exact ih1)
  have H : ∀ (k b : Nat), b + k = n → Fx mX4_wanted (some (.int (nI (jwn (jno (G 1) n) 12))), rM F G) 4 [some (.ref 0), some (.int (nI (jno (G 1) b))), some (.int (nI b)), none] [] (rM F G) := by
    intro k
    induction k with
    | zero =>
      intro b hb
      have hb' : b = n := by omega
      subst hb'
      have H0 := H2 11 1 (by omega) (by omega)
      refine fx_iload_n dX4_wanted_4 rfl rfl ?_
      refine fx_aload_n dX4_wanted_5 rfl rfl ?_
      refine fx_get dX4_wanted_6 kX4_9 rfl rfl ?_
      refine fx_iconst (v := nI 2) dX4_wanted_9 (by decide) ?_
      refine fx_iald dX4_wanted_10 rfl (vp_in_nI (by decide) (by decide)) ?_
      rw [nI_clamp (n := 2) (by decide), hV.1]
      refine fx_icmp_ge (tgt := 31) dX4_wanted_11 (by decide) rfl (fun hc11 => ?_) (fun hc11 => ?_)
      · refine fx_iconst (v := nI 0) dX4_wanted_31 (by decide) ?_
        refine fs_istore_n_2 dX4_wanted_32 rfl (by decide) ?_
        refine fx_iconst (v := nI 1) dX4_wanted_33 (by decide) ?_
        refine fs_istore_n_3 dX4_wanted_34 rfl (by decide) ?_
        exact H0
      · exact absurd (Int32.le_refl _) hc11
    | succ k ih =>
      intro b hb
      obtain ⟨ht, et⟩ := jnote_lt hV (show b < n by omega)
      have ih1 := ih (b + 1) (by omega)
      have e1 : jno (G 1) (b + 1) = jno (G 1) b ||| 2 ^ jnote (G 1) b := rfl
      rw [e1] at ih1
      refine fx_iload_n dX4_wanted_4 rfl rfl ?_
      refine fx_aload_n dX4_wanted_5 rfl rfl ?_
      refine fx_get dX4_wanted_6 kX4_9 rfl rfl ?_
      refine fx_iconst (v := nI 2) dX4_wanted_9 (by decide) ?_
      refine fx_iald dX4_wanted_10 rfl (vp_in_nI (by decide) (by decide)) ?_
      rw [nI_clamp (n := 2) (by decide), hV.1]
      refine fx_icmp_ge (tgt := 31) dX4_wanted_11 (by decide) rfl (fun hc11 => ?_) (fun hc11 => ?_)
      · exact absurd hc11 (nI_ge (by omega) (by omega))
      · refine fx_iload_n dX4_wanted_14 rfl rfl ?_
        refine fx_iconst (v := nI 1) dX4_wanted_15 (by decide) ?_
        refine fx_aload_n dX4_wanted_16 rfl rfl ?_
        refine fx_iload_n dX4_wanted_17 rfl rfl ?_
        refine fx_iconst (v := nI 2) dX4_wanted_18 (by decide) ?_
        refine fx_callVv dX4_wanted_19 vX4_bellIs lX4_101 (by decide) rfl (Nat.le_of_ble_eq_true rfl) (eM_bell (by omega) (by decide)) rfl ?_
        rw [et]
        refine fx_ishl dX4_wanted_22 ?_
        rw [nI_shl1 _ (by omega)]
        refine fx_ior dX4_wanted_23 ?_
        rw [nI_or]
        refine fs_istore_n_1 dX4_wanted_24 rfl (by decide) ?_
        refine fs_iinc_2 (w := nI 1) dX4_wanted_25 (by decide) rfl (by decide) ?_
        refine fx_goto (tgt := 4) dX4_wanted_28 (by decide) ?_
        rw [nI_add]
        exact ih1
  refine fx_iconst (v := nI 0) dX4_wanted_0 (by decide) ?_
  refine fs_istore_n_1 dX4_wanted_1 rfl (by decide) ?_
  refine fx_iconst (v := nI 0) dX4_wanted_2 (by decide) ?_
  refine fs_istore_n_2 dX4_wanted_3 rfl (by decide) ?_
  exact H n 0 (by omega)
end
