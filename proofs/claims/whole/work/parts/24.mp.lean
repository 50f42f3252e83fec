/-! ===== the reference: public methods, seventh part: copy, load, judge, count, feed ===== -/
set_option maxRecDepth 100000
/-- n numbers of a from place p on, put at place q of g, i done -/
def jcp (f g : Nat → Int32) (p q i : Nat) : Nat → Int32 := fun k => if q ≤ k ∧ k < q + i then f (p + (k - q)) else g k
theorem jcp_0 (f g : Nat → Int32) (p q : Nat) : jcp f g p q 0 = g := by
  funext k
  unfold jcp
  rw [if_neg (by omega)]
theorem jcp_s (f g : Nat → Int32) (p q i : Nat) : upd (jcp f g p q i) (q + i) (f (p + i)) = jcp f g p q (i + 1) := by
  funext k
  unfold upd jcp
  by_cases e : k = q + i
  · rw [if_pos e, if_pos (by omega), e, show q + i - q = i by omega]
  · rw [if_neg e]
    by_cases h : q ≤ k ∧ k < q + i
    · rw [if_pos h, if_pos (by omega)]
    · rw [if_neg h, if_neg (by omega)]
theorem jcp_cong {f f' g : Nat → Int32} {p p' q i : Nat} (h : ∀ k, k < i → f (p + k) = f' (p' + k)) : jcp f g p q i = jcp f' g p' q i := by
  funext k
  unfold jcp
  by_cases e : q ≤ k ∧ k < q + i
  · rw [if_pos e, if_pos e]; exact h (k - q) (by omega)
  · rw [if_neg e, if_neg e]
/-- what a copy's arguments must be -/
def jcok (G : Nat → Nat → Int32) (s t : Nat) (p q m : Int32) : Prop := ¬ p < 0 ∧ ¬ q < 0 ∧ ¬ m < 0 ∧ p.toNatClampNeg + m.toNatClampNeg ≤ jsz G s ∧ q.toNatClampNeg + m.toNatClampNeg ≤ jsz G t
theorem jcmp_gt (x y : Int64) : (0 < lg_cmp x y) ↔ y < x := by
  unfold lg_cmp
  by_cases h1 : y < x
  · rw [if_pos h1]
    exact ⟨fun _ => h1, fun _ => by decide⟩
  · rw [if_neg h1]
    refine ⟨fun q => ?_, fun q => absurd q h1⟩
    by_cases h2 : x = y
    · rw [if_pos h2] at q; exact absurd q (by decide)
    · rw [if_neg h2] at q; exact absurd q (by decide)
/-- how many numbers come, k left, from i on -/
def jld (a : Nat → Int32) (j n : Nat) (i : Nat) : Nat → Nat
  | 0 => i
  | k + 1 => if i < n ∧ jwi (a (40 * j + i)) (nI 0) (nI 11) = true then jld a j n (i + 1) k else i
def jlv (V a : Nat → Int32) (j n : Nat) (i : Nat) : Nat → Nat → Int32
  | 0 => V
  | k + 1 => if i < n ∧ jwi (a (40 * j + i)) (nI 0) (nI 11) = true then jlv (upd V (146 + 5 * i + 2) (a (40 * j + i))) a j n (i + 1) k else V
theorem jld_le (a : Nat → Int32) (j n : Nat) : ∀ k i, jld a j n i k ≤ i + k := by
  intro k
  induction k with
  | zero => intro i; exact Nat.le_refl _
  | succ k ih =>
    intro i
    unfold jld
    by_cases h : i < n ∧ jwi (a (40 * j + i)) (nI 0) (nI 11) = true
    · rw [if_pos h]; have := ih (i + 1); omega
    · rw [if_neg h]; omega
theorem jgood_2 {x : Int32} (h : jwi x (nI 0) (nI 11) = true) : jgood 2 x := by
  obtain ⟨t, ht, e⟩ := jwi_of (by decide) h
  exact ⟨fun h => absurd h (by decide), fun h => absurd h (by decide), fun _ => ⟨t, by omega, e⟩, fun h => absurd h (by decide), fun h => absurd h (by decide)⟩
/-- judge: place of the first that isn't so, k left, from i on, the note of the one before; none: 0 -/
def jjg (V a : Nat → Int32) (j n : Nat) (i : Nat) (last : Int32) : Nat → Int32
  | 0 => nI 0
  | k + 1 => if jwi (a (40 * j + i)) (nI 0) (nI n - nI 1) = true ∧ (i = 0 ∨ jwi (V (146 + 5 * (a (40 * j + i)).toNatClampNeg + 2) - last) (nI 1) (nI 2) = true) then jjg V a j n (i + 1) (V (146 + 5 * (a (40 * j + i)).toNatClampNeg + 2)) k else nI (1 + i)
section
variable {F : Nat → Int32} {G : Nat → Nat → Int32} {n : Nat}
theorem eX4_copy_n {s p t q m : Int32} (h : jwi s (nI 0) (nI 3) = false ∨ jwi t (nI 0) (nI 3) = false) : Mx mX4_copy [.ref 0, .int s, .int p, .int t, .int q, .int m] (rM F G) (some (.int (jfd 0))) (rMn F G 0) := by
  refine mx_of (L := [some (.ref 0), some (.int s), some (.int p), some (.int t), some (.int q), some (.int m), none]) (by decide) (fun _ => rfl) (fun _ => Nat.le_of_ble_eq_true rfl) ?_
  refine fx_iload_n dX4_copy_0 rfl rfl ?_
  refine fx_callSv dX4_copy_1 sX4_isSheet lX4_211 (by decide) (Nat.le_of_ble_eq_true rfl) eX4_isSheet rfl ?_
  refine fx_if_eq (tgt := 14) dX4_copy_4 (by decide) rfl (fun hc4 => ?_) (fun hc4 => ?_)
  · refine fx_aload_n dX4_copy_14 rfl rfl ?_
    refine fx_ldc dX4_copy_15 qX4_69 ?_
    refine fx_callVv dX4_copy_17 vX4_finding lX4_88 (by decide) rfl (Nat.le_of_ble_eq_true rfl) (eX4_finding (k := 0) (by decide) (by decide)) rfl ?_
    exact fx_ireq dX4_copy_20 rfl rfl rfl rfl
  · refine fx_iload_n dX4_copy_7 rfl rfl ?_
    refine fx_callSv dX4_copy_8 sX4_isSheet lX4_211 (by decide) (Nat.le_of_ble_eq_true rfl) eX4_isSheet rfl ?_
    refine fx_if_ne (tgt := 21) dX4_copy_11 (by decide) rfl (fun hc11 => ?_) (fun hc11 => ?_)
    · exact h.elim (fun q => jtf q (nI_ne0' hc4)) (fun q => jtf q (nI_ne0' hc11))
    · refine fx_aload_n dX4_copy_14 rfl rfl ?_
      refine fx_ldc dX4_copy_15 qX4_69 ?_
      refine fx_callVv dX4_copy_17 vX4_finding lX4_88 (by decide) rfl (Nat.le_of_ble_eq_true rfl) (eX4_finding (k := 0) (by decide) (by decide)) rfl ?_
      exact fx_ireq dX4_copy_20 rfl rfl rfl rfl
theorem eX4_copy_m {s t : Nat} {p q m : Int32} (hs : s ≤ 3) (ht : t ≤ 3) (h : G 11 s = 0 ∨ G 11 t = 0) : Mx mX4_copy [.ref 0, .int (nI s), .int p, .int (nI t), .int q, .int m] (rM F G) (some (.int (jfd 5))) (rMn F G 5) := by
  refine mx_of (L := [some (.ref 0), some (.int (nI s)), some (.int p), some (.int (nI t)), some (.int q), some (.int m), none]) (by decide) (fun _ => rfl) (fun _ => Nat.le_of_ble_eq_true rfl) ?_
  refine fx_iload_n dX4_copy_0 rfl rfl ?_
  refine fx_callSv dX4_copy_1 sX4_isSheet lX4_211 (by decide) (Nat.le_of_ble_eq_true rfl) eX4_isSheet rfl ?_
  rw [jwi_n (by omega) (by decide)]
  refine fx_if_eq (tgt := 14) dX4_copy_4 (by decide) rfl (fun hc4 => ?_) (fun hc4 => ?_)
  · exact absurd hc4 (by decide)
  · refine fx_iload_n dX4_copy_7 rfl rfl ?_
    refine fx_callSv dX4_copy_8 sX4_isSheet lX4_211 (by decide) (Nat.le_of_ble_eq_true rfl) eX4_isSheet rfl ?_
    rw [jwi_n (by omega) (by decide)]
    refine fx_if_ne (tgt := 21) dX4_copy_11 (by decide) rfl (fun hc11 => ?_) (fun hc11 => ?_)
    · refine fx_aload_n dX4_copy_21 rfl rfl ?_
      refine fx_get dX4_copy_22 kX4_57 rfl rfl ?_
      refine fx_iload_n dX4_copy_25 rfl rfl ?_
      refine fx_iald dX4_copy_26 rfl (vp_in_nI (by omega) (by omega)) ?_
      rw [nI_clamp (by omega)]
      refine fx_if_eq (tgt := 39) dX4_copy_27 (by decide) rfl (fun hc27 => ?_) (fun hc27 => ?_)
      · refine fx_aload_n dX4_copy_39 rfl rfl ?_
        refine fx_ldc dX4_copy_40 qX4_214 ?_
        refine fx_callVv dX4_copy_42 vX4_finding lX4_88 (by decide) rfl (Nat.le_of_ble_eq_true rfl) (eX4_finding (k := 5) (by decide) (by decide)) rfl ?_
        exact fx_ireq dX4_copy_45 rfl rfl rfl rfl
      · refine fx_aload_n dX4_copy_30 rfl rfl ?_
        refine fx_get dX4_copy_31 kX4_57 rfl rfl ?_
        refine fx_iload_n dX4_copy_34 rfl rfl ?_
        refine fx_iald dX4_copy_35 rfl (vp_in_nI (by omega) (by omega)) ?_
        rw [nI_clamp (by omega)]
        refine fx_if_ne (tgt := 46) dX4_copy_36 (by decide) rfl (fun hc36 => ?_) (fun hc36 => ?_)
        · exact h.elim (fun q => absurd q hc27) (fun q => absurd q hc36)
        · refine fx_aload_n dX4_copy_39 rfl rfl ?_
          refine fx_ldc dX4_copy_40 qX4_214 ?_
          refine fx_callVv dX4_copy_42 vX4_finding lX4_88 (by decide) rfl (Nat.le_of_ble_eq_true rfl) (eX4_finding (k := 5) (by decide) (by decide)) rfl ?_
          exact fx_ireq dX4_copy_45 rfl rfl rfl rfl
    · exact absurd hc11 (by decide)
theorem eX4_copy_k {s t : Nat} {p q m : Int32} (hs : s ≤ 3) (ht : t ≤ 3) (h1 : ¬ G 11 s = 0) (h2 : ¬ G 11 t = 0) (h3 : ¬ G 11 s = G 11 t) : Mx mX4_copy [.ref 0, .int (nI s), .int p, .int (nI t), .int q, .int m] (rM F G) (some (.int (jfd 2))) (rMn F G 2) := by
  refine mx_of (L := [some (.ref 0), some (.int (nI s)), some (.int p), some (.int (nI t)), some (.int q), some (.int m), none]) (by decide) (fun _ => rfl) (fun _ => Nat.le_of_ble_eq_true rfl) ?_
  refine fx_iload_n dX4_copy_0 rfl rfl ?_
  refine fx_callSv dX4_copy_1 sX4_isSheet lX4_211 (by decide) (Nat.le_of_ble_eq_true rfl) eX4_isSheet rfl ?_
  rw [jwi_n (by omega) (by decide)]
  refine fx_if_eq (tgt := 14) dX4_copy_4 (by decide) rfl (fun hc4 => ?_) (fun hc4 => ?_)
  · exact absurd hc4 (by decide)
  · refine fx_iload_n dX4_copy_7 rfl rfl ?_
    refine fx_callSv dX4_copy_8 sX4_isSheet lX4_211 (by decide) (Nat.le_of_ble_eq_true rfl) eX4_isSheet rfl ?_
    rw [jwi_n (by omega) (by decide)]
    refine fx_if_ne (tgt := 21) dX4_copy_11 (by decide) rfl (fun hc11 => ?_) (fun hc11 => ?_)
    · refine fx_aload_n dX4_copy_21 rfl rfl ?_
      refine fx_get dX4_copy_22 kX4_57 rfl rfl ?_
      refine fx_iload_n dX4_copy_25 rfl rfl ?_
      refine fx_iald dX4_copy_26 rfl (vp_in_nI (by omega) (by omega)) ?_
      rw [nI_clamp (by omega)]
      refine fx_if_eq (tgt := 39) dX4_copy_27 (by decide) rfl (fun hc27 => ?_) (fun hc27 => ?_)
      · exact absurd hc27 h1
      · refine fx_aload_n dX4_copy_30 rfl rfl ?_
        refine fx_get dX4_copy_31 kX4_57 rfl rfl ?_
        refine fx_iload_n dX4_copy_34 rfl rfl ?_
        refine fx_iald dX4_copy_35 rfl (vp_in_nI (by omega) (by omega)) ?_
        rw [nI_clamp (by omega)]
        refine fx_if_ne (tgt := 46) dX4_copy_36 (by decide) rfl (fun hc36 => ?_) (fun hc36 => ?_)
        · refine fx_aload_n dX4_copy_46 rfl rfl ?_
          refine fx_get dX4_copy_47 kX4_57 rfl rfl ?_
          refine fx_iload_n dX4_copy_50 rfl rfl ?_
          refine fx_iald dX4_copy_51 rfl (vp_in_nI (by omega) (by omega)) ?_
          rw [nI_clamp (by omega)]
          refine fx_aload_n dX4_copy_52 rfl rfl ?_
          refine fx_get dX4_copy_53 kX4_57 rfl rfl ?_
          refine fx_iload_n dX4_copy_56 rfl rfl ?_
          refine fx_iald dX4_copy_57 rfl (vp_in_nI (by omega) (by omega)) ?_
          rw [nI_clamp (by omega)]
          refine fx_icmp_eq (tgt := 69) dX4_copy_58 (by decide) rfl (fun hc58 => ?_) (fun hc58 => ?_)
          · exact absurd hc58 h3
          · refine fx_aload_n dX4_copy_61 rfl rfl ?_
            refine fx_ldcw dX4_copy_62 qX4_339 ?_
            refine fx_callVv dX4_copy_65 vX4_finding lX4_88 (by decide) rfl (Nat.le_of_ble_eq_true rfl) (eX4_finding (k := 2) (by decide) (by decide)) rfl ?_
            exact fx_ireq dX4_copy_68 rfl rfl rfl rfl
        · exact absurd hc36 h2
    · exact absurd hc11 (by decide)
theorem jcok_l {x m : Int32} {z : Nat} (hx : ¬ x < 0) (hm : ¬ m < 0) (hz : z ≤ 40) : (0 < lg_cmp (x.toInt64 + m.toInt64) (nI z).toInt64) ↔ ¬ (x.toNatClampNeg + m.toNatClampNeg ≤ z) := by
  obtain ⟨a, ha, rfl⟩ := nI_of hx
  obtain ⟨b, hb, rfl⟩ := nI_of hm
  rw [jcmp_gt, nI_l ha, nI_l hb, nI_l (by omega), lN_add, nI_clamp ha, nI_clamp hb, pk_lLT (by omega) (by omega)]
  omega
theorem eX4_copy_b {s t : Nat} {p q m : Int32} (hS : jS G) (hs : s ≤ 3) (ht : t ≤ 3) (h1 : ¬ G 11 s = 0) (h2 : ¬ G 11 t = 0) (h3 : G 11 s = G 11 t) (h : ¬ jcok G s t p q m) : Mx mX4_copy [.ref 0, .int (nI s), .int p, .int (nI t), .int q, .int m] (rM F G) (some (.int (jfd 0))) (rMn F G 0) := by
  refine mx_of (L := [some (.ref 0), some (.int (nI s)), some (.int p), some (.int (nI t)), some (.int q), some (.int m), none]) (by decide) (fun _ => rfl) (fun _ => Nat.le_of_ble_eq_true rfl) ?_
  obtain ⟨es, hzs⟩ := jsz_e hS (show s < 4 by omega)
  obtain ⟨et, hzt⟩ := jsz_e hS (show t < 4 by omega)
  have K : Fx mX4_copy (some (.int (jfd 0)), rMn F G 0) 118 [some (.ref 0), some (.int (nI s)), some (.int p), some (.int (nI t)), some (.int q), some (.int m), none] [] (rM F G) := by
    refine fx_aload_n dX4_copy_118 rfl rfl ?_
    refine fx_ldc dX4_copy_119 qX4_69 ?_
    refine fx_callVv dX4_copy_121 vX4_finding lX4_88 (by decide) rfl (Nat.le_of_ble_eq_true rfl) (eX4_finding (k := 0) (by decide) (by decide)) rfl ?_
    exact fx_ireq dX4_copy_124 rfl rfl rfl rfl
  refine fx_iload_n dX4_copy_0 rfl rfl ?_
  refine fx_callSv dX4_copy_1 sX4_isSheet lX4_211 (by decide) (Nat.le_of_ble_eq_true rfl) eX4_isSheet rfl ?_
  rw [jwi_n (by omega) (by decide)]
  refine fx_if_eq (tgt := 14) dX4_copy_4 (by decide) rfl (fun hc4 => ?_) (fun hc4 => ?_)
  · exact absurd hc4 (by decide)
  · refine fx_iload_n dX4_copy_7 rfl rfl ?_
    refine fx_callSv dX4_copy_8 sX4_isSheet lX4_211 (by decide) (Nat.le_of_ble_eq_true rfl) eX4_isSheet rfl ?_
    rw [jwi_n (by omega) (by decide)]
    refine fx_if_ne (tgt := 21) dX4_copy_11 (by decide) rfl (fun hc11 => ?_) (fun hc11 => ?_)
    · refine fx_aload_n dX4_copy_21 rfl rfl ?_
      refine fx_get dX4_copy_22 kX4_57 rfl rfl ?_
      refine fx_iload_n dX4_copy_25 rfl rfl ?_
      refine fx_iald dX4_copy_26 rfl (vp_in_nI (by omega) (by omega)) ?_
      rw [nI_clamp (by omega)]
      refine fx_if_eq (tgt := 39) dX4_copy_27 (by decide) rfl (fun hc27 => ?_) (fun hc27 => ?_)
      · exact absurd hc27 h1
      · refine fx_aload_n dX4_copy_30 rfl rfl ?_
        refine fx_get dX4_copy_31 kX4_57 rfl rfl ?_
        refine fx_iload_n dX4_copy_34 rfl rfl ?_
        refine fx_iald dX4_copy_35 rfl (vp_in_nI (by omega) (by omega)) ?_
        rw [nI_clamp (by omega)]
        refine fx_if_ne (tgt := 46) dX4_copy_36 (by decide) rfl (fun hc36 => ?_) (fun hc36 => ?_)
        · refine fx_aload_n dX4_copy_46 rfl rfl ?_
          refine fx_get dX4_copy_47 kX4_57 rfl rfl ?_
          refine fx_iload_n dX4_copy_50 rfl rfl ?_
          refine fx_iald dX4_copy_51 rfl (vp_in_nI (by omega) (by omega)) ?_
          rw [nI_clamp (by omega)]
          refine fx_aload_n dX4_copy_52 rfl rfl ?_
          refine fx_get dX4_copy_53 kX4_57 rfl rfl ?_
          refine fx_iload_n dX4_copy_56 rfl rfl ?_
          refine fx_iald dX4_copy_57 rfl (vp_in_nI (by omega) (by omega)) ?_
          rw [nI_clamp (by omega)]
          refine fx_icmp_eq (tgt := 69) dX4_copy_58 (by decide) rfl (fun hc58 => ?_) (fun hc58 => ?_)
          · refine fx_iload_n dX4_copy_69 rfl rfl ?_
            refine fx_if_lt (tgt := 118) dX4_copy_70 (by decide) rfl (fun hc70 => ?_) (fun hc70 => ?_)
            · exact K
            · refine fx_iload dX4_copy_73 rfl ?_
              refine fx_if_lt (tgt := 118) dX4_copy_75 (by decide) rfl (fun hc75 => ?_) (fun hc75 => ?_)
              · exact K
              · refine fx_iload dX4_copy_78 rfl ?_
                refine fx_if_lt (tgt := 118) dX4_copy_80 (by decide) rfl (fun hc80 => ?_) (fun hc80 => ?_)
                · exact K
                · refine fx_iload_n dX4_copy_83 rfl rfl ?_
                  refine fx_i2l dX4_copy_84 ?_
                  refine fx_iload dX4_copy_85 rfl ?_
                  refine fx_i2l dX4_copy_87 ?_
                  refine fx_ladd dX4_copy_88 ?_
                  refine fx_aload_n dX4_copy_89 rfl rfl ?_
                  refine fx_get dX4_copy_90 kX4_60 rfl rfl ?_
                  refine fx_iload_n dX4_copy_93 rfl rfl ?_
                  refine fx_iald dX4_copy_94 rfl (vp_in_nI (by omega) (by omega)) ?_
                  rw [nI_clamp (by omega), es]
                  refine fx_i2l dX4_copy_95 ?_
                  refine fx_lcmp dX4_copy_96 ?_
                  refine fx_if_gt (tgt := 118) dX4_copy_97 (by decide) rfl (fun hc97 => ?_) (fun hc97 => ?_)
                  · exact K
                  · refine fx_iload dX4_copy_100 rfl ?_
                    refine fx_i2l dX4_copy_102 ?_
                    refine fx_iload dX4_copy_103 rfl ?_
                    refine fx_i2l dX4_copy_105 ?_
                    refine fx_ladd dX4_copy_106 ?_
                    refine fx_aload_n dX4_copy_107 rfl rfl ?_
                    refine fx_get dX4_copy_108 kX4_60 rfl rfl ?_
                    refine fx_iload_n dX4_copy_111 rfl rfl ?_
                    refine fx_iald dX4_copy_112 rfl (vp_in_nI (by omega) (by omega)) ?_
                    rw [nI_clamp (by omega), et]
                    refine fx_i2l dX4_copy_113 ?_
                    refine fx_lcmp dX4_copy_114 ?_
                    refine fx_if_le (tgt := 125) dX4_copy_115 (by decide) rfl (fun hc115 => ?_) (fun hc115 => ?_)
                    · exact absurd ⟨hc70, hc75, hc80, by refine Classical.byContradiction (fun z => hc97 ((jcok_l hc70 hc80 hzs).mpr z)), by refine Classical.byContradiction (fun z => absurd hc115 (Int32.not_le.mpr ((jcok_l hc75 hc80 hzt).mpr z)))⟩ h
                    · exact K
          · exact absurd h3 hc58
        · exact absurd hc36 h2
    · exact absurd hc11 (by decide)
theorem eX4_copy_y {s t : Nat} {p q m : Nat} (hS : jS G) (hs : s ≤ 3) (ht : t ≤ 3) (h1 : ¬ G 11 s = 0) (h2 : ¬ G 11 t = 0) (h3 : G 11 s = G 11 t) (hp : p + m ≤ jsz G s) (hq : q + m ≤ jsz G t) : ∃ P : Nat → Int32, Mx mX4_copy [.ref 0, .int (nI s), .int (nI p), .int (nI t), .int (nI q), .int (nI m)] (rM F G) (some (.int (nI m))) (rM F (ga (ga G 14 P) 13 (jcp (G 13) (G 13) (40 * s + p) (40 * t + q) m))) := by
  obtain ⟨es, hzs⟩ := jsz_e hS (show s < 4 by omega)
  obtain ⟨et, hzt⟩ := jsz_e hS (show t < 4 by omega)
  generalize hP : jcp (G 13) (G 14) (40 * s + p) 0 m = P
  have hPv : ∀ i, i < m → P i = G 13 (40 * s + p + i) := by
    intro i hi
    rw [← hP]
    unfold jcp
    rw [if_pos (by omega)]
    rfl
  have eQ : jcp P (G 13) 0 (40 * t + q) m = jcp (G 13) (G 13) (40 * s + p) (40 * t + q) m := jcp_cong (fun k hk => by rw [Nat.zero_add]; exact hPv k hk)
  refine ⟨P, mx_of (L := [some (.ref 0), some (.int (nI s)), some (.int (nI p)), some (.int (nI t)), some (.int (nI q)), some (.int (nI m)), none]) (by decide) (fun _ => rfl) (fun _ => Nat.le_of_ble_eq_true rfl) ?_⟩
  rw [← eQ]
  have H2 : ∀ (k i : Nat), i + k = m → Fx mX4_copy (some (.int (nI m)), rM F (ga (ga G 14 P) 13 (jcp P (G 13) 0 (40 * t + q) m))) 165 [some (.ref 0), some (.int (nI s)), some (.int (nI p)), some (.int (nI t)), some (.int (nI q)), some (.int (nI m)), some (.int (nI i))] [] (rM F (ga (ga G 14 P) 13 (jcp P (G 13) 0 (40 * t + q) i))) := by
    intro k
    induction k with
    | zero =>
      intro i hi
      have hi' : i = m := by omega
      subst hi'
      refine fx_iload dX4_copy_165 rfl ?_
      refine fx_iload dX4_copy_167 rfl ?_
      refine fx_icmp_ge (tgt := 200) dX4_copy_169 (by decide) rfl (fun hc169 => ?_) (fun hc169 => ?_)
      · refine fx_iload dX4_copy_200 rfl ?_
        exact fx_ireq dX4_copy_202 rfl rfl rfl rfl
      · exact absurd (Int32.le_refl _) hc169
    | succ k ih =>
      intro i hi
      have ih1 := ih (i + 1) (by omega)
      rw [← jcp_s P (G 13) 0 (40 * t + q) i, Nat.zero_add] at ih1
      refine fx_iload dX4_copy_165 rfl ?_
      refine fx_iload dX4_copy_167 rfl ?_
      refine fx_icmp_ge (tgt := 200) dX4_copy_169 (by decide) rfl (fun hc169 => ?_) (fun hc169 => ?_)
      · exact absurd hc169 (nI_ge (by omega) (by omega))
      · refine fx_aload_n dX4_copy_172 rfl rfl ?_
        refine fx_get dX4_copy_173 kX4_63 rfl rfl ?_
        refine fx_bipush (v := nI 40) dX4_copy_176 (by decide) ?_
        refine fx_iload_n dX4_copy_178 rfl rfl ?_
        refine fx_imul dX4_copy_179 ?_
        refine fx_iload dX4_copy_180 rfl ?_
        refine fx_iadd dX4_copy_182 ?_
        refine fx_iload dX4_copy_183 rfl ?_
        refine fx_iadd dX4_copy_185 ?_
        rw [pk_mul, nI_add, nI_add]
        refine fx_aload_n dX4_copy_186 rfl rfl ?_
        refine fx_get dX4_copy_187 kX4_66 rfl rfl ?_
        refine fx_iload dX4_copy_190 rfl ?_
        refine fx_iald dX4_copy_192 rfl (vp_in_nI (by omega) (by omega)) ?_
        rw [nI_clamp (by omega), ga_n _ _ (show (14 : Nat) ≠ 13 by decide), ga_s]
        refine fx_iast dX4_copy_193 rfl (vp_in_nI (by omega) (by omega)) (w4_13 ..) ?_
        rw [nI_clamp (by omega), ga_s, ga_ga]
        refine fs_iinc_6 (w := nI 1) dX4_copy_194 (by decide) rfl (by decide) ?_
        refine fx_goto (tgt := 165) dX4_copy_197 (by decide) ?_
        rw [nI_add]
        exact ih1
  have H1 : ∀ (k i : Nat), i + k = m → Fx mX4_copy (some (.int (nI m)), rM F (ga (ga G 14 P) 13 (jcp P (G 13) 0 (40 * t + q) m))) 128 [some (.ref 0), some (.int (nI s)), some (.int (nI p)), some (.int (nI t)), some (.int (nI q)), some (.int (nI m)), some (.int (nI i))] [] (rM F (ga G 14 (jcp (G 13) (G 14) (40 * s + p) 0 i))) := by
    intro k
    induction k with
    | zero =>
      intro i hi
      have hi' : i = m := by omega
      subst hi'
      rw [hP]
      have H0 := H2 i 0 (by omega)
      have eZ : ga (ga G 14 P) 13 (G 13) = ga G 14 P := by rw [ga_comm _ _ _ (show (14 : Nat) ≠ 13 by decide), ga_id]
      rw [jcp_0, eZ] at H0
      refine fx_iload dX4_copy_128 rfl ?_
      refine fx_iload dX4_copy_130 rfl ?_
      refine fx_icmp_ge (tgt := 162) dX4_copy_132 (by decide) rfl (fun hc132 => ?_) (fun hc132 => ?_)
      · refine fx_iconst (v := nI 0) dX4_copy_162 (by decide) ?_
        refine fs_istore_6 dX4_copy_163 rfl (by decide) ?_
        exact H0
      · exact absurd (Int32.le_refl _) hc132
    | succ k ih =>
      intro i hi
      have ih1 := ih (i + 1) (by omega)
      rw [← jcp_s (G 13) (G 14) (40 * s + p) 0 i, Nat.zero_add] at ih1
      refine fx_iload dX4_copy_128 rfl ?_
      refine fx_iload dX4_copy_130 rfl ?_
      refine fx_icmp_ge (tgt := 162) dX4_copy_132 (by decide) rfl (fun hc132 => ?_) (fun hc132 => ?_)
      · exact absurd hc132 (nI_ge (by omega) (by omega))
      · refine fx_aload_n dX4_copy_135 rfl rfl ?_
        refine fx_get dX4_copy_136 kX4_66 rfl rfl ?_
        refine fx_iload dX4_copy_139 rfl ?_
        refine fx_aload_n dX4_copy_141 rfl rfl ?_
        refine fx_get dX4_copy_142 kX4_63 rfl rfl ?_
        refine fx_bipush (v := nI 40) dX4_copy_145 (by decide) ?_
        refine fx_iload_n dX4_copy_147 rfl rfl ?_
        refine fx_imul dX4_copy_148 ?_
        refine fx_iload_n dX4_copy_149 rfl rfl ?_
        refine fx_iadd dX4_copy_150 ?_
        refine fx_iload dX4_copy_151 rfl ?_
        refine fx_iadd dX4_copy_153 ?_
        rw [pk_mul, nI_add, nI_add]
        refine fx_iald dX4_copy_154 rfl (vp_in_nI (by omega) (by omega)) ?_
        rw [nI_clamp (by omega), ga_n _ _ (show (13 : Nat) ≠ 14 by decide)]
        refine fx_iast dX4_copy_155 rfl (vp_in_nI (by omega) (by omega)) (w4_14 ..) ?_
        rw [nI_clamp (by omega), ga_s, ga_ga]
        refine fs_iinc_6 (w := nI 1) dX4_copy_156 (by decide) rfl (by decide) ?_
        refine fx_goto (tgt := 128) dX4_copy_159 (by decide) ?_
        rw [nI_add]
        exact ih1
  have H0 := H1 m 0 (by omega)
  rw [jcp_0, ga_id] at H0
  have hpc := nI_clamp (n := p) (by omega)
  have hqc := nI_clamp (n := q) (by omega)
  have hmc := nI_clamp (n := m) (by omega)
  refine fx_iload_n dX4_copy_0 rfl rfl ?_
  refine fx_callSv dX4_copy_1 sX4_isSheet lX4_211 (by decide) (Nat.le_of_ble_eq_true rfl) eX4_isSheet rfl ?_
  rw [jwi_n (by omega) (by decide)]
  refine fx_if_eq (tgt := 14) dX4_copy_4 (by decide) rfl (fun hc4 => ?_) (fun hc4 => ?_)
  · exact absurd hc4 (by decide)
  · refine fx_iload_n dX4_copy_7 rfl rfl ?_
    refine fx_callSv dX4_copy_8 sX4_isSheet lX4_211 (by decide) (Nat.le_of_ble_eq_true rfl) eX4_isSheet rfl ?_
    rw [jwi_n (by omega) (by decide)]
    refine fx_if_ne (tgt := 21) dX4_copy_11 (by decide) rfl (fun hc11 => ?_) (fun hc11 => ?_)
    · refine fx_aload_n dX4_copy_21 rfl rfl ?_
      refine fx_get dX4_copy_22 kX4_57 rfl rfl ?_
      refine fx_iload_n dX4_copy_25 rfl rfl ?_
      refine fx_iald dX4_copy_26 rfl (vp_in_nI (by omega) (by omega)) ?_
      rw [nI_clamp (by omega)]
      refine fx_if_eq (tgt := 39) dX4_copy_27 (by decide) rfl (fun hc27 => ?_) (fun hc27 => ?_)
      · exact absurd hc27 h1
      · refine fx_aload_n dX4_copy_30 rfl rfl ?_
        refine fx_get dX4_copy_31 kX4_57 rfl rfl ?_
        refine fx_iload_n dX4_copy_34 rfl rfl ?_
        refine fx_iald dX4_copy_35 rfl (vp_in_nI (by omega) (by omega)) ?_
        rw [nI_clamp (by omega)]
        refine fx_if_ne (tgt := 46) dX4_copy_36 (by decide) rfl (fun hc36 => ?_) (fun hc36 => ?_)
        · refine fx_aload_n dX4_copy_46 rfl rfl ?_
          refine fx_get dX4_copy_47 kX4_57 rfl rfl ?_
          refine fx_iload_n dX4_copy_50 rfl rfl ?_
          refine fx_iald dX4_copy_51 rfl (vp_in_nI (by omega) (by omega)) ?_
          rw [nI_clamp (by omega)]
          refine fx_aload_n dX4_copy_52 rfl rfl ?_
          refine fx_get dX4_copy_53 kX4_57 rfl rfl ?_
          refine fx_iload_n dX4_copy_56 rfl rfl ?_
          refine fx_iald dX4_copy_57 rfl (vp_in_nI (by omega) (by omega)) ?_
          rw [nI_clamp (by omega)]
          refine fx_icmp_eq (tgt := 69) dX4_copy_58 (by decide) rfl (fun hc58 => ?_) (fun hc58 => ?_)
          · refine fx_iload_n dX4_copy_69 rfl rfl ?_
            refine fx_if_lt (tgt := 118) dX4_copy_70 (by decide) rfl (fun hc70 => ?_) (fun hc70 => ?_)
            · exact absurd hc70 (nI_pos (by omega))
            · refine fx_iload dX4_copy_73 rfl ?_
              refine fx_if_lt (tgt := 118) dX4_copy_75 (by decide) rfl (fun hc75 => ?_) (fun hc75 => ?_)
              · exact absurd hc75 (nI_pos (by omega))
              · refine fx_iload dX4_copy_78 rfl ?_
                refine fx_if_lt (tgt := 118) dX4_copy_80 (by decide) rfl (fun hc80 => ?_) (fun hc80 => ?_)
                · exact absurd hc80 (nI_pos (by omega))
                · refine fx_iload_n dX4_copy_83 rfl rfl ?_
                  refine fx_i2l dX4_copy_84 ?_
                  refine fx_iload dX4_copy_85 rfl ?_
                  refine fx_i2l dX4_copy_87 ?_
                  refine fx_ladd dX4_copy_88 ?_
                  refine fx_aload_n dX4_copy_89 rfl rfl ?_
                  refine fx_get dX4_copy_90 kX4_60 rfl rfl ?_
                  refine fx_iload_n dX4_copy_93 rfl rfl ?_
                  refine fx_iald dX4_copy_94 rfl (vp_in_nI (by omega) (by omega)) ?_
                  rw [nI_clamp (n := s) (by omega), es]
                  refine fx_i2l dX4_copy_95 ?_
                  refine fx_lcmp dX4_copy_96 ?_
                  refine fx_if_gt (tgt := 118) dX4_copy_97 (by decide) rfl (fun hc97 => ?_) (fun hc97 => ?_)
                  · exact absurd ((jcok_l (nI_pos (by omega)) (nI_pos (by omega)) hzs).mp hc97) (by rw [hpc, hmc]; omega)
                  · refine fx_iload dX4_copy_100 rfl ?_
                    refine fx_i2l dX4_copy_102 ?_
                    refine fx_iload dX4_copy_103 rfl ?_
                    refine fx_i2l dX4_copy_105 ?_
                    refine fx_ladd dX4_copy_106 ?_
                    refine fx_aload_n dX4_copy_107 rfl rfl ?_
                    refine fx_get dX4_copy_108 kX4_60 rfl rfl ?_
                    refine fx_iload_n dX4_copy_111 rfl rfl ?_
                    refine fx_iald dX4_copy_112 rfl (vp_in_nI (by omega) (by omega)) ?_
                    rw [nI_clamp (n := t) (by omega), et]
                    refine fx_i2l dX4_copy_113 ?_
                    refine fx_lcmp dX4_copy_114 ?_
                    refine fx_if_le (tgt := 125) dX4_copy_115 (by decide) rfl (fun hc115 => ?_) (fun hc115 => ?_)
                    · refine fx_iconst (v := nI 0) dX4_copy_125 (by decide) ?_
                      refine fs_istore_6 dX4_copy_126 rfl (by decide) ?_
                      exact H0
                    · exact absurd ((jcok_l (nI_pos (by omega)) (nI_pos (by omega)) hzt).mp (Int32.not_le.mp hc115)) (by rw [hqc, hmc]; omega)
          · exact absurd h3 hc58
        · exact absurd hc36 h2
    · exact absurd hc11 (by decide)
theorem jlk_k {s : Int32} {k : Nat} (h : jlk G s = some k) : k = 0 ∨ k = 4 ∨ k = 5 := by
  unfold jlk at h
  by_cases a : jwi s (nI 0) (nI 3) = true
  · rw [if_pos a] at h
    by_cases b : G 11 s.toNatClampNeg = 0
    · rw [if_pos b] at h; cases h; omega
    · rw [if_neg b] at h; cases h
  · rw [if_neg a] at h; cases h; omega
theorem eX4_load_n {s : Int32} {k : Nat} (h : jlk G s = some k) : Mx mX4_load [.ref 0, .int s] (rM F G) (some (.int (jfd k))) (rMn F G k) := by
  refine mx_of (L := [some (.ref 0), some (.int s), none]) (by decide) (fun _ => rfl) (fun _ => Nat.le_of_ble_eq_true rfl) ?_
  have hk := jlk_k h
  have eL := eX4_lacks (F := F) (G := G) (s := s)
  rw [h] at eL
  refine fx_aload_n dX4_load_0 rfl rfl ?_
  refine fx_iload_n dX4_load_1 rfl rfl ?_
  refine fx_callVv dX4_load_2 vX4_lacks lX4_221 (by decide) rfl (Nat.le_of_ble_eq_true rfl) eL rfl ?_
  refine fx_if_eq (tgt := 18) dX4_load_5 (by decide) rfl (fun hc5 => ?_) (fun hc5 => ?_)
  · exact absurd hc5 (jfo_k hk)
  · refine fx_aload_n dX4_load_8 rfl rfl ?_
    refine fx_aload_n dX4_load_9 rfl rfl ?_
    refine fx_iload_n dX4_load_10 rfl rfl ?_
    refine fx_callVv dX4_load_11 vX4_lacks lX4_221 (by decide) rfl (Nat.le_of_ble_eq_true rfl) eL rfl ?_
    refine fx_callVv dX4_load_14 vX4_finding lX4_88 (by decide) rfl (Nat.le_of_ble_eq_true rfl) (eX4_finding (jfd_7 hk) rfl) rfl ?_
    exact fx_ireq dX4_load_17 rfl rfl rfl rfl
theorem eX4_load_y {j : Nat} (hS : jS G) (hV : jW (G 1) n) (hj : j ≤ 3) (h : jlk G (nI j) = none) : Mx mX4_load [.ref 0, .int (nI j)] (rM F G) (some (.int (nI (jld (G 13) j n 0 (jsz G j))))) (rM F (ga G 1 (jlv (G 1) (G 13) j n 0 (jsz G j)))) := by
  refine mx_of (L := [some (.ref 0), some (.int (nI j)), none]) (by decide) (fun _ => rfl) (fun _ => Nat.le_of_ble_eq_true rfl) ?_
  have hn8 := hV.2.1
  obtain ⟨ez, hz⟩ := jsz_e hS (show j < 4 by omega)
  have eL := eX4_lacks (F := F) (G := G) (s := nI j)
  rw [h] at eL
  generalize hm : jsz G j = m at ez hz
  generalize hr : jld (G 13) j n 0 m = r
  generalize hRV : jlv (G 1) (G 13) j n 0 m = RV
  have hrb : r ≤ m := by have := jld_le (G 13) j n m 0; omega
  have J : Fx mX4_load (some (.int (nI r)), rM F (ga G 1 RV)) 85 [some (.ref 0), some (.int (nI j)), some (.int (nI r))] [] (rM F (ga G 1 RV)) := by
    refine fx_iload_n dX4_load_85 rfl rfl ?_
    exact fx_ireq dX4_load_86 rfl rfl rfl rfl
  have H : ∀ (k i : Nat), i + k = m → ∀ W : Nat → Int32, jW W n → jld (G 13) j n i k = r → jlv W (G 13) j n i k = RV → Fx mX4_load (some (.int (nI r)), rM F (ga G 1 RV)) 20 [some (.ref 0), some (.int (nI j)), some (.int (nI i))] [] (rM F (ga G 1 W)) := by
    intro k
    induction k with
    | zero =>
      intro i hi W hW e1 e2
      have e1' : i = r := e1
      have e2' : W = RV := e2
      subst e1'; subst e2'
      refine fx_iload_n dX4_load_20 rfl rfl ?_
      refine fx_aload_n dX4_load_21 rfl rfl ?_
      refine fx_get dX4_load_22 kX4_60 rfl rfl ?_
      refine fx_iload_n dX4_load_25 rfl rfl ?_
      refine fx_iald dX4_load_26 rfl (vp_in_nI (by omega) (by omega)) ?_
      rw [nI_clamp (by omega), ga_n _ _ (show (12 : Nat) ≠ 1 by decide), ez]
      refine fx_icmp_ge (tgt := 85) dX4_load_27 (by decide) rfl (fun hc27 => ?_) (fun hc27 => ?_)
      · exact J
      · exact absurd (nI_le (by omega) (by omega)) hc27
    | succ k ih =>
      intro i hi W hW e1 e2
      unfold jld at e1
      unfold jlv at e2
      have eB := eX4_isBell (F := F) (G := ga G 1 W) (n := n) (v := nI i) (by rw [ga_s]; exact hW)
      by_cases hin : i < n
      · by_cases hwi : jwi (G 13 (40 * j + i)) (nI 0) (nI 11) = true
        · rw [if_pos ⟨hin, hwi⟩] at e1 e2
          have ih1 := ih (i + 1) (by omega) _ (jW_f hW hin (by decide) (jgood_2 hwi)) e1 e2
          refine fx_iload_n dX4_load_20 rfl rfl ?_
          refine fx_aload_n dX4_load_21 rfl rfl ?_
          refine fx_get dX4_load_22 kX4_60 rfl rfl ?_
          refine fx_iload_n dX4_load_25 rfl rfl ?_
          refine fx_iald dX4_load_26 rfl (vp_in_nI (by omega) (by omega)) ?_
          rw [nI_clamp (by omega), ga_n _ _ (show (12 : Nat) ≠ 1 by decide), ez]
          refine fx_icmp_ge (tgt := 85) dX4_load_27 (by decide) rfl (fun hc27 => ?_) (fun hc27 => ?_)
          · exact absurd hc27 (nI_ge (by omega) (by omega))
          · refine fx_aload_n dX4_load_30 rfl rfl ?_
            refine fx_iload_n dX4_load_31 rfl rfl ?_
            refine fx_callVv dX4_load_32 vX4_isBell lX4_141 (by decide) rfl (Nat.le_of_ble_eq_true rfl) eB rfl ?_
            rw [jbell_y hin hn8]
            refine fx_if_eq (tgt := 85) dX4_load_35 (by decide) rfl (fun hc35 => ?_) (fun hc35 => ?_)
            · exact absurd hc35 (by decide)
            · refine fx_aload_n dX4_load_38 rfl rfl ?_
              refine fx_get dX4_load_39 kX4_63 rfl rfl ?_
              refine fx_bipush (v := nI 40) dX4_load_42 (by decide) ?_
              refine fx_iload_n dX4_load_44 rfl rfl ?_
              refine fx_imul dX4_load_45 ?_
              refine fx_iload_n dX4_load_46 rfl rfl ?_
              refine fx_iadd dX4_load_47 ?_
              rw [pk_mul, nI_add]
              refine fx_iald dX4_load_48 rfl (vp_in_nI (by omega) (by omega)) ?_
              rw [nI_clamp (by omega), ga_n _ _ (show (13 : Nat) ≠ 1 by decide)]
              refine fx_iconst (v := nI 0) dX4_load_49 (by decide) ?_
              refine fx_bipush (v := nI 11) dX4_load_50 (by decide) ?_
              refine fx_callSv dX4_load_52 sX4_within lX4_74 (by decide) (Nat.le_of_ble_eq_true rfl) eX4_within rfl ?_
              rw [hwi]
              refine fx_if_eq (tgt := 85) dX4_load_55 (by decide) rfl (fun hc55 => ?_) (fun hc55 => ?_)
              · exact absurd hc55 (by decide)
              · refine fx_aload_n dX4_load_58 rfl rfl ?_
                refine fx_get dX4_load_59 kX4_9 rfl rfl ?_
                refine fx_iload_n dX4_load_62 rfl rfl ?_
                refine fx_iconst (v := nI 2) dX4_load_63 (by decide) ?_
                refine fx_callSv dX4_load_64 sX4_at lX4_98 (by decide) (Nat.le_of_ble_eq_true rfl) eX4_at rfl ?_
                refine fx_aload_n dX4_load_67 rfl rfl ?_
                refine fx_get dX4_load_68 kX4_63 rfl rfl ?_
                refine fx_bipush (v := nI 40) dX4_load_71 (by decide) ?_
                refine fx_iload_n dX4_load_73 rfl rfl ?_
                refine fx_imul dX4_load_74 ?_
                refine fx_iload_n dX4_load_75 rfl rfl ?_
                refine fx_iadd dX4_load_76 ?_
                rw [pk_mul, nI_add]
                refine fx_iald dX4_load_77 rfl (vp_in_nI (by omega) (by omega)) ?_
                rw [nI_clamp (by omega), ga_n _ _ (show (13 : Nat) ≠ 1 by decide)]
                refine fx_iast dX4_load_78 rfl (jat_in (by omega) (by decide)) (w4_1 ..) ?_
                rw [jat_c (by omega) (by decide), ga_s, ga_ga]
                refine fs_iinc_2 (w := nI 1) dX4_load_79 (by decide) rfl (by decide) ?_
                refine fx_goto (tgt := 20) dX4_load_82 (by decide) ?_
                rw [nI_add]
                exact ih1
        · rw [if_neg (fun q => hwi q.2)] at e1 e2
          subst e1; subst e2
          refine fx_iload_n dX4_load_20 rfl rfl ?_
          refine fx_aload_n dX4_load_21 rfl rfl ?_
          refine fx_get dX4_load_22 kX4_60 rfl rfl ?_
          refine fx_iload_n dX4_load_25 rfl rfl ?_
          refine fx_iald dX4_load_26 rfl (vp_in_nI (by omega) (by omega)) ?_
          rw [nI_clamp (by omega), ga_n _ _ (show (12 : Nat) ≠ 1 by decide), ez]
          refine fx_icmp_ge (tgt := 85) dX4_load_27 (by decide) rfl (fun hc27 => ?_) (fun hc27 => ?_)
          · exact absurd hc27 (nI_ge (by omega) (by omega))
          · refine fx_aload_n dX4_load_30 rfl rfl ?_
            refine fx_iload_n dX4_load_31 rfl rfl ?_
            refine fx_callVv dX4_load_32 vX4_isBell lX4_141 (by decide) rfl (Nat.le_of_ble_eq_true rfl) eB rfl ?_
            rw [jbell_y hin hn8]
            refine fx_if_eq (tgt := 85) dX4_load_35 (by decide) rfl (fun hc35 => ?_) (fun hc35 => ?_)
            · exact absurd hc35 (by decide)
            · refine fx_aload_n dX4_load_38 rfl rfl ?_
              refine fx_get dX4_load_39 kX4_63 rfl rfl ?_
              refine fx_bipush (v := nI 40) dX4_load_42 (by decide) ?_
              refine fx_iload_n dX4_load_44 rfl rfl ?_
              refine fx_imul dX4_load_45 ?_
              refine fx_iload_n dX4_load_46 rfl rfl ?_
              refine fx_iadd dX4_load_47 ?_
              rw [pk_mul, nI_add]
              refine fx_iald dX4_load_48 rfl (vp_in_nI (by omega) (by omega)) ?_
              rw [nI_clamp (by omega), ga_n _ _ (show (13 : Nat) ≠ 1 by decide)]
              refine fx_iconst (v := nI 0) dX4_load_49 (by decide) ?_
              refine fx_bipush (v := nI 11) dX4_load_50 (by decide) ?_
              refine fx_callSv dX4_load_52 sX4_within lX4_74 (by decide) (Nat.le_of_ble_eq_true rfl) eX4_within rfl ?_
              rw [jnt_f hwi]
              refine fx_if_eq (tgt := 85) dX4_load_55 (by decide) rfl (fun hc55 => ?_) (fun hc55 => ?_)
              · exact J
              · exact absurd rfl hc55
      · rw [if_neg (fun q => hin q.1)] at e1 e2
        subst e1; subst e2
        have hnb : jwi (nI i) (nI 0) (nI n - nI 1) = false := jnt_f (fun q => by
          obtain ⟨b, hb, eb⟩ := jbell_of hn8 q
          have := (nI_eq (a := i) (b := b) (by omega) (by omega)).mp eb
          omega)
        refine fx_iload_n dX4_load_20 rfl rfl ?_
        refine fx_aload_n dX4_load_21 rfl rfl ?_
        refine fx_get dX4_load_22 kX4_60 rfl rfl ?_
        refine fx_iload_n dX4_load_25 rfl rfl ?_
        refine fx_iald dX4_load_26 rfl (vp_in_nI (by omega) (by omega)) ?_
        rw [nI_clamp (by omega), ga_n _ _ (show (12 : Nat) ≠ 1 by decide), ez]
        refine fx_icmp_ge (tgt := 85) dX4_load_27 (by decide) rfl (fun hc27 => ?_) (fun hc27 => ?_)
        · exact absurd hc27 (nI_ge (by omega) (by omega))
        · refine fx_aload_n dX4_load_30 rfl rfl ?_
          refine fx_iload_n dX4_load_31 rfl rfl ?_
          refine fx_callVv dX4_load_32 vX4_isBell lX4_141 (by decide) rfl (Nat.le_of_ble_eq_true rfl) eB rfl ?_
          rw [hnb]
          refine fx_if_eq (tgt := 85) dX4_load_35 (by decide) rfl (fun hc35 => ?_) (fun hc35 => ?_)
          · exact J
          · exact absurd rfl hc35
  have H0 := H m 0 (by omega) (G 1) hV hr hRV
  rw [ga_id] at H0
  refine fx_aload_n dX4_load_0 rfl rfl ?_
  refine fx_iload_n dX4_load_1 rfl rfl ?_
  refine fx_callVv dX4_load_2 vX4_lacks lX4_221 (by decide) rfl (Nat.le_of_ble_eq_true rfl) eL rfl ?_
  refine fx_if_eq (tgt := 18) dX4_load_5 (by decide) rfl (fun hc5 => ?_) (fun hc5 => ?_)
  · refine fx_iconst (v := nI 0) dX4_load_18 (by decide) ?_
    refine fs_istore_n_2 dX4_load_19 rfl (by decide) ?_
    exact H0
  · exact absurd rfl hc5
theorem eX4_judge_n {s : Int32} {k : Nat} (h : jlk G s = some k) : Mx mX4_judge [.ref 0, .int s] (rM F G) (some (.int (jfd k))) (rMn F G k) := by
  refine mx_of (L := [some (.ref 0), some (.int s), none, none, none, none]) (by decide) (fun _ => rfl) (fun _ => Nat.le_of_ble_eq_true rfl) ?_
  have hk := jlk_k h
  have eL := eX4_lacks (F := F) (G := G) (s := s)
  rw [h] at eL
  refine fx_aload_n dX4_judge_0 rfl rfl ?_
  refine fx_iload_n dX4_judge_1 rfl rfl ?_
  refine fx_callVv dX4_judge_2 vX4_lacks lX4_221 (by decide) rfl (Nat.le_of_ble_eq_true rfl) eL rfl ?_
  refine fx_if_eq (tgt := 18) dX4_judge_5 (by decide) rfl (fun hc5 => ?_) (fun hc5 => ?_)
  · exact absurd hc5 (jfo_k hk)
  · refine fx_aload_n dX4_judge_8 rfl rfl ?_
    refine fx_aload_n dX4_judge_9 rfl rfl ?_
    refine fx_iload_n dX4_judge_10 rfl rfl ?_
    refine fx_callVv dX4_judge_11 vX4_lacks lX4_221 (by decide) rfl (Nat.le_of_ble_eq_true rfl) eL rfl ?_
    refine fx_callVv dX4_judge_14 vX4_finding lX4_88 (by decide) rfl (Nat.le_of_ble_eq_true rfl) (eX4_finding (jfd_7 hk) rfl) rfl ?_
    exact fx_ireq dX4_judge_17 rfl rfl rfl rfl
end
