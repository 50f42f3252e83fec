/-! ===== the reference: next cell, hours ===== -/
set_option maxRecDepth 100000
theorem upd_upd {f : Nat → Int32} {k : Nat} {x y : Int32} : upd (upd f k x) k y = upd f k y := by
  funext j
  unfold upd
  by_cases e : j = k
  · rw [if_pos e, if_pos e]
  · rw [if_neg e, if_neg e, if_neg e]
def jgood (f : Nat) (x : Int32) : Prop := (f = 0 → ∃ k, k < 7 ∧ x = nI k) ∧ (f = 1 → ∃ c, c < 64 ∧ x = nI c) ∧ (f = 2 → ∃ t, t < 12 ∧ x = nI t) ∧ (f = 3 → ∃ w, 1 ≤ w ∧ w ≤ 99 ∧ x = nI w) ∧ (f = 4 → (x = nI 0 ∨ x = nI 1))
/-- a trait of a bell that is there becomes another one -/
theorem jW_f {V : Nat → Int32} {n b f : Nat} {x : Int32} (h : jW V n) (hb : b < n) (hf : f < 5) (hx : jgood f x) : jW (upd V (146 + 5 * b + f) x) n := by
  obtain ⟨h1, h2, h3, h4, h5, h6, h7, h8⟩ := h
  refine ⟨by rw [pk_un (by omega)]; exact h1, h2, fun o ho => ?_, fun q hq => by rw [pk_un (by omega)]; exact h4 q hq, fun q hq => by rw [pk_un (by omega)]; exact h5 q hq, fun q hq => by rw [pk_un (by omega)]; exact h6 q hq, by rw [pk_un (by omega)]; exact h7, fun k hk => by rw [pk_un (by omega)]; exact h8 k hk⟩
  obtain ⟨g0, g1, g2, g3, g4⟩ := h3 o ho
  have key : ∀ j, j < 5 → (o = b ∧ j = f) ∨ upd V (146 + 5 * b + f) x (146 + 5 * o + j) = V (146 + 5 * o + j) := by
    intro j hj
    by_cases e : o = b ∧ j = f
    · exact Or.inl e
    · exact Or.inr (pk_un (by omega))
  refine ⟨?_, ?_, ?_, ?_, ?_⟩
  · rcases key 0 (by omega) with ⟨rfl, rfl⟩ | e
    · rw [pk_us]; exact hx.1 rfl
    · rw [e]; exact g0
  · rcases key 1 (by omega) with ⟨rfl, rfl⟩ | e
    · rw [pk_us]; exact hx.2.1 rfl
    · rw [e]; exact g1
  · rcases key 2 (by omega) with ⟨rfl, rfl⟩ | e
    · rw [pk_us]; exact hx.2.2.1 rfl
    · rw [e]; exact g2
  · rcases key 3 (by omega) with ⟨rfl, rfl⟩ | e
    · rw [pk_us]; exact hx.2.2.2.1 rfl
    · rw [e]; exact g3
  · rcases key 4 (by omega) with ⟨rfl, rfl⟩ | e
    · rw [pk_us]; exact hx.2.2.2.2 rfl
    · rw [e]; exact g4
def jdn (w : Nat) : Int32 := if w = 0 then (-1) else if w = 2 then nI 1 else nI 0
def jrt (w : Nat) : Int32 := if w = 1 then nI 1 else if w = 3 then (-1) else nI 0
def jbrow (c w : Nat) : Int32 := nI c / nI 8 + jdn w
def jbcol (c w : Nat) : Int32 := nI c - nI c / nI 8 * nI 8 + jrt w
/-- the cell beside, -1: none -/
def jbes (c w : Nat) : Int32 := if jwi (jbrow c w) (nI 0) (nI 7) = true ∧ jwi (jbcol c w) (nI 0) (nI 7) = true then nI 8 * jbrow c w + jbcol c w else (-1)
def jbesN (c w : Nat) : Nat := (jbes c w).toNatClampNeg
theorem jbes_or : ∀ c, c < 64 → ∀ w, w < 4 → jbes c w = (-1) ∨ (jbesN c w < 64 ∧ jbes c w = nI (jbesN c w)) := by decide +kernel
/-- what never changes in the reference's rows -/
def jK (G : Nat → Nat → Int32) : Prop := (∀ w, w < 4 → G 5 w = jdn w) ∧ ∀ w, w < 4 → G 6 w = jrt w
theorem jK.ga {G : Nat → Nat → Int32} (h : jK G) {k : Nat} {a : Nat → Int32} (hk : k ≠ 5 ∧ k ≠ 6) : jK (ga G k a) := ⟨fun w hw => by rw [ga_n G a (fun e => hk.1 e.symm)]; exact h.1 w hw, fun w hw => by rw [ga_n G a (fun e => hk.2 e.symm)]; exact h.2 w hw⟩
def jnx (V : Nat → Int32) (b n a : Nat) : Nat → Nat × Int32
  | 0 => (a, jworth V b a n)
  | w + 1 => if jbes a w < 0 then jnx V b n a w else (if (jnx V b n a w).2 < jworth V b (jbesN a w) n then jbesN a w else (jnx V b n a w).1, jmax (jnx V b n a w).2 (jworth V b (jbesN a w) n))
def jnext (V : Nat → Int32) (b n : Nat) : Nat := (jnx V b n (V (146 + 5 * b + 1)).toNatClampNeg 4).1
theorem jnx_lt {V : Nat → Int32} {b n a : Nat} (ha : a < 64) : ∀ w, w ≤ 4 → (jnx V b n a w).1 < 64 := by
  intro w
  induction w with
  | zero => intro _; exact ha
  | succ w ih =>
    intro hw
    have h1 := ih (by omega)
    unfold jnx
    by_cases e : jbes a w < 0
    · rw [if_pos e]; exact h1
    · rw [if_neg e]
      rcases jbes_or a ha w (by omega) with z | ⟨z, -⟩
      · rw [z] at e; exact absurd (by decide) e
      · show (if _ then _ else _) < 64
        by_cases q : (jnx V b n a w).2 < jworth V b (jbesN a w) n
        · rw [if_pos q]; exact z
        · rw [if_neg q]; exact h1
theorem jnext_lt {V : Nat → Int32} {b n : Nat} (hV : jW V n) (hb : b < n) : jnext V b n < 64 := by
  obtain ⟨-, ⟨c, hc, e⟩, -⟩ := hV.2.2.1 b hb
  unfold jnext
  rw [e, nI_clamp (by omega)]
  exact jnx_lt hc 4 (Nat.le_refl 4)
theorem jmax_self (x : Int32) : jmax x x = x := by unfold jmax; by_cases h : x < x <;> simp [h]
section
variable {F : Nat → Int32} {G : Nat → Nat → Int32} {n : Nat}
theorem eX4_beside {c w : Nat} (hK : jK G) (hc : c < 64) (hw : w < 4) : Mx mX4_beside [.ref 0, .int (nI c), .int (nI w)] (rM F G) (some (.int (jbes c w))) (rM F G) := by
  refine mx_of (L := [some (.ref 0), some (.int (nI c)), some (.int (nI w)), none, none]) (by decide) (fun _ => rfl) (fun _ => Nat.le_of_ble_eq_true rfl) ?_
  refine fx_iload_n dX4_beside_0 rfl rfl ?_
  refine fx_bipush (v := nI 8) dX4_beside_1 (by decide) ?_
  refine fx_idiv dX4_beside_3 (by decide) ?_
  refine fx_aload_n dX4_beside_4 rfl rfl ?_
  refine fx_get dX4_beside_5 kX4_22 rfl rfl ?_
  refine fx_iload_n dX4_beside_8 rfl rfl ?_
  refine fx_iald dX4_beside_9 rfl (vp_in_nI (by omega) (by omega)) ?_
  rw [nI_clamp (by omega), hK.1 w hw]
  refine fx_iadd dX4_beside_10 ?_
  refine fx_as (y := jbrow c w) rfl ?_
  refine fs_istore_n_3 dX4_beside_11 rfl (by decide) ?_
  refine fx_iload_n dX4_beside_12 rfl rfl ?_
  refine fx_bipush (v := nI 8) dX4_beside_13 (by decide) ?_
  refine fx_irem dX4_beside_15 (by decide) ?_
  refine fx_aload_n dX4_beside_16 rfl rfl ?_
  refine fx_get dX4_beside_17 kX4_25 rfl rfl ?_
  refine fx_iload_n dX4_beside_20 rfl rfl ?_
  refine fx_iald dX4_beside_21 rfl (vp_in_nI (by omega) (by omega)) ?_
  rw [nI_clamp (by omega), hK.2 w hw]
  refine fx_iadd dX4_beside_22 ?_
  refine fx_as (y := jbcol c w) rfl ?_
  refine fs_istore_4 dX4_beside_23 rfl (by decide) ?_
  refine fx_iload_n dX4_beside_25 rfl rfl ?_
  refine fx_iconst (v := nI 0) dX4_beside_26 (by decide) ?_
  refine fx_bipush (v := nI 7) dX4_beside_27 (by decide) ?_
  refine fx_callSv dX4_beside_29 sX4_within lX4_74 (by decide) (Nat.le_of_ble_eq_true rfl) eX4_within rfl ?_
  refine fx_if_eq (tgt := 56) dX4_beside_32 (by decide) rfl (fun hc32 => ?_) (fun hc32 => ?_)
  · refine fx_iconst (v := (-1)) dX4_beside_56 (by decide) ?_
    exact fx_ireq dX4_beside_57 rfl rfl (by unfold jbes; first | exact (if_pos ⟨nI_ne0' hc32, nI_ne0' hc43⟩).symm | exact (if_neg (fun q => by rw [nI_eq0' hc32] at q; exact absurd q.1 (by decide))).symm | exact (if_neg (fun q => by rw [nI_eq0' hc43] at q; exact absurd q.2 (by decide))).symm) rfl
  · refine fx_iload dX4_beside_35 rfl ?_
    refine fx_iconst (v := nI 0) dX4_beside_37 (by decide) ?_
    refine fx_bipush (v := nI 7) dX4_beside_38 (by decide) ?_
    refine fx_callSv dX4_beside_40 sX4_within lX4_74 (by decide) (Nat.le_of_ble_eq_true rfl) eX4_within rfl ?_
    refine fx_if_eq (tgt := 56) dX4_beside_43 (by decide) rfl (fun hc43 => ?_) (fun hc43 => ?_)
    · refine fx_iconst (v := (-1)) dX4_beside_56 (by decide) ?_
      exact fx_ireq dX4_beside_57 rfl rfl (by unfold jbes; first | exact (if_pos ⟨nI_ne0' hc32, nI_ne0' hc43⟩).symm | exact (if_neg (fun q => by rw [nI_eq0' hc32] at q; exact absurd q.1 (by decide))).symm | exact (if_neg (fun q => by rw [nI_eq0' hc43] at q; exact absurd q.2 (by decide))).symm) rfl
    · refine fx_bipush (v := nI 8) dX4_beside_46 (by decide) ?_
      refine fx_iload_n dX4_beside_48 rfl rfl ?_
      refine fx_imul dX4_beside_49 ?_
      refine fx_iload dX4_beside_50 rfl ?_
      refine fx_iadd dX4_beside_52 ?_
      refine fx_goto (tgt := 57) dX4_beside_53 (by decide) ?_
      exact fx_ireq dX4_beside_57 rfl rfl (by unfold jbes; first | exact (if_pos ⟨nI_ne0' hc32, nI_ne0' hc43⟩).symm | exact (if_neg (fun q => by rw [nI_eq0' hc32] at q; exact absurd q.1 (by decide))).symm | exact (if_neg (fun q => by rw [nI_eq0' hc43] at q; exact absurd q.2 (by decide))).symm) rfl
theorem eX4_nextOf {b : Nat} (hK : jK G) (hV : jW (G 1) n) (hb : b < n) : Mx mX4_nextOf [.ref 0, .int (nI b)] (rM F G) (some (.int (nI (jnext (G 1) b n)))) (rM F G) := by
  refine mx_of (L := [some (.ref 0), some (.int (nI b)), none, none, none, none, none]) (by decide) (fun _ => rfl) (fun _ => Nat.le_of_ble_eq_true rfl) ?_
  have hn8 := hV.2.1
  obtain ⟨-, ⟨a, ha, ea⟩, -⟩ := hV.2.2.1 b hb
  have ej : jnext (G 1) b n = (jnx (G 1) b n a 4).1 := by unfold jnext; rw [ea, nI_clamp (by omega)]
  rw [ej]
  have H : ∀ (k w : Nat), w + k = 4 → ∀ x5 x6 : Option Value, Fx mX4_nextOf (some (.int (nI (jnx (G 1) b n a 4).1)), rM F G) 17 [some (.ref 0), some (.int (nI b)), some (.int (nI (jnx (G 1) b n a w).1)), some (.int (jnx (G 1) b n a w).2), some (.int (nI w)), x5, x6] [] (rM F G) := by
    intro k
    induction k with
    | zero =>
      intro w hw x5 x6
      have hw' : w = 4 := by omega
      subst hw'
      refine fx_iload dX4_nextOf_17 rfl ?_
      refine fx_iconst (v := nI 4) dX4_nextOf_19 (by decide) ?_
      refine fx_icmp_ge (tgt := 81) dX4_nextOf_20 (by decide) rfl (fun hc20 => ?_) (fun hc20 => ?_)
      · refine fx_iload_n dX4_nextOf_81 rfl rfl ?_
        exact fx_ireq dX4_nextOf_82 rfl rfl rfl rfl
      · exact absurd (Int32.le_refl _) hc20
    | succ k ih =>
      intro w hw x5 x6
      have hlt := jnx_lt (V := G 1) (b := b) (n := n) ha w (by omega)
      have ih1 := ih (w + 1) (by omega)
      rcases jbes_or a ha w (by omega) with z | ⟨z1, z2⟩
      · have e1 : jnx (G 1) b n a (w + 1) = jnx (G 1) b n a w := if_pos (by rw [z]; decide)
        rw [e1] at ih1
        refine fx_iload dX4_nextOf_17 rfl ?_
        refine fx_iconst (v := nI 4) dX4_nextOf_19 (by decide) ?_
        refine fx_icmp_ge (tgt := 81) dX4_nextOf_20 (by decide) rfl (fun hc20 => ?_) (fun hc20 => ?_)
        · exact absurd hc20 (nI_ge (by omega) (by omega))
        · refine fx_aload_n dX4_nextOf_23 rfl rfl ?_
          refine fx_aload_n dX4_nextOf_24 rfl rfl ?_
          refine fx_iload_n dX4_nextOf_25 rfl rfl ?_
          refine fx_iconst (v := nI 1) dX4_nextOf_26 (by decide) ?_
          refine fx_callVv dX4_nextOf_27 vX4_bellIs lX4_101 (by decide) rfl (Nat.le_of_ble_eq_true rfl) (eM_bell (by omega) (by decide)) rfl ?_
          rw [ea]
          refine fx_iload dX4_nextOf_30 rfl ?_
          refine fx_callVv dX4_nextOf_32 vX4_beside lX4_138 (by decide) rfl (Nat.le_of_ble_eq_true rfl) (eX4_beside hK ha (by omega)) rfl ?_
          rw [z]
          refine fs_istore_5 dX4_nextOf_35 rfl (by decide) ?_
          refine fx_iload dX4_nextOf_37 rfl ?_
          refine fx_if_ge (tgt := 46) dX4_nextOf_39 (by decide) rfl (fun hc39 => ?_) (fun hc39 => ?_)
          · exact absurd hc39 (by decide)
          · refine fx_iload_n dX4_nextOf_42 rfl rfl ?_
            refine fx_goto (tgt := 53) dX4_nextOf_43 (by decide) ?_
            refine fs_istore_6 dX4_nextOf_53 rfl (by decide) ?_
            refine fx_iload dX4_nextOf_55 rfl ?_
            refine fx_iload_n dX4_nextOf_57 rfl rfl ?_
            refine fx_icmp_le (tgt := 66) dX4_nextOf_58 (by decide) rfl (fun hc58 => ?_) (fun hc58 => ?_)
            · refine fx_iload_n dX4_nextOf_66 rfl rfl ?_
              refine fs_istore_n_2 dX4_nextOf_67 rfl (by decide) ?_
              refine fx_iload_n dX4_nextOf_68 rfl rfl ?_
              refine fx_iload dX4_nextOf_69 rfl ?_
              refine fx_max dX4_nextOf_71 lX4_132 (by decide) (Nat.le_of_ble_eq_true rfl) ?_
              rw [jmax_self]
              refine fs_istore_n_3 dX4_nextOf_74 rfl (by decide) ?_
              refine fs_iinc_4 (w := nI 1) dX4_nextOf_75 (by decide) rfl (by decide) ?_
              refine fx_goto (tgt := 17) dX4_nextOf_78 (by decide) ?_
              rw [nI_add]
              exact ih1 _ _
            · exact absurd (Int32.le_refl _) hc58
      · have z3 : ¬ jbes a w < 0 := by rw [z2]; exact nI_pos (by omega)
        have e1 : jnx (G 1) b n a (w + 1) = (if (jnx (G 1) b n a w).2 < jworth (G 1) b (jbesN a w) n then jbesN a w else (jnx (G 1) b n a w).1, jmax (jnx (G 1) b n a w).2 (jworth (G 1) b (jbesN a w) n)) := if_neg z3
        rw [e1] at ih1
        refine fx_iload dX4_nextOf_17 rfl ?_
        refine fx_iconst (v := nI 4) dX4_nextOf_19 (by decide) ?_
        refine fx_icmp_ge (tgt := 81) dX4_nextOf_20 (by decide) rfl (fun hc20 => ?_) (fun hc20 => ?_)
        · exact absurd hc20 (nI_ge (by omega) (by omega))
        · refine fx_aload_n dX4_nextOf_23 rfl rfl ?_
          refine fx_aload_n dX4_nextOf_24 rfl rfl ?_
          refine fx_iload_n dX4_nextOf_25 rfl rfl ?_
          refine fx_iconst (v := nI 1) dX4_nextOf_26 (by decide) ?_
          refine fx_callVv dX4_nextOf_27 vX4_bellIs lX4_101 (by decide) rfl (Nat.le_of_ble_eq_true rfl) (eM_bell (by omega) (by decide)) rfl ?_
          rw [ea]
          refine fx_iload dX4_nextOf_30 rfl ?_
          refine fx_callVv dX4_nextOf_32 vX4_beside lX4_138 (by decide) rfl (Nat.le_of_ble_eq_true rfl) (eX4_beside hK ha (by omega)) rfl ?_
          rw [z2]
          refine fs_istore_5 dX4_nextOf_35 rfl (by decide) ?_
          refine fx_iload dX4_nextOf_37 rfl ?_
          refine fx_if_ge (tgt := 46) dX4_nextOf_39 (by decide) rfl (fun hc39 => ?_) (fun hc39 => ?_)
          · refine fx_aload_n dX4_nextOf_46 rfl rfl ?_
            refine fx_iload_n dX4_nextOf_47 rfl rfl ?_
            refine fx_iload dX4_nextOf_48 rfl ?_
            refine fx_callVv dX4_nextOf_50 vX4_worthOf lX4_135 (by decide) rfl (Nat.le_of_ble_eq_true rfl) (eX4_worthOf hV hb z1) rfl ?_
            refine fs_istore_6 dX4_nextOf_53 rfl (by decide) ?_
            refine fx_iload dX4_nextOf_55 rfl ?_
            refine fx_iload_n dX4_nextOf_57 rfl rfl ?_
            refine fx_icmp_le (tgt := 66) dX4_nextOf_58 (by decide) rfl (fun hc58 => ?_) (fun hc58 => ?_)
            · refine fx_iload_n dX4_nextOf_66 rfl rfl ?_
              refine fs_istore_n_2 dX4_nextOf_67 rfl (by decide) ?_
              refine fx_iload_n dX4_nextOf_68 rfl rfl ?_
              refine fx_iload dX4_nextOf_69 rfl ?_
              refine fx_max dX4_nextOf_71 lX4_132 (by decide) (Nat.le_of_ble_eq_true rfl) ?_
              refine fs_istore_n_3 dX4_nextOf_74 rfl (by decide) ?_
              refine fs_iinc_4 (w := nI 1) dX4_nextOf_75 (by decide) rfl (by decide) ?_
              refine fx_goto (tgt := 17) dX4_nextOf_78 (by decide) ?_
              rw [nI_add]
              first | (rw [if_pos (Int32.not_le.mp hc58)] at ih1; exact ih1 _ _) | (rw [if_neg (Int32.not_lt.mpr hc58)] at ih1; exact ih1 _ _)
            · refine fx_iload dX4_nextOf_61 rfl ?_
              refine fx_goto (tgt := 67) dX4_nextOf_63 (by decide) ?_
              refine fs_istore_n_2 dX4_nextOf_67 rfl (by decide) ?_
              refine fx_iload_n dX4_nextOf_68 rfl rfl ?_
              refine fx_iload dX4_nextOf_69 rfl ?_
              refine fx_max dX4_nextOf_71 lX4_132 (by decide) (Nat.le_of_ble_eq_true rfl) ?_
              refine fs_istore_n_3 dX4_nextOf_74 rfl (by decide) ?_
              refine fs_iinc_4 (w := nI 1) dX4_nextOf_75 (by decide) rfl (by decide) ?_
              refine fx_goto (tgt := 17) dX4_nextOf_78 (by decide) ?_
              rw [nI_add]
              first | (rw [if_pos (Int32.not_le.mp hc58)] at ih1; exact ih1 _ _) | (rw [if_neg (Int32.not_lt.mpr hc58)] at ih1; exact ih1 _ _)
          · exact absurd (nI_pos' (by omega)) hc39
  refine fx_aload_n dX4_nextOf_0 rfl rfl ?_
  refine fx_iload_n dX4_nextOf_1 rfl rfl ?_
  refine fx_iconst (v := nI 1) dX4_nextOf_2 (by decide) ?_
  refine fx_callVv dX4_nextOf_3 vX4_bellIs lX4_101 (by decide) rfl (Nat.le_of_ble_eq_true rfl) (eM_bell (by omega) (by decide)) rfl ?_
  rw [ea]
  refine fs_istore_n_2 dX4_nextOf_6 rfl (by decide) ?_
  refine fx_aload_n dX4_nextOf_7 rfl rfl ?_
  refine fx_iload_n dX4_nextOf_8 rfl rfl ?_
  refine fx_iload_n dX4_nextOf_9 rfl rfl ?_
  refine fx_callVv dX4_nextOf_10 vX4_worthOf lX4_135 (by decide) rfl (Nat.le_of_ble_eq_true rfl) (eX4_worthOf hV hb ha) rfl ?_
  refine fs_istore_n_3 dX4_nextOf_13 rfl (by decide) ?_
  refine fx_iconst (v := nI 0) dX4_nextOf_14 (by decide) ?_
  refine fs_istore_4 dX4_nextOf_15 rfl (by decide) ?_
  exact H 4 0 (by omega) _ _
end
