/-! ===== what the tables and the premises say of the start ===== -/
set_option maxRecDepth 100000
section ST
variable {s : State} {b : Nat}
theorem zs_w (hts : ∀ w ∈ lw_tbl, w.before #[Value.ref b] s = true) {w : Cond} (h : w ∈ z_T) : w.before #[Value.ref b] s = true := hts w (List.mem_filter.mp h).1
theorem zs_n (hts : ∀ w ∈ lw_tbl, w.before #[Value.ref b] s = true) : z_nst s := by
  intro w hw
  obtain ⟨h1, h2⟩ := List.mem_filter.mp hw
  have hk : w.onTables = true := by cases w <;> first | rfl | (simp [z_isN] at h2)
  exact va_Nw.of hk (hts w h1)
theorem zs_ao (hts : ∀ w ∈ lw_tbl, w.before #[Value.ref b] s = true) : zq_AO s := ⟨va_AO.of (A := #[Value.ref b]) (hts _ (z_t1 122 (by decide +kernel))), va_AO.of (A := #[Value.ref b]) (hts _ (z_t4 1 (by decide +kernel)))⟩
theorem zs_ty (hts : ∀ w ∈ lw_tbl, w.before #[Value.ref b] s = true) : ∃ tA : Nat → ClassId, ∀ (k : Nat) (q : ClassId × FieldType), (z_tys tA)[k]? = some q → ArrOfT s q.1 q.2 ∧ va_RA s q.1 q.2 := by
  obtain ⟨cI, kI, compI, i1, i2, i3⟩ := Cond.arrayClass_spec (args := #[Value.ref b]) (first := s) (o := none) (s := s) (idx := []) (type := .int) (zs_w hts zq_ac)
  have ho : ∀ C, va_AO C s → ∃ cA : ClassId, ArrOfT s cA (.object C) ∧ va_RA s cA (.object C) := by
    intro C h
    obtain ⟨comp, cA, k, h1, h2, h3, h4, h5⟩ := Cond.arrayOver_spec h
    exact ⟨cA, fun n z => ⟨fun k h => (by cases h), k, h3, comp, h4⟩, k, comp, h3, h4, h1, h5⟩
  obtain ⟨c1, g1⟩ := ho _ (zs_ao hts).1
  obtain ⟨c2, g2⟩ := ho _ (zs_ao hts).2
  refine ⟨fun k => match k with | 0 => cI | 1 => c1 | _ => c2, fun k q hq => ?_⟩
  match k with
  | 0 => cases hq; exact ⟨fun n z => ⟨fun k h => (by cases h), kI, i2, compI, i3⟩, i1⟩
  | 1 => cases hq; exact g1
  | 2 => cases hq; exact g2
  | k + 3 => cases hq
theorem zs_K (hts : ∀ w ∈ lw_tbl, w.before #[Value.ref b] s = true) : ∃ (D : va_G) (tA : Nat → ClassId), va_K D vwCl (z_tys tA) s := by
  obtain ⟨tA, htA⟩ := zs_ty hts
  have hT : ∀ w ∈ z_T, w.before #[Value.ref b] s = true := fun w hw => zs_w hts hw
  obtain ⟨c0, d0, g0⟩ := u_known hT z_k0.2.1 (hts _ (z_t1 123 (by decide +kernel)) : (Cond.instantiable RX0 3).before #[Value.ref b] s = true)
  obtain ⟨c1, d1, g1⟩ := u_known hT z_k1.2.1 (hts _ (z_t1 93 (by decide +kernel)) : (Cond.instantiable RX1 7).before #[Value.ref b] s = true)
  obtain ⟨c2, d2, g2⟩ := u_known hT z_k2.2.1 (hts _ (z_t1 23 (by decide +kernel)) : (Cond.instantiable RX2 14).before #[Value.ref b] s = true)
  obtain ⟨c3, d3, g3⟩ := u_known hT z_k3.2.1 (hts _ (z_t1 15 (by decide +kernel)) : (Cond.instantiable RX3 8).before #[Value.ref b] s = true)
  obtain ⟨c4, d4, g4⟩ := u_known hT z_k4.2.1 (hts _ (z_t3 235 (by decide +kernel)) : (Cond.instantiable RX4 24).before #[Value.ref b] s = true)
  refine ⟨(fun k => match k with | 0 => c0 | 1 => c1 | 2 => c2 | 3 => c3 | _ => c4, fun k => match k with | 0 => d0 | 1 => d1 | 2 => d2 | 3 => d3 | _ => d4), tA, fun k q hq => ?_, htA⟩
  match k with
  | 0 => cases hq; exact g0
  | 1 => cases hq; exact g1
  | 2 => cases hq; exact g2
  | 3 => cases hq; exact g3
  | 4 => cases hq; exact g4
  | k + 5 => cases hq
/-- the texts: for each the class and the place of a constant that has it -/
def zs_tx : List (String × Nat) := [("WildBells$Tape", 98), ("WildBells$Tape", 86), ("WildBells$Tape", 88), ("WildBells$Tape", 90), ("WildBells$Tape", 92), ("WildBells$Tape", 94), ("WildBells$Tape", 96), ("WildBells$Tape", 58), ("WildBells$Tape", 67), ("WildBells$Tape", 72), ("WildBells$Tape", 77), ("WildBells$Tape", 105), ("WildBells$Tape", 111), ("WildBells$Tape", 113)]
def zs_tm (i : Nat) : Term := .string (zs_tx.getD i ("", 0)).1 (zs_tx.getD i ("", 0)).2
def zs_F : List Cond := flatC (Jvm.Cond.and given_1 narrow_1)
theorem zs_all : ∀ i, i < 14 → Cond.exactly (zs_tm i) "java/lang/String" ∈ zs_F ∧ Cond.eq (.field (zs_tm i) "java/lang/String" "coder" "B") (.int 0) ∈ zs_F ∧ Cond.arrayOf (.field (zs_tm i) "java/lang/String" "value" "[B") .byte ∈ zs_F ∧ Cond.eq (.length (.field (zs_tm i) "java/lang/String" "value" "[B")) (.int (Int32.ofNat (z_len.getD i 0))) ∈ zs_F ∧ ∀ j, j < z_len.getD i 0 → Cond.eq (.elem (.field (zs_tm i) "java/lang/String" "value" "[B") (.int (Int32.ofNat j))) (.int ((z_byt.getD i []).getD j 0)) ∈ zs_F := by decide +kernel
theorem zs_apart : ∀ i, i < 14 → ∀ j, j < 14 → i ≠ j → z_len.getD i 0 ≠ z_len.getD j 0 ∨ ∃ k, k < z_len.getD i 0 ∧ (z_byt.getD i []).getD k 0 ≠ (z_byt.getD j []).getD k 0 := by decide +kernel
theorem zs_len : ∀ i, i < 14 → z_len.getD i 0 < 100 := by decide +kernel
theorem zs_S (hF : ∀ w ∈ zs_F, w.before #[Value.ref b] s = true) : ∃ adK adV : Nat → Nat, vk_S 14 z_len z_byt adK adV (fun q => s.heap.size ≤ q) s s.heap ∧ ∀ i, i < 14 → (zs_tm i).eval #[Value.ref b] s none [] s = some (.ref (adK i)) := by
  have hA : ∀ a : Nat, a < s.heap.size → ¬ s.heap.size ≤ a := fun a h => Nat.not_le.mpr h
  have h0 : ∀ i : Nat, ∃ q : Nat × Nat, i < 14 → (zs_tm i).eval #[Value.ref b] s none [] s = some (.ref q.1) ∧ va_O "java/lang/String" q.1 (fun q => s.heap.size ≤ q) s s.heap ∧ va_OF "java/lang/String" "coder" "B" (.int 0) q.1 (fun q => s.heap.size ≤ q) s s.heap ∧ va_OF "java/lang/String" "value" "[B" (.ref q.2) q.1 (fun q => s.heap.size ≤ q) s s.heap ∧ va_T .byte q.2 (z_len.getD i 0) (fun j => .int ((z_byt.getD i []).getD j 0)) (fun q => s.heap.size ≤ q) s s.heap := by
    intro i
    by_cases hi : i < 14
    · obtain ⟨a1, a2, a3, a4, a5⟩ := zs_all i hi
      have hl := zs_len i hi
      obtain ⟨adK, adV, h1, h2⟩ := vk_Sof (args := #[Value.ref b]) (s := s) (N := 1) (tm := fun _ => zs_tm i) (len := [z_len.getD i 0]) (byt := [z_byt.getD i []]) (A := fun q => s.heap.size ≤ q) (fun k hk => by rw [show k = 0 by omega]; show z_len.getD i 0 < 2 ^ 31; omega) (fun _ _ => hF _ a1) (fun _ _ => hF _ a2) (fun _ _ => hF _ a3) (fun k hk => by rw [show k = 0 by omega]; exact hF _ a4) (fun k hk j hj => by
        have e : k = 0 := by omega
        subst e
        exact hF _ (a5 j hj)) (fun k j hk hj hne => absurd (show k = j by omega) hne) hA
      obtain ⟨g1, g2, g3, g4⟩ := h1.1 0 (by decide)
      exact ⟨(adK 0, adV 0), fun _ => ⟨h2 0 (by decide), g1, g2, g3, g4⟩⟩
    · exact ⟨(0, 0), fun h => absurd h hi⟩
  obtain ⟨ad, had⟩ := Classical.axiomOfChoice h0
  refine ⟨fun i => (ad i).1, fun i => (ad i).2, ⟨fun i hi => (had i hi).2, fun i j hi hj e => ?_⟩, fun i hi => (had i hi).1⟩
  by_cases hij : i = j
  · exact hij
  · exfalso
    obtain ⟨-, -, -, ⟨cf1, k1, i1, f1, cell1, a1, a2, a3, a4, a5, a6⟩, ⟨cT1, t1, t2, t3, t4, t5, t6, t7⟩⟩ := had i hi
    obtain ⟨-, -, -, ⟨cf2, k2, i2, f2, cell2, b1, b2, b3, b4, b5, b6⟩, ⟨cT2, u1, u2, u3, u4, u5, u6, u7⟩⟩ := had j hj
    have e0 : (ad i).1 = (ad j).1 := e
    rw [e0] at a3
    cases a3.symm.trans b3
    cases a1.symm.trans b1
    have ev : (ad i).2 = (ad j).2 := by
      have := a5.symm.trans b5
      exact Value.ref.inj (Option.some.inj this)
    rw [ev] at t1
    cases t1.symm.trans u1
    have hl1 := zs_len i hi
    have hl2 := zs_len j hj
    have el : z_len.getD i 0 = z_len.getD j 0 := (nI_eq (by omega) (by omega)).mp (t5.symm.trans u5)
    rcases zs_apart i hi j hj hij with h | ⟨k, hk, h⟩
    · exact h el
    · have := (t6 k hk).symm.trans (u6 k (by omega))
      exact h (Value.int.inj (Option.some.inj this))
theorem zs_KA (hts : ∀ w ∈ lw_tbl, w.before #[Value.ref b] s = true) (hF : ∀ w ∈ zs_F, w.before #[Value.ref b] s = true) : ∃ t : Nat, va_Z "WildBells" "KIND_ABOVE" "[I" (.ref t) (fun q => s.heap.size ≤ q) s s.heap ∧ va_T .int t 7 (fun j => .int (z_ka.getD j 0)) (fun q => s.heap.size ≤ q) s s.heap := by
  have hA : ∀ a : Nat, a < s.heap.size → ¬ s.heap.size ≤ a := fun a h => Nat.not_le.mpr h
  have h7 : ∀ j, j < 7 → Cond.eq (.elem (.static "WildBells" "KIND_ABOVE" "[I") (.int (Int32.ofNat j))) (.int (z_ka.getD j 0)) ∈ zs_F := by decide +kernel
  obtain ⟨t, h1, h2⟩ := va_Tof (args := #[Value.ref b]) (s := s) (tm := .static "WildBells" "KIND_ABOVE" "[I") (ty := .int) (N := 7) (f := fun j => .int (z_ka.getD j 0)) (A := fun q => s.heap.size ≤ q) (by decide) (hF _ (by decide +kernel)) (va_eqt (hF _ (by decide +kernel))) (fun j hj => va_eqt (hF _ (h7 j hj))) hA
  exact ⟨t, va_Zof (hts _ (z_t2 33 (by decide +kernel))) (zs_w hts z_iX3) h1 hA, h2⟩
/-- every constant's text, and the eq premise where it is the model's -/
theorem zs_rows : ∀ r ∈ z_sx, r.2.2.2 < 14 ∧ Cond.stringRef r.1 r.2.1 r.2.2.1 ∈ lw_tbl ∧ (Term.string r.1 r.2.1 = zs_tm r.2.2.2 ∨ Cond.eq (zs_tm r.2.2.2) (.string r.1 r.2.1) ∈ zs_F) := by decide +kernel
theorem zs_E (hts : ∀ w ∈ lw_tbl, w.before #[Value.ref b] s = true) (hF : ∀ w ∈ zs_F, w.before #[Value.ref b] s = true) : ∃ E : zE, z_EX E (fun q => s.heap.size ≤ q) s s.heap := by
  have hA : ∀ a : Nat, a < s.heap.size → ¬ s.heap.size ≤ a := fun a h => Nat.not_le.mpr h
  obtain ⟨adK, adV, h1, h2⟩ := zs_S hF
  obtain ⟨t, h3, h4⟩ := zs_KA hts hF
  refine ⟨(adK, adV, t), h1, fun r hr => ?_, h3, h4, va_Zof (hts _ (z_t3 84 (by decide +kernel))) (zs_w hts z_iJ0) (va_eqt (hF _ (by decide +kernel))) hA, va_Zqof (hts _ (z_t3 100 (by decide +kernel))) (zs_w hts z_iJ3) (hF _ (by decide +kernel)) hA⟩
  obtain ⟨g1, g2, g3⟩ := zs_rows r hr
  rcases g3 with g3 | g3
  · exact vk_R.of (hts _ g2) (by rw [g3]; exact h2 _ g1)
  · exact vk_R.of (hts _ g2) (va_eqR (hF _ g3) (h2 _ g1))
end ST
