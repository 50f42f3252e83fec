/-! ===== Math.max, min, abs ===== -/
section FM
variable {M : zM} {out : Option Value × zH} {pc : Nat} {L : List (Option Value)} {S : List Value} {h : zH}
theorem z_mx : Cond.static Lib.Math.max.name ∈ z_T ∧ Cond.initialized "java/lang/Math" ∈ z_T ∧ Cond.code Lib.Math.max.name Lib.Math.max.code 2 (some .int) ∈ z_T := ⟨z_in (z_t1 213 (by decide +kernel)) rfl, z_in (z_t1 6 (by decide +kernel)) rfl, z_in (z_t1 214 (by decide +kernel)) rfl⟩
theorem z_mn : Cond.static Lib.Math.min.name ∈ z_T ∧ Cond.initialized "java/lang/Math" ∈ z_T ∧ Cond.code Lib.Math.min.name Lib.Math.min.code 2 (some .int) ∈ z_T := ⟨z_in (z_t2 23 (by decide +kernel)) rfl, z_in (z_t1 6 (by decide +kernel)) rfl, z_in (z_t2 24 (by decide +kernel)) rfl⟩
theorem z_mb : Cond.static Lib.Math.abs.name ∈ z_T ∧ Cond.initialized "java/lang/Math" ∈ z_T ∧ Cond.code Lib.Math.abs.name Lib.Math.abs.code 1 (some .int) ∈ z_T := ⟨z_in (z_t4 155 (by decide +kernel)) rfl, z_in (z_t1 6 (by decide +kernel)) rfl, z_in (z_t4 156 (by decide +kernel)) rfl⟩
def jmax (x y : Int32) : Int32 := if x < y then y else x
def jmin (x y : Int32) : Int32 := if y < x then y else x
def jabs (x : Int32) : Int32 := if 0 ≤ x then x else 0 - x
theorem fx_max {idx : Nat} {x y : Int32} (hd : decode M.2.1 pc = .ok (.invokestatic idx, 3)) (hk : Cond.methodLink M.1.cls idx yJ9_max_7cf53 ∈ z_T) (hdep : 1 ≤ M.2.2.2.2) (hr : (S.map fun v => v.category).sum ≤ 8) (k : Fx M out (pc + 3) L (.int (jmax x y) :: S) h) : Fx M out pc L (.int y :: .int x :: S) h := by
  refine ⟨k.1, fun E D tA ad p l e s m args below meth c C H locs ls hl hP hS => ?_⟩
  obtain ⟨c1, c2, c3, c4, c5, c6, c7, c8, c9, c10, c11, c12⟩ := id C
  have hroom : (((S.map (z_g ad)).map fun v => v.category).sum + 13) ≤ (z_rm M.2.2.2.2).locals := by
    rw [z_cats]
    show _ ≤ 31 * M.2.2.2.2
    omega
  exact va_mmax c1 c2 (by rw [c4]; exact hl.1.symm) c5 (c6 _ (z_Tw hk)) (c6 _ (z_Tw z_mx.1)) (c6 _ (z_Tw z_mx.2.1)) (c6 _ (z_Tw z_mx.2.2)) hdep hroom (Nat.zero_le _) (Nat.zero_le _) hd (k.2 E D tA ad p l e s m args below meth c C H locs ls hl hP hS)
theorem fx_min {idx : Nat} {x y : Int32} (hd : decode M.2.1 pc = .ok (.invokestatic idx, 3)) (hk : Cond.methodLink M.1.cls idx yJ9_min_7cf53 ∈ z_T) (hdep : 1 ≤ M.2.2.2.2) (hr : (S.map fun v => v.category).sum ≤ 8) (k : Fx M out (pc + 3) L (.int (jmin x y) :: S) h) : Fx M out pc L (.int y :: .int x :: S) h := by
  refine ⟨k.1, fun E D tA ad p l e s m args below meth c C H locs ls hl hP hS => ?_⟩
  obtain ⟨c1, c2, c3, c4, c5, c6, c7, c8, c9, c10, c11, c12⟩ := id C
  have hroom : (((S.map (z_g ad)).map fun v => v.category).sum + 13) ≤ (z_rm M.2.2.2.2).locals := by
    rw [z_cats]
    show _ ≤ 31 * M.2.2.2.2
    omega
  exact va_mmin c1 c2 (by rw [c4]; exact hl.1.symm) c5 (c6 _ (z_Tw hk)) (c6 _ (z_Tw z_mn.1)) (c6 _ (z_Tw z_mn.2.1)) (c6 _ (z_Tw z_mn.2.2)) hdep hroom (Nat.zero_le _) (Nat.zero_le _) hd (k.2 E D tA ad p l e s m args below meth c C H locs ls hl hP hS)
theorem fx_abs {idx : Nat} {x : Int32} (hd : decode M.2.1 pc = .ok (.invokestatic idx, 3)) (hk : Cond.methodLink M.1.cls idx yJ9_abs_0f7a4 ∈ z_T) (hdep : 1 ≤ M.2.2.2.2) (hr : (S.map fun v => v.category).sum ≤ 8) (k : Fx M out (pc + 3) L (.int (jabs x) :: S) h) : Fx M out pc L (.int x :: S) h := by
  refine ⟨k.1, fun E D tA ad p l e s m args below meth c C H locs ls hl hP hS => ?_⟩
  obtain ⟨c1, c2, c3, c4, c5, c6, c7, c8, c9, c10, c11, c12⟩ := id C
  have hroom : (((S.map (z_g ad)).map fun v => v.category).sum + 13) ≤ (z_rm M.2.2.2.2).locals := by
    rw [z_cats]
    show _ ≤ 31 * M.2.2.2.2
    omega
  exact va_mabs c1 c2 (by rw [c4]; exact hl.1.symm) c5 (c6 _ (z_Tw hk)) (c6 _ (z_Tw z_mb.1)) (c6 _ (z_Tw z_mb.2.1)) (c6 _ (z_Tw z_mb.2.2)) hdep hroom (Nat.zero_le _) (Nat.zero_le _) hd (k.2 E D tA ad p l e s m args below meth c C H locs ls hl hP hS)
end FM
