/-! ===== the start: the worlds that the constructors leave, and that they are a pair ===== -/
set_option maxRecDepth 100000
def i0F : Nat → Nat → Int32 := fun c j => match c, j with
  | 1, 4 => 3
  | 1, 11 => 1
  | 9, 4 => 3
  | 9, 11 => 1
  | 17, 4 => 3
  | 17, 11 => 1
  | _, _ => 0
def i0N : Nat → Nat → Int64 := fun _ _ => 0
def i0G : Nat → Nat → Int32 := fun k => match k with
  | 3 => zq_m4
  | 11 => zq_m4
  | 19 => zq_m4
  | 8 => zq_m10
  | 16 => zq_m10
  | 24 => zq_m10
  | _ => fun _ => 0
def i4F : Nat → Int32 := fun _ => 0
def i4G : Nat → Nat → Int32 := fun k => match k with
  | 1 => zq_v
  | 5 => upd (upd (upd (upd (fun _ => 0) 0 (-1)) 1 (0)) 2 (1)) 3 (0)
  | 6 => upd (upd (upd (upd (fun _ => 0) 0 (0)) 1 (1)) 2 (0)) 3 (-1)
  | _ => fun _ => 0
theorem KC : Kx mX3_init 3 [.null, .null, .null, .int 0, .null, .null, .null, .null] (rC i0F i0N i0G) 37 698 := KX3_init
theorem KM : Kx mX4_init 4 [.null, .null, .null, .int 0, .null, .null, .null, .int 0, .null, .null, .int 0, .int 0, .int 0, .int 0, .int 0, .int 0, .null, .null, .int 0, .int 0, .null, .null, .null, .null] (rM i4F i4G) 14 1489 := KX4_init
theorem zq_v0 (k : Nat) (h : 18 ≤ k) : zq_v k = 0 := by
  unfold zq_v
  simp only [upd]
  repeat rw [if_neg (by omega)]
theorem zq_m4_0 (k : Nat) (h : 4 ≤ k) : zq_m4 k = 0 := by
  unfold zq_m4
  simp only [upd]
  repeat rw [if_neg (by omega)]
theorem zq_m10_0 (k : Nat) (h : 10 ≤ k) : zq_m10 k = 0 := by
  unfold zq_m10
  simp only [upd]
  repeat rw [if_neg (by omega)]
theorem i0th : jth zq_v = fun _ => 0 := by
  funext c
  unfold jth
  by_cases h : c < 64
  · rw [if_pos h, zq_v0 _ (by omega)]
  · rw [if_neg h]
theorem i0hu : jhu zq_v = zq_m4 := by
  funext c
  unfold jhu
  by_cases h : c < 4
  · rw [if_pos h]
    exact (by decide +kernel : ∀ c, c < 4 → zq_v (14 + c) = zq_m4 c) c h
  · rw [if_neg h, zq_m4_0 _ (by omega)]
theorem i0bf (f : Nat) : jbf zq_v f = fun _ => 0 := by
  funext c
  unfold jbf
  by_cases h : c < 8
  · rw [if_pos h, zq_v0 _ (by omega)]
  · rw [if_neg h]
theorem i0sp : jspt zq_v = zq_m10 := by
  funext c
  unfold jspt
  by_cases h : c < 10
  · rw [if_pos h]
    exact (by decide +kernel : ∀ c, c < 10 → zq_v (4 + c) = zq_m10 c) c h
  · rw [if_neg h, zq_m10_0 _ (by omega)]
theorem i0I {w : Nat} (hw : zw w) : jI i0F i0N i0G w zq_v 0 0 0 := by
  refine ⟨?_, ?_, ?_, ?_, ?_, ?_, ?_, ?_, ?_, ?_, ?_, ?_, ?_, ?_⟩
  · rcases hw with rfl | rfl | rfl <;> rfl
  · have e : lN (jnm zq_v 64) = 0 := by decide +kernel
    rw [e]; rfl
  · rcases hw with rfl | rfl | rfl <;> decide +kernel
  · rcases hw with rfl | rfl | rfl <;> decide +kernel
  · have e : nI (jsN zq_v 0) = 0 := by decide +kernel
    rcases hw with rfl | rfl | rfl <;> decide +kernel
  · rcases hw with rfl | rfl | rfl <;> decide +kernel
  · rcases hw with rfl | rfl | rfl <;> decide +kernel
  · rw [i0th]; rcases hw with rfl | rfl | rfl <;> rfl
  · rw [i0hu]; rcases hw with rfl | rfl | rfl <;> rfl
  · rw [i0bf]; rcases hw with rfl | rfl | rfl <;> rfl
  · rw [i0bf]; rcases hw with rfl | rfl | rfl <;> rfl
  · rw [i0bf]; rcases hw with rfl | rfl | rfl <;> rfl
  · rw [i0bf]; rcases hw with rfl | rfl | rfl <;> rfl
  · rw [i0sp]; rcases hw with rfl | rfl | rfl <;> rfl
theorem i0R : jR i4F i4G i0F i0N i0G := by
  refine ⟨⟨0, 0, ⟨?_, by decide, fun b hb => absurd hb (Nat.not_lt_zero _), ?_, ?_, ?_, ?_, ?_⟩, ?_, ?_, by decide, i0I zw1⟩, ⟨zq_v, 0, 0, 0, i0I zw9⟩, ⟨zq_v, 0, 0, 0, i0I zw17, fun h => absurd rfl h⟩, ⟨⟨?_, ?_⟩, fun _ _ => rfl, fun _ _ => rfl⟩, ⟨rfl, Or.inl (by decide)⟩, ⟨fun k _ => ?_, by decide +kernel⟩, ⟨0, by decide, by decide, by decide, fun i hi => absurd hi (Nat.not_lt_zero _)⟩, fun s hs => ⟨Or.inl (show (0 : Int32) = nI 0 from by decide), 0, by decide, show (0 : Int32) = nI 0 from by decide⟩, ?_⟩
  · decide +kernel
  · exact fun h hh => Or.inl ((by decide +kernel : ∀ h, h < 4 → i4G 1 (14 + h) = (-1)) h hh)
  · exact fun c hc => Or.inl (by show zq_v (18 + c) = nI 0; rw [zq_v0 _ (by omega)]; decide)
  · exact fun c hc => ⟨0, by decide, by show zq_v (82 + c) = nI 0; rw [zq_v0 _ (by omega)]; decide⟩
  · exact ⟨3, by decide, by decide +kernel⟩
  · exact fun k hk => zq_v0 k (by omega)
  · exact fun s hs => Or.inl ((by decide +kernel : ∀ s, s < 10 → i4G 1 (4 + s) = (-1)) s hs)
  · exact ⟨0, by decide, by decide +kernel⟩
  · decide +kernel
  · decide +kernel
  · rfl
  · intro s hs
    match s, hs with
    | 0, _ => exact ⟨rfl, rfl, fun _ _ => rfl⟩
    | 1, _ => exact ⟨rfl, rfl, fun _ _ => rfl⟩
    | 2, _ => exact ⟨rfl, rfl, fun _ _ => rfl⟩
    | 3, _ => exact ⟨rfl, rfl, fun _ _ => rfl⟩
