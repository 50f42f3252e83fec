/-! ===== the reference: nearest, worth, next ===== -/
set_option maxRecDepth 100000
theorem nI_ne0' {b : Bool} (h : ¬ jB b = 0) : b = true := by cases b <;> first | rfl | exact absurd rfl h
theorem nI_eq0' {b : Bool} (h : jB b = 0) : b = false := jB_0.mp h
def jnr (V : Nat → Int32) (b kd o : Nat) : Bool := !decide (nI o = nI b) && (!decide (V (146 + 5 * o + 4) = nI 1) && jund (V (146 + 5 * o + 0)).toNatClampNeg kd)
def jnear (V : Nat → Int32) (b c kd : Nat) : Nat → Int32
  | 0 => (-1)
  | o + 1 => if jnr V b kd o = true ∧ (jnear V b c kd o < 0 ∨ japart (nI c) (V (146 + 5 * o + 1)) < jnear V b c kd o) then japart (nI c) (V (146 + 5 * o + 1)) else jnear V b c kd o
section
variable {F : Nat → Int32} {G : Nat → Nat → Int32} {n : Nat}
theorem eX4_nearestOther {b c kd : Nat} (hV : jW (G 1) n) (hkd : kd < 7) : Mx mX4_nearestOther [.ref 0, .int (nI b), .int (nI c), .int (nI kd)] (rM F G) (some (.int (jnear (G 1) b c kd n))) (rM F G) := by
  refine mx_of (L := [some (.ref 0), some (.int (nI b)), some (.int (nI c)), some (.int (nI kd)), none, none, none, none]) (by decide) (fun _ => rfl) (fun _ => Nat.le_of_ble_eq_true rfl) ?_
  have H : ∀ (k o : Nat), o + k = n → ∀ x6 x7 : Option Value, Fx mX4_nearestOther (some (.int (jnear (G 1) b c kd n)), rM F G) 6 [some (.ref 0), some (.int (nI b)), some (.int (nI c)), some (.int (nI kd)), some (.int (jnear (G 1) b c kd o)), some (.int (nI o)), x6, x7] [] (rM F G) := by
    intro k
    induction k with
    | zero =>
      intro o ho x6 x7
      have ho' : o = n := by omega
      subst ho'
      refine fx_iload dX4_nearestOther_6 rfl ?_
      refine fx_aload_n dX4_nearestOther_8 rfl rfl ?_
      refine fx_get dX4_nearestOther_9 kX4_9 rfl rfl ?_
      refine fx_iconst (v := nI 2) dX4_nearestOther_12 (by decide) ?_
      refine fx_iald dX4_nearestOther_13 rfl (vp_in_nI (by decide) (by decide)) ?_
      rw [nI_clamp (n := 2) (by decide), hV.1]
      refine fx_icmp_ge (tgt := 98) dX4_nearestOther_14 (by decide) rfl (fun hc14 => ?_) (fun hc14 => ?_)
      · refine fx_iload dX4_nearestOther_98 rfl ?_
        exact fx_ireq dX4_nearestOther_100 rfl rfl rfl rfl
      · exact absurd (Int32.le_refl _) hc14
    | succ k ih =>
      intro o ho x6 x7
      have hn8 := hV.2.1
      have ho8 : o < 8 := by omega
      obtain ⟨⟨kk, hkk, ekk⟩, -, -, -, -⟩ := hV.2.2.1 o (by omega)
      have J90 : ∀ x6 x7 : Option Value, Fx mX4_nearestOther (some (.int (jnear (G 1) b c kd n)), rM F G) 90 [some (.ref 0), some (.int (nI b)), some (.int (nI c)), some (.int (nI kd)), some (.int (jnear (G 1) b c kd o)), some (.int (nI o)), x6, x7] [.int (jnear (G 1) b c kd (o + 1))] (rM F G) := by
        intro x6 x7
        refine fs_istore_4 dX4_nearestOther_90 rfl (by decide) ?_
        refine fs_iinc_5 (w := nI 1) dX4_nearestOther_92 (by decide) rfl (by decide) ?_
        refine fx_goto (tgt := 6) dX4_nearestOther_95 (by decide) ?_
        rw [nI_add]
        exact ih (o + 1) (by omega) _ _
      have J51 : ∀ v : Bool, jnr (G 1) b kd o = v → ∀ x6 x7 : Option Value, Fx mX4_nearestOther (some (.int (jnear (G 1) b c kd n)), rM F G) 51 [some (.ref 0), some (.int (nI b)), some (.int (nI c)), some (.int (nI kd)), some (.int (jnear (G 1) b c kd o)), some (.int (nI o)), x6, x7] [.int (jB v)] (rM F G) := by
        intro v hv x6 x7
        have hy : (jnr (G 1) b kd o = true ∧ (jnear (G 1) b c kd o < 0 ∨ japart (nI c) (G 1 (146 + 5 * o + 1)) < jnear (G 1) b c kd o)) → jnear (G 1) b c kd (o + 1) = japart (nI c) (G 1 (146 + 5 * o + 1)) := fun q => if_pos q
        have hn : ¬ (jnr (G 1) b kd o = true ∧ (jnear (G 1) b c kd o < 0 ∨ japart (nI c) (G 1 (146 + 5 * o + 1)) < jnear (G 1) b c kd o)) → jnear (G 1) b c kd (o + 1) = jnear (G 1) b c kd o := fun q => if_neg q
        refine fs_istore_6 dX4_nearestOther_51 rfl (by decide) ?_
        refine fx_iload_n dX4_nearestOther_53 rfl rfl ?_
        refine fx_aload_n dX4_nearestOther_54 rfl rfl ?_
        refine fx_iload dX4_nearestOther_55 rfl ?_
        refine fx_iconst (v := nI 1) dX4_nearestOther_57 (by decide) ?_
        refine fx_callVv dX4_nearestOther_58 vX4_bellIs lX4_101 (by decide) rfl (Nat.le_of_ble_eq_true rfl) (eM_bell ho8 (by decide)) rfl ?_
        refine fx_callSv dX4_nearestOther_61 sX4_apart lX4_122 (by decide) (Nat.le_of_ble_eq_true rfl) eX4_apart rfl ?_
        refine fs_istore_7 dX4_nearestOther_64 rfl (by decide) ?_
        refine fx_iload dX4_nearestOther_66 rfl ?_
        refine fx_if_eq (tgt := 88) dX4_nearestOther_68 (by decide) rfl (fun hc68 => ?_) (fun hc68 => ?_)
        · refine fx_iload dX4_nearestOther_88 rfl ?_
          first | (rw [← hy ⟨hv.trans (nI_ne0' hc68), Or.inl hc73⟩]; exact fx_eq (J90 _ _) rfl rfl rfl) | (rw [← hy ⟨hv.trans (nI_ne0' hc68), Or.inr (Int32.not_le.mp hc80)⟩]; exact fx_eq (J90 _ _) rfl rfl rfl) | (refine fx_eq (J90 _ _) rfl ?_ rfl; rw [hn (fun q => by rw [hv, nI_eq0' hc68] at q; exact absurd q.1 (by decide))]) | (refine fx_eq (J90 _ _) rfl ?_ rfl; rw [hn (fun q => q.2.elim (fun z => hc73 z) (fun z => absurd hc80 (Int32.not_le.mpr z)))])
        · refine fx_iload dX4_nearestOther_71 rfl ?_
          refine fx_if_lt (tgt := 83) dX4_nearestOther_73 (by decide) rfl (fun hc73 => ?_) (fun hc73 => ?_)
          · refine fx_iload dX4_nearestOther_83 rfl ?_
            refine fx_goto (tgt := 90) dX4_nearestOther_85 (by decide) ?_
            first | (rw [← hy ⟨hv.trans (nI_ne0' hc68), Or.inl hc73⟩]; exact fx_eq (J90 _ _) rfl rfl rfl) | (rw [← hy ⟨hv.trans (nI_ne0' hc68), Or.inr (Int32.not_le.mp hc80)⟩]; exact fx_eq (J90 _ _) rfl rfl rfl) | (refine fx_eq (J90 _ _) rfl ?_ rfl; rw [hn (fun q => by rw [hv, nI_eq0' hc68] at q; exact absurd q.1 (by decide))]) | (refine fx_eq (J90 _ _) rfl ?_ rfl; rw [hn (fun q => q.2.elim (fun z => hc73 z) (fun z => absurd hc80 (Int32.not_le.mpr z)))])
          · refine fx_iload dX4_nearestOther_76 rfl ?_
            refine fx_iload dX4_nearestOther_78 rfl ?_
            refine fx_icmp_ge (tgt := 88) dX4_nearestOther_80 (by decide) rfl (fun hc80 => ?_) (fun hc80 => ?_)
            · refine fx_iload dX4_nearestOther_88 rfl ?_
              first | (rw [← hy ⟨hv.trans (nI_ne0' hc68), Or.inl hc73⟩]; exact fx_eq (J90 _ _) rfl rfl rfl) | (rw [← hy ⟨hv.trans (nI_ne0' hc68), Or.inr (Int32.not_le.mp hc80)⟩]; exact fx_eq (J90 _ _) rfl rfl rfl) | (refine fx_eq (J90 _ _) rfl ?_ rfl; rw [hn (fun q => by rw [hv, nI_eq0' hc68] at q; exact absurd q.1 (by decide))]) | (refine fx_eq (J90 _ _) rfl ?_ rfl; rw [hn (fun q => q.2.elim (fun z => hc73 z) (fun z => absurd hc80 (Int32.not_le.mpr z)))])
            · refine fx_iload dX4_nearestOther_83 rfl ?_
              refine fx_goto (tgt := 90) dX4_nearestOther_85 (by decide) ?_
              first | (rw [← hy ⟨hv.trans (nI_ne0' hc68), Or.inl hc73⟩]; exact fx_eq (J90 _ _) rfl rfl rfl) | (rw [← hy ⟨hv.trans (nI_ne0' hc68), Or.inr (Int32.not_le.mp hc80)⟩]; exact fx_eq (J90 _ _) rfl rfl rfl) | (refine fx_eq (J90 _ _) rfl ?_ rfl; rw [hn (fun q => by rw [hv, nI_eq0' hc68] at q; exact absurd q.1 (by decide))]) | (refine fx_eq (J90 _ _) rfl ?_ rfl; rw [hn (fun q => q.2.elim (fun z => hc73 z) (fun z => absurd hc80 (Int32.not_le.mpr z)))])
      refine fx_iload dX4_nearestOther_6 rfl ?_
      refine fx_aload_n dX4_nearestOther_8 rfl rfl ?_
      refine fx_get dX4_nearestOther_9 kX4_9 rfl rfl ?_
      refine fx_iconst (v := nI 2) dX4_nearestOther_12 (by decide) ?_
      refine fx_iald dX4_nearestOther_13 rfl (vp_in_nI (by decide) (by decide)) ?_
      rw [nI_clamp (n := 2) (by decide), hV.1]
      refine fx_icmp_ge (tgt := 98) dX4_nearestOther_14 (by decide) rfl (fun hc14 => ?_) (fun hc14 => ?_)
      · exact absurd hc14 (nI_ge (by omega) (by omega))
      · refine fx_iload dX4_nearestOther_17 rfl ?_
        refine fx_iload_n dX4_nearestOther_19 rfl rfl ?_
        refine fx_icmp_eq (tgt := 50) dX4_nearestOther_20 (by decide) rfl (fun hc20 => ?_) (fun hc20 => ?_)
        · refine fx_iconst (v := nI 0) dX4_nearestOther_50 (by decide) ?_
          first | exact fx_eq (J51 true (by unfold jnr; rw [ekk, nI_clamp (by omega), nI_ne0' hc43, nI_eq0' hc29, decide_eq_false hc20]; rfl) _ _) rfl rfl rfl | exact fx_eq (J51 false (by unfold jnr; rw [decide_eq_true hc20]; rfl) _ _) rfl rfl rfl | exact fx_eq (J51 false (by unfold jnr; rw [nI_ne0' hc29]; cases decide (nI o = nI b) <;> rfl) _ _) rfl rfl rfl | exact fx_eq (J51 false (by unfold jnr; rw [ekk, nI_clamp (by omega), nI_eq0' hc43]; cases decide (nI o = nI b) <;> cases decide (G 1 (146 + 5 * o + 4) = nI 1) <;> rfl) _ _) rfl rfl rfl
        · refine fx_aload_n dX4_nearestOther_23 rfl rfl ?_
          refine fx_iload dX4_nearestOther_24 rfl ?_
          refine fx_callVv dX4_nearestOther_26 vX4_isCaught lX4_115 (by decide) rfl (Nat.le_of_ble_eq_true rfl) (eX4_isCaught ho8) rfl ?_
          refine fx_if_ne (tgt := 50) dX4_nearestOther_29 (by decide) rfl (fun hc29 => ?_) (fun hc29 => ?_)
          · refine fx_iconst (v := nI 0) dX4_nearestOther_50 (by decide) ?_
            first | exact fx_eq (J51 true (by unfold jnr; rw [ekk, nI_clamp (by omega), nI_ne0' hc43, nI_eq0' hc29, decide_eq_false hc20]; rfl) _ _) rfl rfl rfl | exact fx_eq (J51 false (by unfold jnr; rw [decide_eq_true hc20]; rfl) _ _) rfl rfl rfl | exact fx_eq (J51 false (by unfold jnr; rw [nI_ne0' hc29]; cases decide (nI o = nI b) <;> rfl) _ _) rfl rfl rfl | exact fx_eq (J51 false (by unfold jnr; rw [ekk, nI_clamp (by omega), nI_eq0' hc43]; cases decide (nI o = nI b) <;> cases decide (G 1 (146 + 5 * o + 4) = nI 1) <;> rfl) _ _) rfl rfl rfl
          · refine fx_aload_n dX4_nearestOther_32 rfl rfl ?_
            refine fx_iload dX4_nearestOther_33 rfl ?_
            refine fx_iconst (v := nI 0) dX4_nearestOther_35 (by decide) ?_
            refine fx_callVv dX4_nearestOther_36 vX4_bellIs lX4_101 (by decide) rfl (Nat.le_of_ble_eq_true rfl) (eM_bell ho8 (by decide)) rfl ?_
            refine fx_iload_n dX4_nearestOther_39 rfl rfl ?_
            rw [ekk]
            refine fx_callSv dX4_nearestOther_40 sX4_isUnder lX4_118 (by decide) (Nat.le_of_ble_eq_true rfl) (eX4_isUnder hkk hkd) rfl ?_
            refine fx_if_eq (tgt := 50) dX4_nearestOther_43 (by decide) rfl (fun hc43 => ?_) (fun hc43 => ?_)
            · refine fx_iconst (v := nI 0) dX4_nearestOther_50 (by decide) ?_
              first | exact fx_eq (J51 true (by unfold jnr; rw [ekk, nI_clamp (by omega), nI_ne0' hc43, nI_eq0' hc29, decide_eq_false hc20]; rfl) _ _) rfl rfl rfl | exact fx_eq (J51 false (by unfold jnr; rw [decide_eq_true hc20]; rfl) _ _) rfl rfl rfl | exact fx_eq (J51 false (by unfold jnr; rw [nI_ne0' hc29]; cases decide (nI o = nI b) <;> rfl) _ _) rfl rfl rfl | exact fx_eq (J51 false (by unfold jnr; rw [ekk, nI_clamp (by omega), nI_eq0' hc43]; cases decide (nI o = nI b) <;> cases decide (G 1 (146 + 5 * o + 4) = nI 1) <;> rfl) _ _) rfl rfl rfl
            · refine fx_iconst (v := nI 1) dX4_nearestOther_46 (by decide) ?_
              refine fx_goto (tgt := 51) dX4_nearestOther_47 (by decide) ?_
              first | exact fx_eq (J51 true (by unfold jnr; rw [ekk, nI_clamp (by omega), nI_ne0' hc43, nI_eq0' hc29, decide_eq_false hc20]; rfl) _ _) rfl rfl rfl | exact fx_eq (J51 false (by unfold jnr; rw [decide_eq_true hc20]; rfl) _ _) rfl rfl rfl | exact fx_eq (J51 false (by unfold jnr; rw [nI_ne0' hc29]; cases decide (nI o = nI b) <;> rfl) _ _) rfl rfl rfl | exact fx_eq (J51 false (by unfold jnr; rw [ekk, nI_clamp (by omega), nI_eq0' hc43]; cases decide (nI o = nI b) <;> cases decide (G 1 (146 + 5 * o + 4) = nI 1) <;> rfl) _ _) rfl rfl rfl
  refine fx_iconst (v := (-1)) dX4_nearestOther_0 (by decide) ?_
  refine fs_istore_4 dX4_nearestOther_1 rfl (by decide) ?_
  refine fx_iconst (v := nI 0) dX4_nearestOther_3 (by decide) ?_
  refine fs_istore_5 dX4_nearestOther_4 rfl (by decide) ?_
  exact H n 0 (by omega) _ _
end
/-- how far a cell is from the nearest hunter, fear at most -/
def jfar (V : Nat → Int32) (c : Nat) : Nat → Int32
  | 0 => V 1
  | h + 1 => if V (14 + h) < 0 then jfar V c h else jmin (jfar V c h) (japart (nI c) (V (14 + h)))
def jplain (V : Nat → Int32) (c : Nat) : Int32 := nI 10 * jfar V c 4 + nI 9 - V (82 + c)
def jnr20 (x : Int32) : Int32 := if x < 0 then nI 0 else jmax (nI 0) (nI 20 - x)
def jlone (V : Nat → Int32) (b c n : Nat) : Int32 := jplain V c + jmax (nI 0) (jnear V b c 0 n)
def jten (V : Nat → Int32) (b c n : Nat) : Int32 := jlone V b c n + nI 7 - nI c / nI 8
def jwk (V : Nat → Int32) (b c n kk : Nat) : Int32 :=
  if kk = 0 then jplain V c else if kk = 5 then jplain V c - nI 2 * japart (nI c) (nI 0)
  else if kk = 1 then jplain V c + jnr20 (jnear V b c 1 n) + nI 0 else if kk = 6 then jplain V c + jnr20 (jnear V b c 1 n) + nI 2 * V (82 + c)
  else if kk = 2 then jlone V b c n else if kk = 3 then jten V b c n else nI 2 * jten V b c n
def jworth (V : Nat → Int32) (b c n : Nat) : Int32 := jwk V b c n (V (146 + 5 * b + 0)).toNatClampNeg
section
variable {F : Nat → Int32} {G : Nat → Nat → Int32} {n : Nat}
theorem eX4_worthOf {b c : Nat} (hV : jW (G 1) n) (hb : b < n) (hc : c < 64) : Mx mX4_worthOf [.ref 0, .int (nI b), .int (nI c)] (rM F G) (some (.int (jworth (G 1) b c n))) (rM F G) := by
  refine mx_of (L := [some (.ref 0), some (.int (nI b)), some (.int (nI c)), none, none, none, none, none, none]) (by decide) (fun _ => rfl) (fun _ => Nat.le_of_ble_eq_true rfl) ?_
  have hn8 := hV.2.1
  obtain ⟨⟨kk, hkk, ekk⟩, -, -, -, -⟩ := hV.2.2.1 b hb
  have hk7 : kk = 0 ∨ kk = 1 ∨ kk = 2 ∨ kk = 3 ∨ kk = 4 ∨ kk = 5 ∨ kk = 6 := by omega
  have ew : jworth (G 1) b c n = jwk (G 1) b c n kk := by unfold jworth; rw [ekk, nI_clamp (by omega)]
  rw [ew]
  have J58 : ∀ x5 x6 x7 x8 : Option Value, Fx mX4_worthOf (some (.int (jwk (G 1) b c n kk)), rM F G) 58 [some (.ref 0), some (.int (nI b)), some (.int (nI c)), some (.int (jfar (G 1) c 4)), some (.int (nI 4)), x5, x6, x7, x8] [] (rM F G) := by
    intro x5 x6 x7 x8
    have J159 : (¬ nI kk = 0 → ¬ nI kk = nI 5 → Fx mX4_worthOf (some (.int (jwk (G 1) b c n kk)), rM F G) 121 [some (.ref 0), some (.int (nI b)), some (.int (nI c)), some (.int (jfar (G 1) c 4)), some (.int (G 1 (82 + c))), some (.int (jplain (G 1) c)), some (.int (nI kk)), x7, x8] [] (rM F G)) → Fx mX4_worthOf (some (.int (jwk (G 1) b c n kk)), rM F G) 58 [some (.ref 0), some (.int (nI b)), some (.int (nI c)), some (.int (jfar (G 1) c 4)), some (.int (nI 4)), x5, x6, x7, x8] [] (rM F G) := by
      intro K
      refine fx_aload_n dX4_worthOf_58 rfl rfl ?_
      refine fx_get dX4_worthOf_59 kX4_9 rfl rfl ?_
      refine fx_bipush (v := nI 82) dX4_worthOf_62 (by decide) ?_
      refine fx_iload_n dX4_worthOf_64 rfl rfl ?_
      refine fx_iadd dX4_worthOf_65 ?_
      rw [nI_add]
      refine fx_iald dX4_worthOf_66 rfl (vp_in_nI (by omega) (by omega)) ?_
      rw [nI_clamp (by omega)]
      refine fs_istore_4 dX4_worthOf_67 rfl (by decide) ?_
      refine fx_bipush (v := nI 10) dX4_worthOf_69 (by decide) ?_
      refine fx_iload_n dX4_worthOf_71 rfl rfl ?_
      refine fx_imul dX4_worthOf_72 ?_
      refine fx_bipush (v := nI 9) dX4_worthOf_73 (by decide) ?_
      refine fx_iadd dX4_worthOf_75 ?_
      refine fx_iload dX4_worthOf_76 rfl ?_
      refine fx_isub dX4_worthOf_78 ?_
      refine fx_as (y := jplain (G 1) c) rfl ?_
      refine fs_istore_5 dX4_worthOf_79 rfl (by decide) ?_
      refine fx_aload_n dX4_worthOf_81 rfl rfl ?_
      refine fx_iload_n dX4_worthOf_82 rfl rfl ?_
      refine fx_iconst (v := nI 0) dX4_worthOf_83 (by decide) ?_
      refine fx_callVv dX4_worthOf_84 vX4_bellIs lX4_101 (by decide) rfl (Nat.le_of_ble_eq_true rfl) (eM_bell (by omega) (by decide)) rfl ?_
      rw [ekk]
      refine fs_istore_6 dX4_worthOf_87 rfl (by decide) ?_
      refine fx_iload dX4_worthOf_89 rfl ?_
      refine fx_if_eq (tgt := 100) dX4_worthOf_91 (by decide) rfl (fun hc91 => ?_) (fun hc91 => ?_)
      · refine fx_iload dX4_worthOf_100 rfl ?_
        refine fx_if_ne (tgt := 110) dX4_worthOf_102 (by decide) rfl (fun hc102 => ?_) (fun hc102 => ?_)
        · refine fx_iload dX4_worthOf_110 rfl ?_
          refine fx_iconst (v := nI 2) dX4_worthOf_112 (by decide) ?_
          refine fx_iload_n dX4_worthOf_113 rfl rfl ?_
          refine fx_iconst (v := nI 0) dX4_worthOf_114 (by decide) ?_
          refine fx_callSv dX4_worthOf_115 sX4_apart lX4_122 (by decide) (Nat.le_of_ble_eq_true rfl) eX4_apart rfl ?_
          refine fx_imul dX4_worthOf_118 ?_
          refine fx_isub dX4_worthOf_119 ?_
          exact fx_ireq dX4_worthOf_120 rfl rfl (by rcases hk7 with rfl | rfl | rfl | rfl | rfl | rfl | rfl <;> first | exact absurd hc91 (by decide) | exact absurd (by decide) hc91 | exact absurd hc97 (by decide) | exact absurd (by decide) hc97 | exact absurd hc102 (by decide) | exact absurd (by decide) hc102 | exact rfl) rfl
        · refine fx_iload dX4_worthOf_105 rfl ?_
          refine fx_goto (tgt := 120) dX4_worthOf_107 (by decide) ?_
          exact fx_ireq dX4_worthOf_120 rfl rfl (by rcases hk7 with rfl | rfl | rfl | rfl | rfl | rfl | rfl <;> first | exact absurd hc91 (by decide) | exact absurd (by decide) hc91 | exact absurd hc97 (by decide) | exact absurd (by decide) hc97 | exact absurd hc102 (by decide) | exact absurd (by decide) hc102 | exact rfl) rfl
      · refine fx_iload dX4_worthOf_94 rfl ?_
        refine fx_iconst (v := nI 5) dX4_worthOf_96 (by decide) ?_
        refine fx_icmp_ne (tgt := 121) dX4_worthOf_97 (by decide) rfl (fun hc97 => ?_) (fun hc97 => ?_)
        · exact K hc91 hc97
        · refine fx_iload dX4_worthOf_100 rfl ?_
          refine fx_if_ne (tgt := 110) dX4_worthOf_102 (by decide) rfl (fun hc102 => ?_) (fun hc102 => ?_)
          · refine fx_iload dX4_worthOf_110 rfl ?_
            refine fx_iconst (v := nI 2) dX4_worthOf_112 (by decide) ?_
            refine fx_iload_n dX4_worthOf_113 rfl rfl ?_
            refine fx_iconst (v := nI 0) dX4_worthOf_114 (by decide) ?_
            refine fx_callSv dX4_worthOf_115 sX4_apart lX4_122 (by decide) (Nat.le_of_ble_eq_true rfl) eX4_apart rfl ?_
            refine fx_imul dX4_worthOf_118 ?_
            refine fx_isub dX4_worthOf_119 ?_
            exact fx_ireq dX4_worthOf_120 rfl rfl (by rcases hk7 with rfl | rfl | rfl | rfl | rfl | rfl | rfl <;> first | exact absurd hc91 (by decide) | exact absurd (by decide) hc91 | exact absurd hc97 (by decide) | exact absurd (by decide) hc97 | exact absurd hc102 (by decide) | exact absurd (by decide) hc102 | exact rfl) rfl
          · refine fx_iload dX4_worthOf_105 rfl ?_
            refine fx_goto (tgt := 120) dX4_worthOf_107 (by decide) ?_
            exact fx_ireq dX4_worthOf_120 rfl rfl (by rcases hk7 with rfl | rfl | rfl | rfl | rfl | rfl | rfl <;> first | exact absurd hc91 (by decide) | exact absurd (by decide) hc91 | exact absurd hc97 (by decide) | exact absurd (by decide) hc97 | exact absurd hc102 (by decide) | exact absurd (by decide) hc102 | exact rfl) rfl
    refine J159 (fun hc91 hc97 => ?_)
    have J159 : jund kk 1 = true → ∀ x7 x8 : Option Value, Fx mX4_worthOf (some (.int (jwk (G 1) b c n kk)), rM F G) 159 [some (.ref 0), some (.int (nI b)), some (.int (nI c)), some (.int (jfar (G 1) c 4)), some (.int (G 1 (82 + c))), some (.int (jplain (G 1) c)), some (.int (nI kk)), x7, x8] [.int (jnr20 (jnear (G 1) b c 1 n)), .int (jplain (G 1) c)] (rM F G) := by
      intro hu x7 x8
      refine fx_iadd dX4_worthOf_159 ?_
      refine fx_iload dX4_worthOf_160 rfl ?_
      refine fx_bipush (v := nI 6) dX4_worthOf_162 (by decide) ?_
      refine fx_icmp_ne (tgt := 174) dX4_worthOf_164 (by decide) rfl (fun hc164 => ?_) (fun hc164 => ?_)
      · refine fx_iconst (v := nI 0) dX4_worthOf_174 (by decide) ?_
        refine fx_iadd dX4_worthOf_175 ?_
        exact fx_ireq dX4_worthOf_176 rfl rfl (by rcases hk7 with rfl | rfl | rfl | rfl | rfl | rfl | rfl <;> first | exact absurd hu (by decide) | exact absurd hc164 (by decide) | exact absurd (by decide) hc164 | exact rfl) rfl
      · refine fx_iconst (v := nI 2) dX4_worthOf_167 (by decide) ?_
        refine fx_iload dX4_worthOf_168 rfl ?_
        refine fx_imul dX4_worthOf_170 ?_
        refine fx_goto (tgt := 175) dX4_worthOf_171 (by decide) ?_
        refine fx_iadd dX4_worthOf_175 ?_
        exact fx_ireq dX4_worthOf_176 rfl rfl (by rcases hk7 with rfl | rfl | rfl | rfl | rfl | rfl | rfl <;> first | exact absurd hu (by decide) | exact absurd hc164 (by decide) | exact absurd (by decide) hc164 | exact rfl) rfl
    refine fx_iload dX4_worthOf_121 rfl ?_
    refine fx_iconst (v := nI 1) dX4_worthOf_123 (by decide) ?_
    refine fx_callSv dX4_worthOf_124 sX4_isUnder lX4_118 (by decide) (Nat.le_of_ble_eq_true rfl) (eX4_isUnder hkk (by decide)) rfl ?_
    refine fx_if_eq (tgt := 177) dX4_worthOf_127 (by decide) rfl (fun hc127 => ?_) (fun hc127 => ?_)
    · refine fx_iload dX4_worthOf_177 rfl ?_
      refine fx_iconst (v := nI 0) dX4_worthOf_179 (by decide) ?_
      refine fx_aload_n dX4_worthOf_180 rfl rfl ?_
      refine fx_iload_n dX4_worthOf_181 rfl rfl ?_
      refine fx_iload_n dX4_worthOf_182 rfl rfl ?_
      refine fx_iconst (v := nI 0) dX4_worthOf_183 (by decide) ?_
      refine fx_callVv dX4_worthOf_184 vX4_nearestOther lX4_128 (by decide) rfl (Nat.le_of_ble_eq_true rfl) (eX4_nearestOther hV (by decide)) rfl ?_
      refine fx_max dX4_worthOf_187 lX4_132 (by decide) (Nat.le_of_ble_eq_true rfl) ?_
      refine fx_iadd dX4_worthOf_190 ?_
      refine fx_as (y := jlone (G 1) b c n) rfl ?_
      refine fs_istore_7 dX4_worthOf_191 rfl (by decide) ?_
      refine fx_iload dX4_worthOf_193 rfl ?_
      refine fx_bipush (v := nI 7) dX4_worthOf_195 (by decide) ?_
      refine fx_iadd dX4_worthOf_197 ?_
      refine fx_iload_n dX4_worthOf_198 rfl rfl ?_
      refine fx_bipush (v := nI 8) dX4_worthOf_199 (by decide) ?_
      refine fx_idiv dX4_worthOf_201 (by decide) ?_
      refine fx_isub dX4_worthOf_202 ?_
      refine fx_as (y := jten (G 1) b c n) rfl ?_
      refine fs_istore_8 dX4_worthOf_203 rfl (by decide) ?_
      refine fx_iload dX4_worthOf_205 rfl ?_
      refine fx_iconst (v := nI 2) dX4_worthOf_207 (by decide) ?_
      refine fx_icmp_ne (tgt := 216) dX4_worthOf_208 (by decide) rfl (fun hc208 => ?_) (fun hc208 => ?_)
      · refine fx_iload dX4_worthOf_216 rfl ?_
        refine fx_iconst (v := nI 3) dX4_worthOf_218 (by decide) ?_
        refine fx_icmp_ne (tgt := 227) dX4_worthOf_219 (by decide) rfl (fun hc219 => ?_) (fun hc219 => ?_)
        · refine fx_iconst (v := nI 2) dX4_worthOf_227 (by decide) ?_
          refine fx_iload dX4_worthOf_228 rfl ?_
          refine fx_imul dX4_worthOf_230 ?_
          exact fx_ireq dX4_worthOf_231 rfl rfl (by have hu := nI_eq0' hc127; rcases hk7 with rfl | rfl | rfl | rfl | rfl | rfl | rfl <;> first | exact absurd hu (by decide) | exact absurd (by decide) hc91 | exact absurd (by decide) hc97 | exact absurd hc208 (by decide) | exact absurd (by decide) hc208 | exact absurd hc219 (by decide) | exact absurd (by decide) hc219 | exact rfl) rfl
        · refine fx_iload dX4_worthOf_222 rfl ?_
          refine fx_goto (tgt := 231) dX4_worthOf_224 (by decide) ?_
          exact fx_ireq dX4_worthOf_231 rfl rfl (by have hu := nI_eq0' hc127; rcases hk7 with rfl | rfl | rfl | rfl | rfl | rfl | rfl <;> first | exact absurd hu (by decide) | exact absurd (by decide) hc91 | exact absurd (by decide) hc97 | exact absurd hc208 (by decide) | exact absurd (by decide) hc208 | exact absurd hc219 (by decide) | exact absurd (by decide) hc219 | exact rfl) rfl
      · refine fx_iload dX4_worthOf_211 rfl ?_
        refine fx_goto (tgt := 231) dX4_worthOf_213 (by decide) ?_
        exact fx_ireq dX4_worthOf_231 rfl rfl (by have hu := nI_eq0' hc127; rcases hk7 with rfl | rfl | rfl | rfl | rfl | rfl | rfl <;> first | exact absurd hu (by decide) | exact absurd (by decide) hc91 | exact absurd (by decide) hc97 | exact absurd hc208 (by decide) | exact absurd (by decide) hc208 | exact absurd hc219 (by decide) | exact absurd (by decide) hc219 | exact rfl) rfl
    · refine fx_aload_n dX4_worthOf_130 rfl rfl ?_
      refine fx_iload_n dX4_worthOf_131 rfl rfl ?_
      refine fx_iload_n dX4_worthOf_132 rfl rfl ?_
      refine fx_iconst (v := nI 1) dX4_worthOf_133 (by decide) ?_
      refine fx_callVv dX4_worthOf_134 vX4_nearestOther lX4_128 (by decide) rfl (Nat.le_of_ble_eq_true rfl) (eX4_nearestOther hV (by decide)) rfl ?_
      refine fs_istore_7 dX4_worthOf_137 rfl (by decide) ?_
      refine fx_iload dX4_worthOf_139 rfl ?_
      refine fx_iload dX4_worthOf_141 rfl ?_
      refine fx_if_ge (tgt := 150) dX4_worthOf_143 (by decide) rfl (fun hc143 => ?_) (fun hc143 => ?_)
      · refine fx_iconst (v := nI 0) dX4_worthOf_150 (by decide) ?_
        refine fx_bipush (v := nI 20) dX4_worthOf_151 (by decide) ?_
        refine fx_iload dX4_worthOf_153 rfl ?_
        refine fx_isub dX4_worthOf_155 ?_
        refine fx_max dX4_worthOf_156 lX4_132 (by decide) (Nat.le_of_ble_eq_true rfl) ?_
        first | exact fx_eq (J159 (nI_ne0' hc127) _ _) rfl (by unfold jnr20; rw [if_pos (Int32.not_le.mp hc143)]) rfl | exact fx_eq (J159 (nI_ne0' hc127) _ _) rfl (by unfold jnr20; rw [if_neg (Int32.not_lt.mpr hc143)]) rfl
      · refine fx_iconst (v := nI 0) dX4_worthOf_146 (by decide) ?_
        refine fx_goto (tgt := 159) dX4_worthOf_147 (by decide) ?_
        first | exact fx_eq (J159 (nI_ne0' hc127) _ _) rfl (by unfold jnr20; rw [if_pos (Int32.not_le.mp hc143)]) rfl | exact fx_eq (J159 (nI_ne0' hc127) _ _) rfl (by unfold jnr20; rw [if_neg (Int32.not_lt.mpr hc143)]) rfl
  have H : ∀ (k o : Nat), o + k = 4 → ∀ x5 x6 x7 x8 : Option Value, Fx mX4_worthOf (some (.int (jwk (G 1) b c n kk)), rM F G) 10 [some (.ref 0), some (.int (nI b)), some (.int (nI c)), some (.int (jfar (G 1) c o)), some (.int (nI o)), x5, x6, x7, x8] [] (rM F G) := by
    intro k
    induction k with
    | zero =>
      intro o ho x5 x6 x7 x8
      have ho' : o = 4 := by omega
      subst ho'
      refine fx_iload dX4_worthOf_10 rfl ?_
      refine fx_iconst (v := nI 4) dX4_worthOf_12 (by decide) ?_
      refine fx_icmp_ge (tgt := 58) dX4_worthOf_13 (by decide) rfl (fun hc13 => ?_) (fun hc13 => ?_)
      · exact J58 _ _ _ _
      · exact absurd (Int32.le_refl _) hc13
    | succ k ih =>
      intro o ho x5 x6 x7 x8
      refine fx_iload dX4_worthOf_10 rfl ?_
      refine fx_iconst (v := nI 4) dX4_worthOf_12 (by decide) ?_
      refine fx_icmp_ge (tgt := 58) dX4_worthOf_13 (by decide) rfl (fun hc13 => ?_) (fun hc13 => ?_)
      · exact absurd hc13 (nI_ge (by omega) (by omega))
      · refine fx_aload_n dX4_worthOf_16 rfl rfl ?_
        refine fx_get dX4_worthOf_17 kX4_9 rfl rfl ?_
        refine fx_bipush (v := nI 14) dX4_worthOf_20 (by decide) ?_
        refine fx_iload dX4_worthOf_22 rfl ?_
        refine fx_iadd dX4_worthOf_24 ?_
        rw [nI_add]
        refine fx_iald dX4_worthOf_25 rfl (vp_in_nI (by omega) (by omega)) ?_
        rw [nI_clamp (by omega)]
        refine fx_if_ge (tgt := 33) dX4_worthOf_26 (by decide) rfl (fun hc26 => ?_) (fun hc26 => ?_)
        · refine fx_iload_n dX4_worthOf_33 rfl rfl ?_
          refine fx_iload_n dX4_worthOf_34 rfl rfl ?_
          refine fx_aload_n dX4_worthOf_35 rfl rfl ?_
          refine fx_get dX4_worthOf_36 kX4_9 rfl rfl ?_
          refine fx_bipush (v := nI 14) dX4_worthOf_39 (by decide) ?_
          refine fx_iload dX4_worthOf_41 rfl ?_
          refine fx_iadd dX4_worthOf_43 ?_
          rw [nI_add]
          refine fx_iald dX4_worthOf_44 rfl (vp_in_nI (by omega) (by omega)) ?_
          rw [nI_clamp (by omega)]
          refine fx_callSv dX4_worthOf_45 sX4_apart lX4_122 (by decide) (Nat.le_of_ble_eq_true rfl) eX4_apart rfl ?_
          refine fx_min dX4_worthOf_48 lX4_125 (by decide) (Nat.le_of_ble_eq_true rfl) ?_
          first | refine fx_as (y := jfar (G 1) c (o + 1)) (if_pos (Int32.not_le.mp hc26)).symm ?_ | refine fx_as (y := jfar (G 1) c (o + 1)) (if_neg (Int32.not_lt.mpr hc26)).symm ?_
          refine fs_istore_n_3 dX4_worthOf_51 rfl (by decide) ?_
          refine fs_iinc_4 (w := nI 1) dX4_worthOf_52 (by decide) rfl (by decide) ?_
          refine fx_goto (tgt := 10) dX4_worthOf_55 (by decide) ?_
          rw [nI_add]
          exact ih (o + 1) (by omega) _ _ _ _
        · refine fx_iload_n dX4_worthOf_29 rfl rfl ?_
          refine fx_goto (tgt := 51) dX4_worthOf_30 (by decide) ?_
          first | refine fx_as (y := jfar (G 1) c (o + 1)) (if_pos (Int32.not_le.mp hc26)).symm ?_ | refine fx_as (y := jfar (G 1) c (o + 1)) (if_neg (Int32.not_lt.mpr hc26)).symm ?_
          refine fs_istore_n_3 dX4_worthOf_51 rfl (by decide) ?_
          refine fs_iinc_4 (w := nI 1) dX4_worthOf_52 (by decide) rfl (by decide) ?_
          refine fx_goto (tgt := 10) dX4_worthOf_55 (by decide) ?_
          rw [nI_add]
          exact ih (o + 1) (by omega) _ _ _ _
  refine fx_aload_n dX4_worthOf_0 rfl rfl ?_
  refine fx_get dX4_worthOf_1 kX4_9 rfl rfl ?_
  refine fx_iconst (v := nI 1) dX4_worthOf_4 (by decide) ?_
  refine fx_iald dX4_worthOf_5 rfl (vp_in_nI (by omega) (by omega)) ?_
  rw [nI_clamp (n := 1) (by decide)]
  refine fs_istore_n_3 dX4_worthOf_6 rfl (by decide) ?_
  refine fx_iconst (v := nI 0) dX4_worthOf_7 (by decide) ?_
  refine fs_istore_4 dX4_worthOf_8 rfl (by decide) ?_
  exact H 4 0 (by omega) _ _ _ _
end
