/-! ===== the law ===== -/
set_option maxRecDepth 100000
section KX2
variable {M : zM} {E : zE} {D : va_G} {tA : Nat → ClassId} {A : Nat → Prop} {p : Program} {l : Launch} {e : Env} {rm : Room} {s : State} {m : MethodId} {args : Array Value} {below : List Frame} {meth : Method} {c : Code} {Q : State → Prop} {k n pc : Nat} {L : List (Nat × Value)} {S : List Value} {ws : va_W}
/-- another constructor, on the newest cell -/
theorem cj_call2 (C : zq_C M E D tA A p s m args meth c) {Y : zM} {idx ci a k1 n1 : Nat} {fs : List Value} {h1 : zH} {wr : va_W} (hd : decode M.2.1 pc = .ok (.invokespecial idx, 3)) (hY : z_ok Y) (hYp : z_np Y 0) (hYr : Y.2.2.2.1 = none) (hYn : Y.1.name = "<init>") (hYi : Cond.instanceMethod Y.1 ∈ z_T) (hk : z_Lm M.1.cls idx Y) (hf : Y.2.2.2.2 + 1 ≤ rm.frames) (hlo : 31 * Y.2.2.2.2 + 31 ≤ rm.locals) (hS0 : (S.map fun v => v.category).sum ≤ 8) (hc1 : k + k1 ≤ rm.cells) (hc2 : n + n1 ≤ rm.slots) (hM : Kx Y ci fs h1 k1 n1)
    (hw : ws = wr ++ [(a, .inr (ci, fs))]) (hz : va_nd (List.range wr.length) = true) (kk : ∀ ad : Nat → Nat, ad 0 = a → z_sa E ad → Cj M D A p l e rm s m args below meth c Q (k + k1) (n + n1) (pc + 3) L S (wr ++ z_ws tA ad 0 h1)) : Cj M D A p l e rm s m args below meth c Q k n pc L (.ref a :: S) ws := by
  intro H locs ls hl hP hD hS
  obtain ⟨c1, c2, c3, c4, c5, c6, c7, c8, c9, c10, c11, c12, c13⟩ := id C
  obtain ⟨y1, y2, y3, y4, y5⟩ := hY
  subst hw
  have hlast : (wr ++ [(a, (Sum.inr (ci, fs) : va_E))])[wr.length]? = some (a, .inr (ci, fs)) := by simp
  have hAa : A a := hD.2 wr.length _ hlast
  have hPc : va_P D vwCl [(a, .inr (ci, fs))] H := hP.sub [wr.length] (by simp)
  have hFc : ∀ q, zq_A a H.size q → A q := by
    intro q hq
    rcases hq with rfl | hq
    · exact hAa
    · exact c11 q (Nat.le_trans hS.1 hq)
  have hlo2 : 8 + (Y.2.2.1 + 11) + (zq_rm Y.2.2.2.2 k1 n1).locals ≤ rm.locals := by
    show 8 + (Y.2.2.1 + 11) + 31 * Y.2.2.2.2 ≤ rm.locals
    omega
  have hlr : 2 * (F0 m pc ls (.ref a :: S)).monitorRoom + (S.map fun v => v.category).sum ≤ 8 := lv_room hS0
  have hcode : Cond.code Y.1 Y.2.1 Y.2.2.1 none ∈ z_wd Y := by rw [← hYr]; exact List.mem_cons_self
  have y1' : Cond.code Y.1 Y.2.1 Y.2.2.1 none ∈ z_T := by rw [← hYr]; exact y1
  have hpre : PreS s H (va_Pc [.ref a] (zq_P E D tA a ci fs H.size)) (.ref a :: []) := by
    refine ⟨fun a' U g mk q => ?_, fun U hU hW => ⟨rfl, by rw [hU], by rw [hU]; exact hPc, va_K.moved hW.alike c8, c9.pass hW, ⟨va_AO.moved hW.alike c12.1, va_AO.moved hW.alike c12.2⟩, z_EX.pass c13 hU hW (fun a h1 h2 => hS.2.1 a h1 h2) hFc⟩⟩
    obtain ⟨q0, q1, q2, q3, q4, q5, q6⟩ := q
    exact ⟨q0, q1, q2, va_K.moved (u := U) (U := U.calling g mk a') (Vm.Alike.refl U.vm) q3, q4.calling, ⟨va_AO.moved (u := U) (U := U.calling g mk a') (Vm.Alike.refl U.vm) q5.1, va_AO.moved (u := U) (U := U.calling g mk a') (Vm.Alike.refl U.vm) q5.2⟩, q6.calling⟩
  have fin : ∀ {T : Prop}, T → T := fun h => h
  have go : va_Run p l e rm s m args below meth c H locs k n k1 n1 (F0 m pc ls (.ref a :: S)) S (zq_Q E D tA a h1 (zq_A a H.size) #[.ref a]) (zq_A a H.size) := by
    rcases hk with hk | ⟨host, hk⟩
    · exact va_runI (b := a) (As := []) (rest := S) (g := F0 m pc ls (.ref a :: S)) ⟨c1, c2, c4, c5, c6⟩ (hM l E D tA a H.size) ⟨⟨rfl, rfl, hf, hlo2, z_payT c6 y1, hcode, c6 _ y1', c6 _ y2, y3, hYp, c6 _ hk⟩, hYn, c6 _ hYi⟩ hpre rfl rfl hl.1 rfl hlr hd ⟨hc1, hc2⟩
    · exact va_runIN (b := a) (As := []) (rest := S) (g := F0 m pc ls (.ref a :: S)) (host := host) ⟨c1, c2, c4, c5, c6⟩ (hM l E D tA a H.size) ⟨⟨⟨rfl, rfl, hf, hlo2, z_payT c6 y1, hcode⟩, c6 _ y1', c6 _ y2, y3, hYp, va_Nw.use rfl (c9 _ hk)⟩, hYn, c6 _ hYi⟩ hpre rfl rfl hl.1 rfl hlr hd ⟨hc1, hc2⟩
  intro T hT X
  obtain ⟨v, st₀, t, T', LL, g0, X', hL, e1, e2, ⟨⟨hv, ad, ha, hsa, hP1, hD1⟩, hz1, hk1⟩, st⟩ := go T hT X
  cases hv
  rw [g0] at hz1 hk1
  have hA2 : ∀ q, va_A [(a, (Sum.inr (ci, fs) : va_E))] H.size q ↔ zq_A a H.size q := by
    intro q
    constructor
    · rintro (⟨j, x, hx⟩ | hx)
      · cases j with
        | zero => cases hx; exact Or.inl rfl
        | succ j => simp at hx
      · exact Or.inr hx
    · rintro (rfl | hx)
      · exact Or.inl ⟨0, _, rfl⟩
      · exact Or.inr hx
  obtain ⟨hP2, hD2⟩ := va_join (A0 := A) (wr := wr) (wc := [(a, .inr (ci, fs))]) (w1 := z_ws tA ad 0 h1) (H1 := t.heap) hP hD [wr.length] (List.range wr.length) (by simp) (zq_range wr _) hz (fun i hi => by have := List.mem_range.mp hi; simp only [List.mem_singleton]; omega) (fun q h2 h3 => hk1 q h2 (fun z => h3 ((hA2 q).mpr z))) (fun q h2 => hFc q ((hA2 q).mp h2)) hP1 (hD1.weaken (fun _ q _ h => (hA2 q.1).mpr h))
  obtain ⟨t2, a1, b1⟩ := kk ad ha hsa t.heap (locs ++ LL) ls hl hP2 hD2
    ⟨Nat.le_trans hS.1 hz1, fun q h2 h3 => by rw [hk1 q (Nat.lt_of_lt_of_le h2 hS.1) (fun z => h3 (hFc q z))]; exact hS.2.1 q h2 h3, fun q hq => by
      rcases List.mem_append.mp hq with h | h
      · exact hS.2.2 q h
      · exact hFc _ (hL q h)⟩ T' e1 X'
  exact ⟨t2, st t2 a1, b1⟩
theorem cj_astore (C : zq_C M E D tA A p s m args meth c) {j : Fin 4} {i x : Nat} {L' : List (Nat × Value)} (hd : decode M.2.1 pc = .ok (.astore_n j, 1)) (hi : (j : Nat) = i) (hm : i < M.2.2.1) (hL : (i, Value.ref x) :: L.filter (fun q => !(q.1 == i) && !(q.1 + 1 == i && q.2.category == 2)) = L') (kk : Cj M D A p l e rm s m args below meth c Q k n (pc + 1) L' S ws) : Cj M D A p l e rm s m args below meth c Q k n pc L (.ref x :: S) ws := fun H locs _ hl hP hD hS => lv_astore_n C.1 C.2.1 hd hi hl hm hL (fun ls hl2 => kk H locs ls hl2 hP hD hS)
end KX2
theorem zl_sep {A : Nat → Prop} {tA : Nat → ClassId} {adC adM : Nat → Nat} {hC hM : zH} (hD : va_D A (z_ws tA adC 0 hC ++ z_ws tA adM 0 hM)) : (z_ap adC hC.length ∧ ∀ i, i < hC.length → A (adC i)) ∧ (z_ap adM hM.length ∧ ∀ i, i < hM.length → A (adM i)) ∧ ∀ i j, i < hC.length → j < hM.length → adC i ≠ adM j := by
  have gC : ∀ i, i < hC.length → ∃ x : va_E, (z_ws tA adC 0 hC ++ z_ws tA adM 0 hM)[i]? = some (adC i, x) := fun i hi => by
    obtain ⟨x, hx⟩ := z_len_at hC i hi
    exact ⟨_, by rw [List.getElem?_append_left (by rw [z_ws_len]; exact hi)]; exact z_ws0 hx⟩
  have gM : ∀ i, i < hM.length → ∃ x : va_E, (z_ws tA adC 0 hC ++ z_ws tA adM 0 hM)[hC.length + i]? = some (adM i, x) := fun i hi => by
    obtain ⟨x, hx⟩ := z_len_at hM i hi
    exact ⟨_, by rw [List.getElem?_append_right (by rw [z_ws_len]; omega), z_ws_len, show hC.length + i - hC.length = i by omega]; exact z_ws0 hx⟩
  refine ⟨⟨fun i j hi hj e => ?_, fun i hi => ?_⟩, ⟨fun i j hi hj e => ?_, fun i hi => ?_⟩, fun i j hi hj e => ?_⟩
  · obtain ⟨x, hx⟩ := gC i hi
    obtain ⟨y, hy⟩ := gC j hj
    exact hD.1 i j _ _ hx hy e
  · obtain ⟨x, hx⟩ := gC i hi
    exact hD.2 _ _ hx
  · obtain ⟨x, hx⟩ := gM i hi
    obtain ⟨y, hy⟩ := gM j hj
    have := hD.1 _ _ _ _ hx hy e
    omega
  · obtain ⟨x, hx⟩ := gM i hi
    exact hD.2 _ _ hx
  · obtain ⟨x, hx⟩ := gC i hi
    obtain ⟨y, hy⟩ := gM j hj
    have := hD.1 _ _ _ _ hx hy e
    omega
theorem zl_le {L k0 : Nat} (hL : L ≤ 3072) (hk : k0 ≤ 4000) (h : ¬ nI L - nI 6 < nI k0) : k0 + 6 ≤ L := by
  by_cases h6 : 6 ≤ L
  · have e : nI L - nI 6 = nI (L - 6) := by
      rw [show nI L = nI (L - 6) + nI 6 by rw [nI_add]; congr 1; omega, Int32.add_sub_cancel]
    rw [e, nI_ltI (by omega) (by omega)] at h
    omega
  · exfalso
    have hn : ∀ L, L < 6 → nI L - nI 6 < 0 := by decide +kernel
    exact h (Int32.lt_of_lt_of_le (hn L (by omega)) (nI_pos' (by omega)))
section LL
variable {E : zE} {D : va_G} {tA : Nat → ClassId} {p : Program} {l : Launch} {e : Env} {s : State} {m : MethodId} {below : List Frame} {meth : Method} {c : Code} {b L : Nat} {xs : Nat → Int32} {adC adM : Nat → Nat} {k0 : Nat} {F4 : Nat → Int32} {G4 : Nat → Nat → Int32} {F : Nat → Nat → Int32} {N : Nat → Nat → Int64} {G : Nat → Nat → Int32}
theorem zl_step (C : zl_C E D tA p s m meth c b L xs) (X : zl_G E s adC adM) (hL : L ≤ 3072) (hk0 : k0 ≤ 4000) (ih : k0 + 6 ≤ L → ∀ (F4 : Nat → Int32) (G4 : Nat → Nat → Int32) (F : Nat → Nat → Int32) (N : Nat → Nat → Int64) (G : Nat → Nat → Int32), jR F4 G4 F N G → Lj D tA p l e s m below meth c b adC adM (lw_Z below #[Value.ref b] s) 18 (k0 + 6) [] (rC F N G) (rM F4 G4)) (R : jR F4 G4 F N G) : Lj D tA p l e s m below meth c b adC adM (lw_Z below #[Value.ref b] s) 18 k0 [] (rC F N G) (rM F4 G4) := by
  refine lj_i3 C dL_18 ?_
  refine lj_a0 C dL_19 ?_
  refine lj_len C dL_20 ?_
  refine lj_bp C (v := nI 6) dL_21 (by decide) ?_
  refine lj_isub C dL_23 ?_
  refine lj_gt C (tgt := 1541) dL_24 (by decide) (fun _ => lj_end C dL_1541 dL_1542) (fun hg => ?_)
  have h6 := zl_le hL hk0 hg
  have hk : ∀ k, k < 6 → k0 + k < L := fun k hk => by omega
  have kk : ∀ (F4 : Nat → Int32) (G4 : Nat → Nat → Int32) (F : Nat → Nat → Int32) (N : Nat → Nat → Int64) (G : Nat → Nat → Int32), jR F4 G4 F N G → Lj D tA p l e s m below meth c b adC adM (lw_Z below #[Value.ref b] s) 1535 k0 [] (rC F N G) (rM F4 G4) := fun F4 G4 F N G R => lj_inc C dL_1535 (lj_goto C (tgt := 18) dL_1538 (by decide) (ih h6 F4 G4 F N G R))
  refine lj_a0 C dL_27 ?_
  refine lj_i3 C dL_28 ?_
  refine lj_iald C (k := k0) (by omega) hL dL_29 ?_
  refine lj_bp C (v := nI 63) dL_30 (by decide) ?_
  refine lj_iand C dL_32 ?_
  by_cases hj : jwi (xs k0 &&& nI 63) (nI 0) (nI 47) = false
  · exact lj_tout C (tgt := 1535) dL_33 (jwi_out (by decide) hj) (by decide) (kk _ _ _ _ _ R)
  · obtain ⟨j, hj2, ej⟩ := jwi_of (k := 47) (by decide) (jbt_t hj)
    rw [ej]
    match j, hj2 with
    | 0, _ => exact lj_tin C (tgt := 240) dL_33 (by decide) (by decide) rfl (by decide) (LC_0 C X hk hL R kk)
    | 1, _ => exact lj_tin C (tgt := 273) dL_33 (by decide) (by decide) rfl (by decide) (LC_1 C X hk hL R kk)
    | 2, _ => exact lj_tin C (tgt := 306) dL_33 (by decide) (by decide) rfl (by decide) (LC_2 C X hk hL R kk)
    | 3, _ => exact lj_tin C (tgt := 339) dL_33 (by decide) (by decide) rfl (by decide) (LC_3 C X hk hL R kk)
    | 4, _ => exact lj_tin C (tgt := 372) dL_33 (by decide) (by decide) rfl (by decide) (LC_4 C X hk hL R kk)
    | 5, _ => exact lj_tin C (tgt := 395) dL_33 (by decide) (by decide) rfl (by decide) (LC_5 C X hk hL R kk)
    | 6, _ => exact lj_tin C (tgt := 428) dL_33 (by decide) (by decide) rfl (by decide) (LC_6 C X hk hL R kk)
    | 7, _ => exact lj_tin C (tgt := 461) dL_33 (by decide) (by decide) rfl (by decide) (LC_7 C X hk hL R kk)
    | 8, _ => exact lj_tin C (tgt := 504) dL_33 (by decide) (by decide) rfl (by decide) (LC_8 C X hk hL R kk)
    | 9, _ => exact lj_tin C (tgt := 537) dL_33 (by decide) (by decide) rfl (by decide) (LC_9 C X hk hL R kk)
    | 10, _ => exact lj_tin C (tgt := 560) dL_33 (by decide) (by decide) rfl (by decide) (LC_10 C X hk hL R kk)
    | 11, _ => exact lj_tin C (tgt := 583) dL_33 (by decide) (by decide) rfl (by decide) (LC_11 C X hk hL R kk)
    | 12, _ => exact lj_tin C (tgt := 616) dL_33 (by decide) (by decide) rfl (by decide) (LC_12 C X hk hL R kk)
    | 13, _ => exact lj_tin C (tgt := 649) dL_33 (by decide) (by decide) rfl (by decide) (LC_13 C X hk hL R kk)
    | 14, _ => exact lj_tin C (tgt := 672) dL_33 (by decide) (by decide) rfl (by decide) (LC_14 C X hk hL R kk)
    | 15, _ => exact lj_tin C (tgt := 685) dL_33 (by decide) (by decide) rfl (by decide) (LC_15 C X hk hL R kk)
    | 16, _ => exact lj_tin C (tgt := 708) dL_33 (by decide) (by decide) rfl (by decide) (LC_16 C X hk hL R kk)
    | 17, _ => exact lj_tin C (tgt := 731) dL_33 (by decide) (by decide) rfl (by decide) (LC_17 C X hk hL R kk)
    | 18, _ => exact lj_tin C (tgt := 754) dL_33 (by decide) (by decide) rfl (by decide) (LC_18 C X hk hL R kk)
    | 19, _ => exact lj_tin C (tgt := 787) dL_33 (by decide) (by decide) rfl (by decide) (LC_19 C X hk hL R kk)
    | 20, _ => exact lj_tin C (tgt := 810) dL_33 (by decide) (by decide) rfl (by decide) (LC_20 C X hk hL R kk)
    | 21, _ => exact lj_tin C (tgt := 843) dL_33 (by decide) (by decide) rfl (by decide) (LC_21 C X hk hL R kk)
    | 22, _ => exact lj_tin C (tgt := 876) dL_33 (by decide) (by decide) rfl (by decide) (LC_22 C X hk hL R kk)
    | 23, _ => exact lj_tin C (tgt := 909) dL_33 (by decide) (by decide) rfl (by decide) (LC_23 C X hk hL R kk)
    | 24, _ => exact lj_tin C (tgt := 932) dL_33 (by decide) (by decide) rfl (by decide) (LC_24 C X hk hL R kk)
    | 25, _ => exact lj_tin C (tgt := 975) dL_33 (by decide) (by decide) rfl (by decide) (LC_25 C X hk hL R kk)
    | 26, _ => exact lj_tin C (tgt := 1008) dL_33 (by decide) (by decide) rfl (by decide) (LC_26 C X hk hL R kk)
    | 27, _ => exact lj_tin C (tgt := 1021) dL_33 (by decide) (by decide) rfl (by decide) (LC_27 C X hk hL R kk)
    | 28, _ => exact lj_tin C (tgt := 1034) dL_33 (by decide) (by decide) rfl (by decide) (LC_28 C X hk hL R kk)
    | 29, _ => exact lj_tin C (tgt := 1047) dL_33 (by decide) (by decide) rfl (by decide) (LC_29 C X hk hL R kk)
    | 30, _ => exact lj_tin C (tgt := 1060) dL_33 (by decide) (by decide) rfl (by decide) (LC_30 C X hk hL R kk)
    | 31, _ => exact lj_tin C (tgt := 1084) dL_33 (by decide) (by decide) rfl (by decide) (LC_31 C X hk hL R kk)
    | 32, _ => exact lj_tin C (tgt := 1107) dL_33 (by decide) (by decide) rfl (by decide) (LC_32 C X hk hL R kk)
    | 33, _ => exact lj_tin C (tgt := 1130) dL_33 (by decide) (by decide) rfl (by decide) (LC_33 C X hk hL R kk)
    | 34, _ => exact lj_tin C (tgt := 1163) dL_33 (by decide) (by decide) rfl (by decide) (LC_34 C X hk hL R kk)
    | 35, _ => exact lj_tin C (tgt := 1176) dL_33 (by decide) (by decide) rfl (by decide) (LC_35 C X hk hL R kk)
    | 36, _ => exact lj_tin C (tgt := 1189) dL_33 (by decide) (by decide) rfl (by decide) (LC_36 C X hk hL R kk)
    | 37, _ => exact lj_tin C (tgt := 1222) dL_33 (by decide) (by decide) rfl (by decide) (LC_37 C X hk hL R kk)
    | 38, _ => exact lj_tin C (tgt := 1255) dL_33 (by decide) (by decide) rfl (by decide) (LC_38 C X hk hL R kk)
    | 39, _ => exact lj_tin C (tgt := 1298) dL_33 (by decide) (by decide) rfl (by decide) (LC_39 C X hk hL R kk)
    | 40, _ => exact lj_tin C (tgt := 1341) dL_33 (by decide) (by decide) rfl (by decide) (LC_40 C X hk hL R kk)
    | 41, _ => exact lj_tin C (tgt := 1404) dL_33 (by decide) (by decide) rfl (by decide) (LC_41 C X hk hL R kk)
    | 42, _ => exact lj_tin C (tgt := 1427) dL_33 (by decide) (by decide) rfl (by decide) (LC_42 C X hk hL R kk)
    | 43, _ => exact lj_tin C (tgt := 1450) dL_33 (by decide) (by decide) rfl (by decide) (LC_43 C X hk hL R kk)
    | 44, _ => exact lj_tin C (tgt := 1463) dL_33 (by decide) (by decide) rfl (by decide) (LC_44 C X hk hL R kk)
    | 45, _ => exact lj_tin C (tgt := 1476) dL_33 (by decide) (by decide) rfl (by decide) (LC_45 C X hk hL R kk)
    | 46, _ => exact lj_tin C (tgt := 1489) dL_33 (by decide) (by decide) rfl (by decide) (LC_46 C X hk hL R kk)
    | 47, _ => exact lj_tin C (tgt := 1512) dL_33 (by decide) (by decide) rfl (by decide) (LC_47 C X hk hL R kk)
    | j + 48, h => exact absurd h (by omega)
theorem zl_loop (C : zl_C E D tA p s m meth c b L xs) (X : zl_G E s adC adM) (hL : L ≤ 3072) : ∀ (r k0 : Nat), L ≤ k0 + r → k0 ≤ 3078 → ∀ (F4 : Nat → Int32) (G4 : Nat → Nat → Int32) (F : Nat → Nat → Int32) (N : Nat → Nat → Int64) (G : Nat → Nat → Int32), jR F4 G4 F N G → Lj D tA p l e s m below meth c b adC adM (lw_Z below #[Value.ref b] s) 18 k0 [] (rC F N G) (rM F4 G4) := by
  intro r
  induction r with
  | zero => intro k0 h1 h2 F4 G4 F N G R; exact zl_step C X hL (by omega) (fun h => by omega) R
  | succ r ih => intro k0 h1 h2 F4 G4 F N G R; exact zl_step C X hL (by omega) (fun h => ih (k0 + 6) (by omega) (by omega)) R
end LL
abbrev zl_M : zM := (⟨RL, "law", "([I)Z"⟩, code, 4, ret, 12)
theorem lL_9 : z_Lm RL 9 mX3_init := Or.inl (z_in (z_t1 16 (by decide +kernel)) rfl)
theorem lL_12 : z_Lm RL 12 mX4_init := Or.inl (z_in (z_t3 236 (by decide +kernel)) rfl)
theorem zl_pre {E : zE} {D : va_G} {tA : Nat → ClassId} {p : Program} {l : Launch} {e : Env} {s : State} {m : MethodId} {below : List Frame} {meth : Method} {c : Code} {b L : Nat} {xs : Nat → Int32} (C : zq_C zl_M E D tA (fun q => s.heap.size ≤ q) p s m #[Value.ref b] meth c) (CL : zl_C E D tA p s m meth c b L xs) (hL : L ≤ 3072) : Cj zl_M D (fun q => s.heap.size ≤ q) p l e room_1 s m #[Value.ref b] below meth c (lw_Z below #[Value.ref b] s) 0 0 0 [(0, .ref b)] [] [] := by
  refine cj_new (fs := [.null, .null, .null, .int 0, .null, .null, .null, .null]) C dL_0 z_k3 (z_in (z_t1 14 (by decide +kernel)) rfl) (z_in (z_t1 15 (by decide +kernel)) rfl) z_iX3 (fun j hj => match j, hj with | 0, _ => rfl | 1, _ => rfl | 2, _ => rfl | 3, _ => rfl | 4, _ => rfl | 5, _ => rfl | 6, _ => rfl | 7, _ => rfl | j + 8, hj => absurd hj (by omega)) (Nat.le_of_ble_eq_true rfl) (Nat.le_of_ble_eq_true rfl) (fun q1 => ?_)
  refine cj_dup C dL_3 rfl ?_
  refine cj_call2 (wr := []) C dL_4 oX3_init pX3_init rfl rfl iX3_init lL_9 (Nat.le_of_ble_eq_true rfl) (Nat.le_of_ble_eq_true rfl) (Nat.le_of_ble_eq_true rfl) (Nat.le_of_ble_eq_true rfl) (Nat.le_of_ble_eq_true rfl) KC rfl rfl (fun w1 e1 s1 => ?_)
  subst e1
  refine cj_astore C dL_7 rfl (by decide) rfl ?_
  refine cj_new (fs := [.null, .null, .null, .int 0, .null, .null, .null, .int 0, .null, .null, .int 0, .int 0, .int 0, .int 0, .int 0, .int 0, .null, .null, .int 0, .int 0, .null, .null, .null, .null]) C dL_8 z_k4 (z_in (z_t3 234 (by decide +kernel)) rfl) (z_in (z_t3 235 (by decide +kernel)) rfl) z_iX4 (fun j hj => match j, hj with | 0, _ => rfl | 1, _ => rfl | 2, _ => rfl | 3, _ => rfl | 4, _ => rfl | 5, _ => rfl | 6, _ => rfl | 7, _ => rfl | 8, _ => rfl | 9, _ => rfl | 10, _ => rfl | 11, _ => rfl | 12, _ => rfl | 13, _ => rfl | 14, _ => rfl | 15, _ => rfl | 16, _ => rfl | 17, _ => rfl | 18, _ => rfl | 19, _ => rfl | 20, _ => rfl | 21, _ => rfl | 22, _ => rfl | 23, _ => rfl | j + 24, hj => absurd hj (by omega)) (Nat.le_of_ble_eq_true rfl) (Nat.le_of_ble_eq_true rfl) (fun q2 => ?_)
  refine cj_dup C dL_11 rfl ?_
  refine cj_call2 (wr := z_ws tA w1 0 (rC i0F i0N i0G)) C dL_12 oX4_init pX4_init rfl rfl iX4_init lL_12 (Nat.le_of_ble_eq_true rfl) (Nat.le_of_ble_eq_true rfl) (Nat.le_of_ble_eq_true rfl) (Nat.le_of_ble_eq_true rfl) (Nat.le_of_ble_eq_true rfl) KM rfl rfl (fun w2 e2 s2 => ?_)
  subst e2
  refine cj_astore C dL_15 rfl (by decide) rfl ?_
  refine cj_iconst (v := nI 0) C dL_16 (by decide) ?_
  refine cj_istore C dL_17 rfl (by decide) rfl ?_
  intro H locs ls hl hP hD hS
  have hP : va_P D vwCl (z_ws tA w1 0 (rC i0F i0N i0G) ++ z_ws tA w2 0 (rM i4F i4G)) H := hP
  have hD : va_D (fun q => s.heap.size ≤ q) (z_ws tA w1 0 (rC i0F i0N i0G) ++ z_ws tA w2 0 (rM i4F i4G)) := hD
  obtain ⟨⟨g1, g2⟩, ⟨g3, g4⟩, g5⟩ := zl_sep hD
  exact zl_loop CL ⟨⟨g1, s1, g2⟩, ⟨g3, s2, g4⟩, g5⟩ hL L 0 (by omega) (by decide) i4F i4G i0F i0N i0G i0R H locs ls hl
    (fun k q hk => hP k q (by rw [List.getElem?_append_left (List.getElem?_eq_some_iff.mp hk).1]; exact hk))
    (fun k q hk => hP ((z_ws tA w1 0 (rC i0F i0N i0G)).length + k) q (by rw [List.getElem?_append_right (by omega), Nat.add_sub_cancel_left]; exact hk)) hS
/-- YOUR PART: from the entry, for every script of at most 3072 ints, the law comes to its end with true -/
theorem whole_start {p : Program} {e : Env} {s : State} {m : MethodId} {below : List Frame} {meth : Method} {c : Code} (l : Launch) (hflags : l.flags = flags0) {b L : Nat} {xs : Nat → Int32} (hL : L ≤ 3072) (C0 : lw_At p s m meth c b L xs) : W p l e room_1 s m #[Value.ref b] below meth c s.heap [] 0 0 (lw_Z below #[Value.ref b] s) (entryFrame m ([Value.ref b] : List Value).toArray 4) := by
  obtain ⟨hx, hb, hr, hml, hown, hts, hX, hbl, hlk, hgv⟩ := C0
  have hF : ∀ w ∈ zs_F, w.before #[Value.ref b] s = true := flat_of_before _ hgv
  obtain ⟨D, tA, hK⟩ := zs_K hts
  obtain ⟨E, hE⟩ := zs_E hts hF
  have hne : ¬ (zl_M.2.2.2.1 = none) := fun h => by simp [ret] at h
  have C : zq_C zl_M E D tA (fun q => s.heap.size ≤ q) p s m #[Value.ref b] meth c := ⟨hx, hb, fun h => absurd h hne, hml, hown, fun w hw => zs_w hts hw, hlk, hK, zs_n hts, fun h => absurd h hne, fun q h => h, zs_ao hts, hE⟩
  have CL : zl_C E D tA p s m meth c b L xs := ⟨hx, hb, hr, hml, hown, fun w hw => zs_w hts hw, hlk, hK, zs_n hts, hE, hX, hbl⟩
  have hl := lv_entry [Value.ref b] (n := 4) (Nat.le_of_ble_eq_true rfl)
  rw [lg_entry_eq]
  exact zl_pre C CL hL s.heap [] _ hl (fun k q hk => by simp at hk) ⟨fun i j a d ha _ _ => by simp at ha, fun k q hk => by simp at hk⟩ va_S.rf
set_option maxHeartbeats 4000000 in
theorem lw_walk (l : Launch) (hflags : l.flags = flags0) (b : Addr) (xs : List Int32) : MetFree l x (headSpec (Jvm.Cond.code x code maxLocals ret :: tables_1) room_1) (lw_P b xs) (fun _ _ _ _ _ => True) lw_Q := by
  refine MetFree.of_bodyS (code := code) (maxLocals := maxLocals) (ret := ret) (by decide) ?_ ?_
  · intro args s m h hn
    obtain ⟨meth, c, h1, h2, h3, h4, h5, h6, -, -⟩ := Cond.code_spec hn (atoms_spec (ws := Jvm.Cond.code x code maxLocals ret :: tables_1) h _ List.mem_cons_self)
    exact ⟨meth, c, h1, h2, h3, h4, h5, h6⟩
  · intro p e s m args below meth c s₁ B hml0 hP _
    obtain ⟨rfl, hx, hbd, hgv⟩ := hP
    obtain ⟨scr, harrAt, hlist, hof, hsmall⟩ := hx
    obtain ⟨hcb, hkn, -, -⟩ := State.arrayAt?_spec harrAt
    have hown : s.vm.findClass R_law = some m.cls := findClass_of_methodNamed B.named
    have hts0 : ∀ c ∈ (Jvm.Cond.code x code maxLocals ret :: tables_1), c.before #[Value.ref b] s = true := atoms_spec (ws := Jvm.Cond.code x code maxLocals ret :: tables_1) B.pre
    have hts : ∀ w ∈ lw_tbl, w.before #[Value.ref b] s = true := k2_hts_sels lw_privs (fun w hw => hts0 w (List.mem_cons_of_mem _ hw)) lw_privs_ok
    have hml : c.maxLocals = 4 := B.maxLocals_eq (hts0 _ List.mem_cons_self)
    have X₀ : Stand p l e room_1 s m #[Value.ref b] below meth c s₁ [] 0 0 := Stand.of_body B
    have hh0 : s₁.heap = s.heap := by rw [B.state]; rfl
    have hsz : scr.slots.size = xs.length := by rw [← Array.length_toList, hlist, List.length_map]
    have hval : ∀ j : Nat, j < xs.length → scr.slots[j]? = some (.int (xs.getD j 0)) := fun j hj => by
      rw [← Array.getElem?_toList, hlist]
      simp [hj]
    have hbl : b < s.heap.size := (Array.getElem?_eq_some_iff.mp hcb).1
    have hX : va_X b xs.length (fun j => xs.getD j 0) s s.heap := ⟨scr, hcb, hof, hkn, hsz, hval⟩
    have K : W p l e room_1 s m #[Value.ref b] below meth c s₁.heap [] 0 0 (lw_Z below #[Value.ref b] s) (entryFrame m ([Value.ref b] : List Value).toArray 4) := by
      rw [hh0]
      exact whole_start l hflags hbd ⟨B.exec, B.bytes, B.returns, hml, hown, hts, hX, hbl, B.notSynchronized, hgv⟩
    obtain ⟨t, a1, o, b1, b2, b3⟩ := K s₁ rfl X₀
    exact ⟨t, o, a1, b1, b2, b3⟩
theorem lw_pre_spec {args : Array Value} {s : State} (h : (Jvm.Cond.and given_1 narrow_1).before args s = true) (hr : rest_1_c.before args s = true) : ∃ (b : Addr) (xs : List Int32), lw_P b xs args s := by
  have hs := flat_of_before _ h
  have hq := flat_of_before _ hr
  have hc : (Cond.count 1).before args s = true := hs _ (by decide +kernel)
  have harr : (Cond.arrayOf (.arg 0) .int).before args s = true := hs _ (by decide +kernel)
  have hle : (Cond.le (.length (.arg 0)) (.int 3072)).before args s = true := hs _ (by decide +kernel)
  have hlen : (Cond.isInt (.length (.arg 0))).before args s = true := hq _ (by decide +kernel)
  have hall : (Cond.all (.arg 0) (.isInt (.elem (.arg 0) (.index 0)))).before args s = true := hq _ (by decide +kernel)
  obtain ⟨b, xs, hb, hx⟩ := State.ints_of_pre rfl harr hlen hall
  have hsm : xs.length < 2 ^ 31 := hx.choose_spec.2.2.2
  have hev : (Term.length (.arg 0)).eval args s none [] s = some (.int xs.length.toInt32) := hx.length_eval hb
  have hv := Cond.le_ints hev (show (Term.int 3072).eval args s none [] s = some (.int 3072) from rfl)
  have hd : xs.length.toInt32 ≤ 3072 := by
    simpa [Cond.before, Cond.holds, hv] using hle
  have hN : xs.length ≤ 3072 := (Int32.ofNat_le_ofNat hsm (by decide)).mp (show Int32.ofNat xs.length ≤ Int32.ofNat 3072 from hd)
  exact ⟨b, xs, Cond.one_arg hc (show args[0]? = some (.ref b) from hb), hx, hN, h⟩
theorem lw_comes (l : Launch) (hflags : l.flags = flags0) : Comes l x (Jvm.Cond.code x code maxLocals ret :: tables_1) room_1 (fun tb e args s => Calls_1 tb e args s ∧ rest_1 tb e args s ∧ Pre_1 tb e args s)
    (fun _ _ args s o t => lw_Q args s o t) := by
  intro p e ha hc hk s m args below hf hfit hheap happ hpre
  obtain ⟨b, xs, hP⟩ := lw_pre_spec hpre.2.2 hpre.2.1
  obtain ⟨k, o, h1, h2, h3, hQ⟩ := lw_walk l hflags b xs p e ha hc hk s m args below hf ((Spec.applies_iff_loose hf).mp happ).1 hP trivial
  exact ⟨k, o, h1, h2, h3, hQ⟩
theorem lw_frame {s t : State} {o : Outcome} {args : Array Value} (h : Framed s o t [] 600000 7302250) :
    Framed s o t (fieldLocs frame_1_writes args s ++ arrayLocs frame_1_arrays args s ++ staticLocs frame_1_statics s) 600000 7302250 := h
theorem lw_limb (L : Cond) (hL : ∀ (args : Array Value) (s t : State), L.after args s (.returned (some (.int 1))) t = true) :
    ArmFor flags0 classFile x code maxLocals ret World_1 tables_1 room_1 Calls_1 rest_1 Pre_1
      (fun tb e a s o t => postC L tb e a s o t ∧ Framed s o t (fieldLocs frame_1_writes a s ++ arrayLocs frame_1_arrays a s ++ staticLocs frame_1_statics s) 600000 7302250) := by
  intro l hflags _ _ p e ha hc hk s m args below hf hfit hheap happ hpre
  obtain ⟨k, o, h1, h2, h3, rfl, hF⟩ := lw_comes l hflags p e ha hc hk s m args below hf hfit hheap happ hpre
  exact ⟨k, _, h1, h2, h3, hL args s _, lw_frame hF⟩
theorem i_vc : Claimed_1_1 ∧ Claimed_1_2 := ⟨lw_limb limb_1_1 (fun args s t => by simp [limb_1_1, Cond.after, Cond.holds, Cond.value]), lw_limb limb_1_2 (fun args s t => Cond.after_iff.mpr (by
  first | (rw [show limb_1_2 = Cond.eq .result (.int 1) from rfl, Cond.eq_ints (x := 1) (y := 1) rfl rfl]; simp; done) | (simp [limb_1_2, Cond.value, Term.eval]; done)))⟩
