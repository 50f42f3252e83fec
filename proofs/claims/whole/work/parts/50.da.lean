/-! ===== texts: length, charAt ===== -/
set_option maxRecDepth 100000
theorem tX1_41 : Cond.methodLink RX1 41 yJ0_length_8abf5 ∈ z_T := z_in (z_t3 75 (by decide +kernel)) rfl
theorem tX1_47 : Cond.methodLink RX1 47 yJ0_charAt_5068e ∈ z_T := z_in (z_t3 85 (by decide +kernel)) rfl
theorem tX4_277 : Cond.methodLink RX4 277 yJ0_length_8abf5 ∈ z_T := z_in (z_t5 211 (by decide +kernel)) rfl
theorem tX4_280 : Cond.methodLink RX4 280 yJ0_charAt_5068e ∈ z_T := z_in (z_t5 212 (by decide +kernel)) rfl
theorem tJ0_335 : Cond.methodLink RJ0 335 yJ0_coder_7d493 ∈ z_T := z_in (z_t3 79 (by decide +kernel)) rfl
theorem tJ0_492 : Cond.methodLink RJ0 492 yJ0_isLatin1_aae02 ∈ z_T := z_in (z_t3 89 (by decide +kernel)) rfl
theorem tJ0_1059 : Cond.methodLink RJ0 1059 yJ3_checkIndex_8e157 ∈ z_T := z_in (z_t3 101 (by decide +kernel)) rfl
theorem fJ0_38 : Cond.fieldLink RJ0 38 "java/lang/String" "COMPACT_STRINGS" "Z" ∈ z_T := z_in (z_t3 83 (by decide +kernel)) rfl
theorem fJ0_1053 : Cond.fieldLink RJ0 1053 "jdk/internal/util/Preconditions" "SIOOBE_FORMATTER" "Ljava/util/function/BiFunction;" ∈ z_T := z_in (z_t3 99 (by decide +kernel)) rfl
theorem fJ0_9 : Cond.fieldLink RJ0 9 "java/lang/String" "value" "[B" ∈ z_T := z_in (z_t6 56 (by decide +kernel)) rfl
theorem fJ0_15 : Cond.fieldLink RJ0 15 "java/lang/String" "coder" "B" ∈ z_T := z_in (z_t6 57 (by decide +kernel)) rfl
/-- a method out of the walk of its frame, with arguments as the machine has them -/
theorem mx_raw {M : zM} {av : List Value} {rv : Option Value} {h h2 : zH} {L : List (Option Value)} (l : Launch) (E : zE) (D : va_G) (tA : Nat → ClassId) (ad : Nat → Nat) (sz : Nat) (hap : z_ap ad h.length) (hsa : z_sa E ad) (hp : plainName M.1.cls = true) (hL : ∀ q ∈ z_L ad 0 L, q ∈ lv_args 0 av) (hn : (lg_sl av).length ≤ M.2.2.1) (k : Fx M (rv, h2) 0 L [] h) :
    Met l M.1 (z_wd M) (z_rm M.2.2.2.2) (va_Pc av (z_Wd E D tA ad h sz)) (z_Q D tA ad rv h2 (z_A ad h.length sz)) 0 0 (z_A ad h.length sz) := by
  refine Met.ofW (cc := M.2.1) (maxL := M.2.2.1) (ret := M.2.2.2.1) hp rfl ?_
  intro p e s m args below meth c s₁ B hml hv
  obtain ⟨rfl, rfl, hP, hK, hN, hE⟩ := hv
  have hts := atoms_spec (ws := z_wd M) B.pre
  have hown : s.vm.findClass M.1.cls = some m.cls := findClass_of_methodNamed B.named
  have hl := lv_entry av hn
  rw [lg_entry_eq]
  exact k.2 E D tA ad p l e s m _ below meth c ⟨B.exec, B.bytes, B.returns, hml, hown, hts, B.notSynchronized, hK, hN, hE, hap, hsa⟩ s.heap [] _ ⟨hl.1, hl.2.1, fun q hq => hl.2.2 q (hL q hq)⟩ hP va_S.rf
theorem eJ3_f {i n : Nat} {h : zH} (hi : i < n) (hn : n < 2 ^ 31) : Fx mJ3_checkIndex_8e157 (some (.int (nI i)), h) 0 [some (.int (nI i)), some (.int (nI n)), none] [] h := by
  refine fx_iload_n dJ3_checkIndex_8e157_0 rfl rfl ?_
  refine fx_if_lt (tgt := 9) dJ3_checkIndex_8e157_1 (by decide) rfl (fun hc1 => ?_) (fun hc1 => ?_)
  · exact absurd hc1 (nI_pos (by omega))
  · refine fx_iload_n dJ3_checkIndex_8e157_4 rfl rfl ?_
    refine fx_iload_n dJ3_checkIndex_8e157_5 rfl rfl ?_
    refine fx_icmp_lt (tgt := 16) dJ3_checkIndex_8e157_6 (by decide) rfl (fun hc6 => ?_) (fun hc6 => ?_)
    · refine fx_iload_n dJ3_checkIndex_8e157_16 rfl rfl ?_
      exact fx_ireq dJ3_checkIndex_8e157_17 rfl rfl rfl rfl
    · exact absurd (nI_lt hi hn) hc6
theorem eJ3_m {i n : Nat} {h : zH} {v : Value} (hi : i < n) (hn : n < 2 ^ 31) (hv : v.category = 1) (l : Launch) (E : zE) (D : va_G) (tA : Nat → ClassId) (ad : Nat → Nat) (sz : Nat) (hap : z_ap ad h.length) (hsa : z_sa E ad) : Met l mJ3_checkIndex_8e157.1 (z_wd mJ3_checkIndex_8e157) (z_rm 1) (va_Pc [.int (nI i), .int (nI n), v] (z_Wd E D tA ad h sz)) (z_Q D tA ad (some (.int (nI i))) h (z_A ad h.length sz)) 0 0 (z_A ad h.length sz) := by
  refine mx_raw (M := mJ3_checkIndex_8e157) (L := [some (.int (nI i)), some (.int (nI n)), none]) l E D tA ad sz hap hsa (by decide) ?_ ?_ (eJ3_f hi hn)
  · intro q hq
    have e : z_L ad 0 [some (.int (nI i)), some (.int (nI n)), none] = [(0, .int (nI i)), (1, .int (nI n))] := rfl
    rw [e] at hq
    rcases List.mem_cons.mp hq with h1 | h1
    · rw [h1]; exact List.mem_cons_self
    · rcases List.mem_cons.mp h1 with h2 | h2
      · rw [h2]; exact List.mem_cons_of_mem _ List.mem_cons_self
      · cases h2
  · have e : (lg_sl [.int (nI i), .int (nI n), v]).length = 3 := by
      cases v <;> first | rfl | exact absurd hv (show ¬ (2 : Nat) = 1 by decide)
    rw [e]
    exact Nat.le_refl 3
theorem fx_chk {i n : Nat} {h : zH} {out : Option Value × zH} {L : List (Option Value)} (hi : i < n) (hn : n < 2 ^ 31) (k : Fx mJ0_checkIndex_df160 out 8 L [.int (nI i)] h) : Fx mJ0_checkIndex_df160 out 2 L [.int (nI n), .int (nI i)] h := by
  refine ⟨k.1, fun E D tA ad p l e s m args below meth c C H locs ls hl hP hS => ?_⟩
  obtain ⟨c1, c2, c3, c4, c5, c6, c7, c8, c9, c10, c11, c12⟩ := id C
  have go : ∀ v : Value, v.category = 1 → va_Z "jdk/internal/util/Preconditions" "SIOOBE_FORMATTER" "Ljava/util/function/BiFunction;" v (z_A ad h.length s.heap.size) s s.heap → W p l e (z_rm mJ0_checkIndex_df160.2.2.2.2) s m args below meth c H locs 0 0 (MQ below (z_Q D tA ad out.1 out.2 (z_A ad h.length s.heap.size)) args s 0 0 (z_A ad h.length s.heap.size)) (F0 m 2 ls (([.int (nI n), .int (nI i)] : List Value).map (z_g ad))) := by
    intro v hv hZ
    refine va_gets c1 c2 hZ hS c5 (c6 _ (z_Tw fJ0_1053)) (fun _ h9 => h9) dJ0_checkIndex_df160_2 ?_
    have kk : ∀ (H1 : Heap) (locs1 : List Loc), va_P D vwCl (z_ws tA ad 0 h) H1 → va_S (z_A ad h.length s.heap.size) s.heap H1 locs1 → W p l e (z_rm mJ0_checkIndex_df160.2.2.2.2) s m args below meth c H1 locs1 0 0 (MQ below (z_Q D tA ad out.1 out.2 (z_A ad h.length s.heap.size)) args s 0 0 (z_A ad h.length s.heap.size)) (F0 m (5 + 3) ls (((some (.int (nI i)) : Option Value).map (z_g ad)).toList ++ [])) := fun H1 locs1 hP1 hS1 => k.2 E D tA ad p l e s m args below meth c C H1 locs1 ls hl hP1 hS1
    obtain ⟨⟨y1, y2, y3, y4, y5⟩, y6, y7⟩ := sJ3_checkIndex_8e157
    have hrm : (z_rm mJ3_checkIndex_8e157.2.2.2.2).frames + 1 ≤ (z_rm mJ0_checkIndex_df160.2.2.2.2).frames := by decide
    have hlo : 8 + (mJ3_checkIndex_8e157.2.2.1 + 11) + (z_rm mJ3_checkIndex_8e157.2.2.2.2).locals ≤ (z_rm mJ0_checkIndex_df160.2.2.2.2).locals := by decide
    refine z_run (va_runS (n := 3) (As := [.int (nI i), .int (nI n), v]) (rest := []) ⟨c1, c2, c4, c5, c6⟩ (eJ3_m hi hn hv l E D tA ad H.size c11 c12) ⟨⟨rfl, rfl, hrm, hlo, z_pay c6 y1, List.mem_cons_self, c6 _ (z_Tw y1), c6 _ (z_Tw y2), y3, y6, c6 _ (z_Tw tJ0_1059)⟩, c6 _ (z_Tw y7)⟩ (z_Pcx C hP hS _) rfl rfl hl.1 rfl (lv_room (by decide)) dJ0_checkIndex_df160_5 ⟨Nat.zero_le _, Nat.zero_le _⟩) hS kk
  rcases c10.2.2.2.2.2 with hZ | ⟨t, hZ⟩
  · exact go .null rfl hZ
  · exact go (.ref t) rfl hZ
theorem eJ0_checkIndex_df160 {i n : Nat} {h : zH} (hi : i < n) (hn : n < 2 ^ 31) : Mx mJ0_checkIndex_df160 [.int (nI i), .int (nI n)] h none h := by
  refine mx_of (L := [some (.int (nI i)), some (.int (nI n))]) (by decide) (fun _ => rfl) (fun _ => Nat.le_of_ble_eq_true rfl) ?_
  refine fx_iload_n dJ0_checkIndex_df160_0 rfl rfl ?_
  refine fx_iload_n dJ0_checkIndex_df160_1 rfl rfl ?_
  refine fx_chk hi hn ?_
  refine fx_pop dJ0_checkIndex_df160_8 rfl ?_
  exact fx_vreq dJ0_checkIndex_df160_9 rfl rfl
def jbyt (i k : Nat) : Int32 := (z_byt.getD i []).getD k 0
def jlen (i : Nat) : Nat := z_len.getD i 0
theorem jbyt_e : ∀ i, i < 14 → ∀ k, k < z_len.getD i 0 → (((jbyt i k &&& nI 255).toUInt32 % 65536).toInt32 = jbyt i k ∧ jbyt i k = nI (jbyt i k).toNatClampNeg ∧ (jbyt i k).toNatClampNeg < 128) := by decide +kernel
theorem jlen_lt : ∀ i, i < 14 → jlen i < 7 := by decide +kernel
section
variable {h : zH} {i : Nat}
theorem eJ0_coder_7d493 (hi : i < 14) : Mx mJ0_coder_7d493 [.ref (1000 + i)] h (some (.int 0)) h := by
  refine mx_of (L := [some (.ref (1000 + i))]) (by decide) (fun _ => rfl) (fun _ => Nat.le_of_ble_eq_true rfl) ?_
  refine fx_getsC dJ0_coder_7d493_0 fJ0_38 ?_
  refine fx_if_eq (tgt := 13) dJ0_coder_7d493_3 (by decide) rfl (fun hc3 => ?_) (fun hc3 => ?_)
  · exact absurd hc3 (by decide)
  · refine fx_aload_n dJ0_coder_7d493_6 rfl rfl ?_
    refine fx_getsc dJ0_coder_7d493_7 fJ0_15 hi ?_
    refine fx_goto (tgt := 14) dJ0_coder_7d493_10 (by decide) ?_
    exact fx_ireq dJ0_coder_7d493_14 rfl rfl rfl rfl
theorem eJ0_isLatin1_aae02 (hi : i < 14) : Mx mJ0_isLatin1_aae02 [.ref (1000 + i)] h (some (.int (nI 1))) h := by
  refine mx_of (L := [some (.ref (1000 + i))]) (by decide) (fun _ => rfl) (fun _ => Nat.le_of_ble_eq_true rfl) ?_
  refine fx_getsC dJ0_isLatin1_aae02_0 fJ0_38 ?_
  refine fx_if_eq (tgt := 17) dJ0_isLatin1_aae02_3 (by decide) rfl (fun hc3 => ?_) (fun hc3 => ?_)
  · exact absurd hc3 (by decide)
  · refine fx_aload_n dJ0_isLatin1_aae02_6 rfl rfl ?_
    refine fx_getsc dJ0_isLatin1_aae02_7 fJ0_15 hi ?_
    refine fx_if_ne (tgt := 17) dJ0_isLatin1_aae02_10 (by decide) rfl (fun hc10 => ?_) (fun hc10 => ?_)
    · exact absurd rfl hc10
    · refine fx_iconst (v := nI 1) dJ0_isLatin1_aae02_13 (by decide) ?_
      refine fx_goto (tgt := 18) dJ0_isLatin1_aae02_14 (by decide) ?_
      exact fx_ireq dJ0_isLatin1_aae02_18 rfl rfl rfl rfl
theorem jshr0 {x : Nat} (hx : x < 7) : nI x >>> ((0 : Int32) &&& 31) = nI x := (show ∀ x, x < 7 → nI x >>> ((0 : Int32) &&& 31) = nI x by decide +kernel) x hx
theorem eJ0_length_8abf5 (hi : i < 14) : Mx mJ0_length_8abf5 [.ref (1000 + i)] h (some (.int (nI (jlen i)))) h := by
  refine mx_of (L := [some (.ref (1000 + i))]) (by decide) (fun _ => rfl) (fun _ => Nat.le_of_ble_eq_true rfl) ?_
  refine fx_aload_n dJ0_length_8abf5_0 rfl rfl ?_
  refine fx_getsv dJ0_length_8abf5_1 fJ0_9 hi ?_
  refine fx_slen (v := nI (jlen i)) dJ0_length_8abf5_4 hi rfl ?_
  refine fx_aload_n dJ0_length_8abf5_5 rfl rfl ?_
  refine fx_callTv (as := []) dJ0_length_8abf5_6 oJ0_coder_7d493 pJ0_coder_7d493 viJ0_coder_7d493 vsJ0_coder_7d493 rfl tJ0_335 (by decide) hi (Nat.le_of_ble_eq_true rfl) (eJ0_coder_7d493 hi) rfl ?_
  refine fx_ishr dJ0_length_8abf5_9 ?_
  rw [jshr0 (jlen_lt i hi)]
  exact fx_ireq dJ0_length_8abf5_10 rfl rfl rfl rfl
theorem eJ1_charAt_3b067 {k : Nat} (hi : i < 14) (hk : k < jlen i) : Mx mJ1_charAt_3b067 [.ref (3000 + i), .int (nI k)] h (some (.int (jbyt i k))) h := by
  refine mx_of (L := [some (.ref (3000 + i)), some (.int (nI k))]) (by decide) (fun _ => rfl) (fun _ => Nat.le_of_ble_eq_true rfl) ?_
  have hl := jlen_lt i hi
  have hl2 : z_len.getD i 0 < 7 := hl
  obtain ⟨b1, b2, b3⟩ := jbyt_e i hi k hk
  refine fx_iload_n dJ1_charAt_3b067_0 rfl rfl ?_
  refine fx_aload_n dJ1_charAt_3b067_1 rfl rfl ?_
  refine fx_slen (v := nI (jlen i)) dJ1_charAt_3b067_2 hi rfl ?_
  refine fx_callSn dJ1_charAt_3b067_3 sJ0_checkIndex_df160 lJ1_9 (by decide) (Nat.le_of_ble_eq_true rfl) (eJ0_checkIndex_df160 hk (by omega)) rfl ?_
  refine fx_aload_n dJ1_charAt_3b067_6 rfl rfl ?_
  refine fx_iload_n dJ1_charAt_3b067_7 rfl rfl ?_
  refine fx_sald (v := jbyt i k) dJ1_charAt_3b067_8 hi (vp_in_nI hk (by omega)) (by rw [nI_clamp (by omega)]; rfl) ?_
  refine fx_sipush (v := nI 255) dJ1_charAt_3b067_9 (by decide) ?_
  refine fx_iand dJ1_charAt_3b067_12 ?_
  refine fx_i2c dJ1_charAt_3b067_13 ?_
  rw [b1]
  exact fx_ireq dJ1_charAt_3b067_14 rfl (by rw [b2]; exact (pk_charN (by omega)).1) rfl rfl
theorem eJ0_charAt_5068e {k : Nat} (hi : i < 14) (hk : k < jlen i) : Mx mJ0_charAt_5068e [.ref (1000 + i), .int (nI k)] h (some (.int (jbyt i k))) h := by
  refine mx_of (L := [some (.ref (1000 + i)), some (.int (nI k))]) (by decide) (fun _ => rfl) (fun _ => Nat.le_of_ble_eq_true rfl) ?_
  obtain ⟨b1, b2, b3⟩ := jbyt_e i hi k hk
  refine fx_aload_n dJ0_charAt_5068e_0 rfl rfl ?_
  refine fx_callTv (as := []) dJ0_charAt_5068e_1 oJ0_isLatin1_aae02 pJ0_isLatin1_aae02 viJ0_isLatin1_aae02 vsJ0_isLatin1_aae02 rfl tJ0_492 (by decide) hi (Nat.le_of_ble_eq_true rfl) (eJ0_isLatin1_aae02 hi) rfl ?_
  refine fx_if_eq (tgt := 16) dJ0_charAt_5068e_4 (by decide) rfl (fun hc4 => ?_) (fun hc4 => ?_)
  · exact absurd hc4 (by decide)
  · refine fx_aload_n dJ0_charAt_5068e_7 rfl rfl ?_
    refine fx_getsv dJ0_charAt_5068e_8 fJ0_9 hi ?_
    refine fx_iload_n dJ0_charAt_5068e_11 rfl rfl ?_
    refine fx_callSv dJ0_charAt_5068e_12 sJ1_charAt_3b067 lJ0_495 (by decide) (Nat.le_of_ble_eq_true rfl) (eJ1_charAt_3b067 hi hk) rfl ?_
    exact fx_ireq dJ0_charAt_5068e_15 rfl (by rw [b2]; exact (pk_charN (by omega)).1) rfl rfl
end
