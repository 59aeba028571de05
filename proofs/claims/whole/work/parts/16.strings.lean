/-! ===== String constants: length() and charAt() ===== -/
def sLen (i : Nat) : Nat := (strW.getD i []).length
def sCh (i k : Nat) : Int := (strW.getD i []).getD k 0
theorem str_B : ∀ i, i < 23 → ∀ b ∈ strW.getD i [], (97 : Int) ≤ b ∧ b ≤ 122 := by decide
theorem sLen_B : ∀ i, i < 23 → 2 ≤ sLen i ∧ sLen i ≤ 7 := by decide
theorem getD_mem {l : List Int} {k : Nat} (h : k < l.length) : l.getD k 0 ∈ l := by
  rw [List.getD_eq_getElem?_getD, List.getElem?_eq_getElem h]
  exact List.getElem_mem h
theorem sCh_B {i k : Nat} (hi : i < 23) (hk : k < sLen i) : 97 ≤ sCh i k ∧ sCh i k ≤ 122 := by
  exact str_B i hi _ (getD_mem hk)
theorem w_value : Cond.fieldLink RJ0 9 "java/lang/String" "value" "[B" ∈ Gw := inT8 (1801 - (1803 - 120)) rfl rfl
theorem w_coder : Cond.fieldLink RJ0 15 "java/lang/String" "coder" "B" ∈ Gw := inT8 (1802 - (1803 - 120)) rfl rfl
theorem w_compact : Cond.fieldLink RJ0 38 "java/lang/String" "COMPACT_STRINGS" "Z" ∈ Gw := inT3 67 rfl rfl
theorem w_format : Cond.fieldLink RJ0 1053 "jdk/internal/util/Preconditions" "SIOOBE_FORMATTER" "Ljava/util/function/BiFunction;" ∈ Gw := inT3 83 rfl rfl
theorem r_sval {name : String} {cc : ByteArray} {mL : Nat} {rt : Option FieldType} {d mc ms : Nat} {Q : Option Value → Nat → aH → Prop} {X : String → Nat → aH → Prop} {n : Nat} {h : aH} {pc : Nat} {lv : List (Nat × Value)} {st : List Value} {i : Nat} (hd : decode cc pc = .ok (.getfield 9, 3)) (hi : i < 23) (kk : Ev RJ0 name cc mL rt d mc ms Q X n h (pc + 3) lv (.ref (1000 + (1000 + i)) :: st)) : Ev RJ0 name cc mL rt d mc ms Q X n h pc lv (.ref (1000 + i) :: st) := by
  intro p l e R s m args below meth c D tc n0 ad0 ad adK A H locs cells slots MC MS ls fx rm wd hn he hl
  have k1 := kk p l e R s m args below meth c D tc n0 ad0 ad adK A H locs cells slots MC MS ls fx rm wd hn he hl
  rw [List.map_cons, cV_ref, wd.2.2.2 (1000 + i)] at k1
  rw [List.map_cons, cV_ref, wd.2.2.2 i]
  exact vk_getf fx.1 fx.2.1 (fx.2.2.2.2.2.2.2.2.2.2.1.2.1.2.2.2.2 i hi).2.2.1 wd.2.2.1 fx.2.2.2.2.1 (fx.2.2.2.2.2.1 _ w_value) (fun _ h => h) hd k1
theorem r_scod {name : String} {cc : ByteArray} {mL : Nat} {rt : Option FieldType} {d mc ms : Nat} {Q : Option Value → Nat → aH → Prop} {X : String → Nat → aH → Prop} {n : Nat} {h : aH} {pc : Nat} {lv : List (Nat × Value)} {st : List Value} {i : Nat} (hd : decode cc pc = .ok (.getfield 15, 3)) (hi : i < 23) (kk : Ev RJ0 name cc mL rt d mc ms Q X n h (pc + 3) lv (iv 0 :: st)) : Ev RJ0 name cc mL rt d mc ms Q X n h pc lv (.ref (1000 + i) :: st) := by
  intro p l e R s m args below meth c D tc n0 ad0 ad adK A H locs cells slots MC MS ls fx rm wd hn he hl
  rw [List.map_cons, cV_ref, wd.2.2.2 i]
  exact vk_getf fx.1 fx.2.1 (fx.2.2.2.2.2.2.2.2.2.2.1.2.1.2.2.2.2 i hi).2.1 wd.2.2.1 fx.2.2.2.2.1 (fx.2.2.2.2.2.1 _ w_coder) (fun _ h => h) hd (kk p l e R s m args below meth c D tc n0 ad0 ad adK A H locs cells slots MC MS ls fx rm wd hn he hl)
theorem r_scom {name : String} {cc : ByteArray} {mL : Nat} {rt : Option FieldType} {d mc ms : Nat} {Q : Option Value → Nat → aH → Prop} {X : String → Nat → aH → Prop} {n : Nat} {h : aH} {pc : Nat} {lv : List (Nat × Value)} {st : List Value} (hd : decode cc pc = .ok (.getstatic 38, 3)) (kk : Ev RJ0 name cc mL rt d mc ms Q X n h (pc + 3) lv (iv 1 :: st)) : Ev RJ0 name cc mL rt d mc ms Q X n h pc lv st := by
  intro p l e R s m args below meth c D tc n0 ad0 ad adK A H locs cells slots MC MS ls fx rm wd hn he hl
  exact va_gets fx.1 fx.2.1 fx.2.2.2.2.2.2.2.2.2.2.1.2.1.2.2.1 wd.2.2.1 fx.2.2.2.2.1 (fx.2.2.2.2.2.1 _ w_compact) (fun _ h => h) hd (kk p l e R s m args below meth c D tc n0 ad0 ad adK A H locs cells slots MC MS ls fx rm wd hn he hl)
theorem r_sfor {name : String} {cc : ByteArray} {mL : Nat} {rt : Option FieldType} {d mc ms : Nat} {Q : Option Value → Nat → aH → Prop} {X : String → Nat → aH → Prop} {n : Nat} {h : aH} {pc : Nat} {lv : List (Nat × Value)} {st : List Value} (hd : decode cc pc = .ok (.getstatic 1053, 3)) (kk : ∀ v, (v = .null ∨ v = .ref (1000 + 2000)) → Ev RJ0 name cc mL rt d mc ms Q X n h (pc + 3) lv (v :: st)) : Ev RJ0 name cc mL rt d mc ms Q X n h pc lv st := by
  intro p l e R s m args below meth c D tc n0 ad0 ad adK A H locs cells slots MC MS ls fx rm wd hn he hl
  rcases fx.2.2.2.2.2.2.2.2.2.2.1.2.1.2.2.2.1 with z | z
  · exact va_gets fx.1 fx.2.1 z wd.2.2.1 fx.2.2.2.2.1 (fx.2.2.2.2.2.1 _ w_format) (fun _ h => h) hd (kk .null (Or.inl rfl) p l e R s m args below meth c D tc n0 ad0 ad adK A H locs cells slots MC MS ls fx rm wd hn he hl)
  · have k1 := kk (.ref (1000 + 2000)) (Or.inr rfl) p l e R s m args below meth c D tc n0 ad0 ad adK A H locs cells slots MC MS ls fx rm wd hn he hl
    rw [List.map_cons, cV_ref, wd.2.2.2 2000] at k1
    exact va_gets fx.1 fx.2.1 z wd.2.2.1 fx.2.2.2.2.1 (fx.2.2.2.2.2.1 _ w_format) (fun _ h => h) hd k1
theorem r_slen {own name : String} {cc : ByteArray} {mL : Nat} {rt : Option FieldType} {d mc ms : Nat} {Q : Option Value → Nat → aH → Prop} {X : String → Nat → aH → Prop} {n : Nat} {h : aH} {pc : Nat} {lv : List (Nat × Value)} {st : List Value} {i : Nat} (hd : decode cc pc = .ok (.arraylength, 1)) (hi : i < 23) (kk : Ev own name cc mL rt d mc ms Q X n h (pc + 1) lv (iv (sLen i) :: st)) : Ev own name cc mL rt d mc ms Q X n h pc lv (.ref (1000 + (1000 + i)) :: st) := by
  intro p l e R s m args below meth c D tc n0 ad0 ad adK A H locs cells slots MC MS ls fx rm wd hn he hl
  rw [List.map_cons, cV_ref, wd.2.2.2 (1000 + i)]
  exact va_tlen fx.1 fx.2.1 (fx.2.2.2.2.2.2.2.2.2.2.1.2.1.2.2.2.2 i hi).2.2.2 wd.2.2.1 (v := Int32.ofInt (sLen i)) (ofInt_nat _) hd (kk p l e R s m args below meth c D tc n0 ad0 ad adK A H locs cells slots MC MS ls fx rm wd hn he hl)
theorem r_sbyt {own name : String} {cc : ByteArray} {mL : Nat} {rt : Option FieldType} {d mc ms : Nat} {Q : Option Value → Nat → aH → Prop} {X : String → Nat → aH → Prop} {n : Nat} {h : aH} {pc : Nat} {lv : List (Nat × Value)} {st : List Value} {i : Nat} {k : Int} (hd : decode cc pc = .ok (.baload, 1)) (hi : i < 23) (hk : 0 ≤ k ∧ k < sLen i) (kk : Ev own name cc mL rt d mc ms Q X n h (pc + 1) lv (iv (sCh i k.toNat) :: st)) : Ev own name cc mL rt d mc ms Q X n h pc lv (iv k :: .ref (1000 + (1000 + i)) :: st) := by
  intro p l e R s m args below meth c D tc n0 ad0 ad adK A H locs cells slots MC MS ls fx rm wd hn he hl
  have hb := sLen_B i hi
  rw [List.map_cons, List.map_cons, cV_ref, wd.2.2.2 (1000 + i)]
  exact va_tb fx.1 fx.2.1 (fx.2.2.2.2.2.2.2.2.2.2.1.2.1.2.2.2.2 i hi).2.2.2 wd.2.2.1 (i := Int32.ofInt k) (tIn hk.1 hk.2 (by unfold sLen at hb; omega)) (v := iv (sCh i k.toNat)) (by rw [tCl hk.1 (by omega)]; rfl) hd (kk p l e R s m args below meth c D tc n0 ad0 ad adK A H locs cells slots MC MS ls fx rm wd hn he hl)
/-- an instance method of a String constant -/
theorem r_callVS {own name : String} {cc : ByteArray} {mL : Nat} {rt : Option FieldType} {d mc ms : Nat} {Q : Option Value → Nat → aH → Prop} {X : String → Nat → aH → Prop} {n : Nat} {h : aH} {pc : Nat} {lv : List (Nat × Value)} {st : List Value} {st0 : List Value} {idx : Nat} {y : MethodName} {c1 : ByteArray} {m1 : Nat} {r1 : Option FieldType} {np d1 mc1 ms1 : Nat} {Q1 : Option Value → Nat → aH → Prop} {X1 : String → Nat → aH → Prop} (i : Nat) (as : List Value) (hS : mSem y c1 m1 r1 d1 mc1 ms1 (.ref (1000 + i) :: as) n h Q1 X1) (hd : decode cc pc = .ok (.invokevirtual idx, 3)) (hcs : CS own idx y c1 m1 r1 np) (hin : Cond.instanceMethod y ∈ Gw ∧ Cond.selects y.cls y y ∈ Gw) (hi : i < 23) (hy : y.cls = "java/lang/String") (hd1 : d1 + 1 ≤ d) (hmc : mc1 ≤ mc) (hms : ms1 ≤ ms) (hnp : as.length = np) (h0 : st0 = as.reverse ++ .ref (1000 + i) :: st) (hcat : (st.map fun v => v.category).sum ≤ 8)
    (kx : ∀ E n2 h2, X1 E n2 h2 → n2 = n ∧ X E n h2) (kk : ∀ v n2 h2, Q1 v n2 h2 → n2 = n ∧ Ev own name cc mL rt d (mc - mc1) (ms - ms1) Q X n h2 (pc + 3) lv (v.toList ++ st)) : Ev own name cc mL rt d mc ms Q X n h pc lv st0 := by
  intro p l e R s m args below meth c D tc n0 ad0 ad adK A H locs cells slots MC MS ls fx rm wd hn he hl
  obtain ⟨hAA, hpre⟩ := sp_at (.ref (1000 + i) :: as) fx wd
  have hO := (fx.2.2.2.2.2.2.2.2.2.2.1.2.1.2.2.2.2 i hi).1.kept wd.2.2.1.2.1
  rw [← wd.2.2.2 i] at hO
  obtain ⟨cell, o1, o2, o3, -⟩ := hO
  refine ev_call (mc1 := mc1) (ms1 := ms1) fx rm wd hn he hl (vx_runV (C := y.cls) (b := ad (1000 + i)) (As := as.map (cV ad)) (rest := st.map (cV ad)) ⟨fx.1, fx.2.1, fx.2.2.2.1, fx.2.2.2.2.1, fx.2.2.2.2.2.1⟩ (hS l D tc ad adK H.size fx.2.2.2.2.2.2.2.2.1) ⟨hcs.callB fx rm hd1, fx.2.2.2.2.2.1 _ hin.1, fx.2.2.2.2.2.1 _ hin.2⟩ ⟨SP.blind, ⟨cell, o1, o2, by rw [hy]; exact o3⟩, hpre⟩ rfl (by rw [List.length_map]; exact hnp) hl.1 ?_ (lv_room (by rw [cat_map]; exact hcat)) hd ?_) hmc hms hAA kk kx
  · show st0.map (cV ad) = _
    rw [h0, List.map_append, List.map_reverse]
    rfl
  · exact ⟨by have := rm.2.2.1; omega, by have := rm.2.2.2.1; omega⟩
theorem nar_ch {z : Int} (h : 0 ≤ z ∧ z < 256) : narrow .char (iv z) = iv z := by
  have h1 := (pk_charN (q := z.toNat) (by omega)).1
  rw [nI, ofInt_nat, show ((z.toNat : Nat) : Int) = z by omega] at h1
  exact h1
theorem i2c_ch {z : Int} (h : 0 ≤ z ∧ z < 256) : ((Int32.ofInt z).toUInt32 % 65536).toInt32 = Int32.ofInt z := by
  have h1 : ∀ n, n < 256 → ((Int32.ofNat n).toUInt32 % 65536).toInt32 = Int32.ofNat n := by decide +kernel
  have h2 := h1 z.toNat (by omega)
  rw [ofInt_nat, show ((z.toNat : Nat) : Int) = z by omega] at h2
  exact h2
theorem and255 {z : Int} (h : 0 ≤ z ∧ z < 256) : Int32.ofInt z &&& Int32.ofInt 255 = Int32.ofInt z := by
  have h1 := andI z.toNat 255
  rw [show ((z.toNat : Nat) : Int) = z by omega] at h1
  rw [show (255 : Int) = ((255 : Nat) : Int) from rfl, h1, Nat.and_two_pow_sub_one_eq_mod z.toNat 8, Nat.mod_eq_of_lt (by omega)]
  congr 1
  omega
theorem pf_len : plainFor yJ0_length_8abf5 = true := by decide +kernel
theorem pf_cod : plainFor yJ0_coder_7d493 = true := by decide +kernel
theorem pf_lat : plainFor yJ0_isLatin1_aae02 = true := by decide +kernel
theorem pf_cha : plainFor yJ0_charAt_5068e = true := by decide +kernel
theorem pf_ch1 : plainFor yJ1_charAt_3b067 = true := by decide +kernel
theorem pf_ci0 : plainFor yJ0_checkIndex_df160 = true := by decide +kernel
theorem pf_ci3 : plainFor yJ3_checkIndex_8e157 = true := by decide +kernel
theorem s_J0_coder {h : aH} {i : Nat} (hi : i < 23) : mSem yJ0_coder_7d493 cJ0_coder_7d493 1 (some .byte) 0 0 0 [.ref (1000 + i)] 97 h (Ret 0 h) noX := by
  refine mSem_ofF (own := RJ0) (name := "coder") pf_cod rfl rfl (Nat.le_of_ble_eq_true rfl) ?_
  refine r_scom dJ0_coder_7d493_0 ?_
  refine r_if_eq (tgt := 13) dJ0_coder_7d493_3 (by decide) (by decide) (fun g => absurd g (by decide)) (fun _ => ?_)
  refine r_aload_n dJ0_coder_7d493_6 rfl rfl ?_
  refine r_scod dJ0_coder_7d493_7 hi ?_
  refine r_goto (tgt := 14) dJ0_coder_7d493_10 (by decide) ?_
  refine r_zret dJ0_coder_7d493_14 rfl ?_
  exact ⟨rfl, rfl, rfl⟩
theorem s_J0_isLatin1 {h : aH} {i : Nat} (hi : i < 23) : mSem yJ0_isLatin1_aae02 cJ0_isLatin1_aae02 1 (some .boolean) 0 0 0 [.ref (1000 + i)] 97 h (Ret 1 h) noX := by
  refine mSem_ofF (own := RJ0) (name := "isLatin1") pf_lat rfl rfl (Nat.le_of_ble_eq_true rfl) ?_
  refine r_scom dJ0_isLatin1_aae02_0 ?_
  refine r_if_eq (tgt := 17) dJ0_isLatin1_aae02_3 (by decide) (by decide) (fun g => absurd g (by decide)) (fun _ => ?_)
  refine r_aload_n dJ0_isLatin1_aae02_6 rfl rfl ?_
  refine r_scod dJ0_isLatin1_aae02_7 hi ?_
  refine r_if_ne (tgt := 17) dJ0_isLatin1_aae02_10 (by decide) (by decide) (fun g => absurd rfl g) (fun _ => ?_)
  refine r_iconst dJ0_isLatin1_aae02_13 ?_
  refine r_goto (tgt := 18) dJ0_isLatin1_aae02_14 (by decide) ?_
  refine r_zret dJ0_isLatin1_aae02_18 rfl ?_
  exact ⟨rfl, rfl, rfl⟩
theorem s_J0_length {h : aH} {i : Nat} (hi : i < 23) : mSem yJ0_length_8abf5 cJ0_length_8abf5 1 (some .int) 1 0 0 [.ref (1000 + i)] 97 h (Ret (sLen i) h) noX := by
  refine mSem_ofF (own := RJ0) (name := "length") pf_len rfl rfl (Nat.le_of_ble_eq_true rfl) ?_
  refine r_aload_n dJ0_length_8abf5_0 rfl rfl ?_
  refine r_sval dJ0_length_8abf5_1 hi ?_
  refine r_slen dJ0_length_8abf5_4 hi ?_
  refine r_aload_n dJ0_length_8abf5_5 rfl rfl ?_
  refine r_callVS i [] (s_J0_coder hi) dJ0_length_8abf5_6 cs_J0_335 im_J0_coder_7d493 hi rfl (by decide) (by decide) (by decide) rfl rfl (Nat.le_of_ble_eq_true rfl) (fun _ _ _ q => q.elim) (fun v n2 h2 q => ?_)
  obtain ⟨rfl, rfl, hh⟩ := q
  obtain rfl := hh.symm
  refine ⟨rfl, ?_⟩
  refine r_ishr (sLen i) dJ0_length_8abf5_9 (sb_shr0 _) ?_
  refine r_iret dJ0_length_8abf5_10 ?_
  exact ⟨rfl, rfl, rfl⟩
theorem s_J3_checkIndex {h : aH} {k L : Int} {v : Value} (hv : v = .null ∨ v = .ref (1000 + 2000)) (hk : 0 ≤ k ∧ k < L) (hL : L ≤ 100) : mSem yJ3_checkIndex_8e157 cJ3_checkIndex_8e157 3 (some .int) 0 0 0 [iv k, iv L, v] 97 h (Ret k h) noX := by
  refine mSem_ofF (own := RJ3) (name := "checkIndex") pf_ci3 rfl rfl (by rcases hv with rfl | rfl <;> exact Nat.le_of_ble_eq_true rfl) ?_
  refine r_iload_n dJ3_checkIndex_8e157_0 rfl rfl ?_
  refine r_if_lt (tgt := 9) dJ3_checkIndex_8e157_1 (by decide) ⟨by omega, by omega⟩ (fun g1 => absurd g1 (by omega)) (fun g1 => ?_)
  refine r_iload_n dJ3_checkIndex_8e157_4 rfl rfl ?_
  refine r_iload_n dJ3_checkIndex_8e157_5 rfl rfl ?_
  refine r_icmp_lt (tgt := 16) dJ3_checkIndex_8e157_6 (by decide) ⟨by omega, by omega⟩ ⟨by omega, by omega⟩ (fun g6 => ?_) (fun g6 => absurd g6 (by omega))
  refine r_iload_n dJ3_checkIndex_8e157_16 rfl rfl ?_
  refine r_iret dJ3_checkIndex_8e157_17 ?_
  exact ⟨rfl, rfl, rfl⟩

theorem s_J0_checkIndex {h : aH} {k L : Int} (hk : 0 ≤ k ∧ k < L) (hL : L ≤ 100) : mSem yJ0_checkIndex_df160 cJ0_checkIndex_df160 2 none 1 0 0 [iv k, iv L] 97 h (RetV h) noX := by
  refine mSem_ofF (own := RJ0) (name := "checkIndex") pf_ci0 rfl rfl (Nat.le_of_ble_eq_true rfl) ?_
  refine r_iload_n dJ0_checkIndex_df160_0 rfl rfl ?_
  refine r_iload_n dJ0_checkIndex_df160_1 rfl rfl ?_
  refine r_sfor dJ0_checkIndex_df160_2 (fun v hv => ?_)
  refine r_callS [_, _, v] (s_J3_checkIndex hv hk hL) dJ0_checkIndex_df160_5 cs_J0_1059 sm_J3_checkIndex_8e157 (by decide) (by decide) (by decide) rfl rfl (Nat.le_of_ble_eq_true rfl) (fun _ _ _ q => q.elim) (fun w n2 h2 q => ?_)
  obtain ⟨rfl, rfl, hh⟩ := q
  obtain rfl := hh.symm
  refine ⟨rfl, ?_⟩
  refine r_pop dJ0_checkIndex_df160_8 rfl ?_
  refine r_vret dJ0_checkIndex_df160_9 ?_
  exact ⟨rfl, rfl, rfl⟩
theorem s_J1_charAt {h : aH} {i : Nat} {k : Int} (hi : i < 23) (hk : 0 ≤ k ∧ k < sLen i) : mSem yJ1_charAt_3b067 cJ1_charAt_3b067 2 (some .char) 2 0 0 [.ref (1000 + (1000 + i)), iv k] 97 h (Ret (sCh i k.toNat) h) noX := by
  have hb := sLen_B i hi
  have hc := sCh_B (i := i) (k := k.toNat) hi (by omega)
  refine mSem_ofF (own := RJ1) (name := "charAt") pf_ch1 rfl rfl (Nat.le_of_ble_eq_true rfl) ?_
  refine r_iload_n dJ1_charAt_3b067_0 rfl rfl ?_
  refine r_aload_n dJ1_charAt_3b067_1 rfl rfl ?_
  refine r_slen dJ1_charAt_3b067_2 hi ?_
  refine r_callS [_, _] (s_J0_checkIndex hk (by omega)) dJ1_charAt_3b067_3 cs_J1_9 sm_J0_checkIndex_df160 (by decide) (by decide) (by decide) rfl rfl (Nat.le_of_ble_eq_true rfl) (fun _ _ _ q => q.elim) (fun w n2 h2 q => ?_)
  obtain ⟨rfl, rfl, hh⟩ := q
  obtain rfl := hh.symm
  refine ⟨rfl, ?_⟩
  refine r_aload_n dJ1_charAt_3b067_6 rfl rfl ?_
  refine r_iload_n dJ1_charAt_3b067_7 rfl rfl ?_
  refine r_sbyt dJ1_charAt_3b067_8 hi hk ?_
  refine r_sipush dJ1_charAt_3b067_9 rfl ?_
  refine r_iand (sCh i k.toNat) dJ1_charAt_3b067_12 (and255 (by omega)) ?_
  refine r_i2c (sCh i k.toNat) dJ1_charAt_3b067_13 (i2c_ch (by omega)) ?_
  refine r_zret dJ1_charAt_3b067_14 (nar_ch (by omega)) ?_
  exact ⟨rfl, rfl, rfl⟩
theorem s_J0_charAt {h : aH} {i : Nat} {k : Int} (hi : i < 23) (hk : 0 ≤ k ∧ k < sLen i) : mSem yJ0_charAt_5068e cJ0_charAt_5068e 2 (some .char) 3 0 0 [.ref (1000 + i), iv k] 97 h (Ret (sCh i k.toNat) h) noX := by
  have hb := sLen_B i hi
  have hc := sCh_B (i := i) (k := k.toNat) hi (by omega)
  refine mSem_ofF (own := RJ0) (name := "charAt") pf_cha rfl rfl (Nat.le_of_ble_eq_true rfl) ?_
  refine r_aload_n dJ0_charAt_5068e_0 rfl rfl ?_
  refine r_callVS i [] (s_J0_isLatin1 hi) dJ0_charAt_5068e_1 cs_J0_492 im_J0_isLatin1_aae02 hi rfl (by decide) (by decide) (by decide) rfl rfl (Nat.le_of_ble_eq_true rfl) (fun _ _ _ q => q.elim) (fun w n2 h2 q => ?_)
  obtain ⟨rfl, rfl, hh⟩ := q
  obtain rfl := hh.symm
  refine ⟨rfl, ?_⟩
  refine r_if_eq (tgt := 16) dJ0_charAt_5068e_4 (by decide) (by decide) (fun g => absurd g (by decide)) (fun _ => ?_)
  refine r_aload_n dJ0_charAt_5068e_7 rfl rfl ?_
  refine r_sval dJ0_charAt_5068e_8 hi ?_
  refine r_iload_n dJ0_charAt_5068e_11 rfl rfl ?_
  refine r_callS [.ref (1000 + (1000 + i)), _] (s_J1_charAt hi hk) dJ0_charAt_5068e_12 cs_J0_495 sm_J1_charAt_3b067 (by decide) (by decide) (by decide) rfl rfl (Nat.le_of_ble_eq_true rfl) (fun _ _ _ q => q.elim) (fun w n2 h2 q => ?_)
  obtain ⟨rfl, rfl, hh⟩ := q
  obtain rfl := hh.symm
  refine ⟨rfl, ?_⟩
  refine r_zret dJ0_charAt_5068e_15 (nar_ch (by omega)) ?_
  exact ⟨rfl, rfl, rfl⟩
