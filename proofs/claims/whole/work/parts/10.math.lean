/-! ===== small rows, and the JDK's Math ===== -/
theorem mSem_ofF {y : MethodName} {own name : String} {cc : ByteArray} {mL : Nat} {rt : Option FieldType} {d mc ms : Nat} {av : List Value} {n : Nat} {h : aH} {Q : Option Value → Nat → aH → Prop} {X : String → Nat → aH → Prop}
    (hy : plainFor y = true) (ho : y.cls = own) (hnm : y.name = name) (hlen : (lg_sl av).length ≤ mL) (k : Ev own name cc mL rt d mc ms Q X n h 0 (lv_args 0 av) []) : mSem y cc mL rt d mc ms av n h Q X := by
  intro l D tc ad adK sz hl
  refine MetFree.of_bodySF (code := cc) (maxLocals := mL) (ret := rt) hy ?_ ?_
  · intro args s m h hn
    obtain ⟨meth, c, h1, h2, h3, h4, h5, h6, -, -⟩ := Cond.code_spec hn (atoms_spec (ws := wsO y cc mL rt) h _ List.mem_cons_self)
    exact ⟨meth, c, h1, h2, h3, h4, h5, h6⟩
  · intro p e s m args below meth c s₁ B hml hv _
    obtain ⟨rfl, hsz, hE, hP, hD, hk⟩ := hv
    subst hsz
    have hts := atoms_spec (ws := wsO y cc mL rt) B.pre
    have hnames := name_of_methodNamed B.named B.method
    have hh0 : s₁.heap = s.heap := by rw [B.state]; rfl
    have hx : ∀ x ∈ c.exceptionTable.toList, False := by
      obtain ⟨meth9, c9, h1, h2, -, -, -, -, h7, -⟩ := Cond.code_spec B.named (hts _ List.mem_cons_self)
      cases Option.some.inj (h1.symm.trans B.method)
      cases Option.some.inj (h2.symm.trans (Stand.of_body B).code)
      intro x hx
      rw [Array.isEmpty_iff.mp h7] at hx
      cases hx
    have hl0 := lv_entry (av.map (cV ad)) (n := mL) (by rw [lg_sl_len]; exact hlen)
    rw [lv_args_map] at hl0
    have kw := k p l e (rmO d mc ms) s m _ below meth c D tc n ad ad adK _ s.heap [] 0 0 mc ms _ ⟨B.exec, B.bytes, B.returns, hml, by rw [← ho]; exact findClass_of_methodNamed B.named, fun w hw => hts w (List.mem_cons_of_mem _ hw), B.notSynchronized, by rw [← hnm]; exact hnames.1, hl, hx, hE, fun q hq => Or.inr hq⟩ ⟨Nat.le_refl _, Nat.le_refl _, by show 0 + mc ≤ mc; omega, by show 0 + ms ≤ ms; omega, by omega, by omega⟩ ⟨hP, hD, va_S.rf, hk⟩ (Nat.le_refl _) ⟨fun _ => rfl, fun _ _ => rfl⟩ hl0
    rw [← List.map_nil (f := cV ad)] at kw
    obtain ⟨t, a1, o, b1, b2, b3⟩ := kw s₁ hh0 (Stand.of_body B)
    refine ⟨t, o, ?_, b1, b2, b3⟩
    rw [lg_entry_eq]
    exact a1
theorem ivE {a b : Int} (h : a = b) : some (iv a) = some (iv b) := by rw [h]
theorem nar_bool {z : Int} (hz : z = 0 ∨ z = 1) (ad : Nat → Nat) : narrow .boolean (cV ad (iv z)) = cV ad (iv z) ∧ fits .boolean (cV ad (iv z)) = true := by rcases hz with rfl | rfl <;> exact ⟨rfl, rfl⟩
theorem nar_ref (c : String) (i : Nat) (ad : Nat → Nat) : narrow (.object c) (cV ad (.ref i)) = cV ad (.ref i) ∧ fits (.object c) (cV ad (.ref i)) = true := ⟨rfl, rfl⟩
theorem nar_arr (c : FieldType) (i : Nat) (ad : Nat → Nat) : narrow (.array c) (cV ad (.ref i)) = cV ad (.ref i) ∧ fits (.array c) (cV ad (.ref i)) = true := ⟨rfl, rfl⟩
theorem r_dup2 {own name : String} {cc : ByteArray} {mL : Nat} {rt : Option FieldType} {d mc ms : Nat} {Q : Option Value → Nat → aH → Prop} {X : String → Nat → aH → Prop} {n : Nat} {h : aH} {pc : Nat} {lv : List (Nat × Value)} {st : List Value} {v w : Value} (hd : decode cc pc = .ok (.dup2, 1)) (hv : v.category = 1) (hw : w.category = 1) (k : Ev own name cc mL rt d mc ms Q X n h (pc + 1) lv (v :: w :: v :: w :: st)) : Ev own name cc mL rt d mc ms Q X n h pc lv (v :: w :: st) := by
  intro p l e R s m args below meth c D tc n0 ad0 ad adK A H locs cells slots MC MS ls fx rm wd hn he hl
  exact lv_dup2_11 fx.1 fx.2.1 hd (by rw [cV_cat]; exact hv) (by rw [cV_cat]; exact hw) (k p l e R s m args below meth c D tc n0 ad0 ad adK A H locs cells slots MC MS ls fx rm wd hn he hl)
/-- the int that two ints' xor is -/
theorem xorI (a b : Int) : Int32.ofInt a ^^^ Int32.ofInt b = Int32.ofInt (Int32.ofInt a ^^^ Int32.ofInt b).toInt := (Int32.ofInt_toInt _).symm
theorem xor_neg {a b : Int} (ha : inR a) (hb : inR b) : (Int32.ofInt a ^^^ Int32.ofInt b).toInt < 0 ↔ ¬ (a < 0 ↔ b < 0) := by
  have h1 : ∀ x : Int32, x.toInt < 0 ↔ x.toBitVec.msb = true := by
    intro x
    show x.toBitVec.toInt < 0 ↔ _
    rw [BitVec.msb_eq_toInt]
    simp
  rw [h1, Int32.toBitVec_xor, BitVec.msb_xor]
  have h2 := h1 (Int32.ofInt a)
  have h3 := h1 (Int32.ofInt b)
  rw [tI ha] at h2
  rw [tI hb] at h3
  rw [h2, h3]
  cases (Int32.ofInt a).toBitVec.msb <;> cases (Int32.ofInt b).toBitVec.msb <;> simp
theorem inR32 (x : Int32) : inR x.toInt := ⟨by have := Int32.le_toInt x; omega, by have := Int32.toInt_lt x; omega⟩
theorem pn_X0 : plainName RX0 = true := by decide +kernel
theorem pn_X1 : plainName RX1 = true := by decide +kernel
theorem pn_X2 : plainName RX2 = true := by decide +kernel
theorem pn_X3 : plainName RX3 = true := by decide +kernel
theorem pn_X4 : plainName RX4 = true := by decide +kernel
theorem pn_X5 : plainName RX5 = true := by decide +kernel
theorem pn_X6 : plainName RX6 = true := by decide +kernel
theorem pn_X7 : plainName RX7 = true := by decide +kernel
theorem pn_X8 : plainName RX8 = true := by decide +kernel
theorem pn_X9 : plainName RX9 = true := by decide +kernel
theorem pn_L : plainName RL = true := by decide +kernel
abbrev noX : String → Nat → aH → Prop := fun _ _ _ => False
/-- an answer r, the heap as h2 -/
abbrev Ret (r : Int) (h2 : aH) : Option Value → Nat → aH → Prop := fun v n' h' => v = some (iv r) ∧ n' = 97 ∧ h' = h2
abbrev RetV (h2 : aH) : Option Value → Nat → aH → Prop := fun v n' h' => v = none ∧ n' = 97 ∧ h' = h2

theorem tdR {x y : Int} (hx : -2147483648 ≤ x ∧ x ≤ 2147483647) (hy : 0 < y ∧ y ≤ 2147483647) : -2147483648 ≤ x.tdiv y ∧ x.tdiv y ≤ 2147483647 := by
  have h1 := Int.natAbs_tdiv_le_natAbs x y
  rcases Int.le_total 0 x with h | h
  · have h2 := Int.tdiv_nonneg h (Int.le_of_lt hy.1)
    omega
  · have h2 : 0 ≤ (-x).tdiv y := Int.tdiv_nonneg (by omega) (Int.le_of_lt hy.1)
    rw [Int.neg_tdiv] at h2
    omega
theorem tmR (x : Int) {y : Int} (hy : 0 < y) : -y < x.tmod y ∧ x.tmod y < y ∧ (x % y = x.tmod y ∧ 0 ≤ x.tmod y ∨ x % y = x.tmod y + y ∧ x.tmod y < 0) ∧ (0 ≤ x → 0 ≤ x.tmod y) ∧ (x ≤ 0 → x.tmod y ≤ 0) := by
  have h1 := tmod_bounds (a := x) hy
  refine ⟨h1.1, h1.2, ?_, fun h => Int.tmod_nonneg y h, fun h => by
    have h2 := Int.tmod_nonneg y (show 0 ≤ -x by omega)
    rw [Int.neg_tmod] at h2
    omega⟩
  have h2 := Int.emod_nonneg x (by omega : y ≠ 0)
  have h3 := Int.emod_lt_of_pos x hy
  have h4 := Int.tmod_add_mul_tdiv x y
  have h5 := Int.emod_add_mul_ediv x y
  rcases Int.lt_or_le (x.tmod y) 0 with h | h
  · refine Or.inr ⟨?_, h⟩
    have e : x % y = (x.tmod y + y) % y := by
      rw [Int.add_emod_right, ← h4, Int.add_mul_emod_self_left]
      rw [h4]
    rw [e, Int.emod_eq_of_lt (by omega) (by omega)]
  · refine Or.inl ⟨?_, h⟩
    have e : x % y = (x.tmod y) % y := by
      conv => lhs; rw [← h4]
      rw [Int.add_mul_emod_self_left]
    rw [e, Int.emod_eq_of_lt h h1.2]

theorem s_J9_abs_0f7a4 {h : aH} {x : Int} (hx : -2147483647 ≤ x ∧ x ≤ 2147483647) : mSem yJ9_abs_0f7a4 cJ9_abs_0f7a4 1 (some .int) 0 0 0 [iv x] 97 h (Ret x.natAbs h) noX := by
  refine mSem_ofF (by decide +kernel) rfl rfl (Nat.le_of_ble_eq_true rfl) ?_
  refine r_iload_n dJ9_abs_0f7a4_0 rfl rfl ?_
  refine r_if_ge (tgt := 9) dJ9_abs_0f7a4_1 (by decide) ⟨by omega, by omega⟩ (fun g1 => ?_) (fun g1 => ?_)
  · refine r_iload_n dJ9_abs_0f7a4_9 rfl rfl ?_
    refine r_iret dJ9_abs_0f7a4_10 ?_
    exact ⟨ivE (by omega), rfl, rfl⟩
  · refine r_iload_n dJ9_abs_0f7a4_4 rfl rfl ?_
    refine r_ineg dJ9_abs_0f7a4_5 ?_
    refine r_goto (tgt := 10) dJ9_abs_0f7a4_6 (by decide) ?_
    refine r_iret dJ9_abs_0f7a4_10 ?_
    exact ⟨ivE (by omega), rfl, rfl⟩

theorem s_J9_max_7cf53 {h : aH} {x y : Int} (hx : inR x) (hy : inR y) : mSem yJ9_max_7cf53 cJ9_max_7cf53 2 (some .int) 0 0 0 [iv x, iv y] 97 h (Ret (max x y) h) noX := by
  refine mSem_ofF (by decide +kernel) rfl rfl (Nat.le_of_ble_eq_true rfl) ?_
  refine r_iload_n dJ9_max_7cf53_0 rfl rfl ?_
  refine r_iload_n dJ9_max_7cf53_1 rfl rfl ?_
  refine r_icmp_lt (tgt := 9) dJ9_max_7cf53_2 (by decide) hx hy (fun g2 => ?_) (fun g2 => ?_)
  · refine r_iload_n dJ9_max_7cf53_9 rfl rfl ?_
    refine r_iret dJ9_max_7cf53_10 ?_
    exact ⟨ivE (by omega), rfl, rfl⟩
  · refine r_iload_n dJ9_max_7cf53_5 rfl rfl ?_
    refine r_goto (tgt := 10) dJ9_max_7cf53_6 (by decide) ?_
    refine r_iret dJ9_max_7cf53_10 ?_
    exact ⟨ivE (by omega), rfl, rfl⟩

theorem s_J9_min_7cf53 {h : aH} {x y : Int} (hx : inR x) (hy : inR y) : mSem yJ9_min_7cf53 cJ9_min_7cf53 2 (some .int) 0 0 0 [iv x, iv y] 97 h (Ret (min x y) h) noX := by
  refine mSem_ofF (by decide +kernel) rfl rfl (Nat.le_of_ble_eq_true rfl) ?_
  refine r_iload_n dJ9_min_7cf53_0 rfl rfl ?_
  refine r_iload_n dJ9_min_7cf53_1 rfl rfl ?_
  refine r_icmp_gt (tgt := 9) dJ9_min_7cf53_2 (by decide) hx hy (fun g2 => ?_) (fun g2 => ?_)
  · refine r_iload_n dJ9_min_7cf53_9 rfl rfl ?_
    refine r_iret dJ9_min_7cf53_10 ?_
    exact ⟨ivE (by omega), rfl, rfl⟩
  · refine r_iload_n dJ9_min_7cf53_5 rfl rfl ?_
    refine r_goto (tgt := 10) dJ9_min_7cf53_6 (by decide) ?_
    refine r_iret dJ9_min_7cf53_10 ?_
    exact ⟨ivE (by omega), rfl, rfl⟩

theorem s_J9_floorMod_7cf53 {h : aH} {x y : Int} (hx : inR x) (hy : 0 < y ∧ y ≤ 2147483647) : mSem yJ9_floorMod_7cf53 cJ9_floorMod_7cf53 3 (some .int) 0 0 0 [iv x, iv y] 97 h (Ret (x % y) h) noX := by
  refine mSem_ofF (by decide +kernel) rfl rfl (Nat.le_of_ble_eq_true rfl) ?_
  refine r_iload_n dJ9_floorMod_7cf53_0 rfl rfl ?_
  refine r_iload_n dJ9_floorMod_7cf53_1 rfl rfl ?_
  have htd : inR (x.tdiv y) := tdR hx hy
  obtain ⟨ht1, ht2, ht3, ht4, ht5⟩ := tmR x hy.1
  refine r_irem dJ9_floorMod_7cf53_2 hx ⟨by omega, by omega⟩ (by omega) htd ?_
  refine r_istore_n (lv2 := [(0, _), (1, _), (2, _)]) dJ9_floorMod_7cf53_3 rfl (by decide) rfl rfl ?_
  refine r_iload_n dJ9_floorMod_7cf53_4 rfl rfl ?_
  refine r_iload_n dJ9_floorMod_7cf53_5 rfl rfl ?_
  have hxr := xor_neg (a := x) (b := y) hx ⟨by omega, by omega⟩
  refine r_ixor _ dJ9_floorMod_7cf53_6 (xorI _ _) ?_
  refine r_if_ge (tgt := 18) dJ9_floorMod_7cf53_7 (by decide) (inR32 _) (fun g7 => ?_) (fun g7 => ?_)
  · refine r_iload_n dJ9_floorMod_7cf53_18 rfl rfl ?_
    refine r_iret dJ9_floorMod_7cf53_19 ?_
    exact ⟨ivE (by omega), rfl, rfl⟩
  · refine r_iload_n dJ9_floorMod_7cf53_10 rfl rfl ?_
    refine r_if_eq (tgt := 18) dJ9_floorMod_7cf53_11 (by decide) ⟨by omega, by omega⟩ (fun g11 => ?_) (fun g11 => ?_)
    · refine r_iload_n dJ9_floorMod_7cf53_18 rfl rfl ?_
      refine r_iret dJ9_floorMod_7cf53_19 ?_
      exact ⟨ivE (by omega), rfl, rfl⟩
    · refine r_iload_n dJ9_floorMod_7cf53_14 rfl rfl ?_
      refine r_iload_n dJ9_floorMod_7cf53_15 rfl rfl ?_
      refine r_iadd dJ9_floorMod_7cf53_16 ?_
      refine r_iret dJ9_floorMod_7cf53_17 ?_
      exact ⟨ivE (by omega), rfl, rfl⟩
