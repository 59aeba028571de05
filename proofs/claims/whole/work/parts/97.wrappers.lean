/-! ===== the wrappers with catch ===== -/
/-- the same int, within the ints -/
def nz (r : Int) : Int := (Int32.ofInt r).toInt
theorem nz_R (r : Int) : inR (nz r) := ⟨Int32.le_toInt _, by have := Int32.toInt_lt (Int32.ofInt r); unfold nz; omega⟩
theorem nz_iv (r : Int) : iv (nz r) = iv r := by
  show Value.int (Int32.ofInt (nz r)) = _
  unfold nz
  rw [Int32.ofInt_toInt]
section
variable {Z : ZT} {own name : String} {cc : ByteArray} {mL : Nat} {rt : Option FieldType} {d mc ms : Nat} {Q : Option Value → Nat → aH → Prop} {X : String → Nat → aH → Prop} {n : Nat} {h : aH} {pc : Nat} {lv : List (Nat × Value)} {st : List Value}
theorem g_i2l {x : Int} (hd : decode cc pc = .ok (.i2l, 1)) (k : EvG Z own name cc mL rt d mc ms Q X n h (pc + 1) lv (lw (nz x) :: st)) : EvG Z own name cc mL rt d mc ms Q X n h pc lv (iv x :: st) := by
  intro p l e R s m args below meth c D tc n0 ad0 ad adK A H locs cells slots MC MS ls fx rm wd hn he hl
  have k1 := k p l e R s m args below meth c D tc n0 ad0 ad adK A H locs cells slots MC MS ls fx rm wd hn he hl
  refine lv_i2l fx.1 fx.2.1 hd (v := Int64.ofInt (nz x)) ?_ k1
  have e1 := nz_iv x
  rw [show Int32.ofInt x = Int32.ofInt (nz x) from (Value.int.inj e1).symm]
  exact i2lI (nz_R x)
theorem updL_ofInt (f : Nat → Int) (i : Nat) (x : Int) : vp_updL (fun j => Int64.ofInt (f j)) i (Int64.ofInt x) = fun j => Int64.ofInt (va_up f i x j) := by
  funext j
  by_cases hj : j = i
  · simp [vp_updL, va_up, hj]
  · simp [vp_updL, va_up, hj]
theorem g_last {a N : Nat} {f : Nat → Int} {z x : Int} (hd : decode cc pc = .ok (.lastore, 1)) (hi : a < n) (hc : h a = .inl (3, N, f)) (h0 : 0 ≤ z) (h1 : z < N) (hN : N < 2147483648) (kk : EvG Z own name cc mL rt d mc ms Q X n (va_up h a (.inl (3, N, va_up f z.toNat x))) (pc + 1) lv st) : EvG Z own name cc mL rt d mc ms Q X n h pc lv (lw x :: iv z :: .ref a :: st) := by
  intro p l e R s m args below meth c D tc n0 ad0 ad adK A H locs cells slots MC MS ls fx rm wd hn he hl
  refine va_last (D := D) (cl := vwCl) (tys := tyL tc) (cA := tc 3) (n := N) (f := fun j => Int64.ofInt (f j)) fx.1 fx.2.1 (gK fx) wd.1 wd.2.1 wd.2.2.1 a 3 ?_ rfl (tIn h0 h1 hN) hd (fun H1 locs1 hP hD hS => kk p l e R s m args below meth c D tc n0 ad0 ad adK A H1 locs1 cells slots MC MS ls fx rm ⟨?_, ?_, hS, wd.2.2.2⟩ hn he hl)
  · rw [cW_get hi, hc]; rfl
  · rw [tCl h0 (by omega), updL_ofInt, show (Sum.inl (tc 3, N, Sum.inr (Sum.inl fun j => Int64.ofInt (va_up f z.toNat x j))) : va_E) = cE ad tc (.inl (3, N, va_up f z.toNat x)) from rfl, cW_set] at hP
    exact hP
  · rw [tCl h0 (by omega), updL_ofInt, show (Sum.inl (tc 3, N, Sum.inr (Sum.inl fun j => Int64.ofInt (va_up f z.toNat x j))) : va_E) = cE ad tc (.inl (3, N, va_up f z.toNat x)) from rfl, cW_set] at hD
    exact hD
theorem g_lald {a N : Nat} {f : Nat → Int} {z : Int} (hd : decode cc pc = .ok (.laload, 1)) (hi : a < n) (hc : h a = .inl (3, N, f)) (h0 : 0 ≤ z) (h1 : z < N) (hN : N < 2147483648) (kk : EvG Z own name cc mL rt d mc ms Q X n h (pc + 1) lv (lw (f z.toNat) :: st)) : EvG Z own name cc mL rt d mc ms Q X n h pc lv (iv z :: .ref a :: st) := by
  intro p l e R s m args below meth c D tc n0 ad0 ad adK A H locs cells slots MC MS ls fx rm wd hn he hl
  have k1 := kk p l e R s m args below meth c D tc n0 ad0 ad adK A H locs cells slots MC MS ls fx rm wd hn he hl
  refine va_lald (D := D) (cl := vwCl) (tys := tyL tc) (cA := tc 3) (n := N) (f := fun j => Int64.ofInt (f j)) fx.1 fx.2.1 (gK fx) wd.1 a 3 ?_ rfl (tIn h0 h1 hN) hd ?_
  · rw [cW_get hi, hc]; rfl
  · rw [tCl h0 (by omega)]; exact k1
/-- two equal longs -/
theorem g_lcmp0 {x : Int} (hd : decode cc pc = .ok (.lcmp, 1)) (k : EvG Z own name cc mL rt d mc ms Q X n h (pc + 1) lv (iv 0 :: st)) : EvG Z own name cc mL rt d mc ms Q X n h pc lv (lw x :: lw x :: st) := by
  intro p l e R s m args below meth c D tc n0 ad0 ad adK A H locs cells slots MC MS ls fx rm wd hn he hl
  have k1 := k p l e R s m args below meth c D tc n0 ad0 ad adK A H locs cells slots MC MS ls fx rm wd hn he hl
  have e1 : lg_cmp (Int64.ofInt x) (Int64.ofInt x) = Int32.ofInt 0 := by
    unfold lg_cmp
    rw [if_neg (by rw [gt_iff_lt, Int64.lt_iff_toInt_lt]; omega), if_pos rfl]
    rfl
  rw [List.map_cons, cV_int, ← e1] at k1
  exact W.lcmp fx.1 fx.2.1 hd k1
end
/-- a wrapper's end: 0 and the answer laid down, or the number of what was caught -/
def WQ (h0 : aH) (Q1 : Option Value → Nat → aH → Prop) (X1 : String → Nat → aH → Prop) (zN zI : Int) : Option Value → Nat → aH → Prop := fun v n' h' => n' = 97 ∧ ((v = some (iv 0) ∧ ∃ (r : Int) (h2 : aH) (f : Nat → Int), Q1 (some (iv r)) 97 h2 ∧ h2 96 = .inl (3, 1, f) ∧ h' = va_up h2 96 (.inl (3, 1, va_up f 0 (nz r)))) ∨ (X1 nmN 97 h' ∧ v = some (iv zN)) ∨ (X1 nmI 97 h' ∧ v = some (iv zI)))
theorem aL_N : Cond.classLink RL 22 nmN ∈ Gw := inT4 66 rfl rfl
theorem aL_I : Cond.classLink RL 13 nmI ∈ Gw := inT2 182 rfl rfl
theorem cw_L_port : Cond.codeWith yL_port cL_port 4 (some .int) [(0, 9, 12, 13)] ∈ Gw := inT2 181 rfl rfl
theorem sl_L_port : Cond.static yL_port ∈ Gw := inT2 180 rfl rfl
theorem s_L_port {h : aH} {a0 : Int} {fs : List Value} {f : Nat → Int} {d1 mc1 ms1 : Nat} {Q1 : Option Value → Nat → aH → Prop} {X1 : String → Nat → aH → Prop} (hS : mSem yX8_port cX8_port 3 (some .int) d1 mc1 ms1 [.ref 0, iv a0] 97 h Q1 X1) (c0 : h 0 = .inr (8, fs)) (c96 : h 96 = .inl (3, 1, f)) (hq : ∀ v n2 h2, Q1 v n2 h2 → n2 = 97 ∧ (∃ r, v = some (iv r)) ∧ h2 96 = h 96) (hx : ∀ E n2 h2, X1 E n2 h2 → n2 = 97 ∧ (E = nmI)) : mSemH yL_port cL_port 4 (some .int) [(0, 9, 12, 13)] (d1 + 1) mc1 ms1 [.ref 0, iv a0, .ref 96] 97 h (WQ h Q1 X1 1 1) noX := by
  refine mSemH_of (own := RL) (name := "port") pn_L rfl rfl (Nat.le_of_ble_eq_true rfl) ?_
  refine g_aload_n dL_port_0 rfl rfl ?_
  refine g_iconst dL_port_1 ?_
  refine g_aload_n dL_port_2 rfl rfl ?_
  refine g_iload_n dL_port_3 rfl rfl ?_
  refine g_callC 0 [iv a0] hS dL_port_4 cs_L_7 im_X8_port (by decide) c0 rfl (Nat.le_refl _) (Nat.le_refl _) (Nat.le_refl _) rfl rfl (by decide) (fun E n2 h2 q => ?_) (fun v n2 h2 q => ?_)
  · obtain ⟨rfl, hE⟩ := hx E n2 h2 q
    refine ⟨rfl, ?_⟩
    subst hE
    exact ⟨12, 1, ⟨[], _, [], nmI, rfl, rfl, rfl, by decide, aL_I, by decide, fun y hy => absurd hy List.not_mem_nil⟩, Or.inl ⟨3, dL_port_12, by decide, dL_port_13, dL_port_14⟩, rfl, Or.inr (Or.inr ⟨q, rfl⟩)⟩
  obtain ⟨rfl, ⟨r, rfl⟩, hf⟩ := hq v n2 h2 q
  refine ⟨rfl, ?_⟩
  dsimp only [Option.toList, List.cons_append, List.nil_append]
  refine g_i2l dL_port_7 ?_
  refine g_last dL_port_8 (by decide) (hf.trans c96) (by decide) (by decide) (by decide) ?_
  refine g_goto (tgt := 15) dL_port_9 (by decide) ?_
  refine g_iconst dL_port_15 ?_
  refine g_iret dL_port_16 ?_
  exact ⟨rfl, Or.inl ⟨rfl, r, h2, f, q, hf.trans c96, rfl⟩⟩
theorem cw_L_law : Cond.codeWith yL_law cL_law 4 (some .int) [(0, 9, 12, 13)] ∈ Gw := inT3 183 rfl rfl
theorem sl_L_law : Cond.static yL_law ∈ Gw := inT3 182 rfl rfl
theorem s_L_law {h : aH} {a0 : Int} {fs : List Value} {f : Nat → Int} {d1 mc1 ms1 : Nat} {Q1 : Option Value → Nat → aH → Prop} {X1 : String → Nat → aH → Prop} (hS : mSem yX8_law cX8_law 3 (some .int) d1 mc1 ms1 [.ref 0, iv a0] 97 h Q1 X1) (c0 : h 0 = .inr (8, fs)) (c96 : h 96 = .inl (3, 1, f)) (hq : ∀ v n2 h2, Q1 v n2 h2 → n2 = 97 ∧ (∃ r, v = some (iv r)) ∧ h2 96 = h 96) (hx : ∀ E n2 h2, X1 E n2 h2 → n2 = 97 ∧ (E = nmI)) : mSemH yL_law cL_law 4 (some .int) [(0, 9, 12, 13)] (d1 + 1) mc1 ms1 [.ref 0, iv a0, .ref 96] 97 h (WQ h Q1 X1 1 1) noX := by
  refine mSemH_of (own := RL) (name := "law") pn_L rfl rfl (Nat.le_of_ble_eq_true rfl) ?_
  refine g_aload_n dL_law_0 rfl rfl ?_
  refine g_iconst dL_law_1 ?_
  refine g_aload_n dL_law_2 rfl rfl ?_
  refine g_iload_n dL_law_3 rfl rfl ?_
  refine g_callC 0 [iv a0] hS dL_law_4 cs_L_15 im_X8_law (by decide) c0 rfl (Nat.le_refl _) (Nat.le_refl _) (Nat.le_refl _) rfl rfl (by decide) (fun E n2 h2 q => ?_) (fun v n2 h2 q => ?_)
  · obtain ⟨rfl, hE⟩ := hx E n2 h2 q
    refine ⟨rfl, ?_⟩
    subst hE
    exact ⟨12, 1, ⟨[], _, [], nmI, rfl, rfl, rfl, by decide, aL_I, by decide, fun y hy => absurd hy List.not_mem_nil⟩, Or.inl ⟨3, dL_law_12, by decide, dL_law_13, dL_law_14⟩, rfl, Or.inr (Or.inr ⟨q, rfl⟩)⟩
  obtain ⟨rfl, ⟨r, rfl⟩, hf⟩ := hq v n2 h2 q
  refine ⟨rfl, ?_⟩
  dsimp only [Option.toList, List.cons_append, List.nil_append]
  refine g_i2l dL_law_7 ?_
  refine g_last dL_law_8 (by decide) (hf.trans c96) (by decide) (by decide) (by decide) ?_
  refine g_goto (tgt := 15) dL_law_9 (by decide) ?_
  refine g_iconst dL_law_15 ?_
  refine g_iret dL_law_16 ?_
  exact ⟨rfl, Or.inl ⟨rfl, r, h2, f, q, hf.trans c96, rfl⟩⟩
theorem cw_L_lawful : Cond.codeWith yL_lawful cL_lawful 5 (some .int) [(0, 10, 13, 22), (0, 10, 17, 13)] ∈ Gw := inT4 65 rfl rfl
theorem sl_L_lawful : Cond.static yL_lawful ∈ Gw := inT4 64 rfl rfl
theorem s_L_lawful {h : aH} {a0 a1 : Int} {fs : List Value} {f : Nat → Int} {d1 mc1 ms1 : Nat} {Q1 : Option Value → Nat → aH → Prop} {X1 : String → Nat → aH → Prop} (hS : mSem yX8_lawful cX8_lawful 3 (some .int) d1 mc1 ms1 [.ref 0, iv a0, iv a1] 97 h Q1 X1) (c0 : h 0 = .inr (8, fs)) (c96 : h 96 = .inl (3, 1, f)) (hq : ∀ v n2 h2, Q1 v n2 h2 → n2 = 97 ∧ (∃ r, v = some (iv r)) ∧ h2 96 = h 96) (hx : ∀ E n2 h2, X1 E n2 h2 → n2 = 97 ∧ (E = nmN ∨ E = nmI)) : mSemH yL_lawful cL_lawful 5 (some .int) [(0, 10, 13, 22), (0, 10, 17, 13)] (d1 + 1) mc1 ms1 [.ref 0, iv a0, iv a1, .ref 96] 97 h (WQ h Q1 X1 1 2) noX := by
  refine mSemH_of (own := RL) (name := "lawful") pn_L rfl rfl (Nat.le_of_ble_eq_true rfl) ?_
  refine g_aload_n dL_lawful_0 rfl rfl ?_
  refine g_iconst dL_lawful_1 ?_
  refine g_aload_n dL_lawful_2 rfl rfl ?_
  refine g_iload_n dL_lawful_3 rfl rfl ?_
  refine g_iload_n dL_lawful_4 rfl rfl ?_
  refine g_callC 0 [iv a0, iv a1] hS dL_lawful_5 cs_L_18 im_X8_lawful (by decide) c0 rfl (Nat.le_refl _) (Nat.le_refl _) (Nat.le_refl _) rfl rfl (by decide) (fun E n2 h2 q => ?_) (fun v n2 h2 q => ?_)
  · obtain ⟨rfl, hE⟩ := hx E n2 h2 q
    refine ⟨rfl, ?_⟩
    rcases hE with rfl | rfl
    · exact ⟨13, 1, ⟨[], _, [_], nmN, rfl, rfl, rfl, by decide, aL_N, by decide, fun y hy => absurd hy List.not_mem_nil⟩, Or.inr ⟨4, dL_lawful_13, by decide, dL_lawful_15, dL_lawful_16⟩, rfl, Or.inr (Or.inl ⟨q, rfl⟩)⟩
    · exact ⟨17, 2, ⟨[_], _, [], nmI, rfl, rfl, rfl, by decide, aL_I, by decide, fun y hy => by rw [List.mem_singleton.mp hy]; exact ⟨rfl, by decide, nmN, aL_N, by decide⟩⟩, Or.inr ⟨4, dL_lawful_17, by decide, dL_lawful_19, dL_lawful_20⟩, rfl, Or.inr (Or.inr ⟨q, rfl⟩)⟩
  obtain ⟨rfl, ⟨r, rfl⟩, hf⟩ := hq v n2 h2 q
  refine ⟨rfl, ?_⟩
  dsimp only [Option.toList, List.cons_append, List.nil_append]
  refine g_i2l dL_lawful_8 ?_
  refine g_last dL_lawful_9 (by decide) (hf.trans c96) (by decide) (by decide) (by decide) ?_
  refine g_goto (tgt := 21) dL_lawful_10 (by decide) ?_
  refine g_iconst dL_lawful_21 ?_
  refine g_iret dL_lawful_22 ?_
  exact ⟨rfl, Or.inl ⟨rfl, r, h2, f, q, hf.trans c96, rfl⟩⟩
theorem cw_L_judged : Cond.codeWith yL_judged cL_judged 5 (some .int) [(0, 10, 13, 22), (0, 10, 17, 13)] ∈ Gw := inT4 217 rfl rfl
theorem sl_L_judged : Cond.static yL_judged ∈ Gw := inT4 216 rfl rfl
theorem s_L_judged {h : aH} {a0 a1 : Int} {fs : List Value} {f : Nat → Int} {d1 mc1 ms1 : Nat} {Q1 : Option Value → Nat → aH → Prop} {X1 : String → Nat → aH → Prop} (hS : mSem yX8_judged cX8_judged 6 (some .int) d1 mc1 ms1 [.ref 0, iv a0, iv a1] 97 h Q1 X1) (c0 : h 0 = .inr (8, fs)) (c96 : h 96 = .inl (3, 1, f)) (hq : ∀ v n2 h2, Q1 v n2 h2 → n2 = 97 ∧ (∃ r, v = some (iv r)) ∧ h2 96 = h 96) (hx : ∀ E n2 h2, X1 E n2 h2 → n2 = 97 ∧ (E = nmN ∨ E = nmI)) : mSemH yL_judged cL_judged 5 (some .int) [(0, 10, 13, 22), (0, 10, 17, 13)] (d1 + 1) mc1 ms1 [.ref 0, iv a0, iv a1, .ref 96] 97 h (WQ h Q1 X1 1 2) noX := by
  refine mSemH_of (own := RL) (name := "judged") pn_L rfl rfl (Nat.le_of_ble_eq_true rfl) ?_
  refine g_aload_n dL_judged_0 rfl rfl ?_
  refine g_iconst dL_judged_1 ?_
  refine g_aload_n dL_judged_2 rfl rfl ?_
  refine g_iload_n dL_judged_3 rfl rfl ?_
  refine g_iload_n dL_judged_4 rfl rfl ?_
  refine g_callC 0 [iv a0, iv a1] hS dL_judged_5 cs_L_24 im_X8_judged (by decide) c0 rfl (Nat.le_refl _) (Nat.le_refl _) (Nat.le_refl _) rfl rfl (by decide) (fun E n2 h2 q => ?_) (fun v n2 h2 q => ?_)
  · obtain ⟨rfl, hE⟩ := hx E n2 h2 q
    refine ⟨rfl, ?_⟩
    rcases hE with rfl | rfl
    · exact ⟨13, 1, ⟨[], _, [_], nmN, rfl, rfl, rfl, by decide, aL_N, by decide, fun y hy => absurd hy List.not_mem_nil⟩, Or.inr ⟨4, dL_judged_13, by decide, dL_judged_15, dL_judged_16⟩, rfl, Or.inr (Or.inl ⟨q, rfl⟩)⟩
    · exact ⟨17, 2, ⟨[_], _, [], nmI, rfl, rfl, rfl, by decide, aL_I, by decide, fun y hy => by rw [List.mem_singleton.mp hy]; exact ⟨rfl, by decide, nmN, aL_N, by decide⟩⟩, Or.inr ⟨4, dL_judged_17, by decide, dL_judged_19, dL_judged_20⟩, rfl, Or.inr (Or.inr ⟨q, rfl⟩)⟩
  obtain ⟨rfl, ⟨r, rfl⟩, hf⟩ := hq v n2 h2 q
  refine ⟨rfl, ?_⟩
  dsimp only [Option.toList, List.cons_append, List.nil_append]
  refine g_i2l dL_judged_8 ?_
  refine g_last dL_judged_9 (by decide) (hf.trans c96) (by decide) (by decide) (by decide) ?_
  refine g_goto (tgt := 21) dL_judged_10 (by decide) ?_
  refine g_iconst dL_judged_21 ?_
  refine g_iret dL_judged_22 ?_
  exact ⟨rfl, Or.inl ⟨rfl, r, h2, f, q, hf.trans c96, rfl⟩⟩
theorem cw_L_count : Cond.codeWith yL_count cL_count 4 (some .int) [(0, 9, 12, 22)] ∈ Gw := inT5 6 rfl rfl
theorem sl_L_count : Cond.static yL_count ∈ Gw := inT5 5 rfl rfl
theorem s_L_count {h : aH} {a0 : Int} {fs : List Value} {f : Nat → Int} {d1 mc1 ms1 : Nat} {Q1 : Option Value → Nat → aH → Prop} {X1 : String → Nat → aH → Prop} (hS : mSem yX8_count cX8_count 2 (some .int) d1 mc1 ms1 [.ref 0, iv a0] 97 h Q1 X1) (c0 : h 0 = .inr (8, fs)) (c96 : h 96 = .inl (3, 1, f)) (hq : ∀ v n2 h2, Q1 v n2 h2 → n2 = 97 ∧ (∃ r, v = some (iv r)) ∧ h2 96 = h 96) (hx : ∀ E n2 h2, X1 E n2 h2 → n2 = 97 ∧ (E = nmN)) : mSemH yL_count cL_count 4 (some .int) [(0, 9, 12, 22)] (d1 + 1) mc1 ms1 [.ref 0, iv a0, .ref 96] 97 h (WQ h Q1 X1 1 2) noX := by
  refine mSemH_of (own := RL) (name := "count") pn_L rfl rfl (Nat.le_of_ble_eq_true rfl) ?_
  refine g_aload_n dL_count_0 rfl rfl ?_
  refine g_iconst dL_count_1 ?_
  refine g_aload_n dL_count_2 rfl rfl ?_
  refine g_iload_n dL_count_3 rfl rfl ?_
  refine g_callC 0 [iv a0] hS dL_count_4 cs_L_27 im_X8_count (by decide) c0 rfl (Nat.le_refl _) (Nat.le_refl _) (Nat.le_refl _) rfl rfl (by decide) (fun E n2 h2 q => ?_) (fun v n2 h2 q => ?_)
  · obtain ⟨rfl, hE⟩ := hx E n2 h2 q
    refine ⟨rfl, ?_⟩
    subst hE
    exact ⟨12, 1, ⟨[], _, [], nmN, rfl, rfl, rfl, by decide, aL_N, by decide, fun y hy => absurd hy List.not_mem_nil⟩, Or.inl ⟨3, dL_count_12, by decide, dL_count_13, dL_count_14⟩, rfl, Or.inr (Or.inl ⟨q, rfl⟩)⟩
  obtain ⟨rfl, ⟨r, rfl⟩, hf⟩ := hq v n2 h2 q
  refine ⟨rfl, ?_⟩
  dsimp only [Option.toList, List.cons_append, List.nil_append]
  refine g_i2l dL_count_7 ?_
  refine g_last dL_count_8 (by decide) (hf.trans c96) (by decide) (by decide) (by decide) ?_
  refine g_goto (tgt := 15) dL_count_9 (by decide) ?_
  refine g_iconst dL_count_15 ?_
  refine g_iret dL_count_16 ?_
  exact ⟨rfl, Or.inl ⟨rfl, r, h2, f, q, hf.trans c96, rfl⟩⟩
theorem cw_L_dial : Cond.codeWith yL_dial cL_dial 5 (some .int) [(0, 10, 13, 22)] ∈ Gw := inT5 14 rfl rfl
theorem sl_L_dial : Cond.static yL_dial ∈ Gw := inT5 13 rfl rfl
theorem s_L_dial {h : aH} {a0 a1 : Int} {fs : List Value} {f : Nat → Int} {d1 mc1 ms1 : Nat} {Q1 : Option Value → Nat → aH → Prop} {X1 : String → Nat → aH → Prop} (hS : mSem yX8_dial cX8_dial 3 (some .int) d1 mc1 ms1 [.ref 0, iv a0, iv a1] 97 h Q1 X1) (c0 : h 0 = .inr (8, fs)) (c96 : h 96 = .inl (3, 1, f)) (hq : ∀ v n2 h2, Q1 v n2 h2 → n2 = 97 ∧ (∃ r, v = some (iv r)) ∧ h2 96 = h 96) (hx : ∀ E n2 h2, X1 E n2 h2 → n2 = 97 ∧ (E = nmN)) : mSemH yL_dial cL_dial 5 (some .int) [(0, 10, 13, 22)] (d1 + 1) mc1 ms1 [.ref 0, iv a0, iv a1, .ref 96] 97 h (WQ h Q1 X1 1 2) noX := by
  refine mSemH_of (own := RL) (name := "dial") pn_L rfl rfl (Nat.le_of_ble_eq_true rfl) ?_
  refine g_aload_n dL_dial_0 rfl rfl ?_
  refine g_iconst dL_dial_1 ?_
  refine g_aload_n dL_dial_2 rfl rfl ?_
  refine g_iload_n dL_dial_3 rfl rfl ?_
  refine g_iload_n dL_dial_4 rfl rfl ?_
  refine g_callC 0 [iv a0, iv a1] hS dL_dial_5 cs_L_30 im_X8_dial (by decide) c0 rfl (Nat.le_refl _) (Nat.le_refl _) (Nat.le_refl _) rfl rfl (by decide) (fun E n2 h2 q => ?_) (fun v n2 h2 q => ?_)
  · obtain ⟨rfl, hE⟩ := hx E n2 h2 q
    refine ⟨rfl, ?_⟩
    subst hE
    exact ⟨13, 1, ⟨[], _, [], nmN, rfl, rfl, rfl, by decide, aL_N, by decide, fun y hy => absurd hy List.not_mem_nil⟩, Or.inr ⟨4, dL_dial_13, by decide, dL_dial_15, dL_dial_16⟩, rfl, Or.inr (Or.inl ⟨q, rfl⟩)⟩
  obtain ⟨rfl, ⟨r, rfl⟩, hf⟩ := hq v n2 h2 q
  refine ⟨rfl, ?_⟩
  dsimp only [Option.toList, List.cons_append, List.nil_append]
  refine g_i2l dL_dial_8 ?_
  refine g_last dL_dial_9 (by decide) (hf.trans c96) (by decide) (by decide) (by decide) ?_
  refine g_goto (tgt := 17) dL_dial_10 (by decide) ?_
  refine g_iconst dL_dial_17 ?_
  refine g_iret dL_dial_18 ?_
  exact ⟨rfl, Or.inl ⟨rfl, r, h2, f, q, hf.trans c96, rfl⟩⟩
theorem cw_L_day : Cond.codeWith yL_day cL_day 5 (some .int) [(0, 10, 13, 22)] ∈ Gw := inT5 26 rfl rfl
theorem sl_L_day : Cond.static yL_day ∈ Gw := inT5 25 rfl rfl
theorem s_L_day {h : aH} {a0 a1 : Int} {fs : List Value} {f : Nat → Int} {d1 mc1 ms1 : Nat} {Q1 : Option Value → Nat → aH → Prop} {X1 : String → Nat → aH → Prop} (hS : mSem yX8_day cX8_day 3 (some .int) d1 mc1 ms1 [.ref 0, iv a0, iv a1] 97 h Q1 X1) (c0 : h 0 = .inr (8, fs)) (c96 : h 96 = .inl (3, 1, f)) (hq : ∀ v n2 h2, Q1 v n2 h2 → n2 = 97 ∧ (∃ r, v = some (iv r)) ∧ h2 96 = h 96) (hx : ∀ E n2 h2, X1 E n2 h2 → n2 = 97 ∧ (E = nmN)) : mSemH yL_day cL_day 5 (some .int) [(0, 10, 13, 22)] (d1 + 1) mc1 ms1 [.ref 0, iv a0, iv a1, .ref 96] 97 h (WQ h Q1 X1 1 2) noX := by
  refine mSemH_of (own := RL) (name := "day") pn_L rfl rfl (Nat.le_of_ble_eq_true rfl) ?_
  refine g_aload_n dL_day_0 rfl rfl ?_
  refine g_iconst dL_day_1 ?_
  refine g_aload_n dL_day_2 rfl rfl ?_
  refine g_iload_n dL_day_3 rfl rfl ?_
  refine g_iload_n dL_day_4 rfl rfl ?_
  refine g_callC 0 [iv a0, iv a1] hS dL_day_5 cs_L_33 im_X8_day (by decide) c0 rfl (Nat.le_refl _) (Nat.le_refl _) (Nat.le_refl _) rfl rfl (by decide) (fun E n2 h2 q => ?_) (fun v n2 h2 q => ?_)
  · obtain ⟨rfl, hE⟩ := hx E n2 h2 q
    refine ⟨rfl, ?_⟩
    subst hE
    exact ⟨13, 1, ⟨[], _, [], nmN, rfl, rfl, rfl, by decide, aL_N, by decide, fun y hy => absurd hy List.not_mem_nil⟩, Or.inr ⟨4, dL_day_13, by decide, dL_day_15, dL_day_16⟩, rfl, Or.inr (Or.inl ⟨q, rfl⟩)⟩
  obtain ⟨rfl, ⟨r, rfl⟩, hf⟩ := hq v n2 h2 q
  refine ⟨rfl, ?_⟩
  dsimp only [Option.toList, List.cons_append, List.nil_append]
  refine g_i2l dL_day_8 ?_
  refine g_last dL_day_9 (by decide) (hf.trans c96) (by decide) (by decide) (by decide) ?_
  refine g_goto (tgt := 17) dL_day_10 (by decide) ?_
  refine g_iconst dL_day_17 ?_
  refine g_iret dL_day_18 ?_
  exact ⟨rfl, Or.inl ⟨rfl, r, h2, f, q, hf.trans c96, rfl⟩⟩
theorem cw_L_tells : Cond.codeWith yL_tells cL_tells 6 (some .int) [(0, 12, 15, 22)] ∈ Gw := inT5 35 rfl rfl
theorem sl_L_tells : Cond.static yL_tells ∈ Gw := inT5 34 rfl rfl
theorem s_L_tells {h : aH} {a0 a1 a2 : Int} {fs : List Value} {f : Nat → Int} {d1 mc1 ms1 : Nat} {Q1 : Option Value → Nat → aH → Prop} {X1 : String → Nat → aH → Prop} (hS : mSem yX8_tells cX8_tells 4 (some .int) d1 mc1 ms1 [.ref 0, iv a0, iv a1, iv a2] 97 h Q1 X1) (c0 : h 0 = .inr (8, fs)) (c96 : h 96 = .inl (3, 1, f)) (hq : ∀ v n2 h2, Q1 v n2 h2 → n2 = 97 ∧ (∃ r, v = some (iv r)) ∧ h2 96 = h 96) (hx : ∀ E n2 h2, X1 E n2 h2 → n2 = 97 ∧ (E = nmN)) : mSemH yL_tells cL_tells 6 (some .int) [(0, 12, 15, 22)] (d1 + 1) mc1 ms1 [.ref 0, iv a0, iv a1, iv a2, .ref 96] 97 h (WQ h Q1 X1 1 2) noX := by
  refine mSemH_of (own := RL) (name := "tells") pn_L rfl rfl (Nat.le_of_ble_eq_true rfl) ?_
  refine g_aload dL_tells_0 rfl ?_
  refine g_iconst dL_tells_2 ?_
  refine g_aload_n dL_tells_3 rfl rfl ?_
  refine g_iload_n dL_tells_4 rfl rfl ?_
  refine g_iload_n dL_tells_5 rfl rfl ?_
  refine g_iload_n dL_tells_6 rfl rfl ?_
  refine g_callC 0 [iv a0, iv a1, iv a2] hS dL_tells_7 cs_L_36 im_X8_tells (by decide) c0 rfl (Nat.le_refl _) (Nat.le_refl _) (Nat.le_refl _) rfl rfl (by decide) (fun E n2 h2 q => ?_) (fun v n2 h2 q => ?_)
  · obtain ⟨rfl, hE⟩ := hx E n2 h2 q
    refine ⟨rfl, ?_⟩
    subst hE
    exact ⟨15, 1, ⟨[], _, [], nmN, rfl, rfl, rfl, by decide, aL_N, by decide, fun y hy => absurd hy List.not_mem_nil⟩, Or.inr ⟨5, dL_tells_15, by decide, dL_tells_17, dL_tells_18⟩, rfl, Or.inr (Or.inl ⟨q, rfl⟩)⟩
  obtain ⟨rfl, ⟨r, rfl⟩, hf⟩ := hq v n2 h2 q
  refine ⟨rfl, ?_⟩
  dsimp only [Option.toList, List.cons_append, List.nil_append]
  refine g_i2l dL_tells_10 ?_
  refine g_last dL_tells_11 (by decide) (hf.trans c96) (by decide) (by decide) (by decide) ?_
  refine g_goto (tgt := 19) dL_tells_12 (by decide) ?_
  refine g_iconst dL_tells_19 ?_
  refine g_iret dL_tells_20 ?_
  exact ⟨rfl, Or.inl ⟨rfl, r, h2, f, q, hf.trans c96, rfl⟩⟩
theorem cw_L_turn : Cond.codeWith yL_turn cL_turn 5 (some .int) [(0, 10, 13, 22)] ∈ Gw := inT5 42 rfl rfl
theorem sl_L_turn : Cond.static yL_turn ∈ Gw := inT5 41 rfl rfl
theorem s_L_turn {h : aH} {a0 a1 : Int} {fs : List Value} {f : Nat → Int} {d1 mc1 ms1 : Nat} {Q1 : Option Value → Nat → aH → Prop} {X1 : String → Nat → aH → Prop} (hS : mSem yX8_turn cX8_turn 3 (some .int) d1 mc1 ms1 [.ref 0, iv a0, iv a1] 97 h Q1 X1) (c0 : h 0 = .inr (8, fs)) (c96 : h 96 = .inl (3, 1, f)) (hq : ∀ v n2 h2, Q1 v n2 h2 → n2 = 97 ∧ (∃ r, v = some (iv r)) ∧ h2 96 = h 96) (hx : ∀ E n2 h2, X1 E n2 h2 → n2 = 97 ∧ (E = nmN)) : mSemH yL_turn cL_turn 5 (some .int) [(0, 10, 13, 22)] (d1 + 1) mc1 ms1 [.ref 0, iv a0, iv a1, .ref 96] 97 h (WQ h Q1 X1 1 2) noX := by
  refine mSemH_of (own := RL) (name := "turn") pn_L rfl rfl (Nat.le_of_ble_eq_true rfl) ?_
  refine g_aload_n dL_turn_0 rfl rfl ?_
  refine g_iconst dL_turn_1 ?_
  refine g_aload_n dL_turn_2 rfl rfl ?_
  refine g_iload_n dL_turn_3 rfl rfl ?_
  refine g_iload_n dL_turn_4 rfl rfl ?_
  refine g_callC 0 [iv a0, iv a1] hS dL_turn_5 cs_L_40 im_X8_turn (by decide) c0 rfl (Nat.le_refl _) (Nat.le_refl _) (Nat.le_refl _) rfl rfl (by decide) (fun E n2 h2 q => ?_) (fun v n2 h2 q => ?_)
  · obtain ⟨rfl, hE⟩ := hx E n2 h2 q
    refine ⟨rfl, ?_⟩
    subst hE
    exact ⟨13, 1, ⟨[], _, [], nmN, rfl, rfl, rfl, by decide, aL_N, by decide, fun y hy => absurd hy List.not_mem_nil⟩, Or.inr ⟨4, dL_turn_13, by decide, dL_turn_15, dL_turn_16⟩, rfl, Or.inr (Or.inl ⟨q, rfl⟩)⟩
  obtain ⟨rfl, ⟨r, rfl⟩, hf⟩ := hq v n2 h2 q
  refine ⟨rfl, ?_⟩
  dsimp only [Option.toList, List.cons_append, List.nil_append]
  refine g_i2l dL_turn_8 ?_
  refine g_last dL_turn_9 (by decide) (hf.trans c96) (by decide) (by decide) (by decide) ?_
  refine g_goto (tgt := 17) dL_turn_10 (by decide) ?_
  refine g_iconst dL_turn_17 ?_
  refine g_iret dL_turn_18 ?_
  exact ⟨rfl, Or.inl ⟨rfl, r, h2, f, q, hf.trans c96, rfl⟩⟩
theorem cw_L_read : Cond.codeWith yL_read cL_read 7 (some .int) [(0, 14, 17, 22)] ∈ Gw := inT5 49 rfl rfl
theorem sl_L_read : Cond.static yL_read ∈ Gw := inT5 48 rfl rfl
theorem s_L_read {h : aH} {a0 a1 a2 a3 : Int} {fs : List Value} {f : Nat → Int} {d1 mc1 ms1 : Nat} {Q1 : Option Value → Nat → aH → Prop} {X1 : String → Nat → aH → Prop} (hS : mSem yX8_read cX8_read 5 (some .int) d1 mc1 ms1 [.ref 0, iv a0, iv a1, iv a2, iv a3] 97 h Q1 X1) (c0 : h 0 = .inr (8, fs)) (c96 : h 96 = .inl (3, 1, f)) (hq : ∀ v n2 h2, Q1 v n2 h2 → n2 = 97 ∧ (∃ r, v = some (iv r)) ∧ h2 96 = h 96) (hx : ∀ E n2 h2, X1 E n2 h2 → n2 = 97 ∧ (E = nmN)) : mSemH yL_read cL_read 7 (some .int) [(0, 14, 17, 22)] (d1 + 1) mc1 ms1 [.ref 0, iv a0, iv a1, iv a2, iv a3, .ref 96] 97 h (WQ h Q1 X1 1 2) noX := by
  refine mSemH_of (own := RL) (name := "read") pn_L rfl rfl (Nat.le_of_ble_eq_true rfl) ?_
  refine g_aload dL_read_0 rfl ?_
  refine g_iconst dL_read_2 ?_
  refine g_aload_n dL_read_3 rfl rfl ?_
  refine g_iload_n dL_read_4 rfl rfl ?_
  refine g_iload_n dL_read_5 rfl rfl ?_
  refine g_iload_n dL_read_6 rfl rfl ?_
  refine g_iload dL_read_7 rfl ?_
  refine g_callC 0 [iv a0, iv a1, iv a2, iv a3] hS dL_read_9 cs_L_43 im_X8_read (by decide) c0 rfl (Nat.le_refl _) (Nat.le_refl _) (Nat.le_refl _) rfl rfl (by decide) (fun E n2 h2 q => ?_) (fun v n2 h2 q => ?_)
  · obtain ⟨rfl, hE⟩ := hx E n2 h2 q
    refine ⟨rfl, ?_⟩
    subst hE
    exact ⟨17, 1, ⟨[], _, [], nmN, rfl, rfl, rfl, by decide, aL_N, by decide, fun y hy => absurd hy List.not_mem_nil⟩, Or.inr ⟨6, dL_read_17, by decide, dL_read_19, dL_read_20⟩, rfl, Or.inr (Or.inl ⟨q, rfl⟩)⟩
  obtain ⟨rfl, ⟨r, rfl⟩, hf⟩ := hq v n2 h2 q
  refine ⟨rfl, ?_⟩
  dsimp only [Option.toList, List.cons_append, List.nil_append]
  refine g_i2l dL_read_12 ?_
  refine g_last dL_read_13 (by decide) (hf.trans c96) (by decide) (by decide) (by decide) ?_
  refine g_goto (tgt := 21) dL_read_14 (by decide) ?_
  refine g_iconst dL_read_21 ?_
  refine g_iret dL_read_22 ?_
  exact ⟨rfl, Or.inl ⟨rfl, r, h2, f, q, hf.trans c96, rfl⟩⟩
theorem cw_L_faults : Cond.codeWith yL_faults cL_faults 5 (some .int) [(0, 10, 13, 22), (0, 10, 17, 13)] ∈ Gw := inT5 60 rfl rfl
theorem sl_L_faults : Cond.static yL_faults ∈ Gw := inT5 59 rfl rfl
theorem s_L_faults {h : aH} {a0 a1 : Int} {fs : List Value} {f : Nat → Int} {d1 mc1 ms1 : Nat} {Q1 : Option Value → Nat → aH → Prop} {X1 : String → Nat → aH → Prop} (hS : mSem yX8_faults cX8_faults 3 (some .int) d1 mc1 ms1 [.ref 0, iv a0, iv a1] 97 h Q1 X1) (c0 : h 0 = .inr (8, fs)) (c96 : h 96 = .inl (3, 1, f)) (hq : ∀ v n2 h2, Q1 v n2 h2 → n2 = 97 ∧ (∃ r, v = some (iv r)) ∧ h2 96 = h 96) (hx : ∀ E n2 h2, X1 E n2 h2 → n2 = 97 ∧ (E = nmN ∨ E = nmI)) : mSemH yL_faults cL_faults 5 (some .int) [(0, 10, 13, 22), (0, 10, 17, 13)] (d1 + 1) mc1 ms1 [.ref 0, iv a0, iv a1, .ref 96] 97 h (WQ h Q1 X1 1 2) noX := by
  refine mSemH_of (own := RL) (name := "faults") pn_L rfl rfl (Nat.le_of_ble_eq_true rfl) ?_
  refine g_aload_n dL_faults_0 rfl rfl ?_
  refine g_iconst dL_faults_1 ?_
  refine g_aload_n dL_faults_2 rfl rfl ?_
  refine g_iload_n dL_faults_3 rfl rfl ?_
  refine g_iload_n dL_faults_4 rfl rfl ?_
  refine g_callC 0 [iv a0, iv a1] hS dL_faults_5 cs_L_47 im_X8_faults (by decide) c0 rfl (Nat.le_refl _) (Nat.le_refl _) (Nat.le_refl _) rfl rfl (by decide) (fun E n2 h2 q => ?_) (fun v n2 h2 q => ?_)
  · obtain ⟨rfl, hE⟩ := hx E n2 h2 q
    refine ⟨rfl, ?_⟩
    rcases hE with rfl | rfl
    · exact ⟨13, 1, ⟨[], _, [_], nmN, rfl, rfl, rfl, by decide, aL_N, by decide, fun y hy => absurd hy List.not_mem_nil⟩, Or.inr ⟨4, dL_faults_13, by decide, dL_faults_15, dL_faults_16⟩, rfl, Or.inr (Or.inl ⟨q, rfl⟩)⟩
    · exact ⟨17, 2, ⟨[_], _, [], nmI, rfl, rfl, rfl, by decide, aL_I, by decide, fun y hy => by rw [List.mem_singleton.mp hy]; exact ⟨rfl, by decide, nmN, aL_N, by decide⟩⟩, Or.inr ⟨4, dL_faults_17, by decide, dL_faults_19, dL_faults_20⟩, rfl, Or.inr (Or.inr ⟨q, rfl⟩)⟩
  obtain ⟨rfl, ⟨r, rfl⟩, hf⟩ := hq v n2 h2 q
  refine ⟨rfl, ?_⟩
  dsimp only [Option.toList, List.cons_append, List.nil_append]
  refine g_i2l dL_faults_8 ?_
  refine g_last dL_faults_9 (by decide) (hf.trans c96) (by decide) (by decide) (by decide) ?_
  refine g_goto (tgt := 21) dL_faults_10 (by decide) ?_
  refine g_iconst dL_faults_21 ?_
  refine g_iret dL_faults_22 ?_
  exact ⟨rfl, Or.inl ⟨rfl, r, h2, f, q, hf.trans c96, rfl⟩⟩
theorem cw_L_next : Cond.codeWith yL_next cL_next 6 (some .int) [(0, 12, 15, 22)] ∈ Gw := inT5 109 rfl rfl
theorem sl_L_next : Cond.static yL_next ∈ Gw := inT5 108 rfl rfl
theorem s_L_next {h : aH} {a0 a1 a2 : Int} {fs : List Value} {f : Nat → Int} {d1 mc1 ms1 : Nat} {Q1 : Option Value → Nat → aH → Prop} {X1 : String → Nat → aH → Prop} (hS : mSem yX8_next cX8_next 8 (some .int) d1 mc1 ms1 [.ref 0, iv a0, iv a1, iv a2] 97 h Q1 X1) (c0 : h 0 = .inr (8, fs)) (c96 : h 96 = .inl (3, 1, f)) (hq : ∀ v n2 h2, Q1 v n2 h2 → n2 = 97 ∧ (∃ r, v = some (iv r)) ∧ h2 96 = h 96) (hx : ∀ E n2 h2, X1 E n2 h2 → n2 = 97 ∧ (E = nmN)) : mSemH yL_next cL_next 6 (some .int) [(0, 12, 15, 22)] (d1 + 1) mc1 ms1 [.ref 0, iv a0, iv a1, iv a2, .ref 96] 97 h (WQ h Q1 X1 1 2) noX := by
  refine mSemH_of (own := RL) (name := "next") pn_L rfl rfl (Nat.le_of_ble_eq_true rfl) ?_
  refine g_aload dL_next_0 rfl ?_
  refine g_iconst dL_next_2 ?_
  refine g_aload_n dL_next_3 rfl rfl ?_
  refine g_iload_n dL_next_4 rfl rfl ?_
  refine g_iload_n dL_next_5 rfl rfl ?_
  refine g_iload_n dL_next_6 rfl rfl ?_
  refine g_callC 0 [iv a0, iv a1, iv a2] hS dL_next_7 cs_L_50 im_X8_next (by decide) c0 rfl (Nat.le_refl _) (Nat.le_refl _) (Nat.le_refl _) rfl rfl (by decide) (fun E n2 h2 q => ?_) (fun v n2 h2 q => ?_)
  · obtain ⟨rfl, hE⟩ := hx E n2 h2 q
    refine ⟨rfl, ?_⟩
    subst hE
    exact ⟨15, 1, ⟨[], _, [], nmN, rfl, rfl, rfl, by decide, aL_N, by decide, fun y hy => absurd hy List.not_mem_nil⟩, Or.inr ⟨5, dL_next_15, by decide, dL_next_17, dL_next_18⟩, rfl, Or.inr (Or.inl ⟨q, rfl⟩)⟩
  obtain ⟨rfl, ⟨r, rfl⟩, hf⟩ := hq v n2 h2 q
  refine ⟨rfl, ?_⟩
  dsimp only [Option.toList, List.cons_append, List.nil_append]
  refine g_i2l dL_next_10 ?_
  refine g_last dL_next_11 (by decide) (hf.trans c96) (by decide) (by decide) (by decide) ?_
  refine g_goto (tgt := 19) dL_next_12 (by decide) ?_
  refine g_iconst dL_next_19 ?_
  refine g_iret dL_next_20 ?_
  exact ⟨rfl, Or.inl ⟨rfl, r, h2, f, q, hf.trans c96, rfl⟩⟩
theorem cw_L_see : Cond.codeWith yL_see cL_see 5 (some .int) [(0, 10, 13, 22)] ∈ Gw := inT5 133 rfl rfl
theorem sl_L_see : Cond.static yL_see ∈ Gw := inT5 132 rfl rfl
theorem s_L_see {h : aH} {a0 a1 : Int} {fs : List Value} {f : Nat → Int} {d1 mc1 ms1 : Nat} {Q1 : Option Value → Nat → aH → Prop} {X1 : String → Nat → aH → Prop} (hS : mSem yX8_see cX8_see 3 (some .int) d1 mc1 ms1 [.ref 0, iv a0, iv a1] 97 h Q1 X1) (c0 : h 0 = .inr (8, fs)) (c96 : h 96 = .inl (3, 1, f)) (hq : ∀ v n2 h2, Q1 v n2 h2 → n2 = 97 ∧ (∃ r, v = some (iv r)) ∧ h2 96 = h 96) (hx : ∀ E n2 h2, X1 E n2 h2 → n2 = 97 ∧ (E = nmN)) : mSemH yL_see cL_see 5 (some .int) [(0, 10, 13, 22)] (d1 + 1) mc1 ms1 [.ref 0, iv a0, iv a1, .ref 96] 97 h (WQ h Q1 X1 1 2) noX := by
  refine mSemH_of (own := RL) (name := "see") pn_L rfl rfl (Nat.le_of_ble_eq_true rfl) ?_
  refine g_aload_n dL_see_0 rfl rfl ?_
  refine g_iconst dL_see_1 ?_
  refine g_aload_n dL_see_2 rfl rfl ?_
  refine g_iload_n dL_see_3 rfl rfl ?_
  refine g_iload_n dL_see_4 rfl rfl ?_
  refine g_callC 0 [iv a0, iv a1] hS dL_see_5 cs_L_53 im_X8_see (by decide) c0 rfl (Nat.le_refl _) (Nat.le_refl _) (Nat.le_refl _) rfl rfl (by decide) (fun E n2 h2 q => ?_) (fun v n2 h2 q => ?_)
  · obtain ⟨rfl, hE⟩ := hx E n2 h2 q
    refine ⟨rfl, ?_⟩
    subst hE
    exact ⟨13, 1, ⟨[], _, [], nmN, rfl, rfl, rfl, by decide, aL_N, by decide, fun y hy => absurd hy List.not_mem_nil⟩, Or.inr ⟨4, dL_see_13, by decide, dL_see_15, dL_see_16⟩, rfl, Or.inr (Or.inl ⟨q, rfl⟩)⟩
  obtain ⟨rfl, ⟨r, rfl⟩, hf⟩ := hq v n2 h2 q
  refine ⟨rfl, ?_⟩
  dsimp only [Option.toList, List.cons_append, List.nil_append]
  refine g_i2l dL_see_8 ?_
  refine g_last dL_see_9 (by decide) (hf.trans c96) (by decide) (by decide) (by decide) ?_
  refine g_goto (tgt := 17) dL_see_10 (by decide) ?_
  refine g_iconst dL_see_17 ?_
  refine g_iret dL_see_18 ?_
  exact ⟨rfl, Or.inl ⟨rfl, r, h2, f, q, hf.trans c96, rfl⟩⟩
theorem cw_L_minutes : Cond.codeWith yL_minutes cL_minutes 5 (some .int) [(0, 10, 13, 22)] ∈ Gw := inT5 140 rfl rfl
theorem sl_L_minutes : Cond.static yL_minutes ∈ Gw := inT5 139 rfl rfl
theorem s_L_minutes {h : aH} {a0 a1 : Int} {fs : List Value} {f : Nat → Int} {d1 mc1 ms1 : Nat} {Q1 : Option Value → Nat → aH → Prop} {X1 : String → Nat → aH → Prop} (hS : mSem yX8_minutes cX8_minutes 3 (some .int) d1 mc1 ms1 [.ref 0, iv a0, iv a1] 97 h Q1 X1) (c0 : h 0 = .inr (8, fs)) (c96 : h 96 = .inl (3, 1, f)) (hq : ∀ v n2 h2, Q1 v n2 h2 → n2 = 97 ∧ (∃ r, v = some (iv r)) ∧ h2 96 = h 96) (hx : ∀ E n2 h2, X1 E n2 h2 → n2 = 97 ∧ (E = nmN)) : mSemH yL_minutes cL_minutes 5 (some .int) [(0, 10, 13, 22)] (d1 + 1) mc1 ms1 [.ref 0, iv a0, iv a1, .ref 96] 97 h (WQ h Q1 X1 1 2) noX := by
  refine mSemH_of (own := RL) (name := "minutes") pn_L rfl rfl (Nat.le_of_ble_eq_true rfl) ?_
  refine g_aload_n dL_minutes_0 rfl rfl ?_
  refine g_iconst dL_minutes_1 ?_
  refine g_aload_n dL_minutes_2 rfl rfl ?_
  refine g_iload_n dL_minutes_3 rfl rfl ?_
  refine g_iload_n dL_minutes_4 rfl rfl ?_
  refine g_callC 0 [iv a0, iv a1] hS dL_minutes_5 cs_L_56 im_X8_minutes (by decide) c0 rfl (Nat.le_refl _) (Nat.le_refl _) (Nat.le_refl _) rfl rfl (by decide) (fun E n2 h2 q => ?_) (fun v n2 h2 q => ?_)
  · obtain ⟨rfl, hE⟩ := hx E n2 h2 q
    refine ⟨rfl, ?_⟩
    subst hE
    exact ⟨13, 1, ⟨[], _, [], nmN, rfl, rfl, rfl, by decide, aL_N, by decide, fun y hy => absurd hy List.not_mem_nil⟩, Or.inr ⟨4, dL_minutes_13, by decide, dL_minutes_15, dL_minutes_16⟩, rfl, Or.inr (Or.inl ⟨q, rfl⟩)⟩
  obtain ⟨rfl, ⟨r, rfl⟩, hf⟩ := hq v n2 h2 q
  refine ⟨rfl, ?_⟩
  dsimp only [Option.toList, List.cons_append, List.nil_append]
  refine g_i2l dL_minutes_8 ?_
  refine g_last dL_minutes_9 (by decide) (hf.trans c96) (by decide) (by decide) (by decide) ?_
  refine g_goto (tgt := 17) dL_minutes_10 (by decide) ?_
  refine g_iconst dL_minutes_17 ?_
  refine g_iret dL_minutes_18 ?_
  exact ⟨rfl, Or.inl ⟨rfl, r, h2, f, q, hf.trans c96, rfl⟩⟩
theorem cw_L_days : Cond.codeWith yL_days cL_days 4 (some .int) [(0, 9, 12, 22)] ∈ Gw := inT5 174 rfl rfl
theorem sl_L_days : Cond.static yL_days ∈ Gw := inT5 173 rfl rfl
theorem s_L_days {h : aH} {a0 : Int} {fs : List Value} {f : Nat → Int} {d1 mc1 ms1 : Nat} {Q1 : Option Value → Nat → aH → Prop} {X1 : String → Nat → aH → Prop} (hS : mSem yX8_days cX8_days 6 (some .int) d1 mc1 ms1 [.ref 0, iv a0] 97 h Q1 X1) (c0 : h 0 = .inr (8, fs)) (c96 : h 96 = .inl (3, 1, f)) (hq : ∀ v n2 h2, Q1 v n2 h2 → n2 = 97 ∧ (∃ r, v = some (iv r)) ∧ h2 96 = h 96) (hx : ∀ E n2 h2, X1 E n2 h2 → n2 = 97 ∧ (E = nmN)) : mSemH yL_days cL_days 4 (some .int) [(0, 9, 12, 22)] (d1 + 1) mc1 ms1 [.ref 0, iv a0, .ref 96] 97 h (WQ h Q1 X1 1 2) noX := by
  refine mSemH_of (own := RL) (name := "days") pn_L rfl rfl (Nat.le_of_ble_eq_true rfl) ?_
  refine g_aload_n dL_days_0 rfl rfl ?_
  refine g_iconst dL_days_1 ?_
  refine g_aload_n dL_days_2 rfl rfl ?_
  refine g_iload_n dL_days_3 rfl rfl ?_
  refine g_callC 0 [iv a0] hS dL_days_4 cs_L_59 im_X8_days (by decide) c0 rfl (Nat.le_refl _) (Nat.le_refl _) (Nat.le_refl _) rfl rfl (by decide) (fun E n2 h2 q => ?_) (fun v n2 h2 q => ?_)
  · obtain ⟨rfl, hE⟩ := hx E n2 h2 q
    refine ⟨rfl, ?_⟩
    subst hE
    exact ⟨12, 1, ⟨[], _, [], nmN, rfl, rfl, rfl, by decide, aL_N, by decide, fun y hy => absurd hy List.not_mem_nil⟩, Or.inl ⟨3, dL_days_12, by decide, dL_days_13, dL_days_14⟩, rfl, Or.inr (Or.inl ⟨q, rfl⟩)⟩
  obtain ⟨rfl, ⟨r, rfl⟩, hf⟩ := hq v n2 h2 q
  refine ⟨rfl, ?_⟩
  dsimp only [Option.toList, List.cons_append, List.nil_append]
  refine g_i2l dL_days_7 ?_
  refine g_last dL_days_8 (by decide) (hf.trans c96) (by decide) (by decide) (by decide) ?_
  refine g_goto (tgt := 15) dL_days_9 (by decide) ?_
  refine g_iconst dL_days_15 ?_
  refine g_iret dL_days_16 ?_
  exact ⟨rfl, Or.inl ⟨rfl, r, h2, f, q, hf.trans c96, rfl⟩⟩
theorem cw_L_late : Cond.codeWith yL_late cL_late 7 (some .int) [(0, 14, 17, 22)] ∈ Gw := inT5 181 rfl rfl
theorem sl_L_late : Cond.static yL_late ∈ Gw := inT5 180 rfl rfl
theorem s_L_late {h : aH} {a0 a1 a2 a3 : Int} {fs : List Value} {f : Nat → Int} {d1 mc1 ms1 : Nat} {Q1 : Option Value → Nat → aH → Prop} {X1 : String → Nat → aH → Prop} (hS : mSem yX8_late cX8_late 5 (some .int) d1 mc1 ms1 [.ref 0, iv a0, iv a1, iv a2, iv a3] 97 h Q1 X1) (c0 : h 0 = .inr (8, fs)) (c96 : h 96 = .inl (3, 1, f)) (hq : ∀ v n2 h2, Q1 v n2 h2 → n2 = 97 ∧ (∃ r, v = some (iv r)) ∧ h2 96 = h 96) (hx : ∀ E n2 h2, X1 E n2 h2 → n2 = 97 ∧ (E = nmN)) : mSemH yL_late cL_late 7 (some .int) [(0, 14, 17, 22)] (d1 + 1) mc1 ms1 [.ref 0, iv a0, iv a1, iv a2, iv a3, .ref 96] 97 h (WQ h Q1 X1 1 2) noX := by
  refine mSemH_of (own := RL) (name := "late") pn_L rfl rfl (Nat.le_of_ble_eq_true rfl) ?_
  refine g_aload dL_late_0 rfl ?_
  refine g_iconst dL_late_2 ?_
  refine g_aload_n dL_late_3 rfl rfl ?_
  refine g_iload_n dL_late_4 rfl rfl ?_
  refine g_iload_n dL_late_5 rfl rfl ?_
  refine g_iload_n dL_late_6 rfl rfl ?_
  refine g_iload dL_late_7 rfl ?_
  refine g_callC 0 [iv a0, iv a1, iv a2, iv a3] hS dL_late_9 cs_L_62 im_X8_late (by decide) c0 rfl (Nat.le_refl _) (Nat.le_refl _) (Nat.le_refl _) rfl rfl (by decide) (fun E n2 h2 q => ?_) (fun v n2 h2 q => ?_)
  · obtain ⟨rfl, hE⟩ := hx E n2 h2 q
    refine ⟨rfl, ?_⟩
    subst hE
    exact ⟨17, 1, ⟨[], _, [], nmN, rfl, rfl, rfl, by decide, aL_N, by decide, fun y hy => absurd hy List.not_mem_nil⟩, Or.inr ⟨6, dL_late_17, by decide, dL_late_19, dL_late_20⟩, rfl, Or.inr (Or.inl ⟨q, rfl⟩)⟩
  obtain ⟨rfl, ⟨r, rfl⟩, hf⟩ := hq v n2 h2 q
  refine ⟨rfl, ?_⟩
  dsimp only [Option.toList, List.cons_append, List.nil_append]
  refine g_i2l dL_late_12 ?_
  refine g_last dL_late_13 (by decide) (hf.trans c96) (by decide) (by decide) (by decide) ?_
  refine g_goto (tgt := 21) dL_late_14 (by decide) ?_
  refine g_iconst dL_late_21 ?_
  refine g_iret dL_late_22 ?_
  exact ⟨rfl, Or.inl ⟨rfl, r, h2, f, q, hf.trans c96, rfl⟩⟩
theorem cw_L_meet : Cond.codeWith yL_meet cL_meet 8 (some .int) [(0, 16, 19, 22)] ∈ Gw := inT5 196 rfl rfl
theorem sl_L_meet : Cond.static yL_meet ∈ Gw := inT5 195 rfl rfl
theorem s_L_meet {h : aH} {a0 a1 a2 a3 a4 : Int} {fs : List Value} {f : Nat → Int} {d1 mc1 ms1 : Nat} {Q1 : Option Value → Nat → aH → Prop} {X1 : String → Nat → aH → Prop} (hS : mSem yX8_meet cX8_meet 10 (some .int) d1 mc1 ms1 [.ref 0, iv a0, iv a1, iv a2, iv a3, iv a4] 97 h Q1 X1) (c0 : h 0 = .inr (8, fs)) (c96 : h 96 = .inl (3, 1, f)) (hq : ∀ v n2 h2, Q1 v n2 h2 → n2 = 97 ∧ (∃ r, v = some (iv r)) ∧ h2 96 = h 96) (hx : ∀ E n2 h2, X1 E n2 h2 → n2 = 97 ∧ (E = nmN)) : mSemH yL_meet cL_meet 8 (some .int) [(0, 16, 19, 22)] (d1 + 1) mc1 ms1 [.ref 0, iv a0, iv a1, iv a2, iv a3, iv a4, .ref 96] 97 h (WQ h Q1 X1 1 2) noX := by
  refine mSemH_of (own := RL) (name := "meet") pn_L rfl rfl (Nat.le_of_ble_eq_true rfl) ?_
  refine g_aload dL_meet_0 rfl ?_
  refine g_iconst dL_meet_2 ?_
  refine g_aload_n dL_meet_3 rfl rfl ?_
  refine g_iload_n dL_meet_4 rfl rfl ?_
  refine g_iload_n dL_meet_5 rfl rfl ?_
  refine g_iload_n dL_meet_6 rfl rfl ?_
  refine g_iload dL_meet_7 rfl ?_
  refine g_iload dL_meet_9 rfl ?_
  refine g_callC 0 [iv a0, iv a1, iv a2, iv a3, iv a4] hS dL_meet_11 cs_L_65 im_X8_meet (by decide) c0 rfl (Nat.le_refl _) (Nat.le_refl _) (Nat.le_refl _) rfl rfl (by decide) (fun E n2 h2 q => ?_) (fun v n2 h2 q => ?_)
  · obtain ⟨rfl, hE⟩ := hx E n2 h2 q
    refine ⟨rfl, ?_⟩
    subst hE
    exact ⟨19, 1, ⟨[], _, [], nmN, rfl, rfl, rfl, by decide, aL_N, by decide, fun y hy => absurd hy List.not_mem_nil⟩, Or.inr ⟨7, dL_meet_19, by decide, dL_meet_21, dL_meet_22⟩, rfl, Or.inr (Or.inl ⟨q, rfl⟩)⟩
  obtain ⟨rfl, ⟨r, rfl⟩, hf⟩ := hq v n2 h2 q
  refine ⟨rfl, ?_⟩
  dsimp only [Option.toList, List.cons_append, List.nil_append]
  refine g_i2l dL_meet_14 ?_
  refine g_last dL_meet_15 (by decide) (hf.trans c96) (by decide) (by decide) (by decide) ?_
  refine g_goto (tgt := 23) dL_meet_16 (by decide) ?_
  refine g_iconst dL_meet_23 ?_
  refine g_iret dL_meet_24 ?_
  exact ⟨rfl, Or.inl ⟨rfl, r, h2, f, q, hf.trans c96, rfl⟩⟩
theorem cw_L_mend : Cond.codeWith yL_mend cL_mend 6 (some .int) [(0, 12, 15, 22)] ∈ Gw := inT5 203 rfl rfl
theorem sl_L_mend : Cond.static yL_mend ∈ Gw := inT5 202 rfl rfl
theorem s_L_mend {h : aH} {a0 a1 a2 : Int} {fs : List Value} {f : Nat → Int} {d1 mc1 ms1 : Nat} {Q1 : Option Value → Nat → aH → Prop} {X1 : String → Nat → aH → Prop} (hS : mSem yX8_mend cX8_mend 5 (some .int) d1 mc1 ms1 [.ref 0, iv a0, iv a1, iv a2] 97 h Q1 X1) (c0 : h 0 = .inr (8, fs)) (c96 : h 96 = .inl (3, 1, f)) (hq : ∀ v n2 h2, Q1 v n2 h2 → n2 = 97 ∧ (∃ r, v = some (iv r)) ∧ h2 96 = h 96) (hx : ∀ E n2 h2, X1 E n2 h2 → n2 = 97 ∧ (E = nmN)) : mSemH yL_mend cL_mend 6 (some .int) [(0, 12, 15, 22)] (d1 + 1) mc1 ms1 [.ref 0, iv a0, iv a1, iv a2, .ref 96] 97 h (WQ h Q1 X1 1 2) noX := by
  refine mSemH_of (own := RL) (name := "mend") pn_L rfl rfl (Nat.le_of_ble_eq_true rfl) ?_
  refine g_aload dL_mend_0 rfl ?_
  refine g_iconst dL_mend_2 ?_
  refine g_aload_n dL_mend_3 rfl rfl ?_
  refine g_iload_n dL_mend_4 rfl rfl ?_
  refine g_iload_n dL_mend_5 rfl rfl ?_
  refine g_iload_n dL_mend_6 rfl rfl ?_
  refine g_callC 0 [iv a0, iv a1, iv a2] hS dL_mend_7 cs_L_69 im_X8_mend (by decide) c0 rfl (Nat.le_refl _) (Nat.le_refl _) (Nat.le_refl _) rfl rfl (by decide) (fun E n2 h2 q => ?_) (fun v n2 h2 q => ?_)
  · obtain ⟨rfl, hE⟩ := hx E n2 h2 q
    refine ⟨rfl, ?_⟩
    subst hE
    exact ⟨15, 1, ⟨[], _, [], nmN, rfl, rfl, rfl, by decide, aL_N, by decide, fun y hy => absurd hy List.not_mem_nil⟩, Or.inr ⟨5, dL_mend_15, by decide, dL_mend_17, dL_mend_18⟩, rfl, Or.inr (Or.inl ⟨q, rfl⟩)⟩
  obtain ⟨rfl, ⟨r, rfl⟩, hf⟩ := hq v n2 h2 q
  refine ⟨rfl, ?_⟩
  dsimp only [Option.toList, List.cons_append, List.nil_append]
  refine g_i2l dL_mend_10 ?_
  refine g_last dL_mend_11 (by decide) (hf.trans c96) (by decide) (by decide) (by decide) ?_
  refine g_goto (tgt := 19) dL_mend_12 (by decide) ?_
  refine g_iconst dL_mend_19 ?_
  refine g_iret dL_mend_20 ?_
  exact ⟨rfl, Or.inl ⟨rfl, r, h2, f, q, hf.trans c96, rfl⟩⟩
theorem cw_L_best : Cond.codeWith yL_best cL_best 7 (some .int) [(0, 14, 17, 22), (0, 14, 21, 13)] ∈ Gw := inT5 214 rfl rfl
theorem sl_L_best : Cond.static yL_best ∈ Gw := inT5 213 rfl rfl
theorem s_L_best {h : aH} {a0 a1 a2 a3 : Int} {fs : List Value} {f : Nat → Int} {d1 mc1 ms1 : Nat} {Q1 : Option Value → Nat → aH → Prop} {X1 : String → Nat → aH → Prop} (hS : mSem yX8_best cX8_best 6 (some .int) d1 mc1 ms1 [.ref 0, iv a0, iv a1, iv a2, iv a3] 97 h Q1 X1) (c0 : h 0 = .inr (8, fs)) (c96 : h 96 = .inl (3, 1, f)) (hq : ∀ v n2 h2, Q1 v n2 h2 → n2 = 97 ∧ (∃ r, v = some (iv r)) ∧ h2 96 = h 96) (hx : ∀ E n2 h2, X1 E n2 h2 → n2 = 97 ∧ (E = nmN ∨ E = nmI)) : mSemH yL_best cL_best 7 (some .int) [(0, 14, 17, 22), (0, 14, 21, 13)] (d1 + 1) mc1 ms1 [.ref 0, iv a0, iv a1, iv a2, iv a3, .ref 96] 97 h (WQ h Q1 X1 1 2) noX := by
  refine mSemH_of (own := RL) (name := "best") pn_L rfl rfl (Nat.le_of_ble_eq_true rfl) ?_
  refine g_aload dL_best_0 rfl ?_
  refine g_iconst dL_best_2 ?_
  refine g_aload_n dL_best_3 rfl rfl ?_
  refine g_iload_n dL_best_4 rfl rfl ?_
  refine g_iload_n dL_best_5 rfl rfl ?_
  refine g_iload_n dL_best_6 rfl rfl ?_
  refine g_iload dL_best_7 rfl ?_
  refine g_callC 0 [iv a0, iv a1, iv a2, iv a3] hS dL_best_9 cs_L_72 im_X8_best (by decide) c0 rfl (Nat.le_refl _) (Nat.le_refl _) (Nat.le_refl _) rfl rfl (by decide) (fun E n2 h2 q => ?_) (fun v n2 h2 q => ?_)
  · obtain ⟨rfl, hE⟩ := hx E n2 h2 q
    refine ⟨rfl, ?_⟩
    rcases hE with rfl | rfl
    · exact ⟨17, 1, ⟨[], _, [_], nmN, rfl, rfl, rfl, by decide, aL_N, by decide, fun y hy => absurd hy List.not_mem_nil⟩, Or.inr ⟨6, dL_best_17, by decide, dL_best_19, dL_best_20⟩, rfl, Or.inr (Or.inl ⟨q, rfl⟩)⟩
    · exact ⟨21, 2, ⟨[_], _, [], nmI, rfl, rfl, rfl, by decide, aL_I, by decide, fun y hy => by rw [List.mem_singleton.mp hy]; exact ⟨rfl, by decide, nmN, aL_N, by decide⟩⟩, Or.inr ⟨6, dL_best_21, by decide, dL_best_23, dL_best_24⟩, rfl, Or.inr (Or.inr ⟨q, rfl⟩)⟩
  obtain ⟨rfl, ⟨r, rfl⟩, hf⟩ := hq v n2 h2 q
  refine ⟨rfl, ?_⟩
  dsimp only [Option.toList, List.cons_append, List.nil_append]
  refine g_i2l dL_best_12 ?_
  refine g_last dL_best_13 (by decide) (hf.trans c96) (by decide) (by decide) (by decide) ?_
  refine g_goto (tgt := 25) dL_best_14 (by decide) ?_
  refine g_iconst dL_best_25 ?_
  refine g_iret dL_best_26 ?_
  exact ⟨rfl, Or.inl ⟨rfl, r, h2, f, q, hf.trans c96, rfl⟩⟩
theorem cw_L_year : Cond.codeWith yL_year cL_year 6 (some .int) [(0, 12, 15, 22)] ∈ Gw := inT6 3 rfl rfl
theorem sl_L_year : Cond.static yL_year ∈ Gw := inT6 2 rfl rfl
theorem s_L_year {h : aH} {a0 a1 a2 : Int} {fs : List Value} {f : Nat → Int} {d1 mc1 ms1 : Nat} {Q1 : Option Value → Nat → aH → Prop} {X1 : String → Nat → aH → Prop} (hS : mSem yX8_year cX8_year 4 (some .int) d1 mc1 ms1 [.ref 0, iv a0, iv a1, iv a2] 97 h Q1 X1) (c0 : h 0 = .inr (8, fs)) (c96 : h 96 = .inl (3, 1, f)) (hq : ∀ v n2 h2, Q1 v n2 h2 → n2 = 97 ∧ (∃ r, v = some (iv r)) ∧ h2 96 = h 96) (hx : ∀ E n2 h2, X1 E n2 h2 → n2 = 97 ∧ (E = nmN)) : mSemH yL_year cL_year 6 (some .int) [(0, 12, 15, 22)] (d1 + 1) mc1 ms1 [.ref 0, iv a0, iv a1, iv a2, .ref 96] 97 h (WQ h Q1 X1 1 2) noX := by
  refine mSemH_of (own := RL) (name := "year") pn_L rfl rfl (Nat.le_of_ble_eq_true rfl) ?_
  refine g_aload dL_year_0 rfl ?_
  refine g_iconst dL_year_2 ?_
  refine g_aload_n dL_year_3 rfl rfl ?_
  refine g_iload_n dL_year_4 rfl rfl ?_
  refine g_iload_n dL_year_5 rfl rfl ?_
  refine g_iload_n dL_year_6 rfl rfl ?_
  refine g_callC 0 [iv a0, iv a1, iv a2] hS dL_year_7 cs_L_75 im_X8_year (by decide) c0 rfl (Nat.le_refl _) (Nat.le_refl _) (Nat.le_refl _) rfl rfl (by decide) (fun E n2 h2 q => ?_) (fun v n2 h2 q => ?_)
  · obtain ⟨rfl, hE⟩ := hx E n2 h2 q
    refine ⟨rfl, ?_⟩
    subst hE
    exact ⟨15, 1, ⟨[], _, [], nmN, rfl, rfl, rfl, by decide, aL_N, by decide, fun y hy => absurd hy List.not_mem_nil⟩, Or.inr ⟨5, dL_year_15, by decide, dL_year_17, dL_year_18⟩, rfl, Or.inr (Or.inl ⟨q, rfl⟩)⟩
  obtain ⟨rfl, ⟨r, rfl⟩, hf⟩ := hq v n2 h2 q
  refine ⟨rfl, ?_⟩
  dsimp only [Option.toList, List.cons_append, List.nil_append]
  refine g_i2l dL_year_10 ?_
  refine g_last dL_year_11 (by decide) (hf.trans c96) (by decide) (by decide) (by decide) ?_
  refine g_goto (tgt := 19) dL_year_12 (by decide) ?_
  refine g_iconst dL_year_19 ?_
  refine g_iret dL_year_20 ?_
  exact ⟨rfl, Or.inl ⟨rfl, r, h2, f, q, hf.trans c96, rfl⟩⟩
theorem cw_L_live : Cond.codeWith yL_live cL_live 4 (some .int) [(0, 9, 12, 22)] ∈ Gw := inT6 14 rfl rfl
theorem sl_L_live : Cond.static yL_live ∈ Gw := inT6 13 rfl rfl
theorem s_L_live {h : aH} {a0 : Int} {fs : List Value} {f : Nat → Int} {d1 mc1 ms1 : Nat} {Q1 : Option Value → Nat → aH → Prop} {X1 : String → Nat → aH → Prop} (hS : mSem yX8_live cX8_live 7 (some .int) d1 mc1 ms1 [.ref 0, iv a0] 97 h Q1 X1) (c0 : h 0 = .inr (8, fs)) (c96 : h 96 = .inl (3, 1, f)) (hq : ∀ v n2 h2, Q1 v n2 h2 → n2 = 97 ∧ (∃ r, v = some (iv r)) ∧ h2 96 = h 96) (hx : ∀ E n2 h2, X1 E n2 h2 → n2 = 97 ∧ (E = nmN)) : mSemH yL_live cL_live 4 (some .int) [(0, 9, 12, 22)] (d1 + 1) mc1 ms1 [.ref 0, iv a0, .ref 96] 97 h (WQ h Q1 X1 1 2) noX := by
  refine mSemH_of (own := RL) (name := "live") pn_L rfl rfl (Nat.le_of_ble_eq_true rfl) ?_
  refine g_aload_n dL_live_0 rfl rfl ?_
  refine g_iconst dL_live_1 ?_
  refine g_aload_n dL_live_2 rfl rfl ?_
  refine g_iload_n dL_live_3 rfl rfl ?_
  refine g_callC 0 [iv a0] hS dL_live_4 cs_L_78 im_X8_live (by decide) c0 rfl (Nat.le_refl _) (Nat.le_refl _) (Nat.le_refl _) rfl rfl (by decide) (fun E n2 h2 q => ?_) (fun v n2 h2 q => ?_)
  · obtain ⟨rfl, hE⟩ := hx E n2 h2 q
    refine ⟨rfl, ?_⟩
    subst hE
    exact ⟨12, 1, ⟨[], _, [], nmN, rfl, rfl, rfl, by decide, aL_N, by decide, fun y hy => absurd hy List.not_mem_nil⟩, Or.inl ⟨3, dL_live_12, by decide, dL_live_13, dL_live_14⟩, rfl, Or.inr (Or.inl ⟨q, rfl⟩)⟩
  obtain ⟨rfl, ⟨r, rfl⟩, hf⟩ := hq v n2 h2 q
  refine ⟨rfl, ?_⟩
  dsimp only [Option.toList, List.cons_append, List.nil_append]
  refine g_i2l dL_live_7 ?_
  refine g_last dL_live_8 (by decide) (hf.trans c96) (by decide) (by decide) (by decide) ?_
  refine g_goto (tgt := 15) dL_live_9 (by decide) ?_
  refine g_iconst dL_live_15 ?_
  refine g_iret dL_live_16 ?_
  exact ⟨rfl, Or.inl ⟨rfl, r, h2, f, q, hf.trans c96, rfl⟩⟩
theorem cw_L_middle : Cond.codeWith yL_middle cL_middle 6 (some .int) [(0, 12, 15, 22), (0, 12, 19, 13)] ∈ Gw := inT6 21 rfl rfl
theorem sl_L_middle : Cond.static yL_middle ∈ Gw := inT6 20 rfl rfl
theorem s_L_middle {h : aH} {a0 a1 a2 : Int} {fs : List Value} {f : Nat → Int} {d1 mc1 ms1 : Nat} {Q1 : Option Value → Nat → aH → Prop} {X1 : String → Nat → aH → Prop} (hS : mSem yX8_middle cX8_middle 4 (some .int) d1 mc1 ms1 [.ref 0, iv a0, iv a1, iv a2] 97 h Q1 X1) (c0 : h 0 = .inr (8, fs)) (c96 : h 96 = .inl (3, 1, f)) (hq : ∀ v n2 h2, Q1 v n2 h2 → n2 = 97 ∧ (∃ r, v = some (iv r)) ∧ h2 96 = h 96) (hx : ∀ E n2 h2, X1 E n2 h2 → n2 = 97 ∧ (E = nmN ∨ E = nmI)) : mSemH yL_middle cL_middle 6 (some .int) [(0, 12, 15, 22), (0, 12, 19, 13)] (d1 + 1) mc1 ms1 [.ref 0, iv a0, iv a1, iv a2, .ref 96] 97 h (WQ h Q1 X1 1 2) noX := by
  refine mSemH_of (own := RL) (name := "middle") pn_L rfl rfl (Nat.le_of_ble_eq_true rfl) ?_
  refine g_aload dL_middle_0 rfl ?_
  refine g_iconst dL_middle_2 ?_
  refine g_aload_n dL_middle_3 rfl rfl ?_
  refine g_iload_n dL_middle_4 rfl rfl ?_
  refine g_iload_n dL_middle_5 rfl rfl ?_
  refine g_iload_n dL_middle_6 rfl rfl ?_
  refine g_callC 0 [iv a0, iv a1, iv a2] hS dL_middle_7 cs_L_81 im_X8_middle (by decide) c0 rfl (Nat.le_refl _) (Nat.le_refl _) (Nat.le_refl _) rfl rfl (by decide) (fun E n2 h2 q => ?_) (fun v n2 h2 q => ?_)
  · obtain ⟨rfl, hE⟩ := hx E n2 h2 q
    refine ⟨rfl, ?_⟩
    rcases hE with rfl | rfl
    · exact ⟨15, 1, ⟨[], _, [_], nmN, rfl, rfl, rfl, by decide, aL_N, by decide, fun y hy => absurd hy List.not_mem_nil⟩, Or.inr ⟨5, dL_middle_15, by decide, dL_middle_17, dL_middle_18⟩, rfl, Or.inr (Or.inl ⟨q, rfl⟩)⟩
    · exact ⟨19, 2, ⟨[_], _, [], nmI, rfl, rfl, rfl, by decide, aL_I, by decide, fun y hy => by rw [List.mem_singleton.mp hy]; exact ⟨rfl, by decide, nmN, aL_N, by decide⟩⟩, Or.inr ⟨5, dL_middle_19, by decide, dL_middle_21, dL_middle_22⟩, rfl, Or.inr (Or.inr ⟨q, rfl⟩)⟩
  obtain ⟨rfl, ⟨r, rfl⟩, hf⟩ := hq v n2 h2 q
  refine ⟨rfl, ?_⟩
  dsimp only [Option.toList, List.cons_append, List.nil_append]
  refine g_i2l dL_middle_10 ?_
  refine g_last dL_middle_11 (by decide) (hf.trans c96) (by decide) (by decide) (by decide) ?_
  refine g_goto (tgt := 23) dL_middle_12 (by decide) ?_
  refine g_iconst dL_middle_23 ?_
  refine g_iret dL_middle_24 ?_
  exact ⟨rfl, Or.inl ⟨rfl, r, h2, f, q, hf.trans c96, rfl⟩⟩
theorem cw_L_together : Cond.codeWith yL_together cL_together 5 (some .int) [(0, 10, 13, 22)] ∈ Gw := inT6 30 rfl rfl
theorem sl_L_together : Cond.static yL_together ∈ Gw := inT6 29 rfl rfl
theorem s_L_together {h : aH} {a0 a1 : Int} {fs : List Value} {f : Nat → Int} {d1 mc1 ms1 : Nat} {Q1 : Option Value → Nat → aH → Prop} {X1 : String → Nat → aH → Prop} (hS : mSem yX8_together cX8_together 8 (some .int) d1 mc1 ms1 [.ref 0, iv a0, iv a1] 97 h Q1 X1) (c0 : h 0 = .inr (8, fs)) (c96 : h 96 = .inl (3, 1, f)) (hq : ∀ v n2 h2, Q1 v n2 h2 → n2 = 97 ∧ (∃ r, v = some (iv r)) ∧ h2 96 = h 96) (hx : ∀ E n2 h2, X1 E n2 h2 → n2 = 97 ∧ (E = nmN)) : mSemH yL_together cL_together 5 (some .int) [(0, 10, 13, 22)] (d1 + 1) mc1 ms1 [.ref 0, iv a0, iv a1, .ref 96] 97 h (WQ h Q1 X1 1 2) noX := by
  refine mSemH_of (own := RL) (name := "together") pn_L rfl rfl (Nat.le_of_ble_eq_true rfl) ?_
  refine g_aload_n dL_together_0 rfl rfl ?_
  refine g_iconst dL_together_1 ?_
  refine g_aload_n dL_together_2 rfl rfl ?_
  refine g_iload_n dL_together_3 rfl rfl ?_
  refine g_iload_n dL_together_4 rfl rfl ?_
  refine g_callC 0 [iv a0, iv a1] hS dL_together_5 cs_L_84 im_X8_together (by decide) c0 rfl (Nat.le_refl _) (Nat.le_refl _) (Nat.le_refl _) rfl rfl (by decide) (fun E n2 h2 q => ?_) (fun v n2 h2 q => ?_)
  · obtain ⟨rfl, hE⟩ := hx E n2 h2 q
    refine ⟨rfl, ?_⟩
    subst hE
    exact ⟨13, 1, ⟨[], _, [], nmN, rfl, rfl, rfl, by decide, aL_N, by decide, fun y hy => absurd hy List.not_mem_nil⟩, Or.inr ⟨4, dL_together_13, by decide, dL_together_15, dL_together_16⟩, rfl, Or.inr (Or.inl ⟨q, rfl⟩)⟩
  obtain ⟨rfl, ⟨r, rfl⟩, hf⟩ := hq v n2 h2 q
  refine ⟨rfl, ?_⟩
  dsimp only [Option.toList, List.cons_append, List.nil_append]
  refine g_i2l dL_together_8 ?_
  refine g_last dL_together_9 (by decide) (hf.trans c96) (by decide) (by decide) (by decide) ?_
  refine g_goto (tgt := 17) dL_together_10 (by decide) ?_
  refine g_iconst dL_together_17 ?_
  refine g_iret dL_together_18 ?_
  exact ⟨rfl, Or.inl ⟨rfl, r, h2, f, q, hf.trans c96, rfl⟩⟩
theorem cw_L_takes : Cond.codeWith yL_takes cL_takes 5 (some .int) [(0, 10, 13, 22)] ∈ Gw := inT6 53 rfl rfl
theorem sl_L_takes : Cond.static yL_takes ∈ Gw := inT6 52 rfl rfl
theorem s_L_takes {h : aH} {a0 a1 : Int} {fs : List Value} {f : Nat → Int} {d1 mc1 ms1 : Nat} {Q1 : Option Value → Nat → aH → Prop} {X1 : String → Nat → aH → Prop} (hS : mSem yX8_takes cX8_takes 5 (some .int) d1 mc1 ms1 [.ref 0, iv a0, iv a1] 97 h Q1 X1) (c0 : h 0 = .inr (8, fs)) (c96 : h 96 = .inl (3, 1, f)) (hq : ∀ v n2 h2, Q1 v n2 h2 → n2 = 97 ∧ (∃ r, v = some (iv r)) ∧ h2 96 = h 96) (hx : ∀ E n2 h2, X1 E n2 h2 → n2 = 97 ∧ (E = nmN)) : mSemH yL_takes cL_takes 5 (some .int) [(0, 10, 13, 22)] (d1 + 1) mc1 ms1 [.ref 0, iv a0, iv a1, .ref 96] 97 h (WQ h Q1 X1 1 2) noX := by
  refine mSemH_of (own := RL) (name := "takes") pn_L rfl rfl (Nat.le_of_ble_eq_true rfl) ?_
  refine g_aload_n dL_takes_0 rfl rfl ?_
  refine g_iconst dL_takes_1 ?_
  refine g_aload_n dL_takes_2 rfl rfl ?_
  refine g_iload_n dL_takes_3 rfl rfl ?_
  refine g_iload_n dL_takes_4 rfl rfl ?_
  refine g_callC 0 [iv a0, iv a1] hS dL_takes_5 cs_L_87 im_X8_takes (by decide) c0 rfl (Nat.le_refl _) (Nat.le_refl _) (Nat.le_refl _) rfl rfl (by decide) (fun E n2 h2 q => ?_) (fun v n2 h2 q => ?_)
  · obtain ⟨rfl, hE⟩ := hx E n2 h2 q
    refine ⟨rfl, ?_⟩
    subst hE
    exact ⟨13, 1, ⟨[], _, [], nmN, rfl, rfl, rfl, by decide, aL_N, by decide, fun y hy => absurd hy List.not_mem_nil⟩, Or.inr ⟨4, dL_takes_13, by decide, dL_takes_15, dL_takes_16⟩, rfl, Or.inr (Or.inl ⟨q, rfl⟩)⟩
  obtain ⟨rfl, ⟨r, rfl⟩, hf⟩ := hq v n2 h2 q
  refine ⟨rfl, ?_⟩
  dsimp only [Option.toList, List.cons_append, List.nil_append]
  refine g_i2l dL_takes_8 ?_
  refine g_last dL_takes_9 (by decide) (hf.trans c96) (by decide) (by decide) (by decide) ?_
  refine g_goto (tgt := 17) dL_takes_10 (by decide) ?_
  refine g_iconst dL_takes_17 ?_
  refine g_iret dL_takes_18 ?_
  exact ⟨rfl, Or.inl ⟨rfl, r, h2, f, q, hf.trans c96, rfl⟩⟩
