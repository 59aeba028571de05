/-! ===== the law's cases ===== -/
def zS (b L : Nat) (xs : Nat → Int32) : ZT := fun s _ _ adK A => adK 2001 = b ∧ va_X b L xs s s.heap ∧ b < s.heap.size ∧ ¬ A b
section
variable {b0 L0 : Nat} {xs : Nat → Int32} {own name : String} {cc : ByteArray} {mL : Nat} {rt : Option FieldType} {d mc ms : Nat} {Q : Option Value → Nat → aH → Prop} {X : String → Nat → aH → Prop} {n : Nat} {h : aH} {pc : Nat} {lv : List (Nat × Value)} {st : List Value}
theorem g_sld {z : Int} (hd : decode cc pc = .ok (.iaload, 1)) (h0 : 0 ≤ z) (h1 : z < L0) (hL : L0 ≤ 3072) (kk : EvG (zS b0 L0 xs) own name cc mL rt d mc ms Q X n h (pc + 1) lv (iv (xs z.toNat).toInt :: st)) : EvG (zS b0 L0 xs) own name cc mL rt d mc ms Q X n h pc lv (iv z :: .ref 3001 :: st) := by
  intro p l e R s m args below meth c D tc n0 ad0 ad adK A H locs cells slots MC MS ls fx rm wd hn he hl
  have k1 := kk p l e R s m args below meth c D tc n0 ad0 ad adK A H locs cells slots MC MS ls fx rm wd hn he hl
  obtain ⟨z1, z2, z3, z4⟩ := fx.2.2.2.2.2.2.2.2.2.1
  have e1 : ad 3001 = b0 := (wd.2.2.2 2001).trans z1
  rw [List.map_cons, List.map_cons, cV_int, cV_ref, e1]
  refine va_sld fx.1 fx.2.1 z2 z3 z4 wd.2.2.1 (tIn h0 h1 (by omega)) hd ?_
  rw [List.map_cons, cV_int, Int32.ofInt_toInt] at k1
  rw [tCl h0 (by omega)]
  exact k1
theorem g_slen (hd : decode cc pc = .ok (.arraylength, 1)) (kk : EvG (zS b0 L0 xs) own name cc mL rt d mc ms Q X n h (pc + 1) lv (iv (L0 : Nat) :: st)) : EvG (zS b0 L0 xs) own name cc mL rt d mc ms Q X n h pc lv (.ref 3001 :: st) := by
  intro p l e R s m args below meth c D tc n0 ad0 ad adK A H locs cells slots MC MS ls fx rm wd hn he hl
  have k1 := kk p l e R s m args below meth c D tc n0 ad0 ad adK A H locs cells slots MC MS ls fx rm wd hn he hl
  obtain ⟨z1, z2, z3, z4⟩ := fx.2.2.2.2.2.2.2.2.2.1
  have e1 : ad 3001 = b0 := (wd.2.2.2 2001).trans z1
  rw [List.map_cons, cV_ref, e1]
  refine va_slen fx.1 fx.2.1 z2 z3 z4 wd.2.2.1 hd ?_
  rw [ofInt_nat]
  exact k1
end
section
variable {Z : ZT} {own name : String} {cc : ByteArray} {mL : Nat} {rt : Option FieldType} {d mc ms : Nat} {Q : Option Value → Nat → aH → Prop} {X : String → Nat → aH → Prop} {n : Nat} {h : aH} {pc : Nat} {lv : List (Nat × Value)} {st : List Value} {st0 : List Value}
theorem g_lv {lv2 : List (Nat × Value)} (hs : lv2.map (fun q => lg q.1 lv) = lv2.map (fun q => some q.2)) (k : EvG Z own name cc mL rt d mc ms Q X n h pc lv2 st) : EvG Z own name cc mL rt d mc ms Q X n h pc lv st := by
  intro p l e R s m args below meth c D tc n0 ad0 ad adK A H locs cells slots MC MS ls fx rm wd hn he hl
  refine k p l e R s m args below meth c D tc n0 ad0 ad adK A H locs cells slots MC MS ls fx rm wd hn he ⟨hl.1, hl.2.1, fun q hq => ?_⟩
  obtain ⟨z, hz, rfl⟩ := List.mem_map.mp hq
  obtain ⟨j, hj⟩ := List.mem_iff_getElem?.mp hz
  have h1 := congrArg (fun L => L[j]?) hs
  simp only [List.getElem?_map, hj, Option.map_some, Option.some.injEq] at h1
  exact lg_at hl h1
variable {idx : Nat} {y : MethodName} {c1 : ByteArray} {m1 : Nat} {r1 : Option FieldType} {np d1 mc1 ms1 : Nat} {Q1 : Option Value → Nat → aH → Prop}
def CSH (own : String) (idx : Nat) (y : MethodName) (cc : ByteArray) (mL : Nat) (rt : Option FieldType) (hh : HH) (np : Nat) : Prop := Cond.methodLink own idx y ∈ Gw ∧ Cond.codeWith y cc mL rt hh ∈ Gw ∧ Cond.initialized y.cls ∈ Gw ∧ Cond.static y ∈ Gw ∧ (y.cls ≠ "java/lang/invoke/MethodHandle" ∧ y.cls ≠ "java/lang/invoke/VarHandle" ∧ (parseMethodDescriptor y.desc).map (fun d => d.parameters.length) = some np) ∧ mL ≤ 41
/-- a call of a method with a table of its own, that doesn't throw -/
theorem g_callSH (as : List Value) {hh : HH} (hS : mSemH y c1 m1 r1 hh d1 mc1 ms1 as n h Q1 noX) (hd : decode cc pc = .ok (.invokestatic idx, 3)) (hcs : CSH own idx y c1 m1 r1 hh np) (hd1 : d1 + 1 ≤ d) (hmc : mc1 ≤ mc) (hms : ms1 ≤ ms) (hnp : as.length = np) (h0 : st0 = as.reverse ++ st) (hcat : (st.map fun v => v.category).sum ≤ 8) (hlv : lv.all (fun q => okV n q.2) = true) (hst : st.all (okV n) = true)
    (kk : ∀ v n2 h2, Q1 v n2 h2 → EvG Z own name cc mL rt d (mc - mc1) (ms - ms1) Q X n2 h2 (pc + 3) lv (v.toList ++ st)) : EvG Z own name cc mL rt d mc ms Q X n h pc lv st0 := by
  intro p l e R s m args below meth c D tc n0 ad0 ad adK A H locs cells slots MC MS ls fx rm wd hn he hl
  obtain ⟨hAA, hpre⟩ := sp_atG as fx wd
  obtain ⟨k1, k2, k3, k4, k5, k6⟩ := hcs
  have hG : GoodIn Gw (va_wsS own idx y (wsH y c1 m1 r1 hh)) := by
    intro w hw
    have h9 : w ∈ Gw := by
      unfold va_wsS wsH at hw
      simp only [List.cons_append, List.nil_append, List.mem_cons] at hw
      rcases hw with rfl | rfl | rfl | rfl | hw
      · exact k1
      · exact k4
      · exact k3
      · exact k2
      · exact hw
    exact ⟨h9, good_of_word (List.mem_filter.mp h9).2⟩
  have hcw : vx_CSW R s args own idx y c1 m1 r1 hh (wsH y c1 m1 r1 hh) (rmO d1 mc1 ms1) mc1 ms1 np := vx_cwSW np fx.2.2.2.2.2.1 hG rfl rfl rfl k5 ⟨by have h1 := rm.1; show d1 + 1 ≤ R.frames; omega, by have h1 := rm.2.1; show 8 + (m1 + 11) + 60 * d1 ≤ R.locals; omega⟩
  have hr := vx_runSX (As := as.map (cV ad)) (rest := st.map (cV ad)) (H := H) (e := e) (below := below) (meth := meth) (locs := locs) (cells := cells) (slots := slots) (g := F0 m pc ls (st0.map (cV ad))) ⟨fx.1, fx.2.1, fx.2.2.2.1, fx.2.2.2.2.1, fx.2.2.2.2.2.1⟩ (hS l D tc ad adK H.size fx.2.2.2.2.2.2.2.2.1) hcw ⟨SP.blind, hpre⟩ rfl (by rw [List.length_map]; exact hnp) hl.1 (by show st0.map (cV ad) = _; rw [h0, List.map_append, List.map_reverse]) (lv_room (by rw [cat_map]; exact hcat)) hd ⟨by have := rm.2.2.1; omega, by have := rm.2.2.2.1; omega⟩
  refine ev_callG (a := (as.map (cV ad)).toArray) (mc1 := mc1) (ms1 := ms1) fx rm wd hn he hl (fun T hT XX => ?_) hmc hms hAA hlv hst kk
  rcases hr T hT XX with h9 | ⟨q, st₀, t, T', L, E, ce, -, -, -, -, -, ⟨⟨n2, h2, ad2, hx, -⟩, -⟩, -⟩
  · exact h9
  · exact hx.elim
end
/-- the loop's invariant -/
def Inv (h : aH) : Prop := ∃ (S : CSt) (th : Int) (f : Nat → Int), Cls h S ∧ RefC h S th ∧ h 96 = .inl (3, 1, f)
abbrev LV (i : Int) : List (Nat × Value) := [(0, .ref 3001), (1, .ref 0), (2, .ref 68), (3, .ref 96), (4, iv i)]
theorem nz_cong {a b : Int} (h : iv a = iv b) : nz a = nz b := by
  have e : Int32.ofInt a = Int32.ofInt b := Value.int.inj h
  unfold nz
  rw [e]
theorem w_after {Q1 : Option Value → Nat → aH → Prop} {X1 : String → Nat → aH → Prop} {ref : RefT} {zN zI : Nat} {ex : String → Prop} {h : aH} {S : CSt} {th : Int} {f : Nat → Int} (hr : RefC h S th) (h96 : h 96 = .inl (3, 1, f))
    (q1 : ∀ v n2 h2, Q1 v n2 h2 → n2 = 97 ∧ FrC h h2 ∧ ∃ (r : Int) (S2 : CSt), v = some (iv r) ∧ Cls h2 S2 ∧ ∀ h', RefC h' S th → ref h' 0 r S2)
    (q2 : ∀ E n2 h2, X1 E n2 h2 → n2 = 97 ∧ ex E ∧ FrC h h2 ∧ Cls h2 S ∧ ((E = nmN ∧ ∀ h', RefC h' S th → ∃ r, ref h' zN r S) ∨ (E = nmI ∧ ∀ h', RefC h' S th → ∃ r, ref h' zI r S)))
    {v : Option Value} {n' : Nat} {h' : aH} (w : WQ h Q1 X1 (zN : Int) (zI : Int) v n' h') (hz : ¬ zN = 0 ∧ ¬ zI = 0 ∧ zN ≤ 2 ∧ zI ≤ 2) : n' = 97 ∧ RefC h' S th ∧ ∃ (k : Nat) (r : Int) (S2 : CSt) (f' : Nat → Int), v = some (iv (k : Int)) ∧ k ≤ 2 ∧ Cls h' S2 ∧ h' 96 = .inl (3, 1, f') ∧ (k = 0 → f' 0 = nz r) ∧ ref h' k r S2 := by
  obtain ⟨e0, w⟩ := w
  rcases w with ⟨hv, r, h2, f2, q, c96, rfl⟩ | ⟨x, hv⟩ | ⟨x, hv⟩
  · obtain ⟨-, fr, r2, S2, e, cl, rf⟩ := q1 _ _ _ q
    have hR : RefC (va_up h2 96 (.inl (3, 1, va_up f2 0 (nz r)))) S th := ref_fr (fun j h1 h9 => by rw [va_ne (by omega)]; exact fr j h1) hr
    refine ⟨e0, hR, 0, r2, S2, va_up f2 0 (nz r), hv, by omega, cls_fr (fun j hj => va_ne (by omega)) cl, va_eq, fun _ => ?_, rf _ hR⟩
    rw [va_eq]
    exact nz_cong (Option.some.inj e)
  · obtain ⟨-, -, fr, cl, hh⟩ := q2 _ _ _ x
    have hR : RefC h' S th := ref_fr (fun j h1 h9 => fr j h1) hr
    rcases hh with ⟨-, rf⟩ | ⟨e, -⟩
    · obtain ⟨r, rf⟩ := rf _ hR
      exact ⟨e0, hR, zN, r, S, f, hv, hz.2.2.1, cl, (fr 96 (by decide)).trans h96, fun e => absurd e hz.1, rf⟩
    · exact absurd e (by decide)
  · obtain ⟨-, -, fr, cl, hh⟩ := q2 _ _ _ x
    have hR : RefC h' S th := ref_fr (fun j h1 h9 => fr j h1) hr
    rcases hh with ⟨e, -⟩ | ⟨-, rf⟩
    · exact absurd e (by decide)
    · obtain ⟨r, rf⟩ := rf _ hR
      exact ⟨e0, hR, zI, r, S, f, hv, hz.2.2.2, cl, (fr 96 (by decide)).trans h96, fun e => absurd e hz.2.1, rf⟩
theorem r_after {k : Nat} {r : Int} {h' : aH} {S2 : CSt} {f' : Nat → Int} (cl : Cls h' S2) (c96 : h' 96 = .inl (3, 1, f')) {v : Option Value} {n2 : Nat} {h2 : aH} (q : RefQ k r h' S2 v n2 h2) : n2 = 97 ∧ (∃ z, v = some (iv z) ∧ (k = 0 → z = r)) ∧ Cls h2 S2 ∧ RefC h2 S2 (k : Int) ∧ h2 96 = .inl (3, 1, f') := by
  obtain ⟨q1, q2, q3, q4⟩ := q
  exact ⟨q1, q2, cls_fr (fun j hj => q4 j (Or.inl hj)) cl, q3, (q4 96 (Or.inr (by decide))).trans c96⟩
theorem sx_R (xs : Nat → Int32) (j : Nat) : inR (xs j).toInt := ⟨Int32.le_toInt _, by have := Int32.toInt_lt (xs j); omega⟩
theorem csh_lawful : CSH RL 111 yL_lawful cL_lawful 5 (some .int) [(0, 10, 13, 22), (0, 10, 17, 13)] 4 := ⟨inT4 63 rfl rfl, cw_L_lawful, ini_L, sl_L_lawful, ⟨by decide +kernel, by decide +kernel, by decide +kernel⟩, by decide⟩
theorem lc_lawful {b0 L0 : Nat} {xs : Nat → Int32} {d mc ms : Nat} {Q : Option Value → Nat → aH → Prop} (hd : 40 ≤ d) (hmc : 3 ≤ mc) (hms : 18 ≤ ms) {h : aH} (iv9 : Inv h) {i : Int} (hi : 0 ≤ i ∧ i + 6 ≤ L0) (hL : L0 ≤ 3072) (kk : ∀ h', Inv h' → EvG (zS b0 L0 xs) RL "law" cL_law_ 7 (some .boolean) d (mc - 3) (ms - 18) Q noX 97 h' 2069 (LV i) []) : EvG (zS b0 L0 xs) RL "law" cL_law_ 7 (some .boolean) d mc ms Q noX 97 h 365 (LV i) [] := by
  obtain ⟨S, th, f, hc, hr, h96⟩ := iv9
  obtain ⟨fs0, c0⟩ := cls_0 hc
  obtain ⟨Q1, X1, hS0, q1, q2⟩ := a_lawful hc hr (sx_R xs (i + 1).toNat) (sx_R xs (i + 2).toNat)
  refine g_aload_n dL_law__365 rfl rfl ?_
  refine g_aload_n dL_law__366 rfl rfl ?_
  refine g_iload dL_law__367 rfl ?_
  refine g_iconst dL_law__369 ?_
  refine g_iadd dL_law__370 ?_
  refine g_sld dL_law__371 (by omega) (by omega) hL ?_
  refine g_aload_n dL_law__372 rfl rfl ?_
  refine g_iload dL_law__373 rfl ?_
  refine g_iconst dL_law__375 ?_
  refine g_iadd dL_law__376 ?_
  refine g_sld dL_law__377 (by omega) (by omega) hL ?_
  refine g_aload_n dL_law__378 rfl rfl ?_
  refine g_callSH [.ref 0, iv (xs (i + 1).toNat).toInt, iv (xs (i + 2).toNat).toInt, .ref 96] (s_L_lawful hS0 c0 h96 (fun v n2 h2 q => ⟨(q1 v n2 h2 q).1, by obtain ⟨r, S2, e, -⟩ := (q1 v n2 h2 q).2.2; exact ⟨r, e⟩, (q1 v n2 h2 q).2.1 96 (by decide)⟩) (fun E n2 h2 q => ⟨(q2 E n2 h2 q).1, (q2 E n2 h2 q).2.1⟩)) dL_law__379 csh_lawful (by omega) hmc hms rfl rfl (by decide) rfl rfl (fun v n2 h2 q => ?_)
  obtain ⟨rfl, hr2, k, r, S2, f2, rfl, hk, cl2, c96, hf, hS3⟩ := w_after (ref := fun h' c r S' => mSem yX9_lawful cX9_lawful 3 (some .int) 7 0 0 [.ref 68, iv (xs (i + 1).toNat).toInt, iv (xs (i + 2).toNat).toInt] 97 h' (RefQ c r h' S') noX) (ex := fun E => E = nmN ∨ E = nmI) (zN := 1) (zI := 2) hr h96 q1 q2 q (by decide)
  dsimp only [Option.toList, List.cons_append, List.nil_append]
  obtain ⟨g, w, c68, -⟩ := ref_th hr2
  refine g_istore (lv2 := LV i ++ [(5, iv (k : Int))]) dL_law__382 (by decide) rfl rfl ?_
  refine g_aload_n dL_law__384 rfl rfl ?_
  refine g_aload_n dL_law__385 rfl rfl ?_
  refine g_iload dL_law__386 rfl ?_
  refine g_iconst dL_law__388 ?_
  refine g_iadd dL_law__389 ?_
  refine g_sld dL_law__390 (by omega) (by omega) hL ?_
  refine g_aload_n dL_law__391 rfl rfl ?_
  refine g_iload dL_law__392 rfl ?_
  refine g_iconst dL_law__394 ?_
  refine g_iadd dL_law__395 ?_
  refine g_sld dL_law__396 (by omega) (by omega) hL ?_
  refine g_callV 68 [iv (xs (i + 1).toNat).toInt, iv (xs (i + 2).toNat).toInt] hS3 (fun _ _ _ hx => hx) dL_law__397 cs_L_114 im_X9_lawful (by decide) c68 rfl (by omega) (Nat.zero_le _) (Nat.zero_le _) rfl rfl (by decide) rfl rfl (fun v n2 h3 q => ?_)
  obtain ⟨rfl, ⟨z, rfl, hz⟩, cl3, hr3, c96b⟩ := r_after cl2 c96 q
  dsimp only [Option.toList, List.cons_append, List.nil_append]
  obtain ⟨g3, w3, c68b, e0⟩ := ref_th hr3
  refine g_istore (lv2 := LV i ++ [(5, iv (k : Int)), (6, iv z)]) dL_law__400 (by decide) rfl rfl ?_
  refine g_aload_n dL_law__402 rfl rfl ?_
  refine g_callV 68 [] (s_X9_thrown c68b) (fun _ _ _ hx => hx) dL_law__403 cs_L_104 im_X9_thrown (by decide) c68b rfl (by omega) (Nat.zero_le _) (Nat.zero_le _) rfl rfl (by decide) rfl rfl (fun v n2 h4 q => ?_)
  obtain ⟨rfl, rfl, rfl⟩ := q
  dsimp only [Option.toList, List.cons_append, List.nil_append]
  rw [e0]
  refine g_iload dL_law__406 rfl ?_
  refine g_icmp_eq (tgt := 413) dL_law__408 (by decide) ⟨by omega, by omega⟩ ⟨by omega, by omega⟩ (fun _ => ?_) (fun h9 => absurd rfl h9)
  have fin : EvG (zS b0 L0 xs) RL "law" cL_law_ 7 (some .boolean) d (mc - 3 - 0 - 0) (ms - 18 - 0 - 0) Q noX 97 h4 430 (LV i ++ [(5, iv (k : Int)), (6, iv z)]) [] := by
    refine g_goto (tgt := 2069) dL_law__430 (by decide) ?_
    refine g_lv (lv2 := LV i) rfl ?_
    exact kk _ ⟨S2, _, f2, cl3, hr3, c96b⟩
  refine g_iload dL_law__413 rfl ?_
  refine g_if_ne (tgt := 430) dL_law__415 (by decide) ⟨by omega, by omega⟩ (fun _ => fin) (fun h9 => ?_)
  have hk0 : k = 0 := by omega
  refine g_aload_n dL_law__418 rfl rfl ?_
  refine g_iconst dL_law__419 ?_
  refine g_lald dL_law__420 (by decide) c96b (by decide) (by decide) (by decide) ?_
  refine g_iload dL_law__421 rfl ?_
  refine g_i2l dL_law__423 ?_
  rw [show f2 (0 : Int).toNat = nz z by rw [hz hk0]; exact hf hk0]
  refine g_lcmp0 dL_law__424 ?_
  exact g_if_eq (tgt := 430) dL_law__425 (by decide) (by decide) (fun _ => fin) (fun h9 => absurd rfl h9)
theorem csh_judged : CSH RL 115 yL_judged cL_judged 5 (some .int) [(0, 10, 13, 22), (0, 10, 17, 13)] 4 := ⟨inT4 215 rfl rfl, cw_L_judged, ini_L, sl_L_judged, ⟨by decide +kernel, by decide +kernel, by decide +kernel⟩, by decide⟩
theorem lc_judged {b0 L0 : Nat} {xs : Nat → Int32} {d mc ms : Nat} {Q : Option Value → Nat → aH → Prop} (hd : 40 ≤ d) (hmc : 3 ≤ mc) (hms : 18 ≤ ms) {h : aH} (iv9 : Inv h) {i : Int} (hi : 0 ≤ i ∧ i + 6 ≤ L0) (hL : L0 ≤ 3072) (kk : ∀ h', Inv h' → EvG (zS b0 L0 xs) RL "law" cL_law_ 7 (some .boolean) d (mc - 3) (ms - 18) Q noX 97 h' 2069 (LV i) []) : EvG (zS b0 L0 xs) RL "law" cL_law_ 7 (some .boolean) d mc ms Q noX 97 h 433 (LV i) [] := by
  obtain ⟨S, th, f, hc, hr, h96⟩ := iv9
  obtain ⟨fs0, c0⟩ := cls_0 hc
  obtain ⟨Q1, X1, hS0, q1, q2⟩ := a_judged hc hr (sx_R xs (i + 1).toNat) (sx_R xs (i + 2).toNat)
  refine g_aload_n dL_law__433 rfl rfl ?_
  refine g_aload_n dL_law__434 rfl rfl ?_
  refine g_iload dL_law__435 rfl ?_
  refine g_iconst dL_law__437 ?_
  refine g_iadd dL_law__438 ?_
  refine g_sld dL_law__439 (by omega) (by omega) hL ?_
  refine g_aload_n dL_law__440 rfl rfl ?_
  refine g_iload dL_law__441 rfl ?_
  refine g_iconst dL_law__443 ?_
  refine g_iadd dL_law__444 ?_
  refine g_sld dL_law__445 (by omega) (by omega) hL ?_
  refine g_aload_n dL_law__446 rfl rfl ?_
  refine g_callSH [.ref 0, iv (xs (i + 1).toNat).toInt, iv (xs (i + 2).toNat).toInt, .ref 96] (s_L_judged hS0 c0 h96 (fun v n2 h2 q => ⟨(q1 v n2 h2 q).1, by obtain ⟨r, S2, e, -⟩ := (q1 v n2 h2 q).2.2; exact ⟨r, e⟩, (q1 v n2 h2 q).2.1 96 (by decide)⟩) (fun E n2 h2 q => ⟨(q2 E n2 h2 q).1, (q2 E n2 h2 q).2.1⟩)) dL_law__447 csh_judged (by omega) hmc hms rfl rfl (by decide) rfl rfl (fun v n2 h2 q => ?_)
  obtain ⟨rfl, hr2, k, r, S2, f2, rfl, hk, cl2, c96, hf, hS3⟩ := w_after (ref := fun h' c r S' => mSem yX9_judged cX9_judged 14 (some .int) 7 0 0 [.ref 68, iv (xs (i + 1).toNat).toInt, iv (xs (i + 2).toNat).toInt] 97 h' (RefQ c r h' S') noX) (ex := fun E => E = nmN ∨ E = nmI) (zN := 1) (zI := 2) hr h96 q1 q2 q (by decide)
  dsimp only [Option.toList, List.cons_append, List.nil_append]
  obtain ⟨g, w, c68, -⟩ := ref_th hr2
  refine g_istore (lv2 := LV i ++ [(5, iv (k : Int))]) dL_law__450 (by decide) rfl rfl ?_
  refine g_aload_n dL_law__452 rfl rfl ?_
  refine g_aload_n dL_law__453 rfl rfl ?_
  refine g_iload dL_law__454 rfl ?_
  refine g_iconst dL_law__456 ?_
  refine g_iadd dL_law__457 ?_
  refine g_sld dL_law__458 (by omega) (by omega) hL ?_
  refine g_aload_n dL_law__459 rfl rfl ?_
  refine g_iload dL_law__460 rfl ?_
  refine g_iconst dL_law__462 ?_
  refine g_iadd dL_law__463 ?_
  refine g_sld dL_law__464 (by omega) (by omega) hL ?_
  refine g_callV 68 [iv (xs (i + 1).toNat).toInt, iv (xs (i + 2).toNat).toInt] hS3 (fun _ _ _ hx => hx) dL_law__465 cs_L_117 im_X9_judged (by decide) c68 rfl (by omega) (Nat.zero_le _) (Nat.zero_le _) rfl rfl (by decide) rfl rfl (fun v n2 h3 q => ?_)
  obtain ⟨rfl, ⟨z, rfl, hz⟩, cl3, hr3, c96b⟩ := r_after cl2 c96 q
  dsimp only [Option.toList, List.cons_append, List.nil_append]
  obtain ⟨g3, w3, c68b, e0⟩ := ref_th hr3
  refine g_istore (lv2 := LV i ++ [(5, iv (k : Int)), (6, iv z)]) dL_law__468 (by decide) rfl rfl ?_
  refine g_aload_n dL_law__470 rfl rfl ?_
  refine g_callV 68 [] (s_X9_thrown c68b) (fun _ _ _ hx => hx) dL_law__471 cs_L_104 im_X9_thrown (by decide) c68b rfl (by omega) (Nat.zero_le _) (Nat.zero_le _) rfl rfl (by decide) rfl rfl (fun v n2 h4 q => ?_)
  obtain ⟨rfl, rfl, rfl⟩ := q
  dsimp only [Option.toList, List.cons_append, List.nil_append]
  rw [e0]
  refine g_iload dL_law__474 rfl ?_
  refine g_icmp_eq (tgt := 481) dL_law__476 (by decide) ⟨by omega, by omega⟩ ⟨by omega, by omega⟩ (fun _ => ?_) (fun h9 => absurd rfl h9)
  have fin : EvG (zS b0 L0 xs) RL "law" cL_law_ 7 (some .boolean) d (mc - 3 - 0 - 0) (ms - 18 - 0 - 0) Q noX 97 h4 498 (LV i ++ [(5, iv (k : Int)), (6, iv z)]) [] := by
    refine g_goto (tgt := 2069) dL_law__498 (by decide) ?_
    refine g_lv (lv2 := LV i) rfl ?_
    exact kk _ ⟨S2, _, f2, cl3, hr3, c96b⟩
  refine g_iload dL_law__481 rfl ?_
  refine g_if_ne (tgt := 498) dL_law__483 (by decide) ⟨by omega, by omega⟩ (fun _ => fin) (fun h9 => ?_)
  have hk0 : k = 0 := by omega
  refine g_aload_n dL_law__486 rfl rfl ?_
  refine g_iconst dL_law__487 ?_
  refine g_lald dL_law__488 (by decide) c96b (by decide) (by decide) (by decide) ?_
  refine g_iload dL_law__489 rfl ?_
  refine g_i2l dL_law__491 ?_
  rw [show f2 (0 : Int).toNat = nz z by rw [hz hk0]; exact hf hk0]
  refine g_lcmp0 dL_law__492 ?_
  exact g_if_eq (tgt := 498) dL_law__493 (by decide) (by decide) (fun _ => fin) (fun h9 => absurd rfl h9)
theorem csh_count : CSH RL 122 yL_count cL_count 4 (some .int) [(0, 9, 12, 22)] 3 := ⟨inT5 4 rfl rfl, cw_L_count, ini_L, sl_L_count, ⟨by decide +kernel, by decide +kernel, by decide +kernel⟩, by decide⟩
theorem lc_count {b0 L0 : Nat} {xs : Nat → Int32} {d mc ms : Nat} {Q : Option Value → Nat → aH → Prop} (hd : 40 ≤ d) (hmc : 1 ≤ mc) (hms : 6 ≤ ms) {h : aH} (iv9 : Inv h) {i : Int} (hi : 0 ≤ i ∧ i + 6 ≤ L0) (hL : L0 ≤ 3072) (kk : ∀ h', Inv h' → EvG (zS b0 L0 xs) RL "law" cL_law_ 7 (some .boolean) d (mc - 1) (ms - 6) Q noX 97 h' 2069 (LV i) []) : EvG (zS b0 L0 xs) RL "law" cL_law_ 7 (some .boolean) d mc ms Q noX 97 h 514 (LV i) [] := by
  obtain ⟨S, th, f, hc, hr, h96⟩ := iv9
  obtain ⟨fs0, c0⟩ := cls_0 hc
  obtain ⟨Q1, X1, hS0, q1, q2⟩ := a_count hc hr (sx_R xs (i + 1).toNat)
  refine g_aload_n dL_law__514 rfl rfl ?_
  refine g_aload_n dL_law__515 rfl rfl ?_
  refine g_iload dL_law__516 rfl ?_
  refine g_iconst dL_law__518 ?_
  refine g_iadd dL_law__519 ?_
  refine g_sld dL_law__520 (by omega) (by omega) hL ?_
  refine g_aload_n dL_law__521 rfl rfl ?_
  refine g_callSH [.ref 0, iv (xs (i + 1).toNat).toInt, .ref 96] (s_L_count hS0 c0 h96 (fun v n2 h2 q => ⟨(q1 v n2 h2 q).1, by obtain ⟨r, S2, e, -⟩ := (q1 v n2 h2 q).2.2; exact ⟨r, e⟩, (q1 v n2 h2 q).2.1 96 (by decide)⟩) (fun E n2 h2 q => ⟨(q2 E n2 h2 q).1, (q2 E n2 h2 q).2.1⟩)) dL_law__522 csh_count (by omega) hmc hms rfl rfl (by decide) rfl rfl (fun v n2 h2 q => ?_)
  obtain ⟨rfl, hr2, k, r, S2, f2, rfl, hk, cl2, c96, hf, hS3⟩ := w_after (ref := fun h' c r S' => mSem yX9_count cX9_count 2 (some .int) 6 0 0 [.ref 68, iv (xs (i + 1).toNat).toInt] 97 h' (RefQ c r h' S') noX) (ex := fun E => E = nmN) (zN := 1) (zI := 2) hr h96 q1 q2 q (by decide)
  dsimp only [Option.toList, List.cons_append, List.nil_append]
  obtain ⟨g, w, c68, -⟩ := ref_th hr2
  refine g_istore (lv2 := LV i ++ [(5, iv (k : Int))]) dL_law__525 (by decide) rfl rfl ?_
  refine g_aload_n dL_law__527 rfl rfl ?_
  refine g_aload_n dL_law__528 rfl rfl ?_
  refine g_iload dL_law__529 rfl ?_
  refine g_iconst dL_law__531 ?_
  refine g_iadd dL_law__532 ?_
  refine g_sld dL_law__533 (by omega) (by omega) hL ?_
  refine g_callV 68 [iv (xs (i + 1).toNat).toInt] hS3 (fun _ _ _ hx => hx) dL_law__534 cs_L_124 im_X9_count (by decide) c68 rfl (by omega) (Nat.zero_le _) (Nat.zero_le _) rfl rfl (by decide) rfl rfl (fun v n2 h3 q => ?_)
  obtain ⟨rfl, ⟨z, rfl, hz⟩, cl3, hr3, c96b⟩ := r_after cl2 c96 q
  dsimp only [Option.toList, List.cons_append, List.nil_append]
  obtain ⟨g3, w3, c68b, e0⟩ := ref_th hr3
  refine g_istore (lv2 := LV i ++ [(5, iv (k : Int)), (6, iv z)]) dL_law__537 (by decide) rfl rfl ?_
  refine g_aload_n dL_law__539 rfl rfl ?_
  refine g_callV 68 [] (s_X9_thrown c68b) (fun _ _ _ hx => hx) dL_law__540 cs_L_104 im_X9_thrown (by decide) c68b rfl (by omega) (Nat.zero_le _) (Nat.zero_le _) rfl rfl (by decide) rfl rfl (fun v n2 h4 q => ?_)
  obtain ⟨rfl, rfl, rfl⟩ := q
  dsimp only [Option.toList, List.cons_append, List.nil_append]
  rw [e0]
  refine g_iload dL_law__543 rfl ?_
  refine g_icmp_eq (tgt := 550) dL_law__545 (by decide) ⟨by omega, by omega⟩ ⟨by omega, by omega⟩ (fun _ => ?_) (fun h9 => absurd rfl h9)
  have fin : EvG (zS b0 L0 xs) RL "law" cL_law_ 7 (some .boolean) d (mc - 1 - 0 - 0) (ms - 6 - 0 - 0) Q noX 97 h4 567 (LV i ++ [(5, iv (k : Int)), (6, iv z)]) [] := by
    refine g_goto (tgt := 2069) dL_law__567 (by decide) ?_
    refine g_lv (lv2 := LV i) rfl ?_
    exact kk _ ⟨S2, _, f2, cl3, hr3, c96b⟩
  refine g_iload dL_law__550 rfl ?_
  refine g_if_ne (tgt := 567) dL_law__552 (by decide) ⟨by omega, by omega⟩ (fun _ => fin) (fun h9 => ?_)
  have hk0 : k = 0 := by omega
  refine g_aload_n dL_law__555 rfl rfl ?_
  refine g_iconst dL_law__556 ?_
  refine g_lald dL_law__557 (by decide) c96b (by decide) (by decide) (by decide) ?_
  refine g_iload dL_law__558 rfl ?_
  refine g_i2l dL_law__560 ?_
  rw [show f2 (0 : Int).toNat = nz z by rw [hz hk0]; exact hf hk0]
  refine g_lcmp0 dL_law__561 ?_
  exact g_if_eq (tgt := 567) dL_law__562 (by decide) (by decide) (fun _ => fin) (fun h9 => absurd rfl h9)
theorem csh_dial : CSH RL 125 yL_dial cL_dial 5 (some .int) [(0, 10, 13, 22)] 4 := ⟨inT5 12 rfl rfl, cw_L_dial, ini_L, sl_L_dial, ⟨by decide +kernel, by decide +kernel, by decide +kernel⟩, by decide⟩
theorem lc_dial {b0 L0 : Nat} {xs : Nat → Int32} {d mc ms : Nat} {Q : Option Value → Nat → aH → Prop} (hd : 40 ≤ d) (hmc : 2 ≤ mc) (hms : 12 ≤ ms) {h : aH} (iv9 : Inv h) {i : Int} (hi : 0 ≤ i ∧ i + 6 ≤ L0) (hL : L0 ≤ 3072) (kk : ∀ h', Inv h' → EvG (zS b0 L0 xs) RL "law" cL_law_ 7 (some .boolean) d (mc - 2) (ms - 12) Q noX 97 h' 2069 (LV i) []) : EvG (zS b0 L0 xs) RL "law" cL_law_ 7 (some .boolean) d mc ms Q noX 97 h 570 (LV i) [] := by
  obtain ⟨S, th, f, hc, hr, h96⟩ := iv9
  obtain ⟨fs0, c0⟩ := cls_0 hc
  obtain ⟨Q1, X1, hS0, q1, q2⟩ := a_dial hc hr (sx_R xs (i + 1).toNat) (sx_R xs (i + 2).toNat)
  refine g_aload_n dL_law__570 rfl rfl ?_
  refine g_aload_n dL_law__571 rfl rfl ?_
  refine g_iload dL_law__572 rfl ?_
  refine g_iconst dL_law__574 ?_
  refine g_iadd dL_law__575 ?_
  refine g_sld dL_law__576 (by omega) (by omega) hL ?_
  refine g_aload_n dL_law__577 rfl rfl ?_
  refine g_iload dL_law__578 rfl ?_
  refine g_iconst dL_law__580 ?_
  refine g_iadd dL_law__581 ?_
  refine g_sld dL_law__582 (by omega) (by omega) hL ?_
  refine g_aload_n dL_law__583 rfl rfl ?_
  refine g_callSH [.ref 0, iv (xs (i + 1).toNat).toInt, iv (xs (i + 2).toNat).toInt, .ref 96] (s_L_dial hS0 c0 h96 (fun v n2 h2 q => ⟨(q1 v n2 h2 q).1, by obtain ⟨r, S2, e, -⟩ := (q1 v n2 h2 q).2.2; exact ⟨r, e⟩, (q1 v n2 h2 q).2.1 96 (by decide)⟩) (fun E n2 h2 q => ⟨(q2 E n2 h2 q).1, (q2 E n2 h2 q).2.1⟩)) dL_law__584 csh_dial (by omega) hmc hms rfl rfl (by decide) rfl rfl (fun v n2 h2 q => ?_)
  obtain ⟨rfl, hr2, k, r, S2, f2, rfl, hk, cl2, c96, hf, hS3⟩ := w_after (ref := fun h' c r S' => mSem yX9_dial cX9_dial 3 (some .int) 6 0 0 [.ref 68, iv (xs (i + 1).toNat).toInt, iv (xs (i + 2).toNat).toInt] 97 h' (RefQ c r h' S') noX) (ex := fun E => E = nmN) (zN := 1) (zI := 2) hr h96 q1 q2 q (by decide)
  dsimp only [Option.toList, List.cons_append, List.nil_append]
  obtain ⟨g, w, c68, -⟩ := ref_th hr2
  refine g_istore (lv2 := LV i ++ [(5, iv (k : Int))]) dL_law__587 (by decide) rfl rfl ?_
  refine g_aload_n dL_law__589 rfl rfl ?_
  refine g_aload_n dL_law__590 rfl rfl ?_
  refine g_iload dL_law__591 rfl ?_
  refine g_iconst dL_law__593 ?_
  refine g_iadd dL_law__594 ?_
  refine g_sld dL_law__595 (by omega) (by omega) hL ?_
  refine g_aload_n dL_law__596 rfl rfl ?_
  refine g_iload dL_law__597 rfl ?_
  refine g_iconst dL_law__599 ?_
  refine g_iadd dL_law__600 ?_
  refine g_sld dL_law__601 (by omega) (by omega) hL ?_
  refine g_callV 68 [iv (xs (i + 1).toNat).toInt, iv (xs (i + 2).toNat).toInt] hS3 (fun _ _ _ hx => hx) dL_law__602 cs_L_127 im_X9_dial (by decide) c68 rfl (by omega) (Nat.zero_le _) (Nat.zero_le _) rfl rfl (by decide) rfl rfl (fun v n2 h3 q => ?_)
  obtain ⟨rfl, ⟨z, rfl, hz⟩, cl3, hr3, c96b⟩ := r_after cl2 c96 q
  dsimp only [Option.toList, List.cons_append, List.nil_append]
  obtain ⟨g3, w3, c68b, e0⟩ := ref_th hr3
  refine g_istore (lv2 := LV i ++ [(5, iv (k : Int)), (6, iv z)]) dL_law__605 (by decide) rfl rfl ?_
  refine g_aload_n dL_law__607 rfl rfl ?_
  refine g_callV 68 [] (s_X9_thrown c68b) (fun _ _ _ hx => hx) dL_law__608 cs_L_104 im_X9_thrown (by decide) c68b rfl (by omega) (Nat.zero_le _) (Nat.zero_le _) rfl rfl (by decide) rfl rfl (fun v n2 h4 q => ?_)
  obtain ⟨rfl, rfl, rfl⟩ := q
  dsimp only [Option.toList, List.cons_append, List.nil_append]
  rw [e0]
  refine g_iload dL_law__611 rfl ?_
  refine g_icmp_eq (tgt := 618) dL_law__613 (by decide) ⟨by omega, by omega⟩ ⟨by omega, by omega⟩ (fun _ => ?_) (fun h9 => absurd rfl h9)
  have fin : EvG (zS b0 L0 xs) RL "law" cL_law_ 7 (some .boolean) d (mc - 2 - 0 - 0) (ms - 12 - 0 - 0) Q noX 97 h4 635 (LV i ++ [(5, iv (k : Int)), (6, iv z)]) [] := by
    refine g_goto (tgt := 2069) dL_law__635 (by decide) ?_
    refine g_lv (lv2 := LV i) rfl ?_
    exact kk _ ⟨S2, _, f2, cl3, hr3, c96b⟩
  refine g_iload dL_law__618 rfl ?_
  refine g_if_ne (tgt := 635) dL_law__620 (by decide) ⟨by omega, by omega⟩ (fun _ => fin) (fun h9 => ?_)
  have hk0 : k = 0 := by omega
  refine g_aload_n dL_law__623 rfl rfl ?_
  refine g_iconst dL_law__624 ?_
  refine g_lald dL_law__625 (by decide) c96b (by decide) (by decide) (by decide) ?_
  refine g_iload dL_law__626 rfl ?_
  refine g_i2l dL_law__628 ?_
  rw [show f2 (0 : Int).toNat = nz z by rw [hz hk0]; exact hf hk0]
  refine g_lcmp0 dL_law__629 ?_
  exact g_if_eq (tgt := 635) dL_law__630 (by decide) (by decide) (fun _ => fin) (fun h9 => absurd rfl h9)
theorem csh_day : CSH RL 128 yL_day cL_day 5 (some .int) [(0, 10, 13, 22)] 4 := ⟨inT5 24 rfl rfl, cw_L_day, ini_L, sl_L_day, ⟨by decide +kernel, by decide +kernel, by decide +kernel⟩, by decide⟩
theorem lc_day {b0 L0 : Nat} {xs : Nat → Int32} {d mc ms : Nat} {Q : Option Value → Nat → aH → Prop} (hd : 40 ≤ d) (hmc : 2 ≤ mc) (hms : 12 ≤ ms) {h : aH} (iv9 : Inv h) {i : Int} (hi : 0 ≤ i ∧ i + 6 ≤ L0) (hL : L0 ≤ 3072) (kk : ∀ h', Inv h' → EvG (zS b0 L0 xs) RL "law" cL_law_ 7 (some .boolean) d (mc - 2) (ms - 12) Q noX 97 h' 2069 (LV i) []) : EvG (zS b0 L0 xs) RL "law" cL_law_ 7 (some .boolean) d mc ms Q noX 97 h 638 (LV i) [] := by
  obtain ⟨S, th, f, hc, hr, h96⟩ := iv9
  obtain ⟨fs0, c0⟩ := cls_0 hc
  obtain ⟨Q1, X1, hS0, q1, q2⟩ := a_day hc hr (sx_R xs (i + 1).toNat) (sx_R xs (i + 2).toNat)
  refine g_aload_n dL_law__638 rfl rfl ?_
  refine g_aload_n dL_law__639 rfl rfl ?_
  refine g_iload dL_law__640 rfl ?_
  refine g_iconst dL_law__642 ?_
  refine g_iadd dL_law__643 ?_
  refine g_sld dL_law__644 (by omega) (by omega) hL ?_
  refine g_aload_n dL_law__645 rfl rfl ?_
  refine g_iload dL_law__646 rfl ?_
  refine g_iconst dL_law__648 ?_
  refine g_iadd dL_law__649 ?_
  refine g_sld dL_law__650 (by omega) (by omega) hL ?_
  refine g_aload_n dL_law__651 rfl rfl ?_
  refine g_callSH [.ref 0, iv (xs (i + 1).toNat).toInt, iv (xs (i + 2).toNat).toInt, .ref 96] (s_L_day hS0 c0 h96 (fun v n2 h2 q => ⟨(q1 v n2 h2 q).1, by obtain ⟨r, S2, e, -⟩ := (q1 v n2 h2 q).2.2; exact ⟨r, e⟩, (q1 v n2 h2 q).2.1 96 (by decide)⟩) (fun E n2 h2 q => ⟨(q2 E n2 h2 q).1, (q2 E n2 h2 q).2.1⟩)) dL_law__652 csh_day (by omega) hmc hms rfl rfl (by decide) rfl rfl (fun v n2 h2 q => ?_)
  obtain ⟨rfl, hr2, k, r, S2, f2, rfl, hk, cl2, c96, hf, hS3⟩ := w_after (ref := fun h' c r S' => mSem yX9_day cX9_day 3 (some .int) 6 0 0 [.ref 68, iv (xs (i + 1).toNat).toInt, iv (xs (i + 2).toNat).toInt] 97 h' (RefQ c r h' S') noX) (ex := fun E => E = nmN) (zN := 1) (zI := 2) hr h96 q1 q2 q (by decide)
  dsimp only [Option.toList, List.cons_append, List.nil_append]
  obtain ⟨g, w, c68, -⟩ := ref_th hr2
  refine g_istore (lv2 := LV i ++ [(5, iv (k : Int))]) dL_law__655 (by decide) rfl rfl ?_
  refine g_aload_n dL_law__657 rfl rfl ?_
  refine g_aload_n dL_law__658 rfl rfl ?_
  refine g_iload dL_law__659 rfl ?_
  refine g_iconst dL_law__661 ?_
  refine g_iadd dL_law__662 ?_
  refine g_sld dL_law__663 (by omega) (by omega) hL ?_
  refine g_aload_n dL_law__664 rfl rfl ?_
  refine g_iload dL_law__665 rfl ?_
  refine g_iconst dL_law__667 ?_
  refine g_iadd dL_law__668 ?_
  refine g_sld dL_law__669 (by omega) (by omega) hL ?_
  refine g_callV 68 [iv (xs (i + 1).toNat).toInt, iv (xs (i + 2).toNat).toInt] hS3 (fun _ _ _ hx => hx) dL_law__670 cs_L_130 im_X9_day (by decide) c68 rfl (by omega) (Nat.zero_le _) (Nat.zero_le _) rfl rfl (by decide) rfl rfl (fun v n2 h3 q => ?_)
  obtain ⟨rfl, ⟨z, rfl, hz⟩, cl3, hr3, c96b⟩ := r_after cl2 c96 q
  dsimp only [Option.toList, List.cons_append, List.nil_append]
  obtain ⟨g3, w3, c68b, e0⟩ := ref_th hr3
  refine g_istore (lv2 := LV i ++ [(5, iv (k : Int)), (6, iv z)]) dL_law__673 (by decide) rfl rfl ?_
  refine g_aload_n dL_law__675 rfl rfl ?_
  refine g_callV 68 [] (s_X9_thrown c68b) (fun _ _ _ hx => hx) dL_law__676 cs_L_104 im_X9_thrown (by decide) c68b rfl (by omega) (Nat.zero_le _) (Nat.zero_le _) rfl rfl (by decide) rfl rfl (fun v n2 h4 q => ?_)
  obtain ⟨rfl, rfl, rfl⟩ := q
  dsimp only [Option.toList, List.cons_append, List.nil_append]
  rw [e0]
  refine g_iload dL_law__679 rfl ?_
  refine g_icmp_eq (tgt := 686) dL_law__681 (by decide) ⟨by omega, by omega⟩ ⟨by omega, by omega⟩ (fun _ => ?_) (fun h9 => absurd rfl h9)
  have fin : EvG (zS b0 L0 xs) RL "law" cL_law_ 7 (some .boolean) d (mc - 2 - 0 - 0) (ms - 12 - 0 - 0) Q noX 97 h4 703 (LV i ++ [(5, iv (k : Int)), (6, iv z)]) [] := by
    refine g_goto (tgt := 2069) dL_law__703 (by decide) ?_
    refine g_lv (lv2 := LV i) rfl ?_
    exact kk _ ⟨S2, _, f2, cl3, hr3, c96b⟩
  refine g_iload dL_law__686 rfl ?_
  refine g_if_ne (tgt := 703) dL_law__688 (by decide) ⟨by omega, by omega⟩ (fun _ => fin) (fun h9 => ?_)
  have hk0 : k = 0 := by omega
  refine g_aload_n dL_law__691 rfl rfl ?_
  refine g_iconst dL_law__692 ?_
  refine g_lald dL_law__693 (by decide) c96b (by decide) (by decide) (by decide) ?_
  refine g_iload dL_law__694 rfl ?_
  refine g_i2l dL_law__696 ?_
  rw [show f2 (0 : Int).toNat = nz z by rw [hz hk0]; exact hf hk0]
  refine g_lcmp0 dL_law__697 ?_
  exact g_if_eq (tgt := 703) dL_law__698 (by decide) (by decide) (fun _ => fin) (fun h9 => absurd rfl h9)
theorem csh_tells : CSH RL 131 yL_tells cL_tells 6 (some .int) [(0, 12, 15, 22)] 5 := ⟨inT5 33 rfl rfl, cw_L_tells, ini_L, sl_L_tells, ⟨by decide +kernel, by decide +kernel, by decide +kernel⟩, by decide⟩
theorem lc_tells {b0 L0 : Nat} {xs : Nat → Int32} {d mc ms : Nat} {Q : Option Value → Nat → aH → Prop} (hd : 40 ≤ d) (hmc : 3 ≤ mc) (hms : 18 ≤ ms) {h : aH} (iv9 : Inv h) {i : Int} (hi : 0 ≤ i ∧ i + 6 ≤ L0) (hL : L0 ≤ 3072) (kk : ∀ h', Inv h' → EvG (zS b0 L0 xs) RL "law" cL_law_ 7 (some .boolean) d (mc - 3) (ms - 18) Q noX 97 h' 2069 (LV i) []) : EvG (zS b0 L0 xs) RL "law" cL_law_ 7 (some .boolean) d mc ms Q noX 97 h 706 (LV i) [] := by
  obtain ⟨S, th, f, hc, hr, h96⟩ := iv9
  obtain ⟨fs0, c0⟩ := cls_0 hc
  obtain ⟨Q1, X1, hS0, q1, q2⟩ := a_tells hc hr (sx_R xs (i + 1).toNat) (sx_R xs (i + 2).toNat) (sx_R xs (i + 3).toNat)
  refine g_aload_n dL_law__706 rfl rfl ?_
  refine g_aload_n dL_law__707 rfl rfl ?_
  refine g_iload dL_law__708 rfl ?_
  refine g_iconst dL_law__710 ?_
  refine g_iadd dL_law__711 ?_
  refine g_sld dL_law__712 (by omega) (by omega) hL ?_
  refine g_aload_n dL_law__713 rfl rfl ?_
  refine g_iload dL_law__714 rfl ?_
  refine g_iconst dL_law__716 ?_
  refine g_iadd dL_law__717 ?_
  refine g_sld dL_law__718 (by omega) (by omega) hL ?_
  refine g_aload_n dL_law__719 rfl rfl ?_
  refine g_iload dL_law__720 rfl ?_
  refine g_iconst dL_law__722 ?_
  refine g_iadd dL_law__723 ?_
  refine g_sld dL_law__724 (by omega) (by omega) hL ?_
  refine g_aload_n dL_law__725 rfl rfl ?_
  refine g_callSH [.ref 0, iv (xs (i + 1).toNat).toInt, iv (xs (i + 2).toNat).toInt, iv (xs (i + 3).toNat).toInt, .ref 96] (s_L_tells hS0 c0 h96 (fun v n2 h2 q => ⟨(q1 v n2 h2 q).1, by obtain ⟨r, S2, e, -⟩ := (q1 v n2 h2 q).2.2; exact ⟨r, e⟩, (q1 v n2 h2 q).2.1 96 (by decide)⟩) (fun E n2 h2 q => ⟨(q2 E n2 h2 q).1, (q2 E n2 h2 q).2.1⟩)) dL_law__726 csh_tells (by omega) hmc hms rfl rfl (by decide) rfl rfl (fun v n2 h2 q => ?_)
  obtain ⟨rfl, hr2, k, r, S2, f2, rfl, hk, cl2, c96, hf, hS3⟩ := w_after (ref := fun h' c r S' => mSem yX9_tells cX9_tells 4 (some .int) 6 0 0 [.ref 68, iv (xs (i + 1).toNat).toInt, iv (xs (i + 2).toNat).toInt, iv (xs (i + 3).toNat).toInt] 97 h' (RefQ c r h' S') noX) (ex := fun E => E = nmN) (zN := 1) (zI := 2) hr h96 q1 q2 q (by decide)
  dsimp only [Option.toList, List.cons_append, List.nil_append]
  obtain ⟨g, w, c68, -⟩ := ref_th hr2
  refine g_istore (lv2 := LV i ++ [(5, iv (k : Int))]) dL_law__729 (by decide) rfl rfl ?_
  refine g_aload_n dL_law__731 rfl rfl ?_
  refine g_aload_n dL_law__732 rfl rfl ?_
  refine g_iload dL_law__733 rfl ?_
  refine g_iconst dL_law__735 ?_
  refine g_iadd dL_law__736 ?_
  refine g_sld dL_law__737 (by omega) (by omega) hL ?_
  refine g_aload_n dL_law__738 rfl rfl ?_
  refine g_iload dL_law__739 rfl ?_
  refine g_iconst dL_law__741 ?_
  refine g_iadd dL_law__742 ?_
  refine g_sld dL_law__743 (by omega) (by omega) hL ?_
  refine g_aload_n dL_law__744 rfl rfl ?_
  refine g_iload dL_law__745 rfl ?_
  refine g_iconst dL_law__747 ?_
  refine g_iadd dL_law__748 ?_
  refine g_sld dL_law__749 (by omega) (by omega) hL ?_
  refine g_callV 68 [iv (xs (i + 1).toNat).toInt, iv (xs (i + 2).toNat).toInt, iv (xs (i + 3).toNat).toInt] hS3 (fun _ _ _ hx => hx) dL_law__750 cs_L_134 im_X9_tells (by decide) c68 rfl (by omega) (Nat.zero_le _) (Nat.zero_le _) rfl rfl (by decide) rfl rfl (fun v n2 h3 q => ?_)
  obtain ⟨rfl, ⟨z, rfl, hz⟩, cl3, hr3, c96b⟩ := r_after cl2 c96 q
  dsimp only [Option.toList, List.cons_append, List.nil_append]
  obtain ⟨g3, w3, c68b, e0⟩ := ref_th hr3
  refine g_istore (lv2 := LV i ++ [(5, iv (k : Int)), (6, iv z)]) dL_law__753 (by decide) rfl rfl ?_
  refine g_aload_n dL_law__755 rfl rfl ?_
  refine g_callV 68 [] (s_X9_thrown c68b) (fun _ _ _ hx => hx) dL_law__756 cs_L_104 im_X9_thrown (by decide) c68b rfl (by omega) (Nat.zero_le _) (Nat.zero_le _) rfl rfl (by decide) rfl rfl (fun v n2 h4 q => ?_)
  obtain ⟨rfl, rfl, rfl⟩ := q
  dsimp only [Option.toList, List.cons_append, List.nil_append]
  rw [e0]
  refine g_iload dL_law__759 rfl ?_
  refine g_icmp_eq (tgt := 766) dL_law__761 (by decide) ⟨by omega, by omega⟩ ⟨by omega, by omega⟩ (fun _ => ?_) (fun h9 => absurd rfl h9)
  have fin : EvG (zS b0 L0 xs) RL "law" cL_law_ 7 (some .boolean) d (mc - 3 - 0 - 0) (ms - 18 - 0 - 0) Q noX 97 h4 783 (LV i ++ [(5, iv (k : Int)), (6, iv z)]) [] := by
    refine g_goto (tgt := 2069) dL_law__783 (by decide) ?_
    refine g_lv (lv2 := LV i) rfl ?_
    exact kk _ ⟨S2, _, f2, cl3, hr3, c96b⟩
  refine g_iload dL_law__766 rfl ?_
  refine g_if_ne (tgt := 783) dL_law__768 (by decide) ⟨by omega, by omega⟩ (fun _ => fin) (fun h9 => ?_)
  have hk0 : k = 0 := by omega
  refine g_aload_n dL_law__771 rfl rfl ?_
  refine g_iconst dL_law__772 ?_
  refine g_lald dL_law__773 (by decide) c96b (by decide) (by decide) (by decide) ?_
  refine g_iload dL_law__774 rfl ?_
  refine g_i2l dL_law__776 ?_
  rw [show f2 (0 : Int).toNat = nz z by rw [hz hk0]; exact hf hk0]
  refine g_lcmp0 dL_law__777 ?_
  exact g_if_eq (tgt := 783) dL_law__778 (by decide) (by decide) (fun _ => fin) (fun h9 => absurd rfl h9)
theorem csh_turn : CSH RL 135 yL_turn cL_turn 5 (some .int) [(0, 10, 13, 22)] 4 := ⟨inT5 40 rfl rfl, cw_L_turn, ini_L, sl_L_turn, ⟨by decide +kernel, by decide +kernel, by decide +kernel⟩, by decide⟩
theorem lc_turn {b0 L0 : Nat} {xs : Nat → Int32} {d mc ms : Nat} {Q : Option Value → Nat → aH → Prop} (hd : 40 ≤ d) (hmc : 2 ≤ mc) (hms : 12 ≤ ms) {h : aH} (iv9 : Inv h) {i : Int} (hi : 0 ≤ i ∧ i + 6 ≤ L0) (hL : L0 ≤ 3072) (kk : ∀ h', Inv h' → EvG (zS b0 L0 xs) RL "law" cL_law_ 7 (some .boolean) d (mc - 2) (ms - 12) Q noX 97 h' 2069 (LV i) []) : EvG (zS b0 L0 xs) RL "law" cL_law_ 7 (some .boolean) d mc ms Q noX 97 h 786 (LV i) [] := by
  obtain ⟨S, th, f, hc, hr, h96⟩ := iv9
  obtain ⟨fs0, c0⟩ := cls_0 hc
  obtain ⟨Q1, X1, hS0, q1, q2⟩ := a_turn hc hr (sx_R xs (i + 1).toNat) (sx_R xs (i + 2).toNat)
  refine g_aload_n dL_law__786 rfl rfl ?_
  refine g_aload_n dL_law__787 rfl rfl ?_
  refine g_iload dL_law__788 rfl ?_
  refine g_iconst dL_law__790 ?_
  refine g_iadd dL_law__791 ?_
  refine g_sld dL_law__792 (by omega) (by omega) hL ?_
  refine g_aload_n dL_law__793 rfl rfl ?_
  refine g_iload dL_law__794 rfl ?_
  refine g_iconst dL_law__796 ?_
  refine g_iadd dL_law__797 ?_
  refine g_sld dL_law__798 (by omega) (by omega) hL ?_
  refine g_aload_n dL_law__799 rfl rfl ?_
  refine g_callSH [.ref 0, iv (xs (i + 1).toNat).toInt, iv (xs (i + 2).toNat).toInt, .ref 96] (s_L_turn hS0 c0 h96 (fun v n2 h2 q => ⟨(q1 v n2 h2 q).1, by obtain ⟨r, S2, e, -⟩ := (q1 v n2 h2 q).2.2; exact ⟨r, e⟩, (q1 v n2 h2 q).2.1 96 (by decide)⟩) (fun E n2 h2 q => ⟨(q2 E n2 h2 q).1, (q2 E n2 h2 q).2.1⟩)) dL_law__800 csh_turn (by omega) hmc hms rfl rfl (by decide) rfl rfl (fun v n2 h2 q => ?_)
  obtain ⟨rfl, hr2, k, r, S2, f2, rfl, hk, cl2, c96, hf, hS3⟩ := w_after (ref := fun h' c r S' => mSem yX9_turn cX9_turn 3 (some .int) 6 0 0 [.ref 68, iv (xs (i + 1).toNat).toInt, iv (xs (i + 2).toNat).toInt] 97 h' (RefQ c r h' S') noX) (ex := fun E => E = nmN) (zN := 1) (zI := 2) hr h96 q1 q2 q (by decide)
  dsimp only [Option.toList, List.cons_append, List.nil_append]
  obtain ⟨g, w, c68, -⟩ := ref_th hr2
  refine g_istore (lv2 := LV i ++ [(5, iv (k : Int))]) dL_law__803 (by decide) rfl rfl ?_
  refine g_aload_n dL_law__805 rfl rfl ?_
  refine g_aload_n dL_law__806 rfl rfl ?_
  refine g_iload dL_law__807 rfl ?_
  refine g_iconst dL_law__809 ?_
  refine g_iadd dL_law__810 ?_
  refine g_sld dL_law__811 (by omega) (by omega) hL ?_
  refine g_aload_n dL_law__812 rfl rfl ?_
  refine g_iload dL_law__813 rfl ?_
  refine g_iconst dL_law__815 ?_
  refine g_iadd dL_law__816 ?_
  refine g_sld dL_law__817 (by omega) (by omega) hL ?_
  refine g_callV 68 [iv (xs (i + 1).toNat).toInt, iv (xs (i + 2).toNat).toInt] hS3 (fun _ _ _ hx => hx) dL_law__818 cs_L_137 im_X9_turn (by decide) c68 rfl (by omega) (Nat.zero_le _) (Nat.zero_le _) rfl rfl (by decide) rfl rfl (fun v n2 h3 q => ?_)
  obtain ⟨rfl, ⟨z, rfl, hz⟩, cl3, hr3, c96b⟩ := r_after cl2 c96 q
  dsimp only [Option.toList, List.cons_append, List.nil_append]
  obtain ⟨g3, w3, c68b, e0⟩ := ref_th hr3
  refine g_istore (lv2 := LV i ++ [(5, iv (k : Int)), (6, iv z)]) dL_law__821 (by decide) rfl rfl ?_
  refine g_aload_n dL_law__823 rfl rfl ?_
  refine g_callV 68 [] (s_X9_thrown c68b) (fun _ _ _ hx => hx) dL_law__824 cs_L_104 im_X9_thrown (by decide) c68b rfl (by omega) (Nat.zero_le _) (Nat.zero_le _) rfl rfl (by decide) rfl rfl (fun v n2 h4 q => ?_)
  obtain ⟨rfl, rfl, rfl⟩ := q
  dsimp only [Option.toList, List.cons_append, List.nil_append]
  rw [e0]
  refine g_iload dL_law__827 rfl ?_
  refine g_icmp_eq (tgt := 834) dL_law__829 (by decide) ⟨by omega, by omega⟩ ⟨by omega, by omega⟩ (fun _ => ?_) (fun h9 => absurd rfl h9)
  have fin : EvG (zS b0 L0 xs) RL "law" cL_law_ 7 (some .boolean) d (mc - 2 - 0 - 0) (ms - 12 - 0 - 0) Q noX 97 h4 851 (LV i ++ [(5, iv (k : Int)), (6, iv z)]) [] := by
    refine g_goto (tgt := 2069) dL_law__851 (by decide) ?_
    refine g_lv (lv2 := LV i) rfl ?_
    exact kk _ ⟨S2, _, f2, cl3, hr3, c96b⟩
  refine g_iload dL_law__834 rfl ?_
  refine g_if_ne (tgt := 851) dL_law__836 (by decide) ⟨by omega, by omega⟩ (fun _ => fin) (fun h9 => ?_)
  have hk0 : k = 0 := by omega
  refine g_aload_n dL_law__839 rfl rfl ?_
  refine g_iconst dL_law__840 ?_
  refine g_lald dL_law__841 (by decide) c96b (by decide) (by decide) (by decide) ?_
  refine g_iload dL_law__842 rfl ?_
  refine g_i2l dL_law__844 ?_
  rw [show f2 (0 : Int).toNat = nz z by rw [hz hk0]; exact hf hk0]
  refine g_lcmp0 dL_law__845 ?_
  exact g_if_eq (tgt := 851) dL_law__846 (by decide) (by decide) (fun _ => fin) (fun h9 => absurd rfl h9)
theorem csh_read : CSH RL 138 yL_read cL_read 7 (some .int) [(0, 14, 17, 22)] 6 := ⟨inT5 47 rfl rfl, cw_L_read, ini_L, sl_L_read, ⟨by decide +kernel, by decide +kernel, by decide +kernel⟩, by decide⟩
theorem lc_read {b0 L0 : Nat} {xs : Nat → Int32} {d mc ms : Nat} {Q : Option Value → Nat → aH → Prop} (hd : 40 ≤ d) (hmc : 4 ≤ mc) (hms : 24 ≤ ms) {h : aH} (iv9 : Inv h) {i : Int} (hi : 0 ≤ i ∧ i + 6 ≤ L0) (hL : L0 ≤ 3072) (kk : ∀ h', Inv h' → EvG (zS b0 L0 xs) RL "law" cL_law_ 7 (some .boolean) d (mc - 4) (ms - 24) Q noX 97 h' 2069 (LV i) []) : EvG (zS b0 L0 xs) RL "law" cL_law_ 7 (some .boolean) d mc ms Q noX 97 h 854 (LV i) [] := by
  obtain ⟨S, th, f, hc, hr, h96⟩ := iv9
  obtain ⟨fs0, c0⟩ := cls_0 hc
  obtain ⟨Q1, X1, hS0, q1, q2⟩ := a_read hc hr (sx_R xs (i + 1).toNat) (sx_R xs (i + 2).toNat) (sx_R xs (i + 3).toNat) (sx_R xs (i + 4).toNat)
  refine g_aload_n dL_law__854 rfl rfl ?_
  refine g_aload_n dL_law__855 rfl rfl ?_
  refine g_iload dL_law__856 rfl ?_
  refine g_iconst dL_law__858 ?_
  refine g_iadd dL_law__859 ?_
  refine g_sld dL_law__860 (by omega) (by omega) hL ?_
  refine g_aload_n dL_law__861 rfl rfl ?_
  refine g_iload dL_law__862 rfl ?_
  refine g_iconst dL_law__864 ?_
  refine g_iadd dL_law__865 ?_
  refine g_sld dL_law__866 (by omega) (by omega) hL ?_
  refine g_aload_n dL_law__867 rfl rfl ?_
  refine g_iload dL_law__868 rfl ?_
  refine g_iconst dL_law__870 ?_
  refine g_iadd dL_law__871 ?_
  refine g_sld dL_law__872 (by omega) (by omega) hL ?_
  refine g_aload_n dL_law__873 rfl rfl ?_
  refine g_iload dL_law__874 rfl ?_
  refine g_iconst dL_law__876 ?_
  refine g_iadd dL_law__877 ?_
  refine g_sld dL_law__878 (by omega) (by omega) hL ?_
  refine g_aload_n dL_law__879 rfl rfl ?_
  refine g_callSH [.ref 0, iv (xs (i + 1).toNat).toInt, iv (xs (i + 2).toNat).toInt, iv (xs (i + 3).toNat).toInt, iv (xs (i + 4).toNat).toInt, .ref 96] (s_L_read hS0 c0 h96 (fun v n2 h2 q => ⟨(q1 v n2 h2 q).1, by obtain ⟨r, S2, e, -⟩ := (q1 v n2 h2 q).2.2; exact ⟨r, e⟩, (q1 v n2 h2 q).2.1 96 (by decide)⟩) (fun E n2 h2 q => ⟨(q2 E n2 h2 q).1, (q2 E n2 h2 q).2.1⟩)) dL_law__880 csh_read (by omega) hmc hms rfl rfl (by decide) rfl rfl (fun v n2 h2 q => ?_)
  obtain ⟨rfl, hr2, k, r, S2, f2, rfl, hk, cl2, c96, hf, hS3⟩ := w_after (ref := fun h' c r S' => mSem yX9_read cX9_read 6 (some .int) 6 0 0 [.ref 68, iv (xs (i + 1).toNat).toInt, iv (xs (i + 2).toNat).toInt, iv (xs (i + 3).toNat).toInt, iv (xs (i + 4).toNat).toInt] 97 h' (RefQ c r h' S') noX) (ex := fun E => E = nmN) (zN := 1) (zI := 2) hr h96 q1 q2 q (by decide)
  dsimp only [Option.toList, List.cons_append, List.nil_append]
  obtain ⟨g, w, c68, -⟩ := ref_th hr2
  refine g_istore (lv2 := LV i ++ [(5, iv (k : Int))]) dL_law__883 (by decide) rfl rfl ?_
  refine g_aload_n dL_law__885 rfl rfl ?_
  refine g_aload_n dL_law__886 rfl rfl ?_
  refine g_iload dL_law__887 rfl ?_
  refine g_iconst dL_law__889 ?_
  refine g_iadd dL_law__890 ?_
  refine g_sld dL_law__891 (by omega) (by omega) hL ?_
  refine g_aload_n dL_law__892 rfl rfl ?_
  refine g_iload dL_law__893 rfl ?_
  refine g_iconst dL_law__895 ?_
  refine g_iadd dL_law__896 ?_
  refine g_sld dL_law__897 (by omega) (by omega) hL ?_
  refine g_aload_n dL_law__898 rfl rfl ?_
  refine g_iload dL_law__899 rfl ?_
  refine g_iconst dL_law__901 ?_
  refine g_iadd dL_law__902 ?_
  refine g_sld dL_law__903 (by omega) (by omega) hL ?_
  refine g_aload_n dL_law__904 rfl rfl ?_
  refine g_iload dL_law__905 rfl ?_
  refine g_iconst dL_law__907 ?_
  refine g_iadd dL_law__908 ?_
  refine g_sld dL_law__909 (by omega) (by omega) hL ?_
  refine g_callV 68 [iv (xs (i + 1).toNat).toInt, iv (xs (i + 2).toNat).toInt, iv (xs (i + 3).toNat).toInt, iv (xs (i + 4).toNat).toInt] hS3 (fun _ _ _ hx => hx) dL_law__910 cs_L_141 im_X9_read (by decide) c68 rfl (by omega) (Nat.zero_le _) (Nat.zero_le _) rfl rfl (by decide) rfl rfl (fun v n2 h3 q => ?_)
  obtain ⟨rfl, ⟨z, rfl, hz⟩, cl3, hr3, c96b⟩ := r_after cl2 c96 q
  dsimp only [Option.toList, List.cons_append, List.nil_append]
  obtain ⟨g3, w3, c68b, e0⟩ := ref_th hr3
  refine g_istore (lv2 := LV i ++ [(5, iv (k : Int)), (6, iv z)]) dL_law__913 (by decide) rfl rfl ?_
  refine g_aload_n dL_law__915 rfl rfl ?_
  refine g_callV 68 [] (s_X9_thrown c68b) (fun _ _ _ hx => hx) dL_law__916 cs_L_104 im_X9_thrown (by decide) c68b rfl (by omega) (Nat.zero_le _) (Nat.zero_le _) rfl rfl (by decide) rfl rfl (fun v n2 h4 q => ?_)
  obtain ⟨rfl, rfl, rfl⟩ := q
  dsimp only [Option.toList, List.cons_append, List.nil_append]
  rw [e0]
  refine g_iload dL_law__919 rfl ?_
  refine g_icmp_eq (tgt := 926) dL_law__921 (by decide) ⟨by omega, by omega⟩ ⟨by omega, by omega⟩ (fun _ => ?_) (fun h9 => absurd rfl h9)
  have fin : EvG (zS b0 L0 xs) RL "law" cL_law_ 7 (some .boolean) d (mc - 4 - 0 - 0) (ms - 24 - 0 - 0) Q noX 97 h4 943 (LV i ++ [(5, iv (k : Int)), (6, iv z)]) [] := by
    refine g_goto (tgt := 2069) dL_law__943 (by decide) ?_
    refine g_lv (lv2 := LV i) rfl ?_
    exact kk _ ⟨S2, _, f2, cl3, hr3, c96b⟩
  refine g_iload dL_law__926 rfl ?_
  refine g_if_ne (tgt := 943) dL_law__928 (by decide) ⟨by omega, by omega⟩ (fun _ => fin) (fun h9 => ?_)
  have hk0 : k = 0 := by omega
  refine g_aload_n dL_law__931 rfl rfl ?_
  refine g_iconst dL_law__932 ?_
  refine g_lald dL_law__933 (by decide) c96b (by decide) (by decide) (by decide) ?_
  refine g_iload dL_law__934 rfl ?_
  refine g_i2l dL_law__936 ?_
  rw [show f2 (0 : Int).toNat = nz z by rw [hz hk0]; exact hf hk0]
  refine g_lcmp0 dL_law__937 ?_
  exact g_if_eq (tgt := 943) dL_law__938 (by decide) (by decide) (fun _ => fin) (fun h9 => absurd rfl h9)
theorem csh_faults : CSH RL 146 yL_faults cL_faults 5 (some .int) [(0, 10, 13, 22), (0, 10, 17, 13)] 4 := ⟨inT5 58 rfl rfl, cw_L_faults, ini_L, sl_L_faults, ⟨by decide +kernel, by decide +kernel, by decide +kernel⟩, by decide⟩
theorem lc_faults {b0 L0 : Nat} {xs : Nat → Int32} {d mc ms : Nat} {Q : Option Value → Nat → aH → Prop} (hd : 40 ≤ d) (hmc : 3 ≤ mc) (hms : 18 ≤ ms) {h : aH} (iv9 : Inv h) {i : Int} (hi : 0 ≤ i ∧ i + 6 ≤ L0) (hL : L0 ≤ 3072) (kk : ∀ h', Inv h' → EvG (zS b0 L0 xs) RL "law" cL_law_ 7 (some .boolean) d (mc - 3) (ms - 18) Q noX 97 h' 2069 (LV i) []) : EvG (zS b0 L0 xs) RL "law" cL_law_ 7 (some .boolean) d mc ms Q noX 97 h 959 (LV i) [] := by
  obtain ⟨S, th, f, hc, hr, h96⟩ := iv9
  obtain ⟨fs0, c0⟩ := cls_0 hc
  obtain ⟨Q1, X1, hS0, q1, q2⟩ := a_faults hc hr (sx_R xs (i + 1).toNat) (sx_R xs (i + 2).toNat)
  refine g_aload_n dL_law__959 rfl rfl ?_
  refine g_aload_n dL_law__960 rfl rfl ?_
  refine g_iload dL_law__961 rfl ?_
  refine g_iconst dL_law__963 ?_
  refine g_iadd dL_law__964 ?_
  refine g_sld dL_law__965 (by omega) (by omega) hL ?_
  refine g_aload_n dL_law__966 rfl rfl ?_
  refine g_iload dL_law__967 rfl ?_
  refine g_iconst dL_law__969 ?_
  refine g_iadd dL_law__970 ?_
  refine g_sld dL_law__971 (by omega) (by omega) hL ?_
  refine g_aload_n dL_law__972 rfl rfl ?_
  refine g_callSH [.ref 0, iv (xs (i + 1).toNat).toInt, iv (xs (i + 2).toNat).toInt, .ref 96] (s_L_faults hS0 c0 h96 (fun v n2 h2 q => ⟨(q1 v n2 h2 q).1, by obtain ⟨r, S2, e, -⟩ := (q1 v n2 h2 q).2.2; exact ⟨r, e⟩, (q1 v n2 h2 q).2.1 96 (by decide)⟩) (fun E n2 h2 q => ⟨(q2 E n2 h2 q).1, (q2 E n2 h2 q).2.1⟩)) dL_law__973 csh_faults (by omega) hmc hms rfl rfl (by decide) rfl rfl (fun v n2 h2 q => ?_)
  obtain ⟨rfl, hr2, k, r, S2, f2, rfl, hk, cl2, c96, hf, hS3⟩ := w_after (ref := fun h' c r S' => mSem yX9_faults cX9_faults 7 (some .int) 8 0 0 [.ref 68, iv (xs (i + 1).toNat).toInt, iv (xs (i + 2).toNat).toInt] 97 h' (RefQ c r h' S') noX) (ex := fun E => E = nmN ∨ E = nmI) (zN := 1) (zI := 2) hr h96 q1 q2 q (by decide)
  dsimp only [Option.toList, List.cons_append, List.nil_append]
  obtain ⟨g, w, c68, -⟩ := ref_th hr2
  refine g_istore (lv2 := LV i ++ [(5, iv (k : Int))]) dL_law__976 (by decide) rfl rfl ?_
  refine g_aload_n dL_law__978 rfl rfl ?_
  refine g_aload_n dL_law__979 rfl rfl ?_
  refine g_iload dL_law__980 rfl ?_
  refine g_iconst dL_law__982 ?_
  refine g_iadd dL_law__983 ?_
  refine g_sld dL_law__984 (by omega) (by omega) hL ?_
  refine g_aload_n dL_law__985 rfl rfl ?_
  refine g_iload dL_law__986 rfl ?_
  refine g_iconst dL_law__988 ?_
  refine g_iadd dL_law__989 ?_
  refine g_sld dL_law__990 (by omega) (by omega) hL ?_
  refine g_callV 68 [iv (xs (i + 1).toNat).toInt, iv (xs (i + 2).toNat).toInt] hS3 (fun _ _ _ hx => hx) dL_law__991 cs_L_148 im_X9_faults (by decide) c68 rfl (by omega) (Nat.zero_le _) (Nat.zero_le _) rfl rfl (by decide) rfl rfl (fun v n2 h3 q => ?_)
  obtain ⟨rfl, ⟨z, rfl, hz⟩, cl3, hr3, c96b⟩ := r_after cl2 c96 q
  dsimp only [Option.toList, List.cons_append, List.nil_append]
  obtain ⟨g3, w3, c68b, e0⟩ := ref_th hr3
  refine g_istore (lv2 := LV i ++ [(5, iv (k : Int)), (6, iv z)]) dL_law__994 (by decide) rfl rfl ?_
  refine g_aload_n dL_law__996 rfl rfl ?_
  refine g_callV 68 [] (s_X9_thrown c68b) (fun _ _ _ hx => hx) dL_law__997 cs_L_104 im_X9_thrown (by decide) c68b rfl (by omega) (Nat.zero_le _) (Nat.zero_le _) rfl rfl (by decide) rfl rfl (fun v n2 h4 q => ?_)
  obtain ⟨rfl, rfl, rfl⟩ := q
  dsimp only [Option.toList, List.cons_append, List.nil_append]
  rw [e0]
  refine g_iload dL_law__1000 rfl ?_
  refine g_icmp_eq (tgt := 1007) dL_law__1002 (by decide) ⟨by omega, by omega⟩ ⟨by omega, by omega⟩ (fun _ => ?_) (fun h9 => absurd rfl h9)
  have fin : EvG (zS b0 L0 xs) RL "law" cL_law_ 7 (some .boolean) d (mc - 3 - 0 - 0) (ms - 18 - 0 - 0) Q noX 97 h4 1024 (LV i ++ [(5, iv (k : Int)), (6, iv z)]) [] := by
    refine g_goto (tgt := 2069) dL_law__1024 (by decide) ?_
    refine g_lv (lv2 := LV i) rfl ?_
    exact kk _ ⟨S2, _, f2, cl3, hr3, c96b⟩
  refine g_iload dL_law__1007 rfl ?_
  refine g_if_ne (tgt := 1024) dL_law__1009 (by decide) ⟨by omega, by omega⟩ (fun _ => fin) (fun h9 => ?_)
  have hk0 : k = 0 := by omega
  refine g_aload_n dL_law__1012 rfl rfl ?_
  refine g_iconst dL_law__1013 ?_
  refine g_lald dL_law__1014 (by decide) c96b (by decide) (by decide) (by decide) ?_
  refine g_iload dL_law__1015 rfl ?_
  refine g_i2l dL_law__1017 ?_
  rw [show f2 (0 : Int).toNat = nz z by rw [hz hk0]; exact hf hk0]
  refine g_lcmp0 dL_law__1018 ?_
  exact g_if_eq (tgt := 1024) dL_law__1019 (by decide) (by decide) (fun _ => fin) (fun h9 => absurd rfl h9)
theorem csh_next : CSH RL 149 yL_next cL_next 6 (some .int) [(0, 12, 15, 22)] 5 := ⟨inT5 107 rfl rfl, cw_L_next, ini_L, sl_L_next, ⟨by decide +kernel, by decide +kernel, by decide +kernel⟩, by decide⟩
theorem lc_next {b0 L0 : Nat} {xs : Nat → Int32} {d mc ms : Nat} {Q : Option Value → Nat → aH → Prop} (hd : 40 ≤ d) (hmc : 3 ≤ mc) (hms : 18 ≤ ms) {h : aH} (iv9 : Inv h) {i : Int} (hi : 0 ≤ i ∧ i + 6 ≤ L0) (hL : L0 ≤ 3072) (kk : ∀ h', Inv h' → EvG (zS b0 L0 xs) RL "law" cL_law_ 7 (some .boolean) d (mc - 3) (ms - 18) Q noX 97 h' 2069 (LV i) []) : EvG (zS b0 L0 xs) RL "law" cL_law_ 7 (some .boolean) d mc ms Q noX 97 h 1027 (LV i) [] := by
  obtain ⟨S, th, f, hc, hr, h96⟩ := iv9
  obtain ⟨fs0, c0⟩ := cls_0 hc
  obtain ⟨Q1, X1, hS0, q1, q2⟩ := a_next hc hr (sx_R xs (i + 1).toNat) (sx_R xs (i + 2).toNat) (sx_R xs (i + 3).toNat)
  refine g_aload_n dL_law__1027 rfl rfl ?_
  refine g_aload_n dL_law__1028 rfl rfl ?_
  refine g_iload dL_law__1029 rfl ?_
  refine g_iconst dL_law__1031 ?_
  refine g_iadd dL_law__1032 ?_
  refine g_sld dL_law__1033 (by omega) (by omega) hL ?_
  refine g_aload_n dL_law__1034 rfl rfl ?_
  refine g_iload dL_law__1035 rfl ?_
  refine g_iconst dL_law__1037 ?_
  refine g_iadd dL_law__1038 ?_
  refine g_sld dL_law__1039 (by omega) (by omega) hL ?_
  refine g_aload_n dL_law__1040 rfl rfl ?_
  refine g_iload dL_law__1041 rfl ?_
  refine g_iconst dL_law__1043 ?_
  refine g_iadd dL_law__1044 ?_
  refine g_sld dL_law__1045 (by omega) (by omega) hL ?_
  refine g_aload_n dL_law__1046 rfl rfl ?_
  refine g_callSH [.ref 0, iv (xs (i + 1).toNat).toInt, iv (xs (i + 2).toNat).toInt, iv (xs (i + 3).toNat).toInt, .ref 96] (s_L_next hS0 c0 h96 (fun v n2 h2 q => ⟨(q1 v n2 h2 q).1, by obtain ⟨r, S2, e, -⟩ := (q1 v n2 h2 q).2.2; exact ⟨r, e⟩, (q1 v n2 h2 q).2.1 96 (by decide)⟩) (fun E n2 h2 q => ⟨(q2 E n2 h2 q).1, (q2 E n2 h2 q).2.1⟩)) dL_law__1047 csh_next (by omega) hmc hms rfl rfl (by decide) rfl rfl (fun v n2 h2 q => ?_)
  obtain ⟨rfl, hr2, k, r, S2, f2, rfl, hk, cl2, c96, hf, hS3⟩ := w_after (ref := fun h' c r S' => mSem yX9_next cX9_next 8 (some .int) 8 0 0 [.ref 68, iv (xs (i + 1).toNat).toInt, iv (xs (i + 2).toNat).toInt, iv (xs (i + 3).toNat).toInt] 97 h' (RefQ c r h' S') noX) (ex := fun E => E = nmN) (zN := 1) (zI := 2) hr h96 q1 q2 q (by decide)
  dsimp only [Option.toList, List.cons_append, List.nil_append]
  obtain ⟨g, w, c68, -⟩ := ref_th hr2
  refine g_istore (lv2 := LV i ++ [(5, iv (k : Int))]) dL_law__1050 (by decide) rfl rfl ?_
  refine g_aload_n dL_law__1052 rfl rfl ?_
  refine g_aload_n dL_law__1053 rfl rfl ?_
  refine g_iload dL_law__1054 rfl ?_
  refine g_iconst dL_law__1056 ?_
  refine g_iadd dL_law__1057 ?_
  refine g_sld dL_law__1058 (by omega) (by omega) hL ?_
  refine g_aload_n dL_law__1059 rfl rfl ?_
  refine g_iload dL_law__1060 rfl ?_
  refine g_iconst dL_law__1062 ?_
  refine g_iadd dL_law__1063 ?_
  refine g_sld dL_law__1064 (by omega) (by omega) hL ?_
  refine g_aload_n dL_law__1065 rfl rfl ?_
  refine g_iload dL_law__1066 rfl ?_
  refine g_iconst dL_law__1068 ?_
  refine g_iadd dL_law__1069 ?_
  refine g_sld dL_law__1070 (by omega) (by omega) hL ?_
  refine g_callV 68 [iv (xs (i + 1).toNat).toInt, iv (xs (i + 2).toNat).toInt, iv (xs (i + 3).toNat).toInt] hS3 (fun _ _ _ hx => hx) dL_law__1071 cs_L_151 im_X9_next (by decide) c68 rfl (by omega) (Nat.zero_le _) (Nat.zero_le _) rfl rfl (by decide) rfl rfl (fun v n2 h3 q => ?_)
  obtain ⟨rfl, ⟨z, rfl, hz⟩, cl3, hr3, c96b⟩ := r_after cl2 c96 q
  dsimp only [Option.toList, List.cons_append, List.nil_append]
  obtain ⟨g3, w3, c68b, e0⟩ := ref_th hr3
  refine g_istore (lv2 := LV i ++ [(5, iv (k : Int)), (6, iv z)]) dL_law__1074 (by decide) rfl rfl ?_
  refine g_aload_n dL_law__1076 rfl rfl ?_
  refine g_callV 68 [] (s_X9_thrown c68b) (fun _ _ _ hx => hx) dL_law__1077 cs_L_104 im_X9_thrown (by decide) c68b rfl (by omega) (Nat.zero_le _) (Nat.zero_le _) rfl rfl (by decide) rfl rfl (fun v n2 h4 q => ?_)
  obtain ⟨rfl, rfl, rfl⟩ := q
  dsimp only [Option.toList, List.cons_append, List.nil_append]
  rw [e0]
  refine g_iload dL_law__1080 rfl ?_
  refine g_icmp_eq (tgt := 1087) dL_law__1082 (by decide) ⟨by omega, by omega⟩ ⟨by omega, by omega⟩ (fun _ => ?_) (fun h9 => absurd rfl h9)
  have fin : EvG (zS b0 L0 xs) RL "law" cL_law_ 7 (some .boolean) d (mc - 3 - 0 - 0) (ms - 18 - 0 - 0) Q noX 97 h4 1104 (LV i ++ [(5, iv (k : Int)), (6, iv z)]) [] := by
    refine g_goto (tgt := 2069) dL_law__1104 (by decide) ?_
    refine g_lv (lv2 := LV i) rfl ?_
    exact kk _ ⟨S2, _, f2, cl3, hr3, c96b⟩
  refine g_iload dL_law__1087 rfl ?_
  refine g_if_ne (tgt := 1104) dL_law__1089 (by decide) ⟨by omega, by omega⟩ (fun _ => fin) (fun h9 => ?_)
  have hk0 : k = 0 := by omega
  refine g_aload_n dL_law__1092 rfl rfl ?_
  refine g_iconst dL_law__1093 ?_
  refine g_lald dL_law__1094 (by decide) c96b (by decide) (by decide) (by decide) ?_
  refine g_iload dL_law__1095 rfl ?_
  refine g_i2l dL_law__1097 ?_
  rw [show f2 (0 : Int).toNat = nz z by rw [hz hk0]; exact hf hk0]
  refine g_lcmp0 dL_law__1098 ?_
  exact g_if_eq (tgt := 1104) dL_law__1099 (by decide) (by decide) (fun _ => fin) (fun h9 => absurd rfl h9)
theorem csh_see : CSH RL 152 yL_see cL_see 5 (some .int) [(0, 10, 13, 22)] 4 := ⟨inT5 131 rfl rfl, cw_L_see, ini_L, sl_L_see, ⟨by decide +kernel, by decide +kernel, by decide +kernel⟩, by decide⟩
theorem lc_see {b0 L0 : Nat} {xs : Nat → Int32} {d mc ms : Nat} {Q : Option Value → Nat → aH → Prop} (hd : 40 ≤ d) (hmc : 2 ≤ mc) (hms : 12 ≤ ms) {h : aH} (iv9 : Inv h) {i : Int} (hi : 0 ≤ i ∧ i + 6 ≤ L0) (hL : L0 ≤ 3072) (kk : ∀ h', Inv h' → EvG (zS b0 L0 xs) RL "law" cL_law_ 7 (some .boolean) d (mc - 2) (ms - 12) Q noX 97 h' 2069 (LV i) []) : EvG (zS b0 L0 xs) RL "law" cL_law_ 7 (some .boolean) d mc ms Q noX 97 h 1107 (LV i) [] := by
  obtain ⟨S, th, f, hc, hr, h96⟩ := iv9
  obtain ⟨fs0, c0⟩ := cls_0 hc
  obtain ⟨Q1, X1, hS0, q1, q2⟩ := a_see hc hr (sx_R xs (i + 1).toNat) (sx_R xs (i + 2).toNat)
  refine g_aload_n dL_law__1107 rfl rfl ?_
  refine g_aload_n dL_law__1108 rfl rfl ?_
  refine g_iload dL_law__1109 rfl ?_
  refine g_iconst dL_law__1111 ?_
  refine g_iadd dL_law__1112 ?_
  refine g_sld dL_law__1113 (by omega) (by omega) hL ?_
  refine g_aload_n dL_law__1114 rfl rfl ?_
  refine g_iload dL_law__1115 rfl ?_
  refine g_iconst dL_law__1117 ?_
  refine g_iadd dL_law__1118 ?_
  refine g_sld dL_law__1119 (by omega) (by omega) hL ?_
  refine g_aload_n dL_law__1120 rfl rfl ?_
  refine g_callSH [.ref 0, iv (xs (i + 1).toNat).toInt, iv (xs (i + 2).toNat).toInt, .ref 96] (s_L_see hS0 c0 h96 (fun v n2 h2 q => ⟨(q1 v n2 h2 q).1, by obtain ⟨r, S2, e, -⟩ := (q1 v n2 h2 q).2.2; exact ⟨r, e⟩, (q1 v n2 h2 q).2.1 96 (by decide)⟩) (fun E n2 h2 q => ⟨(q2 E n2 h2 q).1, (q2 E n2 h2 q).2.1⟩)) dL_law__1121 csh_see (by omega) hmc hms rfl rfl (by decide) rfl rfl (fun v n2 h2 q => ?_)
  obtain ⟨rfl, hr2, k, r, S2, f2, rfl, hk, cl2, c96, hf, hS3⟩ := w_after (ref := fun h' c r S' => mSem yX9_see cX9_see 4 (some .int) 6 0 0 [.ref 68, iv (xs (i + 1).toNat).toInt, iv (xs (i + 2).toNat).toInt] 97 h' (RefQ c r h' S') noX) (ex := fun E => E = nmN) (zN := 1) (zI := 2) hr h96 q1 q2 q (by decide)
  dsimp only [Option.toList, List.cons_append, List.nil_append]
  obtain ⟨g, w, c68, -⟩ := ref_th hr2
  refine g_istore (lv2 := LV i ++ [(5, iv (k : Int))]) dL_law__1124 (by decide) rfl rfl ?_
  refine g_aload_n dL_law__1126 rfl rfl ?_
  refine g_aload_n dL_law__1127 rfl rfl ?_
  refine g_iload dL_law__1128 rfl ?_
  refine g_iconst dL_law__1130 ?_
  refine g_iadd dL_law__1131 ?_
  refine g_sld dL_law__1132 (by omega) (by omega) hL ?_
  refine g_aload_n dL_law__1133 rfl rfl ?_
  refine g_iload dL_law__1134 rfl ?_
  refine g_iconst dL_law__1136 ?_
  refine g_iadd dL_law__1137 ?_
  refine g_sld dL_law__1138 (by omega) (by omega) hL ?_
  refine g_callV 68 [iv (xs (i + 1).toNat).toInt, iv (xs (i + 2).toNat).toInt] hS3 (fun _ _ _ hx => hx) dL_law__1139 cs_L_154 im_X9_see (by decide) c68 rfl (by omega) (Nat.zero_le _) (Nat.zero_le _) rfl rfl (by decide) rfl rfl (fun v n2 h3 q => ?_)
  obtain ⟨rfl, ⟨z, rfl, hz⟩, cl3, hr3, c96b⟩ := r_after cl2 c96 q
  dsimp only [Option.toList, List.cons_append, List.nil_append]
  obtain ⟨g3, w3, c68b, e0⟩ := ref_th hr3
  refine g_istore (lv2 := LV i ++ [(5, iv (k : Int)), (6, iv z)]) dL_law__1142 (by decide) rfl rfl ?_
  refine g_aload_n dL_law__1144 rfl rfl ?_
  refine g_callV 68 [] (s_X9_thrown c68b) (fun _ _ _ hx => hx) dL_law__1145 cs_L_104 im_X9_thrown (by decide) c68b rfl (by omega) (Nat.zero_le _) (Nat.zero_le _) rfl rfl (by decide) rfl rfl (fun v n2 h4 q => ?_)
  obtain ⟨rfl, rfl, rfl⟩ := q
  dsimp only [Option.toList, List.cons_append, List.nil_append]
  rw [e0]
  refine g_iload dL_law__1148 rfl ?_
  refine g_icmp_eq (tgt := 1155) dL_law__1150 (by decide) ⟨by omega, by omega⟩ ⟨by omega, by omega⟩ (fun _ => ?_) (fun h9 => absurd rfl h9)
  have fin : EvG (zS b0 L0 xs) RL "law" cL_law_ 7 (some .boolean) d (mc - 2 - 0 - 0) (ms - 12 - 0 - 0) Q noX 97 h4 1172 (LV i ++ [(5, iv (k : Int)), (6, iv z)]) [] := by
    refine g_goto (tgt := 2069) dL_law__1172 (by decide) ?_
    refine g_lv (lv2 := LV i) rfl ?_
    exact kk _ ⟨S2, _, f2, cl3, hr3, c96b⟩
  refine g_iload dL_law__1155 rfl ?_
  refine g_if_ne (tgt := 1172) dL_law__1157 (by decide) ⟨by omega, by omega⟩ (fun _ => fin) (fun h9 => ?_)
  have hk0 : k = 0 := by omega
  refine g_aload_n dL_law__1160 rfl rfl ?_
  refine g_iconst dL_law__1161 ?_
  refine g_lald dL_law__1162 (by decide) c96b (by decide) (by decide) (by decide) ?_
  refine g_iload dL_law__1163 rfl ?_
  refine g_i2l dL_law__1165 ?_
  rw [show f2 (0 : Int).toNat = nz z by rw [hz hk0]; exact hf hk0]
  refine g_lcmp0 dL_law__1166 ?_
  exact g_if_eq (tgt := 1172) dL_law__1167 (by decide) (by decide) (fun _ => fin) (fun h9 => absurd rfl h9)
theorem csh_minutes : CSH RL 159 yL_minutes cL_minutes 5 (some .int) [(0, 10, 13, 22)] 4 := ⟨inT5 138 rfl rfl, cw_L_minutes, ini_L, sl_L_minutes, ⟨by decide +kernel, by decide +kernel, by decide +kernel⟩, by decide⟩
theorem lc_minutes {b0 L0 : Nat} {xs : Nat → Int32} {d mc ms : Nat} {Q : Option Value → Nat → aH → Prop} (hd : 40 ≤ d) (hmc : 2 ≤ mc) (hms : 12 ≤ ms) {h : aH} (iv9 : Inv h) {i : Int} (hi : 0 ≤ i ∧ i + 6 ≤ L0) (hL : L0 ≤ 3072) (kk : ∀ h', Inv h' → EvG (zS b0 L0 xs) RL "law" cL_law_ 7 (some .boolean) d (mc - 2) (ms - 12) Q noX 97 h' 2069 (LV i) []) : EvG (zS b0 L0 xs) RL "law" cL_law_ 7 (some .boolean) d mc ms Q noX 97 h 1188 (LV i) [] := by
  obtain ⟨S, th, f, hc, hr, h96⟩ := iv9
  obtain ⟨fs0, c0⟩ := cls_0 hc
  obtain ⟨Q1, X1, hS0, q1, q2⟩ := a_minutes hc hr (sx_R xs (i + 1).toNat) (sx_R xs (i + 2).toNat)
  refine g_aload_n dL_law__1188 rfl rfl ?_
  refine g_aload_n dL_law__1189 rfl rfl ?_
  refine g_iload dL_law__1190 rfl ?_
  refine g_iconst dL_law__1192 ?_
  refine g_iadd dL_law__1193 ?_
  refine g_sld dL_law__1194 (by omega) (by omega) hL ?_
  refine g_aload_n dL_law__1195 rfl rfl ?_
  refine g_iload dL_law__1196 rfl ?_
  refine g_iconst dL_law__1198 ?_
  refine g_iadd dL_law__1199 ?_
  refine g_sld dL_law__1200 (by omega) (by omega) hL ?_
  refine g_aload_n dL_law__1201 rfl rfl ?_
  refine g_callSH [.ref 0, iv (xs (i + 1).toNat).toInt, iv (xs (i + 2).toNat).toInt, .ref 96] (s_L_minutes hS0 c0 h96 (fun v n2 h2 q => ⟨(q1 v n2 h2 q).1, by obtain ⟨r, S2, e, -⟩ := (q1 v n2 h2 q).2.2; exact ⟨r, e⟩, (q1 v n2 h2 q).2.1 96 (by decide)⟩) (fun E n2 h2 q => ⟨(q2 E n2 h2 q).1, (q2 E n2 h2 q).2.1⟩)) dL_law__1202 csh_minutes (by omega) hmc hms rfl rfl (by decide) rfl rfl (fun v n2 h2 q => ?_)
  obtain ⟨rfl, hr2, k, r, S2, f2, rfl, hk, cl2, c96, hf, hS3⟩ := w_after (ref := fun h' c r S' => mSem yX9_minutes cX9_minutes 7 (some .int) 7 0 0 [.ref 68, iv (xs (i + 1).toNat).toInt, iv (xs (i + 2).toNat).toInt] 97 h' (RefQ c r h' S') noX) (ex := fun E => E = nmN) (zN := 1) (zI := 2) hr h96 q1 q2 q (by decide)
  dsimp only [Option.toList, List.cons_append, List.nil_append]
  obtain ⟨g, w, c68, -⟩ := ref_th hr2
  refine g_istore (lv2 := LV i ++ [(5, iv (k : Int))]) dL_law__1205 (by decide) rfl rfl ?_
  refine g_aload_n dL_law__1207 rfl rfl ?_
  refine g_aload_n dL_law__1208 rfl rfl ?_
  refine g_iload dL_law__1209 rfl ?_
  refine g_iconst dL_law__1211 ?_
  refine g_iadd dL_law__1212 ?_
  refine g_sld dL_law__1213 (by omega) (by omega) hL ?_
  refine g_aload_n dL_law__1214 rfl rfl ?_
  refine g_iload dL_law__1215 rfl ?_
  refine g_iconst dL_law__1217 ?_
  refine g_iadd dL_law__1218 ?_
  refine g_sld dL_law__1219 (by omega) (by omega) hL ?_
  refine g_callV 68 [iv (xs (i + 1).toNat).toInt, iv (xs (i + 2).toNat).toInt] hS3 (fun _ _ _ hx => hx) dL_law__1220 cs_L_161 im_X9_minutes (by decide) c68 rfl (by omega) (Nat.zero_le _) (Nat.zero_le _) rfl rfl (by decide) rfl rfl (fun v n2 h3 q => ?_)
  obtain ⟨rfl, ⟨z, rfl, hz⟩, cl3, hr3, c96b⟩ := r_after cl2 c96 q
  dsimp only [Option.toList, List.cons_append, List.nil_append]
  obtain ⟨g3, w3, c68b, e0⟩ := ref_th hr3
  refine g_istore (lv2 := LV i ++ [(5, iv (k : Int)), (6, iv z)]) dL_law__1223 (by decide) rfl rfl ?_
  refine g_aload_n dL_law__1225 rfl rfl ?_
  refine g_callV 68 [] (s_X9_thrown c68b) (fun _ _ _ hx => hx) dL_law__1226 cs_L_104 im_X9_thrown (by decide) c68b rfl (by omega) (Nat.zero_le _) (Nat.zero_le _) rfl rfl (by decide) rfl rfl (fun v n2 h4 q => ?_)
  obtain ⟨rfl, rfl, rfl⟩ := q
  dsimp only [Option.toList, List.cons_append, List.nil_append]
  rw [e0]
  refine g_iload dL_law__1229 rfl ?_
  refine g_icmp_eq (tgt := 1236) dL_law__1231 (by decide) ⟨by omega, by omega⟩ ⟨by omega, by omega⟩ (fun _ => ?_) (fun h9 => absurd rfl h9)
  have fin : EvG (zS b0 L0 xs) RL "law" cL_law_ 7 (some .boolean) d (mc - 2 - 0 - 0) (ms - 12 - 0 - 0) Q noX 97 h4 1253 (LV i ++ [(5, iv (k : Int)), (6, iv z)]) [] := by
    refine g_goto (tgt := 2069) dL_law__1253 (by decide) ?_
    refine g_lv (lv2 := LV i) rfl ?_
    exact kk _ ⟨S2, _, f2, cl3, hr3, c96b⟩
  refine g_iload dL_law__1236 rfl ?_
  refine g_if_ne (tgt := 1253) dL_law__1238 (by decide) ⟨by omega, by omega⟩ (fun _ => fin) (fun h9 => ?_)
  have hk0 : k = 0 := by omega
  refine g_aload_n dL_law__1241 rfl rfl ?_
  refine g_iconst dL_law__1242 ?_
  refine g_lald dL_law__1243 (by decide) c96b (by decide) (by decide) (by decide) ?_
  refine g_iload dL_law__1244 rfl ?_
  refine g_i2l dL_law__1246 ?_
  rw [show f2 (0 : Int).toNat = nz z by rw [hz hk0]; exact hf hk0]
  refine g_lcmp0 dL_law__1247 ?_
  exact g_if_eq (tgt := 1253) dL_law__1248 (by decide) (by decide) (fun _ => fin) (fun h9 => absurd rfl h9)
theorem csh_days : CSH RL 162 yL_days cL_days 4 (some .int) [(0, 9, 12, 22)] 3 := ⟨inT5 172 rfl rfl, cw_L_days, ini_L, sl_L_days, ⟨by decide +kernel, by decide +kernel, by decide +kernel⟩, by decide⟩
theorem lc_days {b0 L0 : Nat} {xs : Nat → Int32} {d mc ms : Nat} {Q : Option Value → Nat → aH → Prop} (hd : 40 ≤ d) (hmc : 1 ≤ mc) (hms : 6 ≤ ms) {h : aH} (iv9 : Inv h) {i : Int} (hi : 0 ≤ i ∧ i + 6 ≤ L0) (hL : L0 ≤ 3072) (kk : ∀ h', Inv h' → EvG (zS b0 L0 xs) RL "law" cL_law_ 7 (some .boolean) d (mc - 1) (ms - 6) Q noX 97 h' 2069 (LV i) []) : EvG (zS b0 L0 xs) RL "law" cL_law_ 7 (some .boolean) d mc ms Q noX 97 h 1256 (LV i) [] := by
  obtain ⟨S, th, f, hc, hr, h96⟩ := iv9
  obtain ⟨fs0, c0⟩ := cls_0 hc
  obtain ⟨Q1, X1, hS0, q1, q2⟩ := a_days hc hr (sx_R xs (i + 1).toNat)
  refine g_aload_n dL_law__1256 rfl rfl ?_
  refine g_aload_n dL_law__1257 rfl rfl ?_
  refine g_iload dL_law__1258 rfl ?_
  refine g_iconst dL_law__1260 ?_
  refine g_iadd dL_law__1261 ?_
  refine g_sld dL_law__1262 (by omega) (by omega) hL ?_
  refine g_aload_n dL_law__1263 rfl rfl ?_
  refine g_callSH [.ref 0, iv (xs (i + 1).toNat).toInt, .ref 96] (s_L_days hS0 c0 h96 (fun v n2 h2 q => ⟨(q1 v n2 h2 q).1, by obtain ⟨r, S2, e, -⟩ := (q1 v n2 h2 q).2.2; exact ⟨r, e⟩, (q1 v n2 h2 q).2.1 96 (by decide)⟩) (fun E n2 h2 q => ⟨(q2 E n2 h2 q).1, (q2 E n2 h2 q).2.1⟩)) dL_law__1264 csh_days (by omega) hmc hms rfl rfl (by decide) rfl rfl (fun v n2 h2 q => ?_)
  obtain ⟨rfl, hr2, k, r, S2, f2, rfl, hk, cl2, c96, hf, hS3⟩ := w_after (ref := fun h' c r S' => mSem yX9_days cX9_days 5 (some .int) 7 0 0 [.ref 68, iv (xs (i + 1).toNat).toInt] 97 h' (RefQ c r h' S') noX) (ex := fun E => E = nmN) (zN := 1) (zI := 2) hr h96 q1 q2 q (by decide)
  dsimp only [Option.toList, List.cons_append, List.nil_append]
  obtain ⟨g, w, c68, -⟩ := ref_th hr2
  refine g_istore (lv2 := LV i ++ [(5, iv (k : Int))]) dL_law__1267 (by decide) rfl rfl ?_
  refine g_aload_n dL_law__1269 rfl rfl ?_
  refine g_aload_n dL_law__1270 rfl rfl ?_
  refine g_iload dL_law__1271 rfl ?_
  refine g_iconst dL_law__1273 ?_
  refine g_iadd dL_law__1274 ?_
  refine g_sld dL_law__1275 (by omega) (by omega) hL ?_
  refine g_callV 68 [iv (xs (i + 1).toNat).toInt] hS3 (fun _ _ _ hx => hx) dL_law__1276 cs_L_164 im_X9_days (by decide) c68 rfl (by omega) (Nat.zero_le _) (Nat.zero_le _) rfl rfl (by decide) rfl rfl (fun v n2 h3 q => ?_)
  obtain ⟨rfl, ⟨z, rfl, hz⟩, cl3, hr3, c96b⟩ := r_after cl2 c96 q
  dsimp only [Option.toList, List.cons_append, List.nil_append]
  obtain ⟨g3, w3, c68b, e0⟩ := ref_th hr3
  refine g_istore (lv2 := LV i ++ [(5, iv (k : Int)), (6, iv z)]) dL_law__1279 (by decide) rfl rfl ?_
  refine g_aload_n dL_law__1281 rfl rfl ?_
  refine g_callV 68 [] (s_X9_thrown c68b) (fun _ _ _ hx => hx) dL_law__1282 cs_L_104 im_X9_thrown (by decide) c68b rfl (by omega) (Nat.zero_le _) (Nat.zero_le _) rfl rfl (by decide) rfl rfl (fun v n2 h4 q => ?_)
  obtain ⟨rfl, rfl, rfl⟩ := q
  dsimp only [Option.toList, List.cons_append, List.nil_append]
  rw [e0]
  refine g_iload dL_law__1285 rfl ?_
  refine g_icmp_eq (tgt := 1292) dL_law__1287 (by decide) ⟨by omega, by omega⟩ ⟨by omega, by omega⟩ (fun _ => ?_) (fun h9 => absurd rfl h9)
  have fin : EvG (zS b0 L0 xs) RL "law" cL_law_ 7 (some .boolean) d (mc - 1 - 0 - 0) (ms - 6 - 0 - 0) Q noX 97 h4 1309 (LV i ++ [(5, iv (k : Int)), (6, iv z)]) [] := by
    refine g_goto (tgt := 2069) dL_law__1309 (by decide) ?_
    refine g_lv (lv2 := LV i) rfl ?_
    exact kk _ ⟨S2, _, f2, cl3, hr3, c96b⟩
  refine g_iload dL_law__1292 rfl ?_
  refine g_if_ne (tgt := 1309) dL_law__1294 (by decide) ⟨by omega, by omega⟩ (fun _ => fin) (fun h9 => ?_)
  have hk0 : k = 0 := by omega
  refine g_aload_n dL_law__1297 rfl rfl ?_
  refine g_iconst dL_law__1298 ?_
  refine g_lald dL_law__1299 (by decide) c96b (by decide) (by decide) (by decide) ?_
  refine g_iload dL_law__1300 rfl ?_
  refine g_i2l dL_law__1302 ?_
  rw [show f2 (0 : Int).toNat = nz z by rw [hz hk0]; exact hf hk0]
  refine g_lcmp0 dL_law__1303 ?_
  exact g_if_eq (tgt := 1309) dL_law__1304 (by decide) (by decide) (fun _ => fin) (fun h9 => absurd rfl h9)
theorem csh_late : CSH RL 165 yL_late cL_late 7 (some .int) [(0, 14, 17, 22)] 6 := ⟨inT5 179 rfl rfl, cw_L_late, ini_L, sl_L_late, ⟨by decide +kernel, by decide +kernel, by decide +kernel⟩, by decide⟩
theorem lc_late {b0 L0 : Nat} {xs : Nat → Int32} {d mc ms : Nat} {Q : Option Value → Nat → aH → Prop} (hd : 40 ≤ d) (hmc : 4 ≤ mc) (hms : 24 ≤ ms) {h : aH} (iv9 : Inv h) {i : Int} (hi : 0 ≤ i ∧ i + 6 ≤ L0) (hL : L0 ≤ 3072) (kk : ∀ h', Inv h' → EvG (zS b0 L0 xs) RL "law" cL_law_ 7 (some .boolean) d (mc - 4) (ms - 24) Q noX 97 h' 2069 (LV i) []) : EvG (zS b0 L0 xs) RL "law" cL_law_ 7 (some .boolean) d mc ms Q noX 97 h 1312 (LV i) [] := by
  obtain ⟨S, th, f, hc, hr, h96⟩ := iv9
  obtain ⟨fs0, c0⟩ := cls_0 hc
  obtain ⟨Q1, X1, hS0, q1, q2⟩ := a_late hc hr (sx_R xs (i + 1).toNat) (sx_R xs (i + 2).toNat) (sx_R xs (i + 3).toNat) (sx_R xs (i + 4).toNat)
  refine g_aload_n dL_law__1312 rfl rfl ?_
  refine g_aload_n dL_law__1313 rfl rfl ?_
  refine g_iload dL_law__1314 rfl ?_
  refine g_iconst dL_law__1316 ?_
  refine g_iadd dL_law__1317 ?_
  refine g_sld dL_law__1318 (by omega) (by omega) hL ?_
  refine g_aload_n dL_law__1319 rfl rfl ?_
  refine g_iload dL_law__1320 rfl ?_
  refine g_iconst dL_law__1322 ?_
  refine g_iadd dL_law__1323 ?_
  refine g_sld dL_law__1324 (by omega) (by omega) hL ?_
  refine g_aload_n dL_law__1325 rfl rfl ?_
  refine g_iload dL_law__1326 rfl ?_
  refine g_iconst dL_law__1328 ?_
  refine g_iadd dL_law__1329 ?_
  refine g_sld dL_law__1330 (by omega) (by omega) hL ?_
  refine g_aload_n dL_law__1331 rfl rfl ?_
  refine g_iload dL_law__1332 rfl ?_
  refine g_iconst dL_law__1334 ?_
  refine g_iadd dL_law__1335 ?_
  refine g_sld dL_law__1336 (by omega) (by omega) hL ?_
  refine g_aload_n dL_law__1337 rfl rfl ?_
  refine g_callSH [.ref 0, iv (xs (i + 1).toNat).toInt, iv (xs (i + 2).toNat).toInt, iv (xs (i + 3).toNat).toInt, iv (xs (i + 4).toNat).toInt, .ref 96] (s_L_late hS0 c0 h96 (fun v n2 h2 q => ⟨(q1 v n2 h2 q).1, by obtain ⟨r, S2, e, -⟩ := (q1 v n2 h2 q).2.2; exact ⟨r, e⟩, (q1 v n2 h2 q).2.1 96 (by decide)⟩) (fun E n2 h2 q => ⟨(q2 E n2 h2 q).1, (q2 E n2 h2 q).2.1⟩)) dL_law__1338 csh_late (by omega) hmc hms rfl rfl (by decide) rfl rfl (fun v n2 h2 q => ?_)
  obtain ⟨rfl, hr2, k, r, S2, f2, rfl, hk, cl2, c96, hf, hS3⟩ := w_after (ref := fun h' c r S' => mSem yX9_late cX9_late 5 (some .int) 8 0 0 [.ref 68, iv (xs (i + 1).toNat).toInt, iv (xs (i + 2).toNat).toInt, iv (xs (i + 3).toNat).toInt, iv (xs (i + 4).toNat).toInt] 97 h' (RefQ c r h' S') noX) (ex := fun E => E = nmN) (zN := 1) (zI := 2) hr h96 q1 q2 q (by decide)
  dsimp only [Option.toList, List.cons_append, List.nil_append]
  obtain ⟨g, w, c68, -⟩ := ref_th hr2
  refine g_istore (lv2 := LV i ++ [(5, iv (k : Int))]) dL_law__1341 (by decide) rfl rfl ?_
  refine g_aload_n dL_law__1343 rfl rfl ?_
  refine g_aload_n dL_law__1344 rfl rfl ?_
  refine g_iload dL_law__1345 rfl ?_
  refine g_iconst dL_law__1347 ?_
  refine g_iadd dL_law__1348 ?_
  refine g_sld dL_law__1349 (by omega) (by omega) hL ?_
  refine g_aload_n dL_law__1350 rfl rfl ?_
  refine g_iload dL_law__1351 rfl ?_
  refine g_iconst dL_law__1353 ?_
  refine g_iadd dL_law__1354 ?_
  refine g_sld dL_law__1355 (by omega) (by omega) hL ?_
  refine g_aload_n dL_law__1356 rfl rfl ?_
  refine g_iload dL_law__1357 rfl ?_
  refine g_iconst dL_law__1359 ?_
  refine g_iadd dL_law__1360 ?_
  refine g_sld dL_law__1361 (by omega) (by omega) hL ?_
  refine g_aload_n dL_law__1362 rfl rfl ?_
  refine g_iload dL_law__1363 rfl ?_
  refine g_iconst dL_law__1365 ?_
  refine g_iadd dL_law__1366 ?_
  refine g_sld dL_law__1367 (by omega) (by omega) hL ?_
  refine g_callV 68 [iv (xs (i + 1).toNat).toInt, iv (xs (i + 2).toNat).toInt, iv (xs (i + 3).toNat).toInt, iv (xs (i + 4).toNat).toInt] hS3 (fun _ _ _ hx => hx) dL_law__1368 cs_L_167 im_X9_late (by decide) c68 rfl (by omega) (Nat.zero_le _) (Nat.zero_le _) rfl rfl (by decide) rfl rfl (fun v n2 h3 q => ?_)
  obtain ⟨rfl, ⟨z, rfl, hz⟩, cl3, hr3, c96b⟩ := r_after cl2 c96 q
  dsimp only [Option.toList, List.cons_append, List.nil_append]
  obtain ⟨g3, w3, c68b, e0⟩ := ref_th hr3
  refine g_istore (lv2 := LV i ++ [(5, iv (k : Int)), (6, iv z)]) dL_law__1371 (by decide) rfl rfl ?_
  refine g_aload_n dL_law__1373 rfl rfl ?_
  refine g_callV 68 [] (s_X9_thrown c68b) (fun _ _ _ hx => hx) dL_law__1374 cs_L_104 im_X9_thrown (by decide) c68b rfl (by omega) (Nat.zero_le _) (Nat.zero_le _) rfl rfl (by decide) rfl rfl (fun v n2 h4 q => ?_)
  obtain ⟨rfl, rfl, rfl⟩ := q
  dsimp only [Option.toList, List.cons_append, List.nil_append]
  rw [e0]
  refine g_iload dL_law__1377 rfl ?_
  refine g_icmp_eq (tgt := 1384) dL_law__1379 (by decide) ⟨by omega, by omega⟩ ⟨by omega, by omega⟩ (fun _ => ?_) (fun h9 => absurd rfl h9)
  have fin : EvG (zS b0 L0 xs) RL "law" cL_law_ 7 (some .boolean) d (mc - 4 - 0 - 0) (ms - 24 - 0 - 0) Q noX 97 h4 1401 (LV i ++ [(5, iv (k : Int)), (6, iv z)]) [] := by
    refine g_goto (tgt := 2069) dL_law__1401 (by decide) ?_
    refine g_lv (lv2 := LV i) rfl ?_
    exact kk _ ⟨S2, _, f2, cl3, hr3, c96b⟩
  refine g_iload dL_law__1384 rfl ?_
  refine g_if_ne (tgt := 1401) dL_law__1386 (by decide) ⟨by omega, by omega⟩ (fun _ => fin) (fun h9 => ?_)
  have hk0 : k = 0 := by omega
  refine g_aload_n dL_law__1389 rfl rfl ?_
  refine g_iconst dL_law__1390 ?_
  refine g_lald dL_law__1391 (by decide) c96b (by decide) (by decide) (by decide) ?_
  refine g_iload dL_law__1392 rfl ?_
  refine g_i2l dL_law__1394 ?_
  rw [show f2 (0 : Int).toNat = nz z by rw [hz hk0]; exact hf hk0]
  refine g_lcmp0 dL_law__1395 ?_
  exact g_if_eq (tgt := 1401) dL_law__1396 (by decide) (by decide) (fun _ => fin) (fun h9 => absurd rfl h9)
theorem csh_meet : CSH RL 168 yL_meet cL_meet 8 (some .int) [(0, 16, 19, 22)] 7 := ⟨inT5 194 rfl rfl, cw_L_meet, ini_L, sl_L_meet, ⟨by decide +kernel, by decide +kernel, by decide +kernel⟩, by decide⟩
theorem lc_meet {b0 L0 : Nat} {xs : Nat → Int32} {d mc ms : Nat} {Q : Option Value → Nat → aH → Prop} (hd : 40 ≤ d) (hmc : 5 ≤ mc) (hms : 30 ≤ ms) {h : aH} (iv9 : Inv h) {i : Int} (hi : 0 ≤ i ∧ i + 6 ≤ L0) (hL : L0 ≤ 3072) (kk : ∀ h', Inv h' → EvG (zS b0 L0 xs) RL "law" cL_law_ 7 (some .boolean) d (mc - 5) (ms - 30) Q noX 97 h' 2069 (LV i) []) : EvG (zS b0 L0 xs) RL "law" cL_law_ 7 (some .boolean) d mc ms Q noX 97 h 1404 (LV i) [] := by
  obtain ⟨S, th, f, hc, hr, h96⟩ := iv9
  obtain ⟨fs0, c0⟩ := cls_0 hc
  obtain ⟨Q1, X1, hS0, q1, q2⟩ := a_meet hc hr (sx_R xs (i + 1).toNat) (sx_R xs (i + 2).toNat) (sx_R xs (i + 3).toNat) (sx_R xs (i + 4).toNat) (sx_R xs (i + 5).toNat)
  refine g_aload_n dL_law__1404 rfl rfl ?_
  refine g_aload_n dL_law__1405 rfl rfl ?_
  refine g_iload dL_law__1406 rfl ?_
  refine g_iconst dL_law__1408 ?_
  refine g_iadd dL_law__1409 ?_
  refine g_sld dL_law__1410 (by omega) (by omega) hL ?_
  refine g_aload_n dL_law__1411 rfl rfl ?_
  refine g_iload dL_law__1412 rfl ?_
  refine g_iconst dL_law__1414 ?_
  refine g_iadd dL_law__1415 ?_
  refine g_sld dL_law__1416 (by omega) (by omega) hL ?_
  refine g_aload_n dL_law__1417 rfl rfl ?_
  refine g_iload dL_law__1418 rfl ?_
  refine g_iconst dL_law__1420 ?_
  refine g_iadd dL_law__1421 ?_
  refine g_sld dL_law__1422 (by omega) (by omega) hL ?_
  refine g_aload_n dL_law__1423 rfl rfl ?_
  refine g_iload dL_law__1424 rfl ?_
  refine g_iconst dL_law__1426 ?_
  refine g_iadd dL_law__1427 ?_
  refine g_sld dL_law__1428 (by omega) (by omega) hL ?_
  refine g_aload_n dL_law__1429 rfl rfl ?_
  refine g_iload dL_law__1430 rfl ?_
  refine g_iconst dL_law__1432 ?_
  refine g_iadd dL_law__1433 ?_
  refine g_sld dL_law__1434 (by omega) (by omega) hL ?_
  refine g_aload_n dL_law__1435 rfl rfl ?_
  refine g_callSH [.ref 0, iv (xs (i + 1).toNat).toInt, iv (xs (i + 2).toNat).toInt, iv (xs (i + 3).toNat).toInt, iv (xs (i + 4).toNat).toInt, iv (xs (i + 5).toNat).toInt, .ref 96] (s_L_meet hS0 c0 h96 (fun v n2 h2 q => ⟨(q1 v n2 h2 q).1, by obtain ⟨r, S2, e, -⟩ := (q1 v n2 h2 q).2.2; exact ⟨r, e⟩, (q1 v n2 h2 q).2.1 96 (by decide)⟩) (fun E n2 h2 q => ⟨(q2 E n2 h2 q).1, (q2 E n2 h2 q).2.1⟩)) dL_law__1436 csh_meet (by omega) hmc hms rfl rfl (by decide) rfl rfl (fun v n2 h2 q => ?_)
  obtain ⟨rfl, hr2, k, r, S2, f2, rfl, hk, cl2, c96, hf, hS3⟩ := w_after (ref := fun h' c r S' => mSem yX9_meet cX9_meet 10 (some .int) 8 0 0 [.ref 68, iv (xs (i + 1).toNat).toInt, iv (xs (i + 2).toNat).toInt, iv (xs (i + 3).toNat).toInt, iv (xs (i + 4).toNat).toInt, iv (xs (i + 5).toNat).toInt] 97 h' (RefQ c r h' S') noX) (ex := fun E => E = nmN) (zN := 1) (zI := 2) hr h96 q1 q2 q (by decide)
  dsimp only [Option.toList, List.cons_append, List.nil_append]
  obtain ⟨g, w, c68, -⟩ := ref_th hr2
  refine g_istore (lv2 := LV i ++ [(5, iv (k : Int))]) dL_law__1439 (by decide) rfl rfl ?_
  refine g_aload_n dL_law__1441 rfl rfl ?_
  refine g_aload_n dL_law__1442 rfl rfl ?_
  refine g_iload dL_law__1443 rfl ?_
  refine g_iconst dL_law__1445 ?_
  refine g_iadd dL_law__1446 ?_
  refine g_sld dL_law__1447 (by omega) (by omega) hL ?_
  refine g_aload_n dL_law__1448 rfl rfl ?_
  refine g_iload dL_law__1449 rfl ?_
  refine g_iconst dL_law__1451 ?_
  refine g_iadd dL_law__1452 ?_
  refine g_sld dL_law__1453 (by omega) (by omega) hL ?_
  refine g_aload_n dL_law__1454 rfl rfl ?_
  refine g_iload dL_law__1455 rfl ?_
  refine g_iconst dL_law__1457 ?_
  refine g_iadd dL_law__1458 ?_
  refine g_sld dL_law__1459 (by omega) (by omega) hL ?_
  refine g_aload_n dL_law__1460 rfl rfl ?_
  refine g_iload dL_law__1461 rfl ?_
  refine g_iconst dL_law__1463 ?_
  refine g_iadd dL_law__1464 ?_
  refine g_sld dL_law__1465 (by omega) (by omega) hL ?_
  refine g_aload_n dL_law__1466 rfl rfl ?_
  refine g_iload dL_law__1467 rfl ?_
  refine g_iconst dL_law__1469 ?_
  refine g_iadd dL_law__1470 ?_
  refine g_sld dL_law__1471 (by omega) (by omega) hL ?_
  refine g_callV 68 [iv (xs (i + 1).toNat).toInt, iv (xs (i + 2).toNat).toInt, iv (xs (i + 3).toNat).toInt, iv (xs (i + 4).toNat).toInt, iv (xs (i + 5).toNat).toInt] hS3 (fun _ _ _ hx => hx) dL_law__1472 cs_L_171 im_X9_meet (by decide) c68 rfl (by omega) (Nat.zero_le _) (Nat.zero_le _) rfl rfl (by decide) rfl rfl (fun v n2 h3 q => ?_)
  obtain ⟨rfl, ⟨z, rfl, hz⟩, cl3, hr3, c96b⟩ := r_after cl2 c96 q
  dsimp only [Option.toList, List.cons_append, List.nil_append]
  obtain ⟨g3, w3, c68b, e0⟩ := ref_th hr3
  refine g_istore (lv2 := LV i ++ [(5, iv (k : Int)), (6, iv z)]) dL_law__1475 (by decide) rfl rfl ?_
  refine g_aload_n dL_law__1477 rfl rfl ?_
  refine g_callV 68 [] (s_X9_thrown c68b) (fun _ _ _ hx => hx) dL_law__1478 cs_L_104 im_X9_thrown (by decide) c68b rfl (by omega) (Nat.zero_le _) (Nat.zero_le _) rfl rfl (by decide) rfl rfl (fun v n2 h4 q => ?_)
  obtain ⟨rfl, rfl, rfl⟩ := q
  dsimp only [Option.toList, List.cons_append, List.nil_append]
  rw [e0]
  refine g_iload dL_law__1481 rfl ?_
  refine g_icmp_eq (tgt := 1488) dL_law__1483 (by decide) ⟨by omega, by omega⟩ ⟨by omega, by omega⟩ (fun _ => ?_) (fun h9 => absurd rfl h9)
  have fin : EvG (zS b0 L0 xs) RL "law" cL_law_ 7 (some .boolean) d (mc - 5 - 0 - 0) (ms - 30 - 0 - 0) Q noX 97 h4 1505 (LV i ++ [(5, iv (k : Int)), (6, iv z)]) [] := by
    refine g_goto (tgt := 2069) dL_law__1505 (by decide) ?_
    refine g_lv (lv2 := LV i) rfl ?_
    exact kk _ ⟨S2, _, f2, cl3, hr3, c96b⟩
  refine g_iload dL_law__1488 rfl ?_
  refine g_if_ne (tgt := 1505) dL_law__1490 (by decide) ⟨by omega, by omega⟩ (fun _ => fin) (fun h9 => ?_)
  have hk0 : k = 0 := by omega
  refine g_aload_n dL_law__1493 rfl rfl ?_
  refine g_iconst dL_law__1494 ?_
  refine g_lald dL_law__1495 (by decide) c96b (by decide) (by decide) (by decide) ?_
  refine g_iload dL_law__1496 rfl ?_
  refine g_i2l dL_law__1498 ?_
  rw [show f2 (0 : Int).toNat = nz z by rw [hz hk0]; exact hf hk0]
  refine g_lcmp0 dL_law__1499 ?_
  exact g_if_eq (tgt := 1505) dL_law__1500 (by decide) (by decide) (fun _ => fin) (fun h9 => absurd rfl h9)
theorem csh_mend : CSH RL 172 yL_mend cL_mend 6 (some .int) [(0, 12, 15, 22)] 5 := ⟨inT5 201 rfl rfl, cw_L_mend, ini_L, sl_L_mend, ⟨by decide +kernel, by decide +kernel, by decide +kernel⟩, by decide⟩
theorem lc_mend {b0 L0 : Nat} {xs : Nat → Int32} {d mc ms : Nat} {Q : Option Value → Nat → aH → Prop} (hd : 40 ≤ d) (hmc : 2 ≤ mc) (hms : 12 ≤ ms) {h : aH} (iv9 : Inv h) {i : Int} (hi : 0 ≤ i ∧ i + 6 ≤ L0) (hL : L0 ≤ 3072) (kk : ∀ h', Inv h' → EvG (zS b0 L0 xs) RL "law" cL_law_ 7 (some .boolean) d (mc - 2) (ms - 12) Q noX 97 h' 2069 (LV i) []) : EvG (zS b0 L0 xs) RL "law" cL_law_ 7 (some .boolean) d mc ms Q noX 97 h 1508 (LV i) [] := by
  obtain ⟨S, th, f, hc, hr, h96⟩ := iv9
  obtain ⟨fs0, c0⟩ := cls_0 hc
  obtain ⟨Q1, X1, hS0, q1, q2⟩ := a_mend hc hr (sx_R xs (i + 1).toNat) (sx_R xs (i + 2).toNat) (sx_R xs (i + 3).toNat)
  refine g_aload_n dL_law__1508 rfl rfl ?_
  refine g_aload_n dL_law__1509 rfl rfl ?_
  refine g_iload dL_law__1510 rfl ?_
  refine g_iconst dL_law__1512 ?_
  refine g_iadd dL_law__1513 ?_
  refine g_sld dL_law__1514 (by omega) (by omega) hL ?_
  refine g_aload_n dL_law__1515 rfl rfl ?_
  refine g_iload dL_law__1516 rfl ?_
  refine g_iconst dL_law__1518 ?_
  refine g_iadd dL_law__1519 ?_
  refine g_sld dL_law__1520 (by omega) (by omega) hL ?_
  refine g_aload_n dL_law__1521 rfl rfl ?_
  refine g_iload dL_law__1522 rfl ?_
  refine g_iconst dL_law__1524 ?_
  refine g_iadd dL_law__1525 ?_
  refine g_sld dL_law__1526 (by omega) (by omega) hL ?_
  refine g_aload_n dL_law__1527 rfl rfl ?_
  refine g_callSH [.ref 0, iv (xs (i + 1).toNat).toInt, iv (xs (i + 2).toNat).toInt, iv (xs (i + 3).toNat).toInt, .ref 96] (s_L_mend hS0 c0 h96 (fun v n2 h2 q => ⟨(q1 v n2 h2 q).1, by obtain ⟨r, S2, e, -⟩ := (q1 v n2 h2 q).2.2; exact ⟨r, e⟩, (q1 v n2 h2 q).2.1 96 (by decide)⟩) (fun E n2 h2 q => ⟨(q2 E n2 h2 q).1, (q2 E n2 h2 q).2.1⟩)) dL_law__1528 csh_mend (by omega) hmc hms rfl rfl (by decide) rfl rfl (fun v n2 h2 q => ?_)
  obtain ⟨rfl, hr2, k, r, S2, f2, rfl, hk, cl2, c96, hf, hS3⟩ := w_after (ref := fun h' c r S' => mSem yX9_mend cX9_mend 4 (some .int) 6 0 0 [.ref 68, iv (xs (i + 1).toNat).toInt, iv (xs (i + 2).toNat).toInt, iv (xs (i + 3).toNat).toInt] 97 h' (RefQ c r h' S') noX) (ex := fun E => E = nmN) (zN := 1) (zI := 2) hr h96 q1 q2 q (by decide)
  dsimp only [Option.toList, List.cons_append, List.nil_append]
  obtain ⟨g, w, c68, -⟩ := ref_th hr2
  refine g_istore (lv2 := LV i ++ [(5, iv (k : Int))]) dL_law__1531 (by decide) rfl rfl ?_
  refine g_aload_n dL_law__1533 rfl rfl ?_
  refine g_aload_n dL_law__1534 rfl rfl ?_
  refine g_iload dL_law__1535 rfl ?_
  refine g_iconst dL_law__1537 ?_
  refine g_iadd dL_law__1538 ?_
  refine g_sld dL_law__1539 (by omega) (by omega) hL ?_
  refine g_aload_n dL_law__1540 rfl rfl ?_
  refine g_iload dL_law__1541 rfl ?_
  refine g_iconst dL_law__1543 ?_
  refine g_iadd dL_law__1544 ?_
  refine g_sld dL_law__1545 (by omega) (by omega) hL ?_
  refine g_aload_n dL_law__1546 rfl rfl ?_
  refine g_iload dL_law__1547 rfl ?_
  refine g_iconst dL_law__1549 ?_
  refine g_iadd dL_law__1550 ?_
  refine g_sld dL_law__1551 (by omega) (by omega) hL ?_
  refine g_callV 68 [iv (xs (i + 1).toNat).toInt, iv (xs (i + 2).toNat).toInt, iv (xs (i + 3).toNat).toInt] hS3 (fun _ _ _ hx => hx) dL_law__1552 cs_L_174 im_X9_mend (by decide) c68 rfl (by omega) (Nat.zero_le _) (Nat.zero_le _) rfl rfl (by decide) rfl rfl (fun v n2 h3 q => ?_)
  obtain ⟨rfl, ⟨z, rfl, hz⟩, cl3, hr3, c96b⟩ := r_after cl2 c96 q
  dsimp only [Option.toList, List.cons_append, List.nil_append]
  obtain ⟨g3, w3, c68b, e0⟩ := ref_th hr3
  refine g_istore (lv2 := LV i ++ [(5, iv (k : Int)), (6, iv z)]) dL_law__1555 (by decide) rfl rfl ?_
  refine g_aload_n dL_law__1557 rfl rfl ?_
  refine g_callV 68 [] (s_X9_thrown c68b) (fun _ _ _ hx => hx) dL_law__1558 cs_L_104 im_X9_thrown (by decide) c68b rfl (by omega) (Nat.zero_le _) (Nat.zero_le _) rfl rfl (by decide) rfl rfl (fun v n2 h4 q => ?_)
  obtain ⟨rfl, rfl, rfl⟩ := q
  dsimp only [Option.toList, List.cons_append, List.nil_append]
  rw [e0]
  refine g_iload dL_law__1561 rfl ?_
  refine g_icmp_eq (tgt := 1568) dL_law__1563 (by decide) ⟨by omega, by omega⟩ ⟨by omega, by omega⟩ (fun _ => ?_) (fun h9 => absurd rfl h9)
  have fin : EvG (zS b0 L0 xs) RL "law" cL_law_ 7 (some .boolean) d (mc - 2 - 0 - 0) (ms - 12 - 0 - 0) Q noX 97 h4 1585 (LV i ++ [(5, iv (k : Int)), (6, iv z)]) [] := by
    refine g_goto (tgt := 2069) dL_law__1585 (by decide) ?_
    refine g_lv (lv2 := LV i) rfl ?_
    exact kk _ ⟨S2, _, f2, cl3, hr3, c96b⟩
  refine g_iload dL_law__1568 rfl ?_
  refine g_if_ne (tgt := 1585) dL_law__1570 (by decide) ⟨by omega, by omega⟩ (fun _ => fin) (fun h9 => ?_)
  have hk0 : k = 0 := by omega
  refine g_aload_n dL_law__1573 rfl rfl ?_
  refine g_iconst dL_law__1574 ?_
  refine g_lald dL_law__1575 (by decide) c96b (by decide) (by decide) (by decide) ?_
  refine g_iload dL_law__1576 rfl ?_
  refine g_i2l dL_law__1578 ?_
  rw [show f2 (0 : Int).toNat = nz z by rw [hz hk0]; exact hf hk0]
  refine g_lcmp0 dL_law__1579 ?_
  exact g_if_eq (tgt := 1585) dL_law__1580 (by decide) (by decide) (fun _ => fin) (fun h9 => absurd rfl h9)
theorem csh_best : CSH RL 179 yL_best cL_best 7 (some .int) [(0, 14, 17, 22), (0, 14, 21, 13)] 6 := ⟨inT5 212 rfl rfl, cw_L_best, ini_L, sl_L_best, ⟨by decide +kernel, by decide +kernel, by decide +kernel⟩, by decide⟩
theorem lc_best {b0 L0 : Nat} {xs : Nat → Int32} {d mc ms : Nat} {Q : Option Value → Nat → aH → Prop} (hd : 40 ≤ d) (hmc : 4 ≤ mc) (hms : 24 ≤ ms) {h : aH} (iv9 : Inv h) {i : Int} (hi : 0 ≤ i ∧ i + 6 ≤ L0) (hL : L0 ≤ 3072) (kk : ∀ h', Inv h' → EvG (zS b0 L0 xs) RL "law" cL_law_ 7 (some .boolean) d (mc - 4) (ms - 24) Q noX 97 h' 2069 (LV i) []) : EvG (zS b0 L0 xs) RL "law" cL_law_ 7 (some .boolean) d mc ms Q noX 97 h 1601 (LV i) [] := by
  obtain ⟨S, th, f, hc, hr, h96⟩ := iv9
  obtain ⟨fs0, c0⟩ := cls_0 hc
  obtain ⟨Q1, X1, hS0, q1, q2⟩ := a_best hc hr (sx_R xs (i + 1).toNat) (sx_R xs (i + 2).toNat) (sx_R xs (i + 3).toNat) (sx_R xs (i + 4).toNat)
  refine g_aload_n dL_law__1601 rfl rfl ?_
  refine g_aload_n dL_law__1602 rfl rfl ?_
  refine g_iload dL_law__1603 rfl ?_
  refine g_iconst dL_law__1605 ?_
  refine g_iadd dL_law__1606 ?_
  refine g_sld dL_law__1607 (by omega) (by omega) hL ?_
  refine g_aload_n dL_law__1608 rfl rfl ?_
  refine g_iload dL_law__1609 rfl ?_
  refine g_iconst dL_law__1611 ?_
  refine g_iadd dL_law__1612 ?_
  refine g_sld dL_law__1613 (by omega) (by omega) hL ?_
  refine g_aload_n dL_law__1614 rfl rfl ?_
  refine g_iload dL_law__1615 rfl ?_
  refine g_iconst dL_law__1617 ?_
  refine g_iadd dL_law__1618 ?_
  refine g_sld dL_law__1619 (by omega) (by omega) hL ?_
  refine g_aload_n dL_law__1620 rfl rfl ?_
  refine g_iload dL_law__1621 rfl ?_
  refine g_iconst dL_law__1623 ?_
  refine g_iadd dL_law__1624 ?_
  refine g_sld dL_law__1625 (by omega) (by omega) hL ?_
  refine g_aload_n dL_law__1626 rfl rfl ?_
  refine g_callSH [.ref 0, iv (xs (i + 1).toNat).toInt, iv (xs (i + 2).toNat).toInt, iv (xs (i + 3).toNat).toInt, iv (xs (i + 4).toNat).toInt, .ref 96] (s_L_best hS0 c0 h96 (fun v n2 h2 q => ⟨(q1 v n2 h2 q).1, by obtain ⟨r, S2, e, -⟩ := (q1 v n2 h2 q).2.2; exact ⟨r, e⟩, (q1 v n2 h2 q).2.1 96 (by decide)⟩) (fun E n2 h2 q => ⟨(q2 E n2 h2 q).1, (q2 E n2 h2 q).2.1⟩)) dL_law__1627 csh_best (by omega) hmc hms rfl rfl (by decide) rfl rfl (fun v n2 h2 q => ?_)
  obtain ⟨rfl, hr2, k, r, S2, f2, rfl, hk, cl2, c96, hf, hS3⟩ := w_after (ref := fun h' c r S' => mSem yX9_best cX9_best 8 (some .int) 8 0 0 [.ref 68, iv (xs (i + 1).toNat).toInt, iv (xs (i + 2).toNat).toInt, iv (xs (i + 3).toNat).toInt, iv (xs (i + 4).toNat).toInt] 97 h' (RefQ c r h' S') noX) (ex := fun E => E = nmN ∨ E = nmI) (zN := 1) (zI := 2) hr h96 q1 q2 q (by decide)
  dsimp only [Option.toList, List.cons_append, List.nil_append]
  obtain ⟨g, w, c68, -⟩ := ref_th hr2
  refine g_istore (lv2 := LV i ++ [(5, iv (k : Int))]) dL_law__1630 (by decide) rfl rfl ?_
  refine g_aload_n dL_law__1632 rfl rfl ?_
  refine g_aload_n dL_law__1633 rfl rfl ?_
  refine g_iload dL_law__1634 rfl ?_
  refine g_iconst dL_law__1636 ?_
  refine g_iadd dL_law__1637 ?_
  refine g_sld dL_law__1638 (by omega) (by omega) hL ?_
  refine g_aload_n dL_law__1639 rfl rfl ?_
  refine g_iload dL_law__1640 rfl ?_
  refine g_iconst dL_law__1642 ?_
  refine g_iadd dL_law__1643 ?_
  refine g_sld dL_law__1644 (by omega) (by omega) hL ?_
  refine g_aload_n dL_law__1645 rfl rfl ?_
  refine g_iload dL_law__1646 rfl ?_
  refine g_iconst dL_law__1648 ?_
  refine g_iadd dL_law__1649 ?_
  refine g_sld dL_law__1650 (by omega) (by omega) hL ?_
  refine g_aload_n dL_law__1651 rfl rfl ?_
  refine g_iload dL_law__1652 rfl ?_
  refine g_iconst dL_law__1654 ?_
  refine g_iadd dL_law__1655 ?_
  refine g_sld dL_law__1656 (by omega) (by omega) hL ?_
  refine g_callV 68 [iv (xs (i + 1).toNat).toInt, iv (xs (i + 2).toNat).toInt, iv (xs (i + 3).toNat).toInt, iv (xs (i + 4).toNat).toInt] hS3 (fun _ _ _ hx => hx) dL_law__1657 cs_L_181 im_X9_best (by decide) c68 rfl (by omega) (Nat.zero_le _) (Nat.zero_le _) rfl rfl (by decide) rfl rfl (fun v n2 h3 q => ?_)
  obtain ⟨rfl, ⟨z, rfl, hz⟩, cl3, hr3, c96b⟩ := r_after cl2 c96 q
  dsimp only [Option.toList, List.cons_append, List.nil_append]
  obtain ⟨g3, w3, c68b, e0⟩ := ref_th hr3
  refine g_istore (lv2 := LV i ++ [(5, iv (k : Int)), (6, iv z)]) dL_law__1660 (by decide) rfl rfl ?_
  refine g_aload_n dL_law__1662 rfl rfl ?_
  refine g_callV 68 [] (s_X9_thrown c68b) (fun _ _ _ hx => hx) dL_law__1663 cs_L_104 im_X9_thrown (by decide) c68b rfl (by omega) (Nat.zero_le _) (Nat.zero_le _) rfl rfl (by decide) rfl rfl (fun v n2 h4 q => ?_)
  obtain ⟨rfl, rfl, rfl⟩ := q
  dsimp only [Option.toList, List.cons_append, List.nil_append]
  rw [e0]
  refine g_iload dL_law__1666 rfl ?_
  refine g_icmp_eq (tgt := 1673) dL_law__1668 (by decide) ⟨by omega, by omega⟩ ⟨by omega, by omega⟩ (fun _ => ?_) (fun h9 => absurd rfl h9)
  have fin : EvG (zS b0 L0 xs) RL "law" cL_law_ 7 (some .boolean) d (mc - 4 - 0 - 0) (ms - 24 - 0 - 0) Q noX 97 h4 1690 (LV i ++ [(5, iv (k : Int)), (6, iv z)]) [] := by
    refine g_goto (tgt := 2069) dL_law__1690 (by decide) ?_
    refine g_lv (lv2 := LV i) rfl ?_
    exact kk _ ⟨S2, _, f2, cl3, hr3, c96b⟩
  refine g_iload dL_law__1673 rfl ?_
  refine g_if_ne (tgt := 1690) dL_law__1675 (by decide) ⟨by omega, by omega⟩ (fun _ => fin) (fun h9 => ?_)
  have hk0 : k = 0 := by omega
  refine g_aload_n dL_law__1678 rfl rfl ?_
  refine g_iconst dL_law__1679 ?_
  refine g_lald dL_law__1680 (by decide) c96b (by decide) (by decide) (by decide) ?_
  refine g_iload dL_law__1681 rfl ?_
  refine g_i2l dL_law__1683 ?_
  rw [show f2 (0 : Int).toNat = nz z by rw [hz hk0]; exact hf hk0]
  refine g_lcmp0 dL_law__1684 ?_
  exact g_if_eq (tgt := 1690) dL_law__1685 (by decide) (by decide) (fun _ => fin) (fun h9 => absurd rfl h9)
theorem csh_year : CSH RL 182 yL_year cL_year 6 (some .int) [(0, 12, 15, 22)] 5 := ⟨inT6 1 rfl rfl, cw_L_year, ini_L, sl_L_year, ⟨by decide +kernel, by decide +kernel, by decide +kernel⟩, by decide⟩
theorem lc_year {b0 L0 : Nat} {xs : Nat → Int32} {d mc ms : Nat} {Q : Option Value → Nat → aH → Prop} (hd : 40 ≤ d) (hmc : 3 ≤ mc) (hms : 18 ≤ ms) {h : aH} (iv9 : Inv h) {i : Int} (hi : 0 ≤ i ∧ i + 6 ≤ L0) (hL : L0 ≤ 3072) (kk : ∀ h', Inv h' → EvG (zS b0 L0 xs) RL "law" cL_law_ 7 (some .boolean) d (mc - 3) (ms - 18) Q noX 97 h' 2069 (LV i) []) : EvG (zS b0 L0 xs) RL "law" cL_law_ 7 (some .boolean) d mc ms Q noX 97 h 1693 (LV i) [] := by
  obtain ⟨S, th, f, hc, hr, h96⟩ := iv9
  obtain ⟨fs0, c0⟩ := cls_0 hc
  obtain ⟨Q1, X1, hS0, q1, q2⟩ := a_year hc hr (sx_R xs (i + 1).toNat) (sx_R xs (i + 2).toNat) (sx_R xs (i + 3).toNat)
  refine g_aload_n dL_law__1693 rfl rfl ?_
  refine g_aload_n dL_law__1694 rfl rfl ?_
  refine g_iload dL_law__1695 rfl ?_
  refine g_iconst dL_law__1697 ?_
  refine g_iadd dL_law__1698 ?_
  refine g_sld dL_law__1699 (by omega) (by omega) hL ?_
  refine g_aload_n dL_law__1700 rfl rfl ?_
  refine g_iload dL_law__1701 rfl ?_
  refine g_iconst dL_law__1703 ?_
  refine g_iadd dL_law__1704 ?_
  refine g_sld dL_law__1705 (by omega) (by omega) hL ?_
  refine g_aload_n dL_law__1706 rfl rfl ?_
  refine g_iload dL_law__1707 rfl ?_
  refine g_iconst dL_law__1709 ?_
  refine g_iadd dL_law__1710 ?_
  refine g_sld dL_law__1711 (by omega) (by omega) hL ?_
  refine g_aload_n dL_law__1712 rfl rfl ?_
  refine g_callSH [.ref 0, iv (xs (i + 1).toNat).toInt, iv (xs (i + 2).toNat).toInt, iv (xs (i + 3).toNat).toInt, .ref 96] (s_L_year hS0 c0 h96 (fun v n2 h2 q => ⟨(q1 v n2 h2 q).1, by obtain ⟨r, S2, e, -⟩ := (q1 v n2 h2 q).2.2; exact ⟨r, e⟩, (q1 v n2 h2 q).2.1 96 (by decide)⟩) (fun E n2 h2 q => ⟨(q2 E n2 h2 q).1, (q2 E n2 h2 q).2.1⟩)) dL_law__1713 csh_year (by omega) hmc hms rfl rfl (by decide) rfl rfl (fun v n2 h2 q => ?_)
  obtain ⟨rfl, hr2, k, r, S2, f2, rfl, hk, cl2, c96, hf, hS3⟩ := w_after (ref := fun h' c r S' => mSem yX9_year cX9_year 4 (some .int) 7 0 0 [.ref 68, iv (xs (i + 1).toNat).toInt, iv (xs (i + 2).toNat).toInt, iv (xs (i + 3).toNat).toInt] 97 h' (RefQ c r h' S') noX) (ex := fun E => E = nmN) (zN := 1) (zI := 2) hr h96 q1 q2 q (by decide)
  dsimp only [Option.toList, List.cons_append, List.nil_append]
  obtain ⟨g, w, c68, -⟩ := ref_th hr2
  refine g_istore (lv2 := LV i ++ [(5, iv (k : Int))]) dL_law__1716 (by decide) rfl rfl ?_
  refine g_aload_n dL_law__1718 rfl rfl ?_
  refine g_aload_n dL_law__1719 rfl rfl ?_
  refine g_iload dL_law__1720 rfl ?_
  refine g_iconst dL_law__1722 ?_
  refine g_iadd dL_law__1723 ?_
  refine g_sld dL_law__1724 (by omega) (by omega) hL ?_
  refine g_aload_n dL_law__1725 rfl rfl ?_
  refine g_iload dL_law__1726 rfl ?_
  refine g_iconst dL_law__1728 ?_
  refine g_iadd dL_law__1729 ?_
  refine g_sld dL_law__1730 (by omega) (by omega) hL ?_
  refine g_aload_n dL_law__1731 rfl rfl ?_
  refine g_iload dL_law__1732 rfl ?_
  refine g_iconst dL_law__1734 ?_
  refine g_iadd dL_law__1735 ?_
  refine g_sld dL_law__1736 (by omega) (by omega) hL ?_
  refine g_callV 68 [iv (xs (i + 1).toNat).toInt, iv (xs (i + 2).toNat).toInt, iv (xs (i + 3).toNat).toInt] hS3 (fun _ _ _ hx => hx) dL_law__1737 cs_L_184 im_X9_year (by decide) c68 rfl (by omega) (Nat.zero_le _) (Nat.zero_le _) rfl rfl (by decide) rfl rfl (fun v n2 h3 q => ?_)
  obtain ⟨rfl, ⟨z, rfl, hz⟩, cl3, hr3, c96b⟩ := r_after cl2 c96 q
  dsimp only [Option.toList, List.cons_append, List.nil_append]
  obtain ⟨g3, w3, c68b, e0⟩ := ref_th hr3
  refine g_istore (lv2 := LV i ++ [(5, iv (k : Int)), (6, iv z)]) dL_law__1740 (by decide) rfl rfl ?_
  refine g_aload_n dL_law__1742 rfl rfl ?_
  refine g_callV 68 [] (s_X9_thrown c68b) (fun _ _ _ hx => hx) dL_law__1743 cs_L_104 im_X9_thrown (by decide) c68b rfl (by omega) (Nat.zero_le _) (Nat.zero_le _) rfl rfl (by decide) rfl rfl (fun v n2 h4 q => ?_)
  obtain ⟨rfl, rfl, rfl⟩ := q
  dsimp only [Option.toList, List.cons_append, List.nil_append]
  rw [e0]
  refine g_iload dL_law__1746 rfl ?_
  refine g_icmp_eq (tgt := 1753) dL_law__1748 (by decide) ⟨by omega, by omega⟩ ⟨by omega, by omega⟩ (fun _ => ?_) (fun h9 => absurd rfl h9)
  have fin : EvG (zS b0 L0 xs) RL "law" cL_law_ 7 (some .boolean) d (mc - 3 - 0 - 0) (ms - 18 - 0 - 0) Q noX 97 h4 1770 (LV i ++ [(5, iv (k : Int)), (6, iv z)]) [] := by
    refine g_goto (tgt := 2069) dL_law__1770 (by decide) ?_
    refine g_lv (lv2 := LV i) rfl ?_
    exact kk _ ⟨S2, _, f2, cl3, hr3, c96b⟩
  refine g_iload dL_law__1753 rfl ?_
  refine g_if_ne (tgt := 1770) dL_law__1755 (by decide) ⟨by omega, by omega⟩ (fun _ => fin) (fun h9 => ?_)
  have hk0 : k = 0 := by omega
  refine g_aload_n dL_law__1758 rfl rfl ?_
  refine g_iconst dL_law__1759 ?_
  refine g_lald dL_law__1760 (by decide) c96b (by decide) (by decide) (by decide) ?_
  refine g_iload dL_law__1761 rfl ?_
  refine g_i2l dL_law__1763 ?_
  rw [show f2 (0 : Int).toNat = nz z by rw [hz hk0]; exact hf hk0]
  refine g_lcmp0 dL_law__1764 ?_
  exact g_if_eq (tgt := 1770) dL_law__1765 (by decide) (by decide) (fun _ => fin) (fun h9 => absurd rfl h9)
theorem csh_live : CSH RL 185 yL_live cL_live 4 (some .int) [(0, 9, 12, 22)] 3 := ⟨inT6 12 rfl rfl, cw_L_live, ini_L, sl_L_live, ⟨by decide +kernel, by decide +kernel, by decide +kernel⟩, by decide⟩
theorem lc_live {b0 L0 : Nat} {xs : Nat → Int32} {d mc ms : Nat} {Q : Option Value → Nat → aH → Prop} (hd : 40 ≤ d) (hmc : 1 ≤ mc) (hms : 6 ≤ ms) {h : aH} (iv9 : Inv h) {i : Int} (hi : 0 ≤ i ∧ i + 6 ≤ L0) (hL : L0 ≤ 3072) (kk : ∀ h', Inv h' → EvG (zS b0 L0 xs) RL "law" cL_law_ 7 (some .boolean) d (mc - 1) (ms - 6) Q noX 97 h' 2069 (LV i) []) : EvG (zS b0 L0 xs) RL "law" cL_law_ 7 (some .boolean) d mc ms Q noX 97 h 1773 (LV i) [] := by
  obtain ⟨S, th, f, hc, hr, h96⟩ := iv9
  obtain ⟨fs0, c0⟩ := cls_0 hc
  obtain ⟨Q1, X1, hS0, q1, q2⟩ := a_live hc hr (sx_R xs (i + 1).toNat)
  refine g_aload_n dL_law__1773 rfl rfl ?_
  refine g_aload_n dL_law__1774 rfl rfl ?_
  refine g_iload dL_law__1775 rfl ?_
  refine g_iconst dL_law__1777 ?_
  refine g_iadd dL_law__1778 ?_
  refine g_sld dL_law__1779 (by omega) (by omega) hL ?_
  refine g_aload_n dL_law__1780 rfl rfl ?_
  refine g_callSH [.ref 0, iv (xs (i + 1).toNat).toInt, .ref 96] (s_L_live hS0 c0 h96 (fun v n2 h2 q => ⟨(q1 v n2 h2 q).1, by obtain ⟨r, S2, e, -⟩ := (q1 v n2 h2 q).2.2; exact ⟨r, e⟩, (q1 v n2 h2 q).2.1 96 (by decide)⟩) (fun E n2 h2 q => ⟨(q2 E n2 h2 q).1, (q2 E n2 h2 q).2.1⟩)) dL_law__1781 csh_live (by omega) hmc hms rfl rfl (by decide) rfl rfl (fun v n2 h2 q => ?_)
  obtain ⟨rfl, hr2, k, r, S2, f2, rfl, hk, cl2, c96, hf, hS3⟩ := w_after (ref := fun h' c r S' => mSem yX9_live cX9_live 6 (some .int) 7 0 0 [.ref 68, iv (xs (i + 1).toNat).toInt] 97 h' (RefQ c r h' S') noX) (ex := fun E => E = nmN) (zN := 1) (zI := 2) hr h96 q1 q2 q (by decide)
  dsimp only [Option.toList, List.cons_append, List.nil_append]
  obtain ⟨g, w, c68, -⟩ := ref_th hr2
  refine g_istore (lv2 := LV i ++ [(5, iv (k : Int))]) dL_law__1784 (by decide) rfl rfl ?_
  refine g_aload_n dL_law__1786 rfl rfl ?_
  refine g_aload_n dL_law__1787 rfl rfl ?_
  refine g_iload dL_law__1788 rfl ?_
  refine g_iconst dL_law__1790 ?_
  refine g_iadd dL_law__1791 ?_
  refine g_sld dL_law__1792 (by omega) (by omega) hL ?_
  refine g_callV 68 [iv (xs (i + 1).toNat).toInt] hS3 (fun _ _ _ hx => hx) dL_law__1793 cs_L_187 im_X9_live (by decide) c68 rfl (by omega) (Nat.zero_le _) (Nat.zero_le _) rfl rfl (by decide) rfl rfl (fun v n2 h3 q => ?_)
  obtain ⟨rfl, ⟨z, rfl, hz⟩, cl3, hr3, c96b⟩ := r_after cl2 c96 q
  dsimp only [Option.toList, List.cons_append, List.nil_append]
  obtain ⟨g3, w3, c68b, e0⟩ := ref_th hr3
  refine g_istore (lv2 := LV i ++ [(5, iv (k : Int)), (6, iv z)]) dL_law__1796 (by decide) rfl rfl ?_
  refine g_aload_n dL_law__1798 rfl rfl ?_
  refine g_callV 68 [] (s_X9_thrown c68b) (fun _ _ _ hx => hx) dL_law__1799 cs_L_104 im_X9_thrown (by decide) c68b rfl (by omega) (Nat.zero_le _) (Nat.zero_le _) rfl rfl (by decide) rfl rfl (fun v n2 h4 q => ?_)
  obtain ⟨rfl, rfl, rfl⟩ := q
  dsimp only [Option.toList, List.cons_append, List.nil_append]
  rw [e0]
  refine g_iload dL_law__1802 rfl ?_
  refine g_icmp_eq (tgt := 1809) dL_law__1804 (by decide) ⟨by omega, by omega⟩ ⟨by omega, by omega⟩ (fun _ => ?_) (fun h9 => absurd rfl h9)
  have fin : EvG (zS b0 L0 xs) RL "law" cL_law_ 7 (some .boolean) d (mc - 1 - 0 - 0) (ms - 6 - 0 - 0) Q noX 97 h4 1826 (LV i ++ [(5, iv (k : Int)), (6, iv z)]) [] := by
    refine g_goto (tgt := 2069) dL_law__1826 (by decide) ?_
    refine g_lv (lv2 := LV i) rfl ?_
    exact kk _ ⟨S2, _, f2, cl3, hr3, c96b⟩
  refine g_iload dL_law__1809 rfl ?_
  refine g_if_ne (tgt := 1826) dL_law__1811 (by decide) ⟨by omega, by omega⟩ (fun _ => fin) (fun h9 => ?_)
  have hk0 : k = 0 := by omega
  refine g_aload_n dL_law__1814 rfl rfl ?_
  refine g_iconst dL_law__1815 ?_
  refine g_lald dL_law__1816 (by decide) c96b (by decide) (by decide) (by decide) ?_
  refine g_iload dL_law__1817 rfl ?_
  refine g_i2l dL_law__1819 ?_
  rw [show f2 (0 : Int).toNat = nz z by rw [hz hk0]; exact hf hk0]
  refine g_lcmp0 dL_law__1820 ?_
  exact g_if_eq (tgt := 1826) dL_law__1821 (by decide) (by decide) (fun _ => fin) (fun h9 => absurd rfl h9)
theorem csh_middle : CSH RL 188 yL_middle cL_middle 6 (some .int) [(0, 12, 15, 22), (0, 12, 19, 13)] 5 := ⟨inT6 19 rfl rfl, cw_L_middle, ini_L, sl_L_middle, ⟨by decide +kernel, by decide +kernel, by decide +kernel⟩, by decide⟩
theorem lc_middle {b0 L0 : Nat} {xs : Nat → Int32} {d mc ms : Nat} {Q : Option Value → Nat → aH → Prop} (hd : 40 ≤ d) (hmc : 3 ≤ mc) (hms : 18 ≤ ms) {h : aH} (iv9 : Inv h) {i : Int} (hi : 0 ≤ i ∧ i + 6 ≤ L0) (hL : L0 ≤ 3072) (kk : ∀ h', Inv h' → EvG (zS b0 L0 xs) RL "law" cL_law_ 7 (some .boolean) d (mc - 3) (ms - 18) Q noX 97 h' 2069 (LV i) []) : EvG (zS b0 L0 xs) RL "law" cL_law_ 7 (some .boolean) d mc ms Q noX 97 h 1829 (LV i) [] := by
  obtain ⟨S, th, f, hc, hr, h96⟩ := iv9
  obtain ⟨fs0, c0⟩ := cls_0 hc
  obtain ⟨Q1, X1, hS0, q1, q2⟩ := a_middle hc hr (sx_R xs (i + 1).toNat) (sx_R xs (i + 2).toNat) (sx_R xs (i + 3).toNat)
  refine g_aload_n dL_law__1829 rfl rfl ?_
  refine g_aload_n dL_law__1830 rfl rfl ?_
  refine g_iload dL_law__1831 rfl ?_
  refine g_iconst dL_law__1833 ?_
  refine g_iadd dL_law__1834 ?_
  refine g_sld dL_law__1835 (by omega) (by omega) hL ?_
  refine g_aload_n dL_law__1836 rfl rfl ?_
  refine g_iload dL_law__1837 rfl ?_
  refine g_iconst dL_law__1839 ?_
  refine g_iadd dL_law__1840 ?_
  refine g_sld dL_law__1841 (by omega) (by omega) hL ?_
  refine g_aload_n dL_law__1842 rfl rfl ?_
  refine g_iload dL_law__1843 rfl ?_
  refine g_iconst dL_law__1845 ?_
  refine g_iadd dL_law__1846 ?_
  refine g_sld dL_law__1847 (by omega) (by omega) hL ?_
  refine g_aload_n dL_law__1848 rfl rfl ?_
  refine g_callSH [.ref 0, iv (xs (i + 1).toNat).toInt, iv (xs (i + 2).toNat).toInt, iv (xs (i + 3).toNat).toInt, .ref 96] (s_L_middle hS0 c0 h96 (fun v n2 h2 q => ⟨(q1 v n2 h2 q).1, by obtain ⟨r, S2, e, -⟩ := (q1 v n2 h2 q).2.2; exact ⟨r, e⟩, (q1 v n2 h2 q).2.1 96 (by decide)⟩) (fun E n2 h2 q => ⟨(q2 E n2 h2 q).1, (q2 E n2 h2 q).2.1⟩)) dL_law__1849 csh_middle (by omega) hmc hms rfl rfl (by decide) rfl rfl (fun v n2 h2 q => ?_)
  obtain ⟨rfl, hr2, k, r, S2, f2, rfl, hk, cl2, c96, hf, hS3⟩ := w_after (ref := fun h' c r S' => mSem yX9_middle cX9_middle 4 (some .int) 7 0 0 [.ref 68, iv (xs (i + 1).toNat).toInt, iv (xs (i + 2).toNat).toInt, iv (xs (i + 3).toNat).toInt] 97 h' (RefQ c r h' S') noX) (ex := fun E => E = nmN ∨ E = nmI) (zN := 1) (zI := 2) hr h96 q1 q2 q (by decide)
  dsimp only [Option.toList, List.cons_append, List.nil_append]
  obtain ⟨g, w, c68, -⟩ := ref_th hr2
  refine g_istore (lv2 := LV i ++ [(5, iv (k : Int))]) dL_law__1852 (by decide) rfl rfl ?_
  refine g_aload_n dL_law__1854 rfl rfl ?_
  refine g_aload_n dL_law__1855 rfl rfl ?_
  refine g_iload dL_law__1856 rfl ?_
  refine g_iconst dL_law__1858 ?_
  refine g_iadd dL_law__1859 ?_
  refine g_sld dL_law__1860 (by omega) (by omega) hL ?_
  refine g_aload_n dL_law__1861 rfl rfl ?_
  refine g_iload dL_law__1862 rfl ?_
  refine g_iconst dL_law__1864 ?_
  refine g_iadd dL_law__1865 ?_
  refine g_sld dL_law__1866 (by omega) (by omega) hL ?_
  refine g_aload_n dL_law__1867 rfl rfl ?_
  refine g_iload dL_law__1868 rfl ?_
  refine g_iconst dL_law__1870 ?_
  refine g_iadd dL_law__1871 ?_
  refine g_sld dL_law__1872 (by omega) (by omega) hL ?_
  refine g_callV 68 [iv (xs (i + 1).toNat).toInt, iv (xs (i + 2).toNat).toInt, iv (xs (i + 3).toNat).toInt] hS3 (fun _ _ _ hx => hx) dL_law__1873 cs_L_190 im_X9_middle (by decide) c68 rfl (by omega) (Nat.zero_le _) (Nat.zero_le _) rfl rfl (by decide) rfl rfl (fun v n2 h3 q => ?_)
  obtain ⟨rfl, ⟨z, rfl, hz⟩, cl3, hr3, c96b⟩ := r_after cl2 c96 q
  dsimp only [Option.toList, List.cons_append, List.nil_append]
  obtain ⟨g3, w3, c68b, e0⟩ := ref_th hr3
  refine g_istore (lv2 := LV i ++ [(5, iv (k : Int)), (6, iv z)]) dL_law__1876 (by decide) rfl rfl ?_
  refine g_aload_n dL_law__1878 rfl rfl ?_
  refine g_callV 68 [] (s_X9_thrown c68b) (fun _ _ _ hx => hx) dL_law__1879 cs_L_104 im_X9_thrown (by decide) c68b rfl (by omega) (Nat.zero_le _) (Nat.zero_le _) rfl rfl (by decide) rfl rfl (fun v n2 h4 q => ?_)
  obtain ⟨rfl, rfl, rfl⟩ := q
  dsimp only [Option.toList, List.cons_append, List.nil_append]
  rw [e0]
  refine g_iload dL_law__1882 rfl ?_
  refine g_icmp_eq (tgt := 1889) dL_law__1884 (by decide) ⟨by omega, by omega⟩ ⟨by omega, by omega⟩ (fun _ => ?_) (fun h9 => absurd rfl h9)
  have fin : EvG (zS b0 L0 xs) RL "law" cL_law_ 7 (some .boolean) d (mc - 3 - 0 - 0) (ms - 18 - 0 - 0) Q noX 97 h4 1906 (LV i ++ [(5, iv (k : Int)), (6, iv z)]) [] := by
    refine g_goto (tgt := 2069) dL_law__1906 (by decide) ?_
    refine g_lv (lv2 := LV i) rfl ?_
    exact kk _ ⟨S2, _, f2, cl3, hr3, c96b⟩
  refine g_iload dL_law__1889 rfl ?_
  refine g_if_ne (tgt := 1906) dL_law__1891 (by decide) ⟨by omega, by omega⟩ (fun _ => fin) (fun h9 => ?_)
  have hk0 : k = 0 := by omega
  refine g_aload_n dL_law__1894 rfl rfl ?_
  refine g_iconst dL_law__1895 ?_
  refine g_lald dL_law__1896 (by decide) c96b (by decide) (by decide) (by decide) ?_
  refine g_iload dL_law__1897 rfl ?_
  refine g_i2l dL_law__1899 ?_
  rw [show f2 (0 : Int).toNat = nz z by rw [hz hk0]; exact hf hk0]
  refine g_lcmp0 dL_law__1900 ?_
  exact g_if_eq (tgt := 1906) dL_law__1901 (by decide) (by decide) (fun _ => fin) (fun h9 => absurd rfl h9)
theorem csh_together : CSH RL 191 yL_together cL_together 5 (some .int) [(0, 10, 13, 22)] 4 := ⟨inT6 28 rfl rfl, cw_L_together, ini_L, sl_L_together, ⟨by decide +kernel, by decide +kernel, by decide +kernel⟩, by decide⟩
theorem lc_together {b0 L0 : Nat} {xs : Nat → Int32} {d mc ms : Nat} {Q : Option Value → Nat → aH → Prop} (hd : 40 ≤ d) (hmc : 2 ≤ mc) (hms : 12 ≤ ms) {h : aH} (iv9 : Inv h) {i : Int} (hi : 0 ≤ i ∧ i + 6 ≤ L0) (hL : L0 ≤ 3072) (kk : ∀ h', Inv h' → EvG (zS b0 L0 xs) RL "law" cL_law_ 7 (some .boolean) d (mc - 2) (ms - 12) Q noX 97 h' 2069 (LV i) []) : EvG (zS b0 L0 xs) RL "law" cL_law_ 7 (some .boolean) d mc ms Q noX 97 h 1909 (LV i) [] := by
  obtain ⟨S, th, f, hc, hr, h96⟩ := iv9
  obtain ⟨fs0, c0⟩ := cls_0 hc
  obtain ⟨Q1, X1, hS0, q1, q2⟩ := a_together hc hr (sx_R xs (i + 1).toNat) (sx_R xs (i + 2).toNat)
  refine g_aload_n dL_law__1909 rfl rfl ?_
  refine g_aload_n dL_law__1910 rfl rfl ?_
  refine g_iload dL_law__1911 rfl ?_
  refine g_iconst dL_law__1913 ?_
  refine g_iadd dL_law__1914 ?_
  refine g_sld dL_law__1915 (by omega) (by omega) hL ?_
  refine g_aload_n dL_law__1916 rfl rfl ?_
  refine g_iload dL_law__1917 rfl ?_
  refine g_iconst dL_law__1919 ?_
  refine g_iadd dL_law__1920 ?_
  refine g_sld dL_law__1921 (by omega) (by omega) hL ?_
  refine g_aload_n dL_law__1922 rfl rfl ?_
  refine g_callSH [.ref 0, iv (xs (i + 1).toNat).toInt, iv (xs (i + 2).toNat).toInt, .ref 96] (s_L_together hS0 c0 h96 (fun v n2 h2 q => ⟨(q1 v n2 h2 q).1, by obtain ⟨r, S2, e, -⟩ := (q1 v n2 h2 q).2.2; exact ⟨r, e⟩, (q1 v n2 h2 q).2.1 96 (by decide)⟩) (fun E n2 h2 q => ⟨(q2 E n2 h2 q).1, (q2 E n2 h2 q).2.1⟩)) dL_law__1923 csh_together (by omega) hmc hms rfl rfl (by decide) rfl rfl (fun v n2 h2 q => ?_)
  obtain ⟨rfl, hr2, k, r, S2, f2, rfl, hk, cl2, c96, hf, hS3⟩ := w_after (ref := fun h' c r S' => mSem yX9_together cX9_together 9 (some .int) 7 0 0 [.ref 68, iv (xs (i + 1).toNat).toInt, iv (xs (i + 2).toNat).toInt] 97 h' (RefQ c r h' S') noX) (ex := fun E => E = nmN) (zN := 1) (zI := 2) hr h96 q1 q2 q (by decide)
  dsimp only [Option.toList, List.cons_append, List.nil_append]
  obtain ⟨g, w, c68, -⟩ := ref_th hr2
  refine g_istore (lv2 := LV i ++ [(5, iv (k : Int))]) dL_law__1926 (by decide) rfl rfl ?_
  refine g_aload_n dL_law__1928 rfl rfl ?_
  refine g_aload_n dL_law__1929 rfl rfl ?_
  refine g_iload dL_law__1930 rfl ?_
  refine g_iconst dL_law__1932 ?_
  refine g_iadd dL_law__1933 ?_
  refine g_sld dL_law__1934 (by omega) (by omega) hL ?_
  refine g_aload_n dL_law__1935 rfl rfl ?_
  refine g_iload dL_law__1936 rfl ?_
  refine g_iconst dL_law__1938 ?_
  refine g_iadd dL_law__1939 ?_
  refine g_sld dL_law__1940 (by omega) (by omega) hL ?_
  refine g_callV 68 [iv (xs (i + 1).toNat).toInt, iv (xs (i + 2).toNat).toInt] hS3 (fun _ _ _ hx => hx) dL_law__1941 cs_L_193 im_X9_together (by decide) c68 rfl (by omega) (Nat.zero_le _) (Nat.zero_le _) rfl rfl (by decide) rfl rfl (fun v n2 h3 q => ?_)
  obtain ⟨rfl, ⟨z, rfl, hz⟩, cl3, hr3, c96b⟩ := r_after cl2 c96 q
  dsimp only [Option.toList, List.cons_append, List.nil_append]
  obtain ⟨g3, w3, c68b, e0⟩ := ref_th hr3
  refine g_istore (lv2 := LV i ++ [(5, iv (k : Int)), (6, iv z)]) dL_law__1944 (by decide) rfl rfl ?_
  refine g_aload_n dL_law__1946 rfl rfl ?_
  refine g_callV 68 [] (s_X9_thrown c68b) (fun _ _ _ hx => hx) dL_law__1947 cs_L_104 im_X9_thrown (by decide) c68b rfl (by omega) (Nat.zero_le _) (Nat.zero_le _) rfl rfl (by decide) rfl rfl (fun v n2 h4 q => ?_)
  obtain ⟨rfl, rfl, rfl⟩ := q
  dsimp only [Option.toList, List.cons_append, List.nil_append]
  rw [e0]
  refine g_iload dL_law__1950 rfl ?_
  refine g_icmp_eq (tgt := 1957) dL_law__1952 (by decide) ⟨by omega, by omega⟩ ⟨by omega, by omega⟩ (fun _ => ?_) (fun h9 => absurd rfl h9)
  have fin : EvG (zS b0 L0 xs) RL "law" cL_law_ 7 (some .boolean) d (mc - 2 - 0 - 0) (ms - 12 - 0 - 0) Q noX 97 h4 1974 (LV i ++ [(5, iv (k : Int)), (6, iv z)]) [] := by
    refine g_goto (tgt := 2069) dL_law__1974 (by decide) ?_
    refine g_lv (lv2 := LV i) rfl ?_
    exact kk _ ⟨S2, _, f2, cl3, hr3, c96b⟩
  refine g_iload dL_law__1957 rfl ?_
  refine g_if_ne (tgt := 1974) dL_law__1959 (by decide) ⟨by omega, by omega⟩ (fun _ => fin) (fun h9 => ?_)
  have hk0 : k = 0 := by omega
  refine g_aload_n dL_law__1962 rfl rfl ?_
  refine g_iconst dL_law__1963 ?_
  refine g_lald dL_law__1964 (by decide) c96b (by decide) (by decide) (by decide) ?_
  refine g_iload dL_law__1965 rfl ?_
  refine g_i2l dL_law__1967 ?_
  rw [show f2 (0 : Int).toNat = nz z by rw [hz hk0]; exact hf hk0]
  refine g_lcmp0 dL_law__1968 ?_
  exact g_if_eq (tgt := 1974) dL_law__1969 (by decide) (by decide) (fun _ => fin) (fun h9 => absurd rfl h9)
theorem csh_takes : CSH RL 194 yL_takes cL_takes 5 (some .int) [(0, 10, 13, 22)] 4 := ⟨inT6 51 rfl rfl, cw_L_takes, ini_L, sl_L_takes, ⟨by decide +kernel, by decide +kernel, by decide +kernel⟩, by decide⟩
theorem lc_takes {b0 L0 : Nat} {xs : Nat → Int32} {d mc ms : Nat} {Q : Option Value → Nat → aH → Prop} (hd : 40 ≤ d) (hmc : 2 ≤ mc) (hms : 12 ≤ ms) {h : aH} (iv9 : Inv h) {i : Int} (hi : 0 ≤ i ∧ i + 6 ≤ L0) (hL : L0 ≤ 3072) (kk : ∀ h', Inv h' → EvG (zS b0 L0 xs) RL "law" cL_law_ 7 (some .boolean) d (mc - 2) (ms - 12) Q noX 97 h' 2069 (LV i) []) : EvG (zS b0 L0 xs) RL "law" cL_law_ 7 (some .boolean) d mc ms Q noX 97 h 1977 (LV i) [] := by
  obtain ⟨S, th, f, hc, hr, h96⟩ := iv9
  obtain ⟨fs0, c0⟩ := cls_0 hc
  obtain ⟨Q1, X1, hS0, q1, q2⟩ := a_takes hc hr (sx_R xs (i + 1).toNat) (sx_R xs (i + 2).toNat)
  refine g_aload_n dL_law__1977 rfl rfl ?_
  refine g_aload_n dL_law__1978 rfl rfl ?_
  refine g_iload dL_law__1979 rfl ?_
  refine g_iconst dL_law__1981 ?_
  refine g_iadd dL_law__1982 ?_
  refine g_sld dL_law__1983 (by omega) (by omega) hL ?_
  refine g_aload_n dL_law__1984 rfl rfl ?_
  refine g_iload dL_law__1985 rfl ?_
  refine g_iconst dL_law__1987 ?_
  refine g_iadd dL_law__1988 ?_
  refine g_sld dL_law__1989 (by omega) (by omega) hL ?_
  refine g_aload_n dL_law__1990 rfl rfl ?_
  refine g_callSH [.ref 0, iv (xs (i + 1).toNat).toInt, iv (xs (i + 2).toNat).toInt, .ref 96] (s_L_takes hS0 c0 h96 (fun v n2 h2 q => ⟨(q1 v n2 h2 q).1, by obtain ⟨r, S2, e, -⟩ := (q1 v n2 h2 q).2.2; exact ⟨r, e⟩, (q1 v n2 h2 q).2.1 96 (by decide)⟩) (fun E n2 h2 q => ⟨(q2 E n2 h2 q).1, (q2 E n2 h2 q).2.1⟩)) dL_law__1991 csh_takes (by omega) hmc hms rfl rfl (by decide) rfl rfl (fun v n2 h2 q => ?_)
  obtain ⟨rfl, hr2, k, r, S2, f2, rfl, hk, cl2, c96, hf, hS3⟩ := w_after (ref := fun h' c r S' => mSem yX9_takes cX9_takes 6 (some .int) 6 0 0 [.ref 68, iv (xs (i + 1).toNat).toInt, iv (xs (i + 2).toNat).toInt] 97 h' (RefQ c r h' S') noX) (ex := fun E => E = nmN) (zN := 1) (zI := 2) hr h96 q1 q2 q (by decide)
  dsimp only [Option.toList, List.cons_append, List.nil_append]
  obtain ⟨g, w, c68, -⟩ := ref_th hr2
  refine g_istore (lv2 := LV i ++ [(5, iv (k : Int))]) dL_law__1994 (by decide) rfl rfl ?_
  refine g_aload_n dL_law__1996 rfl rfl ?_
  refine g_aload_n dL_law__1997 rfl rfl ?_
  refine g_iload dL_law__1998 rfl ?_
  refine g_iconst dL_law__2000 ?_
  refine g_iadd dL_law__2001 ?_
  refine g_sld dL_law__2002 (by omega) (by omega) hL ?_
  refine g_aload_n dL_law__2003 rfl rfl ?_
  refine g_iload dL_law__2004 rfl ?_
  refine g_iconst dL_law__2006 ?_
  refine g_iadd dL_law__2007 ?_
  refine g_sld dL_law__2008 (by omega) (by omega) hL ?_
  refine g_callV 68 [iv (xs (i + 1).toNat).toInt, iv (xs (i + 2).toNat).toInt] hS3 (fun _ _ _ hx => hx) dL_law__2009 cs_L_196 im_X9_takes (by decide) c68 rfl (by omega) (Nat.zero_le _) (Nat.zero_le _) rfl rfl (by decide) rfl rfl (fun v n2 h3 q => ?_)
  obtain ⟨rfl, ⟨z, rfl, hz⟩, cl3, hr3, c96b⟩ := r_after cl2 c96 q
  dsimp only [Option.toList, List.cons_append, List.nil_append]
  obtain ⟨g3, w3, c68b, e0⟩ := ref_th hr3
  refine g_istore (lv2 := LV i ++ [(5, iv (k : Int)), (6, iv z)]) dL_law__2012 (by decide) rfl rfl ?_
  refine g_aload_n dL_law__2014 rfl rfl ?_
  refine g_callV 68 [] (s_X9_thrown c68b) (fun _ _ _ hx => hx) dL_law__2015 cs_L_104 im_X9_thrown (by decide) c68b rfl (by omega) (Nat.zero_le _) (Nat.zero_le _) rfl rfl (by decide) rfl rfl (fun v n2 h4 q => ?_)
  obtain ⟨rfl, rfl, rfl⟩ := q
  dsimp only [Option.toList, List.cons_append, List.nil_append]
  rw [e0]
  refine g_iload dL_law__2018 rfl ?_
  refine g_icmp_eq (tgt := 2025) dL_law__2020 (by decide) ⟨by omega, by omega⟩ ⟨by omega, by omega⟩ (fun _ => ?_) (fun h9 => absurd rfl h9)
  have fin : EvG (zS b0 L0 xs) RL "law" cL_law_ 7 (some .boolean) d (mc - 2 - 0 - 0) (ms - 12 - 0 - 0) Q noX 97 h4 2042 (LV i ++ [(5, iv (k : Int)), (6, iv z)]) [] := by
    refine g_goto (tgt := 2069) dL_law__2042 (by decide) ?_
    refine g_lv (lv2 := LV i) rfl ?_
    exact kk _ ⟨S2, _, f2, cl3, hr3, c96b⟩
  refine g_iload dL_law__2025 rfl ?_
  refine g_if_ne (tgt := 2042) dL_law__2027 (by decide) ⟨by omega, by omega⟩ (fun _ => fin) (fun h9 => ?_)
  have hk0 : k = 0 := by omega
  refine g_aload_n dL_law__2030 rfl rfl ?_
  refine g_iconst dL_law__2031 ?_
  refine g_lald dL_law__2032 (by decide) c96b (by decide) (by decide) (by decide) ?_
  refine g_iload dL_law__2033 rfl ?_
  refine g_i2l dL_law__2035 ?_
  rw [show f2 (0 : Int).toNat = nz z by rw [hz hk0]; exact hf hk0]
  refine g_lcmp0 dL_law__2036 ?_
  exact g_if_eq (tgt := 2042) dL_law__2037 (by decide) (by decide) (fun _ => fin) (fun h9 => absurd rfl h9)
theorem csh_law : CSH RL 108 yL_law cL_law 4 (some .int) [(0, 9, 12, 13)] 3 := ⟨inT3 181 rfl rfl, cw_L_law, ini_L, sl_L_law, ⟨by decide +kernel, by decide +kernel, by decide +kernel⟩, by decide⟩
theorem lc_law {b0 L0 : Nat} {xs : Nat → Int32} {d mc ms : Nat} {Q : Option Value → Nat → aH → Prop} (hd : 40 ≤ d) (hmc : 1 ≤ mc) (hms : 6 ≤ ms) {h : aH} (iv9 : Inv h) {i : Int} (hi : 0 ≤ i ∧ i + 6 ≤ L0) (hL : L0 ≤ 3072) (kk : ∀ h', Inv h' → EvG (zS b0 L0 xs) RL "law" cL_law_ 7 (some .boolean) d (mc - 1) (ms - 6) Q noX 97 h' 2069 (LV i) []) : EvG (zS b0 L0 xs) RL "law" cL_law_ 7 (some .boolean) d mc ms Q noX 97 h 309 (LV i) [] := by
  obtain ⟨S, th, f, hc, hr, h96⟩ := iv9
  obtain ⟨fs0, c0⟩ := cls_0 hc
  obtain ⟨Q1, X1, hS0, q1, q2⟩ := a_law hc hr (sx_R xs (i + 1).toNat)
  refine g_aload_n dL_law__309 rfl rfl ?_
  refine g_aload_n dL_law__310 rfl rfl ?_
  refine g_iload dL_law__311 rfl ?_
  refine g_iconst dL_law__313 ?_
  refine g_iadd dL_law__314 ?_
  refine g_sld dL_law__315 (by omega) (by omega) hL ?_
  refine g_aload_n dL_law__316 rfl rfl ?_
  refine g_callSH [.ref 0, iv (xs (i + 1).toNat).toInt, .ref 96] (s_L_law hS0 c0 h96 (fun v n2 h2 q => ⟨(q1 v n2 h2 q).1, by obtain ⟨r, S2, e, -⟩ := (q1 v n2 h2 q).2.2; exact ⟨r, e⟩, (q1 v n2 h2 q).2.1 96 (by decide)⟩) (fun E n2 h2 q => ⟨(q2 E n2 h2 q).1, (q2 E n2 h2 q).2.1⟩)) dL_law__317 csh_law (by omega) hmc hms rfl rfl (by decide) rfl rfl (fun v n2 h2 q => ?_)
  obtain ⟨rfl, hr2, k, r, S2, f2, rfl, hk, cl2, c96, hf, hS3⟩ := w_after (ref := fun h' c r S' => mSem yX9_law cX9_law 3 (some .int) 6 0 0 [.ref 68, iv (xs (i + 1).toNat).toInt] 97 h' (RefQ c r h' S') noX) (ex := fun E => E = nmI) (zN := 1) (zI := 1) hr h96 q1 q2 q (by decide)
  dsimp only [Option.toList, List.cons_append, List.nil_append]
  obtain ⟨g, w, c68, -⟩ := ref_th hr2
  refine g_istore (lv2 := LV i ++ [(5, iv (k : Int))]) dL_law__320 (by decide) rfl rfl ?_
  refine g_aload_n dL_law__322 rfl rfl ?_
  refine g_aload_n dL_law__323 rfl rfl ?_
  refine g_iload dL_law__324 rfl ?_
  refine g_iconst dL_law__326 ?_
  refine g_iadd dL_law__327 ?_
  refine g_sld dL_law__328 (by omega) (by omega) hL ?_
  refine g_callV 68 [iv (xs (i + 1).toNat).toInt] hS3 (fun _ _ _ hx => hx) dL_law__329 cs_L_110 im_X9_law (by decide) c68 rfl (by omega) (Nat.zero_le _) (Nat.zero_le _) rfl rfl (by decide) rfl rfl (fun v n2 h3 q => ?_)
  obtain ⟨rfl, ⟨z, rfl, hz⟩, cl3, hr3, c96b⟩ := r_after cl2 c96 q
  dsimp only [Option.toList, List.cons_append, List.nil_append]
  obtain ⟨g3, w3, c68b, e0⟩ := ref_th hr3
  refine g_istore (lv2 := LV i ++ [(5, iv (k : Int)), (6, iv z)]) dL_law__332 (by decide) rfl rfl ?_
  refine g_aload_n dL_law__334 rfl rfl ?_
  refine g_callV 68 [] (s_X9_thrown c68b) (fun _ _ _ hx => hx) dL_law__335 cs_L_104 im_X9_thrown (by decide) c68b rfl (by omega) (Nat.zero_le _) (Nat.zero_le _) rfl rfl (by decide) rfl rfl (fun v n2 h4 q => ?_)
  obtain ⟨rfl, rfl, rfl⟩ := q
  dsimp only [Option.toList, List.cons_append, List.nil_append]
  rw [e0]
  refine g_iload dL_law__338 rfl ?_
  refine g_icmp_eq (tgt := 345) dL_law__340 (by decide) ⟨by omega, by omega⟩ ⟨by omega, by omega⟩ (fun _ => ?_) (fun h9 => absurd rfl h9)
  have fin : EvG (zS b0 L0 xs) RL "law" cL_law_ 7 (some .boolean) d (mc - 1 - 0 - 0) (ms - 6 - 0 - 0) Q noX 97 h4 362 (LV i ++ [(5, iv (k : Int)), (6, iv z)]) [] := by
    refine g_goto (tgt := 2069) dL_law__362 (by decide) ?_
    refine g_lv (lv2 := LV i) rfl ?_
    exact kk _ ⟨S2, _, f2, cl3, hr3, c96b⟩
  refine g_iload dL_law__345 rfl ?_
  refine g_if_ne (tgt := 362) dL_law__347 (by decide) ⟨by omega, by omega⟩ (fun _ => fin) (fun h9 => ?_)
  have hk0 : k = 0 := by omega
  refine g_aload_n dL_law__350 rfl rfl ?_
  refine g_iconst dL_law__351 ?_
  refine g_lald dL_law__352 (by decide) c96b (by decide) (by decide) (by decide) ?_
  refine g_iload dL_law__353 rfl ?_
  refine g_i2l dL_law__355 ?_
  rw [show f2 (0 : Int).toNat = nz z by rw [hz hk0]; exact hf hk0]
  refine g_lcmp0 dL_law__356 ?_
  exact g_if_eq (tgt := 362) dL_law__357 (by decide) (by decide) (fun _ => fin) (fun h9 => absurd rfl h9)
theorem csh_port : CSH RL 98 yL_port cL_port 4 (some .int) [(0, 9, 12, 13)] 3 := ⟨inT2 179 rfl rfl, cw_L_port, ini_L, sl_L_port, ⟨by decide +kernel, by decide +kernel, by decide +kernel⟩, by decide⟩
theorem lc_port {b0 L0 : Nat} {xs : Nat → Int32} {d mc ms : Nat} {Q : Option Value → Nat → aH → Prop} (hd : 40 ≤ d) (hmc : 1 ≤ mc) (hms : 6 ≤ ms) {h : aH} (iv9 : Inv h) {i : Int} (hi : 0 ≤ i ∧ i + 6 ≤ L0) (hL : L0 ≤ 3072) (kk : ∀ h', Inv h' → EvG (zS b0 L0 xs) RL "law" cL_law_ 7 (some .boolean) d (mc - 1) (ms - 6) Q noX 97 h' 2069 (LV i) []) : EvG (zS b0 L0 xs) RL "law" cL_law_ 7 (some .boolean) d mc ms Q noX 97 h 253 (LV i) [] := by
  obtain ⟨S, th, f, hc, hr, h96⟩ := iv9
  obtain ⟨fs0, c0⟩ := cls_0 hc
  obtain ⟨Q1, X1, hS0, q1, q2⟩ := a_port hc hr (sx_R xs (i + 1).toNat)
  refine g_aload_n dL_law__253 rfl rfl ?_
  refine g_aload_n dL_law__254 rfl rfl ?_
  refine g_iload dL_law__255 rfl ?_
  refine g_iconst dL_law__257 ?_
  refine g_iadd dL_law__258 ?_
  refine g_sld dL_law__259 (by omega) (by omega) hL ?_
  refine g_aload_n dL_law__260 rfl rfl ?_
  refine g_callSH [.ref 0, iv (xs (i + 1).toNat).toInt, .ref 96] (s_L_port hS0 c0 h96 (fun v n2 h2 q => ⟨(q1 v n2 h2 q).1, by obtain ⟨r, S2, e, -⟩ := (q1 v n2 h2 q).2.2; exact ⟨r, e⟩, (q1 v n2 h2 q).2.1 96 (by decide)⟩) (fun E n2 h2 q => ⟨(q2 E n2 h2 q).1, (q2 E n2 h2 q).2.1⟩)) dL_law__261 csh_port (by omega) hmc hms rfl rfl (by decide) rfl rfl (fun v n2 h2 q => ?_)
  obtain ⟨rfl, hr2, k, r, S2, f2, rfl, hk, cl2, c96, hf, hS3⟩ := w_after (ref := fun h' c r S' => mSem yX9_port cX9_port 3 (some .int) 7 0 0 [.ref 68, iv (xs (i + 1).toNat).toInt] 97 h' (RefQ c r h' S') noX) (ex := fun E => E = nmI) (zN := 1) (zI := 1) hr h96 q1 q2 q (by decide)
  dsimp only [Option.toList, List.cons_append, List.nil_append]
  obtain ⟨g, w, c68, -⟩ := ref_th hr2
  refine g_istore (lv2 := LV i ++ [(5, iv (k : Int))]) dL_law__264 (by decide) rfl rfl ?_
  refine g_aload_n dL_law__266 rfl rfl ?_
  refine g_aload_n dL_law__267 rfl rfl ?_
  refine g_iload dL_law__268 rfl ?_
  refine g_iconst dL_law__270 ?_
  refine g_iadd dL_law__271 ?_
  refine g_sld dL_law__272 (by omega) (by omega) hL ?_
  refine g_callV 68 [iv (xs (i + 1).toNat).toInt] hS3 (fun _ _ _ hx => hx) dL_law__273 cs_L_103 im_X9_port (by decide) c68 rfl (by omega) (Nat.zero_le _) (Nat.zero_le _) rfl rfl (by decide) rfl rfl (fun v n2 h3 q => ?_)
  obtain ⟨rfl, ⟨z, rfl, hz⟩, cl3, hr3, c96b⟩ := r_after cl2 c96 q
  dsimp only [Option.toList, List.cons_append, List.nil_append]
  obtain ⟨g3, w3, c68b, e0⟩ := ref_th hr3
  refine g_istore (lv2 := LV i ++ [(5, iv (k : Int)), (6, iv z)]) dL_law__276 (by decide) rfl rfl ?_
  refine g_aload_n dL_law__278 rfl rfl ?_
  refine g_callV 68 [] (s_X9_thrown c68b) (fun _ _ _ hx => hx) dL_law__279 cs_L_104 im_X9_thrown (by decide) c68b rfl (by omega) (Nat.zero_le _) (Nat.zero_le _) rfl rfl (by decide) rfl rfl (fun v n2 h4 q => ?_)
  obtain ⟨rfl, rfl, rfl⟩ := q
  dsimp only [Option.toList, List.cons_append, List.nil_append]
  rw [e0]
  refine g_iload dL_law__282 rfl ?_
  refine g_icmp_eq (tgt := 289) dL_law__284 (by decide) ⟨by omega, by omega⟩ ⟨by omega, by omega⟩ (fun _ => ?_) (fun h9 => absurd rfl h9)
  have fin : EvG (zS b0 L0 xs) RL "law" cL_law_ 7 (some .boolean) d (mc - 1 - 0 - 0) (ms - 6 - 0 - 0) Q noX 97 h4 306 (LV i ++ [(5, iv (k : Int)), (6, iv z)]) [] := by
    refine g_goto (tgt := 2069) dL_law__306 (by decide) ?_
    refine g_lv (lv2 := LV i) rfl ?_
    exact kk _ ⟨S2, _, f2, cl3, hr3, c96b⟩
  refine g_iload dL_law__289 rfl ?_
  refine g_if_ne (tgt := 306) dL_law__291 (by decide) ⟨by omega, by omega⟩ (fun _ => fin) (fun h9 => ?_)
  have hk0 : k = 0 := by omega
  refine g_aload_n dL_law__294 rfl rfl ?_
  refine g_iconst dL_law__295 ?_
  refine g_lald dL_law__296 (by decide) c96b (by decide) (by decide) (by decide) ?_
  refine g_iload dL_law__297 rfl ?_
  refine g_i2l dL_law__299 ?_
  rw [show f2 (0 : Int).toNat = nz z by rw [hz hk0]; exact hf hk0]
  refine g_lcmp0 dL_law__300 ?_
  exact g_if_eq (tgt := 306) dL_law__301 (by decide) (by decide) (fun _ => fin) (fun h9 => absurd rfl h9)
section
variable {Z : ZT} {own name : String} {cc : ByteArray} {mL : Nat} {rt : Option FieldType} {d mc ms : Nat} {Q : Option Value → Nat → aH → Prop} {X : String → Nat → aH → Prop} {n : Nat} {h : aH} {pc : Nat} {lv : List (Nat × Value)} {st : List Value}
/-- two equal ints -/
theorem g_icmp_eqS {x off : Int} {tgt : Nat} (hd : decode cc pc = .ok (.if_icmp .eq off, 3)) (ht : (pc : Int) + off = (tgt : Int)) (k : EvG Z own name cc mL rt d mc ms Q X n h tgt lv st) : EvG Z own name cc mL rt d mc ms Q X n h pc lv (iv x :: iv x :: st) := by
  intro p l e R s m args below meth c D tc n0 ad0 ad adK A H locs cells slots MC MS ls fx rm wd hn he hl
  exact lv_icmp_eq fx.1 fx.2.1 hd ht (fun _ => k p l e R s m args below meth c D tc n0 ad0 ad adK A H locs cells slots MC MS ls fx rm wd hn he hl) (fun q => absurd rfl q)
end
theorem lc_feed {b0 L0 : Nat} {xs : Nat → Int32} {d mc ms : Nat} {Q : Option Value → Nat → aH → Prop} (hd : 40 ≤ d) {h : aH} (iv9 : Inv h) {i : Int} (hi : 0 ≤ i ∧ i + 6 ≤ L0) (hL : L0 ≤ 3072) (kk : ∀ h', Inv h' → EvG (zS b0 L0 xs) RL "law" cL_law_ 7 (some .boolean) d mc ms Q noX 97 h' 2069 (LV i) []) : EvG (zS b0 L0 xs) RL "law" cL_law_ 7 (some .boolean) d mc ms Q noX 97 h 180 (LV i) [] := by
  obtain ⟨S, th, f, hc, hr, h96⟩ := iv9
  obtain ⟨fs0, c0⟩ := cls_0 hc
  obtain ⟨t, tp, fpl, rf, hlaw, himg, ⟨⟨nd, sw, nc⟩, ⟨hl, hs⟩, K, U, I, O, G, L, cf, ct, fc, nx, cd⟩, ⟨⟨nr, ns, nm⟩, rd, ry, rm, rt, se, md, my, mt⟩, ⟨⟨nr2, ns2, nm2⟩, rd2, ry2, rm2, rt2, se2, md2, my2, mt2⟩, ls⟩ := S
  have hp := pub_sw (sw_av (as := [iv (xs (i + 1).toNat).toInt, iv (xs (i + 2).toNat).toInt, iv (xs (i + 3).toNat).toInt, iv (xs (i + 4).toNat).toInt, iv (xs (i + 5).toNat).toInt]) (fun _ => rfl)) (fun _ _ => rfl) (fun h cc => s_X8_feed cc (sx_R xs (i + 1).toNat) (sx_R xs (i + 2).toNat) (sx_R xs (i + 3).toNat) (sx_R xs (i + 4).toNat) (sx_R xs (i + 5).toNat)) hc
  refine g_aload_n dL_law__180 rfl rfl ?_
  refine g_aload_n dL_law__181 rfl rfl ?_
  refine g_iload dL_law__182 rfl ?_
  refine g_iconst dL_law__184 ?_
  refine g_iadd dL_law__185 ?_
  refine g_sld dL_law__186 (by omega) (by omega) hL ?_
  refine g_aload_n dL_law__187 rfl rfl ?_
  refine g_iload dL_law__188 rfl ?_
  refine g_iconst dL_law__190 ?_
  refine g_iadd dL_law__191 ?_
  refine g_sld dL_law__192 (by omega) (by omega) hL ?_
  refine g_aload_n dL_law__193 rfl rfl ?_
  refine g_iload dL_law__194 rfl ?_
  refine g_iconst dL_law__196 ?_
  refine g_iadd dL_law__197 ?_
  refine g_sld dL_law__198 (by omega) (by omega) hL ?_
  refine g_aload_n dL_law__199 rfl rfl ?_
  refine g_iload dL_law__200 rfl ?_
  refine g_iconst dL_law__202 ?_
  refine g_iadd dL_law__203 ?_
  refine g_sld dL_law__204 (by omega) (by omega) hL ?_
  refine g_aload_n dL_law__205 rfl rfl ?_
  refine g_iload dL_law__206 rfl ?_
  refine g_iconst dL_law__208 ?_
  refine g_iadd dL_law__209 ?_
  refine g_sld dL_law__210 (by omega) (by omega) hL ?_
  refine g_callV 0 [iv (xs (i + 1).toNat).toInt, iv (xs (i + 2).toNat).toInt, iv (xs (i + 3).toNat).toInt, iv (xs (i + 4).toNat).toInt, iv (xs (i + 5).toNat).toInt] hp (fun E n2 h2 q => by rcases q.1 with ⟨e, -⟩ | ⟨e, -⟩ <;> cases e) dL_law__211 cs_L_94 im_X8_feed (by decide) c0 rfl (by omega) (Nat.zero_le _) (Nat.zero_le _) rfl rfl (by decide) rfl rfl (fun v n2 h2 q => ?_)
  obtain ⟨-, rfl, rfl, cl2, fr⟩ := q
  dsimp only [Option.toList, List.cons_append, List.nil_append]
  have hr2 := ref_fr (fun j h1 _ => fr j h1) hr
  have c96 := (fr 96 (by decide)).trans h96
  obtain ⟨g, w, c68, -⟩ := ref_th hr2
  refine g_aload_n dL_law__214 rfl rfl ?_
  refine g_aload_n dL_law__215 rfl rfl ?_
  refine g_iload dL_law__216 rfl ?_
  refine g_iconst dL_law__218 ?_
  refine g_iadd dL_law__219 ?_
  refine g_sld dL_law__220 (by omega) (by omega) hL ?_
  refine g_aload_n dL_law__221 rfl rfl ?_
  refine g_iload dL_law__222 rfl ?_
  refine g_iconst dL_law__224 ?_
  refine g_iadd dL_law__225 ?_
  refine g_sld dL_law__226 (by omega) (by omega) hL ?_
  refine g_aload_n dL_law__227 rfl rfl ?_
  refine g_iload dL_law__228 rfl ?_
  refine g_iconst dL_law__230 ?_
  refine g_iadd dL_law__231 ?_
  refine g_sld dL_law__232 (by omega) (by omega) hL ?_
  refine g_aload_n dL_law__233 rfl rfl ?_
  refine g_iload dL_law__234 rfl ?_
  refine g_iconst dL_law__236 ?_
  refine g_iadd dL_law__237 ?_
  refine g_sld dL_law__238 (by omega) (by omega) hL ?_
  refine g_aload_n dL_law__239 rfl rfl ?_
  refine g_iload dL_law__240 rfl ?_
  refine g_iconst dL_law__242 ?_
  refine g_iadd dL_law__243 ?_
  refine g_sld dL_law__244 (by omega) (by omega) hL ?_
  refine g_callV 68 [iv (xs (i + 1).toNat).toInt, iv (xs (i + 2).toNat).toInt, iv (xs (i + 3).toNat).toInt, iv (xs (i + 4).toNat).toInt, iv (xs (i + 5).toNat).toInt] (s_X9_feed hr2 (sx_R xs (i + 1).toNat) (sx_R xs (i + 2).toNat) (sx_R xs (i + 3).toNat) (sx_R xs (i + 4).toNat) (sx_R xs (i + 5).toNat)) (fun _ _ _ hx => hx) dL_law__245 cs_L_97 im_X9_feed (by decide) c68 rfl (by omega) (Nat.zero_le _) (Nat.zero_le _) rfl rfl (Nat.le_of_ble_eq_true rfl) rfl rfl (fun v n2 h3 q => ?_)
  obtain ⟨rfl, ⟨z, rfl, hz⟩, hr3, fr3⟩ := q
  rw [hz rfl]
  dsimp only [Option.toList, List.cons_append, List.nil_append]
  have i3 : Inv h3 := ⟨_, _, f, cls_fr (fun j hj => fr3 j (Or.inl hj)) cl2, hr3, (fr3 96 (Or.inr (by decide))).trans c96⟩
  refine g_icmp_eqS (tgt := 2069) dL_law__248 (by decide) ?_
  exact kk _ i3
theorem lc_fault {b0 L0 : Nat} {xs : Nat → Int32} {d mc ms : Nat} {Q : Option Value → Nat → aH → Prop} (hd : 40 ≤ d) {h : aH} (iv9 : Inv h) {i : Int} (hi : 0 ≤ i ∧ i + 6 ≤ L0) (hL : L0 ≤ 3072) (kk : ∀ h', Inv h' → EvG (zS b0 L0 xs) RL "law" cL_law_ 7 (some .boolean) d mc ms Q noX 97 h' 2069 (LV i) []) : EvG (zS b0 L0 xs) RL "law" cL_law_ 7 (some .boolean) d mc ms Q noX 97 h 501 (LV i) [] := by
  obtain ⟨S, th, f, hc, hr, h96⟩ := iv9
  obtain ⟨fs0, c0⟩ := cls_0 hc
  obtain ⟨t, tp, fpl, rf, hlaw, himg, ⟨⟨nd, sw, nc⟩, ⟨hl, hs⟩, K, U, I, O, G, L, cf, ct, fc, nx, cd⟩, ⟨⟨nr, ns, nm⟩, rd, ry, rm, rt, se, md, my, mt⟩, ⟨⟨nr2, ns2, nm2⟩, rd2, ry2, rm2, rt2, se2, md2, my2, mt2⟩, ls⟩ := S
  have hp := pub_sw (sw_av (as := []) (fun _ => rfl)) (fun _ _ => rfl) (fun h cc => s_X8_fault cc ) hc
  refine g_aload_n dL_law__501 rfl rfl ?_
  refine g_callV 0 [] hp (fun E n2 h2 q => by rcases q.1 with ⟨e, -⟩ | ⟨e, -⟩ <;> cases e) dL_law__502 cs_L_118 im_X8_fault (by decide) c0 rfl (by omega) (Nat.zero_le _) (Nat.zero_le _) rfl rfl (by decide) rfl rfl (fun v n2 h2 q => ?_)
  obtain ⟨-, rfl, rfl, cl2, fr⟩ := q
  dsimp only [Option.toList, List.cons_append, List.nil_append]
  have hr2 := ref_fr (fun j h1 _ => fr j h1) hr
  have c96 := (fr 96 (by decide)).trans h96
  obtain ⟨g, w, c68, -⟩ := ref_th hr2
  refine g_aload_n dL_law__505 rfl rfl ?_
  refine g_callV 68 [] (s_X9_fault hr2 ) (fun _ _ _ hx => hx) dL_law__506 cs_L_121 im_X9_fault (by decide) c68 rfl (by omega) (Nat.zero_le _) (Nat.zero_le _) rfl rfl (Nat.le_of_ble_eq_true rfl) rfl rfl (fun v n2 h3 q => ?_)
  obtain ⟨rfl, ⟨z, rfl, hz⟩, hr3, fr3⟩ := q
  rw [hz rfl]
  dsimp only [Option.toList, List.cons_append, List.nil_append]
  have i3 : Inv h3 := ⟨_, _, f, cls_fr (fun j hj => fr3 j (Or.inl hj)) cl2, hr3, (fr3 96 (Or.inr (by decide))).trans c96⟩
  refine g_icmp_eqS (tgt := 2069) dL_law__509 (by decide) ?_
  exact kk _ i3
theorem lc_unread {b0 L0 : Nat} {xs : Nat → Int32} {d mc ms : Nat} {Q : Option Value → Nat → aH → Prop} (hd : 40 ≤ d) {h : aH} (iv9 : Inv h) {i : Int} (hi : 0 ≤ i ∧ i + 6 ≤ L0) (hL : L0 ≤ 3072) (kk : ∀ h', Inv h' → EvG (zS b0 L0 xs) RL "law" cL_law_ 7 (some .boolean) d mc ms Q noX 97 h' 2069 (LV i) []) : EvG (zS b0 L0 xs) RL "law" cL_law_ 7 (some .boolean) d mc ms Q noX 97 h 946 (LV i) [] := by
  obtain ⟨S, th, f, hc, hr, h96⟩ := iv9
  obtain ⟨fs0, c0⟩ := cls_0 hc
  obtain ⟨t, tp, fpl, rf, hlaw, himg, ⟨⟨nd, sw, nc⟩, ⟨hl, hs⟩, K, U, I, O, G, L, cf, ct, fc, nx, cd⟩, ⟨⟨nr, ns, nm⟩, rd, ry, rm, rt, se, md, my, mt⟩, ⟨⟨nr2, ns2, nm2⟩, rd2, ry2, rm2, rt2, se2, md2, my2, mt2⟩, ls⟩ := S
  have hp := pub_sw (sw_av (as := []) (fun _ => rfl)) (fun _ _ => rfl) (fun h cc => s_X8_unread cc ) hc
  refine g_aload_n dL_law__946 rfl rfl ?_
  refine g_callV 0 [] hp (fun E n2 h2 q => by rcases q.1 with ⟨e, -⟩ | ⟨e, -⟩ <;> cases e) dL_law__947 cs_L_142 im_X8_unread (by decide) c0 rfl (by omega) (Nat.zero_le _) (Nat.zero_le _) rfl rfl (by decide) rfl rfl (fun v n2 h2 q => ?_)
  obtain ⟨-, rfl, rfl, cl2, fr⟩ := q
  dsimp only [Option.toList, List.cons_append, List.nil_append]
  have hr2 := ref_fr (fun j h1 _ => fr j h1) hr
  have c96 := (fr 96 (by decide)).trans h96
  obtain ⟨g, w, c68, -⟩ := ref_th hr2
  refine g_aload_n dL_law__950 rfl rfl ?_
  refine g_callV 68 [] (s_X9_unread hr2 ) (fun _ _ _ hx => hx) dL_law__951 cs_L_145 im_X9_unread (by decide) c68 rfl (by omega) (Nat.zero_le _) (Nat.zero_le _) rfl rfl (Nat.le_of_ble_eq_true rfl) rfl rfl (fun v n2 h3 q => ?_)
  obtain ⟨rfl, ⟨z, rfl, hz⟩, hr3, fr3⟩ := q
  rw [hz rfl]
  dsimp only [Option.toList, List.cons_append, List.nil_append]
  have i3 : Inv h3 := ⟨_, _, f, cls_fr (fun j hj => fr3 j (Or.inl hj)) cl2, hr3, (fr3 96 (Or.inr (by decide))).trans c96⟩
  refine g_icmp_eqS (tgt := 2069) dL_law__954 (by decide) ?_
  exact kk _ i3
theorem lc_forget {b0 L0 : Nat} {xs : Nat → Int32} {d mc ms : Nat} {Q : Option Value → Nat → aH → Prop} (hd : 40 ≤ d) {h : aH} (iv9 : Inv h) {i : Int} (hi : 0 ≤ i ∧ i + 6 ≤ L0) (hL : L0 ≤ 3072) (kk : ∀ h', Inv h' → EvG (zS b0 L0 xs) RL "law" cL_law_ 7 (some .boolean) d mc ms Q noX 97 h' 2069 (LV i) []) : EvG (zS b0 L0 xs) RL "law" cL_law_ 7 (some .boolean) d mc ms Q noX 97 h 1175 (LV i) [] := by
  obtain ⟨S, th, f, hc, hr, h96⟩ := iv9
  obtain ⟨fs0, c0⟩ := cls_0 hc
  obtain ⟨t, tp, fpl, rf, hlaw, himg, ⟨⟨nd, sw, nc⟩, ⟨hl, hs⟩, K, U, I, O, G, L, cf, ct, fc, nx, cd⟩, ⟨⟨nr, ns, nm⟩, rd, ry, rm, rt, se, md, my, mt⟩, ⟨⟨nr2, ns2, nm2⟩, rd2, ry2, rm2, rt2, se2, md2, my2, mt2⟩, ls⟩ := S
  have hp := pub_sw (sw_av (as := []) (fun _ => rfl)) (fun _ _ => rfl) (fun h cc => s_X8_forget cc ) hc
  refine g_aload_n dL_law__1175 rfl rfl ?_
  refine g_callV 0 [] hp (fun E n2 h2 q => by rcases q.1 with ⟨e, -⟩ | ⟨e, -⟩ <;> cases e) dL_law__1176 cs_L_155 im_X8_forget (by decide) c0 rfl (by omega) (Nat.zero_le _) (Nat.zero_le _) rfl rfl (by decide) rfl rfl (fun v n2 h2 q => ?_)
  obtain ⟨-, rfl, rfl, cl2, fr⟩ := q
  dsimp only [Option.toList, List.cons_append, List.nil_append]
  have hr2 := ref_fr (fun j h1 _ => fr j h1) hr
  have c96 := (fr 96 (by decide)).trans h96
  obtain ⟨g, w, c68, -⟩ := ref_th hr2
  refine g_aload_n dL_law__1179 rfl rfl ?_
  refine g_callV 68 [] (s_X9_forget hr2 ) (fun _ _ _ hx => hx) dL_law__1180 cs_L_158 im_X9_forget (by decide) c68 rfl (by omega) (Nat.zero_le _) (Nat.zero_le _) rfl rfl (Nat.le_of_ble_eq_true rfl) rfl rfl (fun v n2 h3 q => ?_)
  obtain ⟨rfl, ⟨z, rfl, hz⟩, hr3, fr3⟩ := q
  rw [hz rfl]
  dsimp only [Option.toList, List.cons_append, List.nil_append]
  have i3 : Inv h3 := ⟨_, _, f, cls_fr (fun j hj => fr3 j (Or.inl hj)) cl2, hr3, (fr3 96 (Or.inr (by decide))).trans c96⟩
  refine g_icmp_eqS (tgt := 2069) dL_law__1183 (by decide) ?_
  exact kk _ i3
theorem lc_undo {b0 L0 : Nat} {xs : Nat → Int32} {d mc ms : Nat} {Q : Option Value → Nat → aH → Prop} (hd : 40 ≤ d) {h : aH} (iv9 : Inv h) {i : Int} (hi : 0 ≤ i ∧ i + 6 ≤ L0) (hL : L0 ≤ 3072) (kk : ∀ h', Inv h' → EvG (zS b0 L0 xs) RL "law" cL_law_ 7 (some .boolean) d mc ms Q noX 97 h' 2069 (LV i) []) : EvG (zS b0 L0 xs) RL "law" cL_law_ 7 (some .boolean) d mc ms Q noX 97 h 1588 (LV i) [] := by
  obtain ⟨S, th, f, hc, hr, h96⟩ := iv9
  obtain ⟨fs0, c0⟩ := cls_0 hc
  obtain ⟨t, tp, fpl, rf, hlaw, himg, ⟨⟨nd, sw, nc⟩, ⟨hl, hs⟩, K, U, I, O, G, L, cf, ct, fc, nx, cd⟩, ⟨⟨nr, ns, nm⟩, rd, ry, rm, rt, se, md, my, mt⟩, ⟨⟨nr2, ns2, nm2⟩, rd2, ry2, rm2, rt2, se2, md2, my2, mt2⟩, ls⟩ := S
  have hp := pub_sw (sw_av (as := []) (fun _ => rfl)) (fun _ _ => rfl) (fun h cc => s_X8_undo cc ) hc
  refine g_aload_n dL_law__1588 rfl rfl ?_
  refine g_callV 0 [] hp (fun E n2 h2 q => by rcases q.1 with ⟨e, -⟩ | ⟨e, -⟩ <;> cases e) dL_law__1589 cs_L_175 im_X8_undo (by decide) c0 rfl (by omega) (Nat.zero_le _) (Nat.zero_le _) rfl rfl (by decide) rfl rfl (fun v n2 h2 q => ?_)
  obtain ⟨-, rfl, rfl, cl2, fr⟩ := q
  dsimp only [Option.toList, List.cons_append, List.nil_append]
  have hr2 := ref_fr (fun j h1 _ => fr j h1) hr
  have c96 := (fr 96 (by decide)).trans h96
  obtain ⟨g, w, c68, -⟩ := ref_th hr2
  refine g_aload_n dL_law__1592 rfl rfl ?_
  refine g_callV 68 [] (s_X9_undo hr2 ) (fun _ _ _ hx => hx) dL_law__1593 cs_L_178 im_X9_undo (by decide) c68 rfl (by omega) (Nat.zero_le _) (Nat.zero_le _) rfl rfl (Nat.le_of_ble_eq_true rfl) rfl rfl (fun v n2 h3 q => ?_)
  obtain ⟨rfl, ⟨z, rfl, hz⟩, hr3, fr3⟩ := q
  rw [hz rfl]
  dsimp only [Option.toList, List.cons_append, List.nil_append]
  have i3 : Inv h3 := ⟨_, _, f, cls_fr (fun j hj => fr3 j (Or.inl hj)) cl2, hr3, (fr3 96 (Or.inr (by decide))).trans c96⟩
  refine g_icmp_eqS (tgt := 2069) dL_law__1596 (by decide) ?_
  exact kk _ i3
theorem lc_image {b0 L0 : Nat} {xs : Nat → Int32} {d mc ms : Nat} {Q : Option Value → Nat → aH → Prop} (hd : 40 ≤ d) {h : aH} (iv9 : Inv h) {i : Int} (hi : 0 ≤ i ∧ i + 6 ≤ L0) (hL : L0 ≤ 3072) (kk : ∀ h', Inv h' → EvG (zS b0 L0 xs) RL "law" cL_law_ 7 (some .boolean) d mc ms Q noX 97 h' 2069 (LV i) []) : EvG (zS b0 L0 xs) RL "law" cL_law_ 7 (some .boolean) d mc ms Q noX 97 h 2045 (LV i) [] := by
  obtain ⟨S, th, f, hc, hr, h96⟩ := iv9
  obtain ⟨fs0, c0⟩ := cls_0 hc
  obtain ⟨t, tp, fpl, rf, hlaw, himg, ⟨⟨nd, sw, nc⟩, ⟨hl, hs⟩, K, U, I, O, G, L, cf, ct, fc, nx, cd⟩, ⟨⟨nr, ns, nm⟩, rd, ry, rm, rt, se, md, my, mt⟩, ⟨⟨nr2, ns2, nm2⟩, rd2, ry2, rm2, rt2, se2, md2, my2, mt2⟩, ls⟩ := S
  have hp : mSem yX8_image cX8_image 1 none 2 0 0 [.ref 0] 97 h (PubQ 0 none h (imageS (t, tp, fpl, rf, hlaw, himg, ((nd, sw, nc), (hl, hs), K, U, I, O, G, L, cf, ct, fc, nx, cd), ((nr, ns, nm), rd, ry, rm, rt, se, md, my, mt), ((nr2, ns2, nm2), rd2, ry2, rm2, rt2, se2, md2, my2, mt2), ls))) noX := by
    obtain ⟨a, b, cc⟩ := hc
    exact mSem_sw a b (s_X8_image cc) (sw_av (as := []) (fun _ => rfl) a b) (fun v n2 h2 q => by obtain ⟨q1, q2, q3, q4, q5⟩ := q; exact ⟨q3, by rw [q2]; rfl, q1, q2, rfl, cls_sw q4, fr_sw q5⟩) (fun E n2 h2 q => q.elim)
  refine g_aload_n dL_law__2045 rfl rfl ?_
  refine g_callV 0 [] hp (fun _ _ _ hx => hx) dL_law__2046 cs_L_197 im_X8_image (by decide) c0 rfl (by omega) (Nat.zero_le _) (Nat.zero_le _) rfl rfl (by decide) rfl rfl (fun v n2 h2 q => ?_)
  obtain ⟨-, rfl, rfl, cl2, fr⟩ := q
  dsimp only [Option.toList, List.cons_append, List.nil_append]
  have hr2 := ref_fr (fun j h1 _ => fr j h1) hr
  have c96 := (fr 96 (by decide)).trans h96
  obtain ⟨g, w, c68, -⟩ := ref_th hr2
  refine g_aload_n dL_law__2049 rfl rfl ?_
  refine g_callV 68 [] (s_X9_image hr2 ) (fun _ _ _ hx => hx) dL_law__2050 cs_L_200 im_X9_image (by decide) c68 rfl (by omega) (Nat.zero_le _) (Nat.zero_le _) rfl rfl (Nat.le_of_ble_eq_true rfl) rfl rfl (fun v n2 h3 q => ?_)
  obtain ⟨rfl, rfl, hr3, fr3⟩ := q
  dsimp only [Option.toList, List.cons_append, List.nil_append]
  have i3 : Inv h3 := ⟨_, _, f, cls_fr (fun j hj => fr3 j (Or.inl hj)) cl2, hr3, (fr3 96 (Or.inr (by decide))).trans c96⟩
  refine g_goto (tgt := 2069) dL_law__2053 (by decide) ?_
  exact kk _ i3
theorem lc_restore {b0 L0 : Nat} {xs : Nat → Int32} {d mc ms : Nat} {Q : Option Value → Nat → aH → Prop} (hd : 40 ≤ d) {h : aH} (iv9 : Inv h) {i : Int} (hi : 0 ≤ i ∧ i + 6 ≤ L0) (hL : L0 ≤ 3072) (kk : ∀ h', Inv h' → EvG (zS b0 L0 xs) RL "law" cL_law_ 7 (some .boolean) d mc ms Q noX 97 h' 2069 (LV i) []) : EvG (zS b0 L0 xs) RL "law" cL_law_ 7 (some .boolean) d mc ms Q noX 97 h 2056 (LV i) [] := by
  obtain ⟨S, th, f, hc, hr, h96⟩ := iv9
  obtain ⟨fs0, c0⟩ := cls_0 hc
  obtain ⟨t, tp, fpl, rf, hlaw, himg, ⟨⟨nd, sw, nc⟩, ⟨hl, hs⟩, K, U, I, O, G, L, cf, ct, fc, nx, cd⟩, ⟨⟨nr, ns, nm⟩, rd, ry, rm, rt, se, md, my, mt⟩, ⟨⟨nr2, ns2, nm2⟩, rd2, ry2, rm2, rt2, se2, md2, my2, mt2⟩, ls⟩ := S
  have hp : mSem yX8_restore cX8_restore 1 (some .boolean) 2 0 0 [.ref 0] 97 h (PubQ 0 (some (iv (restoreS (t, tp, fpl, rf, hlaw, himg, ((nd, sw, nc), (hl, hs), K, U, I, O, G, L, cf, ct, fc, nx, cd), ((nr, ns, nm), rd, ry, rm, rt, se, md, my, mt), ((nr2, ns2, nm2), rd2, ry2, rm2, rt2, se2, md2, my2, mt2), ls)).1)) h (restoreS (t, tp, fpl, rf, hlaw, himg, ((nd, sw, nc), (hl, hs), K, U, I, O, G, L, cf, ct, fc, nx, cd), ((nr, ns, nm), rd, ry, rm, rt, se, md, my, mt), ((nr2, ns2, nm2), rd2, ry2, rm2, rt2, se2, md2, my2, mt2), ls)).2) noX := by
    obtain ⟨a, b, cc⟩ := hc
    exact mSem_sw a b (s_X8_restore cc) (sw_av (as := []) (fun _ => rfl) a b) (fun v n2 h2 q => by obtain ⟨q1, q2, q3, q4, q5⟩ := q; exact ⟨q3, by rw [q2]; rfl, q1, q2, rfl, cls_sw q4, fr_sw q5⟩) (fun E n2 h2 q => q.elim)
  refine g_aload_n dL_law__2056 rfl rfl ?_
  refine g_callV 0 [] hp (fun _ _ _ hx => hx) dL_law__2057 cs_L_201 im_X8_restore (by decide) c0 rfl (by omega) (Nat.zero_le _) (Nat.zero_le _) rfl rfl (by decide) rfl rfl (fun v n2 h2 q => ?_)
  obtain ⟨-, rfl, rfl, cl2, fr⟩ := q
  dsimp only [Option.toList, List.cons_append, List.nil_append]
  have hr2 := ref_fr (fun j h1 _ => fr j h1) hr
  have c96 := (fr 96 (by decide)).trans h96
  obtain ⟨g, w, c68, -⟩ := ref_th hr2
  refine g_aload_n dL_law__2060 rfl rfl ?_
  refine g_callV 68 [] (s_X9_restore hr2 ) (fun _ _ _ hx => hx) dL_law__2061 cs_L_205 im_X9_restore (by decide) c68 rfl (by omega) (Nat.zero_le _) (Nat.zero_le _) rfl rfl (Nat.le_of_ble_eq_true rfl) rfl rfl (fun v n2 h3 q => ?_)
  obtain ⟨rfl, rfl, hr3, fr3⟩ := q
  dsimp only [Option.toList, List.cons_append, List.nil_append]
  have i3 : Inv h3 := ⟨_, _, f, cls_fr (fun j hj => fr3 j (Or.inl hj)) cl2, hr3, (fr3 96 (Or.inr (by decide))).trans c96⟩
  refine g_icmp_eqS (tgt := 2069) dL_law__2064 (by decide) ?_
  exact kk _ i3
