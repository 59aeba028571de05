/-! ===== the calls, one by one ===== -/
theorem mSem_met {y : MethodName} {cc : ByteArray} {mL : Nat} {rt : Option FieldType} {d mc ms : Nat} {av : List Value} {n : Nat} {h : aH} {Q : Option Value → Nat → aH → Prop} {X : String → Nat → aH → Prop} (hS : mSem y cc mL rt d mc ms av n h Q X) (hX : ∀ E n2 h2, ¬ X E n2 h2) {l : Launch} (hl : l.stackTraces = false) (D : va_G) (tc : Nat → ClassId) (ad adK : Nat → Nat) (sz : Nat) :
    Met l y (wsO y cc mL rt) (rmO d mc ms) (SP av n h D tc ad adK sz) (SQ Q n D tc ad adK (va_A (cW ad tc n h) sz)) mc ms (va_A (cW ad tc n h) sz) := by
  intro p e ha hc hk s m args below hf happ hp _
  obtain ⟨k, o, h1, h2, h3, h4⟩ := hS l D tc ad adK sz hl p e ha hc hk s m args below hf happ hp trivial
  refine ⟨k, o, h1, h2, h3, ?_⟩
  rcases h4 with h4 | ⟨q, -, E, ce, L, ⟨⟨n2, h2, ad2, hx, -⟩, -⟩, -⟩
  · exact h4
  · exact absurd hx (hX _ _ _)
section
variable {own name : String} {cc : ByteArray} {mL : Nat} {rt : Option FieldType} {d mc ms : Nat} {Q : Option Value → Nat → aH → Prop} {X : String → Nat → aH → Prop} {n : Nat} {h : aH} {pc : Nat} {lv : List (Nat × Value)} {st st0 : List Value}
variable {idx : Nat} {y : MethodName} {c1 : ByteArray} {m1 : Nat} {r1 : Option FieldType} {np d1 mc1 ms1 : Nat} {Q1 : Option Value → Nat → aH → Prop} {X1 : String → Nat → aH → Prop}
theorem cat_map (ad : Nat → Nat) (st : List Value) : ((st.map (cV ad)).map fun v => v.category) = st.map fun v => v.category := by
  rw [List.map_map]
  apply List.map_congr_left
  intro v _
  exact cV_cat ad v
/-- a static method -/
theorem r_callS (as : List Value) (hS : mSem y c1 m1 r1 d1 mc1 ms1 as n h Q1 X1) (hd : decode cc pc = .ok (.invokestatic idx, 3)) (hcs : CS own idx y c1 m1 r1 np) (hst : Cond.static y ∈ Gw) (hd1 : d1 + 1 ≤ d) (hmc : mc1 ≤ mc) (hms : ms1 ≤ ms) (hnp : as.length = np) (h0 : st0 = as.reverse ++ st) (hcat : (st.map fun v => v.category).sum ≤ 8)
    (kx : ∀ E n2 h2, X1 E n2 h2 → n2 = n ∧ X E n h2) (kk : ∀ v n2 h2, Q1 v n2 h2 → n2 = n ∧ Ev own name cc mL rt d (mc - mc1) (ms - ms1) Q X n h2 (pc + 3) lv (v.toList ++ st)) : Ev own name cc mL rt d mc ms Q X n h pc lv st0 := by
  intro p l e R s m args below meth c D tc n0 ad0 ad adK A H locs cells slots MC MS ls fx rm wd hn he hl
  obtain ⟨hAA, hpre⟩ := sp_at as fx wd
  refine ev_call (mc1 := mc1) (ms1 := ms1) fx rm wd hn he hl (vx_runS (As := as.map (cV ad)) (rest := st.map (cV ad)) ⟨fx.1, fx.2.1, fx.2.2.2.1, fx.2.2.2.2.1, fx.2.2.2.2.2.1⟩ (hS l D tc ad adK H.size fx.2.2.2.2.2.2.2.2.1) ⟨hcs.callB fx rm hd1, fx.2.2.2.2.2.1 _ hst⟩ ⟨SP.blind, hpre⟩ rfl (by rw [List.length_map]; exact hnp) hl.1 ?_ (lv_room (by rw [cat_map]; exact hcat)) hd ?_) hmc hms hAA kk kx
  · show st0.map (cV ad) = _
    rw [h0, List.map_append, List.map_reverse]
  · exact ⟨by have := rm.2.2.1; omega, by have := rm.2.2.2.1; omega⟩
/-- a nest mate's static method -/
theorem r_callSN (as : List Value) (hS : mSem y c1 m1 r1 d1 mc1 ms1 as n h Q1 (fun _ _ _ => False)) (hd : decode cc pc = .ok (.invokestatic idx, 3)) (host : String) (hN : (own, idx, y, host) ∈ nestW) (hc : Cond.code y c1 m1 r1 ∈ Gw) (hini : Cond.initialized y.cls ∈ Gw) (hy : y.cls ≠ "java/lang/invoke/MethodHandle" ∧ y.cls ≠ "java/lang/invoke/VarHandle" ∧ (parseMethodDescriptor y.desc).map (fun d => d.parameters.length) = some np) (hmL : m1 ≤ 41) (hst : Cond.static y ∈ Gw) (hd1 : d1 + 1 ≤ d) (hmc : mc1 ≤ mc) (hms : ms1 ≤ ms) (hnp : as.length = np) (h0 : st0 = as.reverse ++ st) (hcat : (st.map fun v => v.category).sum ≤ 8)
    (kk : ∀ v n2 h2, Q1 v n2 h2 → n2 = n ∧ Ev own name cc mL rt d (mc - mc1) (ms - ms1) Q X n h2 (pc + 3) lv (v.toList ++ st)) : Ev own name cc mL rt d mc ms Q X n h pc lv st0 := by
  intro p l e R s m args below meth c D tc n0 ad0 ad adK A H locs cells slots MC MS ls fx rm wd hn he hl
  obtain ⟨hAA, hpre⟩ := sp_at as fx wd
  have hcn : va_CN R s args own idx y host c1 m1 r1 (wsO y c1 m1 r1) (rmO d1 mc1 ms1) mc1 ms1 np := va_cnB np fx.2.2.2.2.2.1 (Gw_in hc) rfl rfl rfl (fx.2.2.2.2.2.2.2.2.2.2.1.2.2.1 _ hN) (fx.2.2.2.2.2.1 _ hini) hy ⟨by have h1 := rm.1; show d1 + 1 ≤ R.frames; omega, by have h1 := rm.2.1; show 8 + (m1 + 11) + 60 * d1 ≤ R.locals; omega⟩
  have hrun := va_runSN (As := as.map (cV ad)) (rest := st.map (cV ad)) (H := H) (e := e) (below := below) (meth := meth) (locs := locs) (cells := cells) (slots := slots) (g := F0 m pc ls (st0.map (cV ad))) ⟨fx.1, fx.2.1, fx.2.2.2.1, fx.2.2.2.2.1, fx.2.2.2.2.2.1⟩ (mSem_met hS (fun _ _ _ h => h) fx.2.2.2.2.2.2.2.2.1 D tc ad adK H.size) ⟨hcn, fx.2.2.2.2.2.1 _ hst, trivial⟩ ⟨SP.blind, hpre⟩ rfl (by rw [List.length_map]; exact hnp) hl.1 (by show st0.map (cV ad) = _; rw [h0, List.map_append, List.map_reverse]) (lv_room (by rw [cat_map]; exact hcat)) hd ⟨by have := rm.2.2.1; omega, by have := rm.2.2.2.1; omega⟩
  exact ev_call (mc1 := mc1) (ms1 := ms1) (X1 := fun _ _ _ => False) fx rm wd hn he hl (fun T hT XX => Or.inl (hrun T hT XX)) hmc hms hAA kk (fun _ _ _ h => h.elim)
/-- an instance method -/
theorem r_callV (b : Nat) (as : List Value) {ci : Nat} {fs : List Value} (hS : mSem y c1 m1 r1 d1 mc1 ms1 (.ref b :: as) n h Q1 X1) (hd : decode cc pc = .ok (.invokevirtual idx, 3)) (hcs : CS own idx y c1 m1 r1 np) (hin : Cond.instanceMethod y ∈ Gw ∧ Cond.selects y.cls y y ∈ Gw) (hb : b < n) (hcell : h b = .inr (ci, fs)) (hci : (vwCl[ci]?).map (fun q => q.1) = some y.cls) (hd1 : d1 + 1 ≤ d) (hmc : mc1 ≤ mc) (hms : ms1 ≤ ms) (hnp : as.length = np) (h0 : st0 = as.reverse ++ .ref b :: st) (hcat : (st.map fun v => v.category).sum ≤ 8)
    (kx : ∀ E n2 h2, X1 E n2 h2 → n2 = n ∧ X E n h2) (kk : ∀ v n2 h2, Q1 v n2 h2 → n2 = n ∧ Ev own name cc mL rt d (mc - mc1) (ms - ms1) Q X n h2 (pc + 3) lv (v.toList ++ st)) : Ev own name cc mL rt d mc ms Q X n h pc lv st0 := by
  intro p l e R s m args below meth c D tc n0 ad0 ad adK A H locs cells slots MC MS ls fx rm wd hn he hl
  obtain ⟨hAA, hpre⟩ := sp_at (.ref b :: as) fx wd
  obtain ⟨q, hq, hqc⟩ := Option.map_eq_some_iff.mp hci
  have hrecv := va_recv (wd_K fx) wd.1 (ci := ci) (q0 := b) (q := q) (a := ad b) (fs := fs.map (cV ad)) hq (by rw [cW_get hb, hcell]; rfl)
  rw [hqc] at hrecv
  refine ev_call (mc1 := mc1) (ms1 := ms1) fx rm wd hn he hl (vx_runV (C := y.cls) (b := ad b) (As := as.map (cV ad)) (rest := st.map (cV ad)) ⟨fx.1, fx.2.1, fx.2.2.2.1, fx.2.2.2.2.1, fx.2.2.2.2.2.1⟩ (hS l D tc ad adK H.size fx.2.2.2.2.2.2.2.2.1) ⟨hcs.callB fx rm hd1, fx.2.2.2.2.2.1 _ hin.1, fx.2.2.2.2.2.1 _ hin.2⟩ ⟨SP.blind, hrecv, hpre⟩ rfl (by rw [List.length_map]; exact hnp) hl.1 ?_ (lv_room (by rw [cat_map]; exact hcat)) hd ?_) hmc hms hAA kk kx
  · show st0.map (cV ad) = _
    rw [h0, List.map_append, List.map_reverse]
    rfl
  · exact ⟨by have := rm.2.2.1; omega, by have := rm.2.2.2.1; omega⟩
/-- a String constant -/
theorem r_ldcS {own2 tx : String} {i : Nat} (hd : decode cc pc = .ok (.ldc idx, 2)) (hs : (own, idx, tx, i) ∈ strR) (k : Ev own name cc mL rt d mc ms Q X n h (pc + 2) lv (.ref (1000 + i) :: st)) : Ev own name cc mL rt d mc ms Q X n h pc lv st := by
  intro p l e R s m args below meth c D tc n0 ad0 ad adK A H locs cells slots MC MS ls fx rm wd hn he hl
  have k1 := k p l e R s m args below meth c D tc n0 ad0 ad adK A H locs cells slots MC MS ls fx rm wd hn he hl
  refine va_ldcS fx.1 fx.2.1 fx.2.2.2.2.1 (fx.2.2.2.2.2.2.2.2.2.2.1.2.2.2.1 _ hs) hd ?_
  rw [← wd.2.2.2 i]
  exact k1
/-- an int constant -/
theorem r_ldc {z : Int} (hd : decode cc pc = .ok (.ldc idx, 2)) (hc : Cond.constant own idx (Int32.ofInt z) ∈ Gw) (k : Ev own name cc mL rt d mc ms Q X n h (pc + 2) lv (iv z :: st)) : Ev own name cc mL rt d mc ms Q X n h pc lv st := by
  intro p l e R s m args below meth c D tc n0 ad0 ad adK A H locs cells slots MC MS ls fx rm wd hn he hl
  exact lv_ldc fx.1 fx.2.1 fx.2.2.2.2.1 (fx.2.2.2.2.2.1 _ hc) hd (k p l e R s m args below meth c D tc n0 ad0 ad adK A H locs cells slots MC MS ls fx rm wd hn he hl)
theorem r_tin {dflt lo hi : Int} {offs : Array Int} {len : Nat} {x off : Int} {tgt : Nat} (hd : decode cc pc = .ok (.tableswitch dflt lo hi offs, len)) (hx : inR x) (h1 : ¬ x < lo) (h2 : ¬ hi < x) (ho : offs[(x - lo).toNat]? = some off) (ht : (pc : Int) + off = (tgt : Int)) (k : Ev own name cc mL rt d mc ms Q X n h tgt lv st) : Ev own name cc mL rt d mc ms Q X n h pc lv (iv x :: st) := by
  intro p l e R s m args below meth c D tc n0 ad0 ad adK A H locs cells slots MC MS ls fx rm wd hn he hl
  exact lv_tableIn fx.1 fx.2.1 hd (by rw [tI hx]; exact h1) (by rw [tI hx]; exact h2) (by rw [tI hx]; exact ho) ht (k p l e R s m args below meth c D tc n0 ad0 ad adK A H locs cells slots MC MS ls fx rm wd hn he hl)
theorem r_tout {dflt lo hi : Int} {offs : Array Int} {len : Nat} {x : Int} {tgt : Nat} (hd : decode cc pc = .ok (.tableswitch dflt lo hi offs, len)) (hx : inR x) (h1 : x < lo ∨ hi < x) (ht : (pc : Int) + dflt = (tgt : Int)) (k : Ev own name cc mL rt d mc ms Q X n h tgt lv st) : Ev own name cc mL rt d mc ms Q X n h pc lv (iv x :: st) := by
  intro p l e R s m args below meth c D tc n0 ad0 ad adK A H locs cells slots MC MS ls fx rm wd hn he hl
  exact lv_tableOut fx.1 fx.2.1 hd (by rw [tI hx]; exact h1) ht (k p l e R s m args below meth c D tc n0 ad0 ad adK A H locs cells slots MC MS ls fx rm wd hn he hl)
theorem r_lookup {dflt : Int} {ps : Array (Int × Int)} {len : Nat} {x off : Int} {tgt : Nat} (hd : decode cc pc = .ok (.lookupswitch dflt ps, len)) (hp : (ps.toList.zip (ps.toList.drop 1)).all (fun (a, next) => a.1 < next.1) = true) (hx : inR x) (ho : Op.lookupswitch.offset ps.toList dflt x = off) (ht : (pc : Int) + off = (tgt : Int)) (k : Ev own name cc mL rt d mc ms Q X n h tgt lv st) : Ev own name cc mL rt d mc ms Q X n h pc lv (iv x :: st) := by
  intro p l e R s m args below meth c D tc n0 ad0 ad adK A H locs cells slots MC MS ls fx rm wd hn he hl
  exact lv_lookup fx.1 fx.2.1 hd hp (by rw [tI hx]; exact ho) ht (k p l e R s m args below meth c D tc n0 ad0 ad adK A H locs cells slots MC MS ls fx rm wd hn he hl)
end
