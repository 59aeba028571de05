/-! ===== what holds at the start ===== -/
theorem st_K {s : State} {args : Array Value} (hts : ∀ w ∈ Gw, w.before args s = true) : ∃ (D : va_G) (tc : Nat → ClassId), va_K D vwCl (tyL tc) s ∧ Tie tc s := by
  obtain ⟨c0, i0, k0⟩ := u_known (C := RX0) (T := TX0) (N := 4) (n := 4) hts inX0 (hts _ (inT2 12 rfl rfl))
  obtain ⟨c1, i1, k1⟩ := u_known (C := RX1) (T := TX1) (N := 8) (n := 8) hts inX1 (hts _ (inT1 169 rfl rfl))
  obtain ⟨c2, i2, k2⟩ := u_known (C := RX2) (T := TX2) (N := 3) (n := 3) hts inX2 (hts _ (inT1 88 rfl rfl))
  obtain ⟨c3, i3, k3⟩ := u_known (C := RX3) (T := TX3) (N := 11) (n := 11) hts inX3 (hts _ (inT1 200 rfl rfl))
  obtain ⟨c4, i4, k4⟩ := u_known (C := RX4) (T := TX4) (N := 13) (n := 13) hts inX4 (hts _ (inT1 104 rfl rfl))
  obtain ⟨c5, i5, k5⟩ := u_known (C := RX5) (T := TX5) (N := 4) (n := 4) hts inX5 (hts _ (inT1 69 rfl rfl))
  obtain ⟨c6, i6, k6⟩ := u_known (C := RX6) (T := TX6) (N := 8) (n := 8) hts inX6 (hts _ (inT1 32 rfl rfl))
  obtain ⟨c7, i7, k7⟩ := u_known (C := RX7) (T := TX7) (N := 10) (n := 10) hts inX7 (hts _ (inT2 32 rfl rfl))
  obtain ⟨c8, i8, k8⟩ := u_known (C := RX8) (T := TX8) (N := 20) (n := 20) hts inX8 (hts _ (inT1 24 rfl rfl))
  obtain ⟨c9, i9, k9⟩ := u_known (C := RX9) (T := TX9) (N := 58) (n := 58) hts inX9 (hts _ (inT6 80 rfl rfl))
  obtain ⟨a0, kA0, m0, f0, g0, e0⟩ := Cond.arrayClass_spec (hts _ aC_int)
  obtain ⟨a1, kA1, m1, f1, g1, e1⟩ := Cond.arrayClass_spec (hts _ aC_byte)
  obtain ⟨a2, kA2, m2, f2, g2, e2⟩ := Cond.arrayClass_spec (hts _ aC_boolean)
  obtain ⟨a3, kA3, m3, f3, g3, e3⟩ := Cond.arrayClass_spec (hts _ aC_long)
  refine ⟨(fun c => [c0, c1, c2, c3, c4, c5, c6, c7, c8, c9].getD c 0, fun c => [i0, i1, i2, i3, i4, i5, i6, i7, i8, i9].getD c (fun _ => 0)), fun t => [a0, a1, a2, a3].getD t 0, ⟨?_, ?_⟩, ?_⟩
  · intro c q hq
    match c, hq with
    | 0, hq => obtain rfl := Option.some.inj (show some (RX0, TX0, 4) = some q from hq); exact k0
    | 1, hq => obtain rfl := Option.some.inj (show some (RX1, TX1, 8) = some q from hq); exact k1
    | 2, hq => obtain rfl := Option.some.inj (show some (RX2, TX2, 3) = some q from hq); exact k2
    | 3, hq => obtain rfl := Option.some.inj (show some (RX3, TX3, 11) = some q from hq); exact k3
    | 4, hq => obtain rfl := Option.some.inj (show some (RX4, TX4, 13) = some q from hq); exact k4
    | 5, hq => obtain rfl := Option.some.inj (show some (RX5, TX5, 4) = some q from hq); exact k5
    | 6, hq => obtain rfl := Option.some.inj (show some (RX6, TX6, 8) = some q from hq); exact k6
    | 7, hq => obtain rfl := Option.some.inj (show some (RX7, TX7, 10) = some q from hq); exact k7
    | 8, hq => obtain rfl := Option.some.inj (show some (RX8, TX8, 20) = some q from hq); exact k8
    | 9, hq => obtain rfl := Option.some.inj (show some (RX9, TX9, 58) = some q from hq); exact k9
    | n + 10, hq => cases hq
  · intro k q hq
    match k, hq with
    | 0, hq => obtain rfl := Option.some.inj (show some (a0, FieldType.int) = some q from hq); exact ⟨fun n z => ⟨fun k h => (by cases h), kA0, g0, m0, e0⟩, f0⟩
    | 1, hq => obtain rfl := Option.some.inj (show some (a1, FieldType.byte) = some q from hq); exact ⟨fun n z => ⟨fun k h => (by cases h), kA1, g1, m1, e1⟩, f1⟩
    | 2, hq => obtain rfl := Option.some.inj (show some (a2, FieldType.boolean) = some q from hq); exact ⟨fun n z => ⟨fun k h => (by cases h), kA2, g2, m2, e2⟩, f2⟩
    | 3, hq => obtain rfl := Option.some.inj (show some (a3, FieldType.long) = some q from hq); exact ⟨fun n z => ⟨fun k h => (by cases h), kA3, g3, m3, e3⟩, f3⟩
    | n + 4, hq => cases hq
  · intro t ht
    match t, ht with
    | 0, _ => exact f0
    | 1, _ => exact f1
    | 2, _ => exact f2
    | 3, _ => exact f3
    | n + 4, ht => exact absurd ht (by omega)
/-- the place that a term names -/
def rfOf (args : Array Value) (s : State) (tm : Term) : Nat := match tm.eval args s none [] s with
  | some (.ref a) => a
  | _ => 0
theorem rf_of {args : Array Value} {s : State} {tm : Term} {a : Nat} (h : tm.eval args s none [] s = some (.ref a)) : tm.eval args s none [] s = some (.ref (rfOf args s tm)) := by
  have e : rfOf args s tm = a := by unfold rfOf; rw [h]
  rw [e]; exact h
theorem rf_ex {args : Array Value} {s : State} {tm : Term} {nm : String} (h : (Cond.exactly tm nm).before args s = true) : tm.eval args s none [] s = some (.ref (rfOf args s tm)) := by
  obtain ⟨a, c, cell, k, q1, -⟩ := Cond.exactly_spec (args := args) (first := s) (o := none) (s := s) (idx := []) h
  exact rf_of q1
abbrev tmV (tm : Term) : Term := .field tm "java/lang/String" "value" "[B"
/-- what the premises say of a String constant -/
def ndS (tm : Term) (bs : List Int) : List Cond := [.exactly tm "java/lang/String", .eq (.field tm "java/lang/String" "coder" "B") (.int 0), .arrayOf (tmV tm) .byte, .eq (.length (tmV tm)) (.int (Int32.ofNat bs.length))] ++ (List.range bs.length).map (fun j => .eq (.elem (tmV tm) (.int (Int32.ofNat j))) (.int (Int32.ofInt (bs.getD j 0))))
theorem st_str {args : Array Value} {s : State} {A : Nat → Prop} (hA : ∀ a : Nat, a < s.heap.size → ¬ A a) {tm : Term} {bs : List Int} (hb : bs.length < 2 ^ 31) (h : ∀ w ∈ ndS tm bs, w.before args s = true) : va_O "java/lang/String" (rfOf args s tm) A s s.heap ∧ va_OF "java/lang/String" "coder" "B" (.int 0) (rfOf args s tm) A s s.heap ∧ va_OF "java/lang/String" "value" "[B" (.ref (rfOf args s (tmV tm))) (rfOf args s tm) A s s.heap ∧ va_T .byte (rfOf args s (tmV tm)) bs.length (fun j => .int (Int32.ofInt (bs.getD j 0))) A s s.heap := by
  have h1 := h _ (List.mem_append_left _ (List.mem_of_getElem? (i := 0) rfl))
  have h2 := h _ (List.mem_append_left _ (List.mem_of_getElem? (i := 1) rfl))
  have h3 := h _ (List.mem_append_left _ (List.mem_of_getElem? (i := 2) rfl))
  have h4 := h _ (List.mem_append_left _ (List.mem_of_getElem? (i := 3) rfl))
  have h5 : ∀ j, j < bs.length → (Cond.eq (.elem (tmV tm) (.int (Int32.ofNat j))) (.int (Int32.ofInt (bs.getD j 0)))).before args s = true := fun j hj => h _ (List.mem_append_right _ (List.mem_map.mpr ⟨j, List.mem_range.mpr hj, rfl⟩))
  have e1 := rf_ex h1
  obtain ⟨t, ht, hT⟩ := va_Tof (tm := tmV tm) (ty := .byte) (N := bs.length) (f := fun j => .int (Int32.ofInt (bs.getD j 0))) hb h3 (va_eqt h4) (fun j hj => va_eqt (h5 j hj)) hA
  have et : rfOf args s (tmV tm) = t := by unfold rfOf; rw [ht]
  rw [et]
  exact ⟨va_Oof h1 e1 hA, vk_OFof e1 (va_eqt h2) hA, vk_OFof e1 ht hA, hT⟩
