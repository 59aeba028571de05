/-! ===== the constructors ===== -/
def FPF (own : String) (idx ci k : Nat) (ty : FieldType) : Prop := ∃ (C : String) (T : u_T) (N : Nat) (ty0 : Nat → FieldType), vwCl[ci]? = some (C, T, N) ∧ k < N ∧ (∀ w ∈ u_ws C T N, w ∈ Gw) ∧ Cond.fieldLink own idx (T k).1 (T k).2.1 (T k).2.2.1 ∈ Gw ∧ (T k).2.2.2 = true ∧ (T k).1 = own ∧ parseFieldDescriptor (T k).2.2.1 = some ty ∧ (∀ k, k < N → parseFieldDescriptor (T k).2.2.1 = some (ty0 k)) ∧ ∀ a, a < N → ∀ b, b < N → a ≠ b → (T a).2.1 ≠ (T b).2.1
theorem g_putF {Z : ZT} {own : String} {cc : ByteArray} {mL : Nat} {rt : Option FieldType} {d mc ms : Nat} {Q : Option Value → Nat → aH → Prop} {X : String → Nat → aH → Prop} {n : Nat} {h : aH} {pc : Nat} {lv : List (Nat × Value)} {st : List Value} {idx ci k a : Nat} {fs fs2 : List Value} {v : Value} {ty : FieldType}
    (hd : decode cc pc = .ok (.putfield idx, 3)) (hf : FPF own idx ci k ty) (hi : a < n) (hc : h a = .inr (ci, fs)) (hnar : ∀ ad : Nat → Nat, narrow ty (cV ad v) = cV ad v ∧ fits ty (cV ad v) = true) (hlen : k < fs.length) (hs : fs.set k v = fs2) (kk : EvG Z own "<init>" cc mL rt d mc ms Q X n (va_up h a (.inr (ci, fs2))) (pc + 3) lv st) : EvG Z own "<init>" cc mL rt d mc ms Q X n h pc lv (v :: .ref a :: st) := by
  intro p l e R s m args below meth c D tc n0 ad0 ad adK A H locs cells slots MC MS ls fx rm wd hn he hl
  obtain ⟨C, T, N, ty0, h1, h2, h3, h4, h5, h5a, h6, h7, h8⟩ := hf
  subst hs
  refine va_putF (D := D) (cl := vwCl) (tys := tyL tc) (C := C) (T := T) (N := N) (ref := (T k).1) (fs := fs.map (cV ad)) fx.1 fx.2.1 fx.2.2.2.2.2.1 h3 ty0 h7 h8 fx.2.2.2.2.1 (gK fx) wd.1 wd.2.1 wd.2.2.1 a ?_ h1 k h2 (fx.2.2.2.2.2.1 _ h4) (fun _ h9 => h9) h5 fx.2.2.2.2.2.2.2.1 h5a h6 (hnar ad).1 (hnar ad).2 (by rw [List.length_map]; exact hlen) hd (fun H1 locs1 hP hD hS => kk p l e R s m args below meth c D tc n0 ad0 ad adK A H1 locs1 cells slots MC MS ls fx rm ⟨?_, ?_, hS, wd.2.2.2⟩ hn he hl)
  · rw [cW_get hi, hc]; rfl
  · have e1 : (Sum.inr (ci, (fs.map (cV ad)).set k (cV ad v)) : va_E) = cE ad tc (.inr (ci, fs.set k v)) := by simp [cE, List.map_set]
    rw [e1, cW_set] at hP
    exact hP
  · have e1 : (Sum.inr (ci, (fs.map (cV ad)).set k (cV ad v)) : va_E) = cE ad tc (.inr (ci, fs.set k v)) := by simp [cE, List.map_set]
    rw [e1, cW_set] at hD
    exact hD
theorem nar_null (ty : FieldType) (hty : narrow ty .null = .null ∧ fits ty .null = true) (ad : Nat → Nat) : narrow ty (cV ad .null) = cV ad .null ∧ fits ty (cV ad .null) = true := hty
theorem oI2 : Cond.instanceMethod Lib.objectInit ∈ Gw := inT1 29 rfl rfl
theorem oI3 : Cond.code Lib.objectInit ⟨#[0xb1]⟩ 1 none ∈ Gw := inT1 30 rfl rfl
theorem aC_int : Cond.arrayClass .int ∈ Gw := inT1 67 rfl rfl
theorem aC_byte : Cond.arrayClass .byte ∈ Gw := inT1 66 rfl rfl
theorem aC_boolean : Cond.arrayClass .boolean ∈ Gw := inT7 20 rfl rfl
theorem aC_long : Cond.arrayClass .long ∈ Gw := inT8 102 rfl rfl
theorem va_ne {α : Type} {h : Nat → α} {a i : Nat} {e : α} (hi : ¬ i = a) : va_up h a e i = h i := by unfold va_up; rw [if_neg hi]
theorem va_eq {α : Type} {h : Nat → α} {a : Nat} {e : α} : va_up h a e a = e := by unfold va_up; rw [if_pos rfl]
/-- a constructor's end -/
def MkQ (n2 : Nat) (P : aH → Prop) : Option Value → Nat → aH → Prop := fun v n' h' => v = none ∧ n' = n2 ∧ WF n2 h' ∧ P h'
abbrev RetN (n : Nat) (h2 : aH) : Option Value → Nat → aH → Prop := fun v n' h' => v = none ∧ n' = n ∧ h' = h2
theorem l_fill_45_49 {h : aH} {f : Nat → Int} {v : Int} {d : Nat} : ∀ (w i : Nat), i + w = 9 → Ev RJ7 "fill" cJ7_fill_53178 4 none d 0 0 (RetN 49 (va_up h 45 (.inl (0, 9, fillF f v 9)))) noX 49 (va_up h 45 (.inl (0, 9, fillF f v i))) 5 [(0, .ref 45), (1, iv v), (2, iv i), (3, iv 9)] [] := by
  intro w
  induction w with
  | zero =>
    intro i hi
    obtain rfl : i = 9 := by omega
    refine r_iload_n dJ7_fill_53178_5 rfl rfl ?_
    refine r_iload_n dJ7_fill_53178_6 rfl rfl ?_
    refine r_icmp_ge (tgt := 20) dJ7_fill_53178_7 (by decide) ⟨by omega, by omega⟩ ⟨by omega, by omega⟩ (fun g7 => ?_) (fun g7 => absurd g7 (by omega))
    refine r_vret dJ7_fill_53178_20 ?_
    exact ⟨rfl, rfl, rfl⟩
  | succ w ih =>
    intro i hi
    refine r_iload_n dJ7_fill_53178_5 rfl rfl ?_
    refine r_iload_n dJ7_fill_53178_6 rfl rfl ?_
    refine r_icmp_ge (tgt := 20) dJ7_fill_53178_7 (by decide) ⟨by omega, by omega⟩ ⟨by omega, by omega⟩ (fun g7 => absurd g7 (by omega)) (fun g7 => ?_)
    refine r_aload_n dJ7_fill_53178_10 rfl rfl ?_
    refine r_iload_n dJ7_fill_53178_11 rfl rfl ?_
    refine r_iload_n dJ7_fill_53178_12 rfl rfl ?_
    refine r_ast dJ7_fill_53178_13 (by decide) rfl (by omega) (by omega) (by decide) ?_
    refine r_iinc (lv2 := [(0, _), (1, _), (2, _), (3, _)]) dJ7_fill_53178_14 (by decide) rfl rfl rfl ?_
    refine r_goto (tgt := 5) dJ7_fill_53178_17 (by decide) ?_
    rw [bx_uu, Int.toNat_natCast, fill_s, show (i : Int) + 1 = ((i + 1 : Nat) : Int) by omega]
    exact ih (i + 1) (by omega)

theorem s_fill_45_49 {h : aH} {f : Nat → Int} {v : Int} (c45 : h 45 = .inl (0, 9, f)) : mSem yJ7_fill_53178 cJ7_fill_53178 4 none 0 0 0 [.ref 45, iv v] 49 h (RetN 49 (va_up h 45 (.inl (0, 9, fillF f v 9)))) noX := by
  refine mSem_ofF (own := RJ7) (name := "fill") pf_fill rfl rfl (Nat.le_of_ble_eq_true rfl) ?_
  refine r_iconst dJ7_fill_53178_0 ?_
  refine r_istore_n (lv2 := [(0, _), (1, _), (2, _)]) dJ7_fill_53178_1 rfl (by decide) rfl rfl ?_
  refine r_aload_n dJ7_fill_53178_2 rfl rfl ?_
  refine r_alen dJ7_fill_53178_3 (by decide) c45 (by decide) ?_
  refine r_istore_n (lv2 := [(0, _), (1, _), (2, _), (3, _)]) dJ7_fill_53178_4 rfl (by decide) rfl rfl ?_
  refine ev_h (up_same c45) ?_
  have hk := l_fill_45_49 (h := h) (f := f) (v := v) (d := 0) 9 0 (by omega)
  rw [fill_0] at hk
  exact hk

theorem l_fill_54_58 {h : aH} {f : Nat → Int} {v : Int} {d : Nat} : ∀ (w i : Nat), i + w = 9 → Ev RJ7 "fill" cJ7_fill_53178 4 none d 0 0 (RetN 58 (va_up h 54 (.inl (0, 9, fillF f v 9)))) noX 58 (va_up h 54 (.inl (0, 9, fillF f v i))) 5 [(0, .ref 54), (1, iv v), (2, iv i), (3, iv 9)] [] := by
  intro w
  induction w with
  | zero =>
    intro i hi
    obtain rfl : i = 9 := by omega
    refine r_iload_n dJ7_fill_53178_5 rfl rfl ?_
    refine r_iload_n dJ7_fill_53178_6 rfl rfl ?_
    refine r_icmp_ge (tgt := 20) dJ7_fill_53178_7 (by decide) ⟨by omega, by omega⟩ ⟨by omega, by omega⟩ (fun g7 => ?_) (fun g7 => absurd g7 (by omega))
    refine r_vret dJ7_fill_53178_20 ?_
    exact ⟨rfl, rfl, rfl⟩
  | succ w ih =>
    intro i hi
    refine r_iload_n dJ7_fill_53178_5 rfl rfl ?_
    refine r_iload_n dJ7_fill_53178_6 rfl rfl ?_
    refine r_icmp_ge (tgt := 20) dJ7_fill_53178_7 (by decide) ⟨by omega, by omega⟩ ⟨by omega, by omega⟩ (fun g7 => absurd g7 (by omega)) (fun g7 => ?_)
    refine r_aload_n dJ7_fill_53178_10 rfl rfl ?_
    refine r_iload_n dJ7_fill_53178_11 rfl rfl ?_
    refine r_iload_n dJ7_fill_53178_12 rfl rfl ?_
    refine r_ast dJ7_fill_53178_13 (by decide) rfl (by omega) (by omega) (by decide) ?_
    refine r_iinc (lv2 := [(0, _), (1, _), (2, _), (3, _)]) dJ7_fill_53178_14 (by decide) rfl rfl rfl ?_
    refine r_goto (tgt := 5) dJ7_fill_53178_17 (by decide) ?_
    rw [bx_uu, Int.toNat_natCast, fill_s, show (i : Int) + 1 = ((i + 1 : Nat) : Int) by omega]
    exact ih (i + 1) (by omega)

theorem s_fill_54_58 {h : aH} {f : Nat → Int} {v : Int} (c54 : h 54 = .inl (0, 9, f)) : mSem yJ7_fill_53178 cJ7_fill_53178 4 none 0 0 0 [.ref 54, iv v] 58 h (RetN 58 (va_up h 54 (.inl (0, 9, fillF f v 9)))) noX := by
  refine mSem_ofF (own := RJ7) (name := "fill") pf_fill rfl rfl (Nat.le_of_ble_eq_true rfl) ?_
  refine r_iconst dJ7_fill_53178_0 ?_
  refine r_istore_n (lv2 := [(0, _), (1, _), (2, _)]) dJ7_fill_53178_1 rfl (by decide) rfl rfl ?_
  refine r_aload_n dJ7_fill_53178_2 rfl rfl ?_
  refine r_alen dJ7_fill_53178_3 (by decide) c54 (by decide) ?_
  refine r_istore_n (lv2 := [(0, _), (1, _), (2, _), (3, _)]) dJ7_fill_53178_4 rfl (by decide) rfl rfl ?_
  refine ev_h (up_same c54) ?_
  have hk := l_fill_54_58 (h := h) (f := f) (v := v) (d := 0) 9 0 (by omega)
  rw [fill_0] at hk
  exact hk

theorem s_X6_init_3 {h : aH} (w0 : WF 4 h) (cb : h 3 = .inr (6, [iv 0, iv 0, iv 0, .null, iv 0, iv 0, iv 0, iv 0])) : mSem yX6_init cX6_init 1 none 1 0 0 [.ref 3] 4 h (MkQ 4 (fun h' => h' = va_up h 3 (.inr (6, [iv 0, iv (-1), iv 0, .null, iv 0, iv 0, iv 0, iv 0])))) noX := by
  refine mSem_of (own := RX6) (name := "<init>") pn_X6 rfl rfl (Nat.le_of_ble_eq_true rfl) (ev_G ?_)
  refine g_aload_n dX6_init_0 rfl rfl ?_
  refine g_obj dX6_init_1 (inT1 36 rfl rfl) oI2 oI3 (by decide) ?_
  refine g_aload_n dX6_init_4 rfl rfl ?_
  refine g_iconst dX6_init_5 ?_
  refine g_put (k := 0) (fs := [iv 0, iv 0, iv 0, .null, iv 0, iv 0, iv 0, iv 0]) (fs2 := [iv 0, iv 0, iv 0, .null, iv 0, iv 0, iv 0, iv 0]) dX6_init_6 fp_X6_9 (by decide) cb (nar_int _) (Nat.le_of_ble_eq_true rfl) rfl ?_
  have w1 := w0.up (i := 3) (e := .inr (6, [iv 0, iv 0, iv 0, .null, iv 0, iv 0, iv 0, iv 0])) rfl
  refine g_aload_n dX6_init_9 rfl rfl ?_
  refine g_iconst dX6_init_10 ?_
  refine g_put (k := 1) (fs := [iv 0, iv 0, iv 0, .null, iv 0, iv 0, iv 0, iv 0]) (fs2 := [iv 0, iv (-1), iv 0, .null, iv 0, iv 0, iv 0, iv 0]) dX6_init_11 fp_X6_15 (by decide) rfl (nar_int _) (Nat.le_of_ble_eq_true rfl) rfl ?_
  have w2 := w1.up (i := 3) (e := .inr (6, [iv 0, iv (-1), iv 0, .null, iv 0, iv 0, iv 0, iv 0])) rfl
  refine g_aload_n dX6_init_14 rfl rfl ?_
  refine g_iconst dX6_init_15 ?_
  refine g_put (k := 2) (fs := [iv 0, iv (-1), iv 0, .null, iv 0, iv 0, iv 0, iv 0]) (fs2 := [iv 0, iv (-1), iv 0, .null, iv 0, iv 0, iv 0, iv 0]) dX6_init_16 fp_X6_18 (by decide) rfl (nar_int _) (Nat.le_of_ble_eq_true rfl) rfl ?_
  have w3 := w2.up (i := 3) (e := .inr (6, [iv 0, iv (-1), iv 0, .null, iv 0, iv 0, iv 0, iv 0])) rfl
  refine g_aload_n dX6_init_19 rfl rfl ?_
  refine g_null dX6_init_20 ?_
  refine g_put (k := 3) (fs := [iv 0, iv (-1), iv 0, .null, iv 0, iv 0, iv 0, iv 0]) (fs2 := [iv 0, iv (-1), iv 0, .null, iv 0, iv 0, iv 0, iv 0]) dX6_init_21 fp_X6_21 (by decide) rfl (nar_null _ ⟨rfl, rfl⟩) (Nat.le_of_ble_eq_true rfl) rfl ?_
  have w4 := w3.up (i := 3) (e := .inr (6, [iv 0, iv (-1), iv 0, .null, iv 0, iv 0, iv 0, iv 0])) rfl
  refine g_aload_n dX6_init_24 rfl rfl ?_
  refine g_iconst dX6_init_25 ?_
  refine g_put (k := 4) (fs := [iv 0, iv (-1), iv 0, .null, iv 0, iv 0, iv 0, iv 0]) (fs2 := [iv 0, iv (-1), iv 0, .null, iv 0, iv 0, iv 0, iv 0]) dX6_init_26 fp_X6_25 (by decide) rfl (nar_int _) (Nat.le_of_ble_eq_true rfl) rfl ?_
  have w5 := w4.up (i := 3) (e := .inr (6, [iv 0, iv (-1), iv 0, .null, iv 0, iv 0, iv 0, iv 0])) rfl
  refine g_aload_n dX6_init_29 rfl rfl ?_
  refine g_iconst dX6_init_30 ?_
  refine g_put (k := 5) (fs := [iv 0, iv (-1), iv 0, .null, iv 0, iv 0, iv 0, iv 0]) (fs2 := [iv 0, iv (-1), iv 0, .null, iv 0, iv 0, iv 0, iv 0]) dX6_init_31 fp_X6_28 (by decide) rfl (nar_int _) (Nat.le_of_ble_eq_true rfl) rfl ?_
  have w6 := w5.up (i := 3) (e := .inr (6, [iv 0, iv (-1), iv 0, .null, iv 0, iv 0, iv 0, iv 0])) rfl
  refine g_aload_n dX6_init_34 rfl rfl ?_
  refine g_iconst dX6_init_35 ?_
  refine g_put (k := 6) (fs := [iv 0, iv (-1), iv 0, .null, iv 0, iv 0, iv 0, iv 0]) (fs2 := [iv 0, iv (-1), iv 0, .null, iv 0, iv 0, iv 0, iv 0]) dX6_init_36 fp_X6_31 (by decide) rfl (nar_int _) (Nat.le_of_ble_eq_true rfl) rfl ?_
  have w7 := w6.up (i := 3) (e := .inr (6, [iv 0, iv (-1), iv 0, .null, iv 0, iv 0, iv 0, iv 0])) rfl
  refine g_aload_n dX6_init_39 rfl rfl ?_
  refine g_iconst dX6_init_40 ?_
  refine g_put (k := 7) (fs := [iv 0, iv (-1), iv 0, .null, iv 0, iv 0, iv 0, iv 0]) (fs2 := [iv 0, iv (-1), iv 0, .null, iv 0, iv 0, iv 0, iv 0]) dX6_init_41 fp_X6_34 (by decide) rfl (nar_int _) (Nat.le_of_ble_eq_true rfl) rfl ?_
  have w8 := w7.up (i := 3) (e := .inr (6, [iv 0, iv (-1), iv 0, .null, iv 0, iv 0, iv 0, iv 0])) rfl
  refine g_vret dX6_init_44 ?_
  refine ⟨rfl, rfl, w8, ?_⟩
  funext i
  by_cases e3 : i = 3
  · subst e3; rfl
  simp only [va_up, e3, if_false]
theorem s_X5_init_4 {h : aH} (w0 : WF 5 h) (cb : h 4 = .inr (5, [.null, .null, iv 0, iv 0])) : mSem yX5_init cX5_init 1 none 1 0 0 [.ref 4] 5 h (MkQ 5 (fun h' => h' = va_up h 4 (.inr (5, [.null, .null, iv 0, iv 0])))) noX := by
  refine mSem_of (own := RX5) (name := "<init>") pn_X5 rfl rfl (Nat.le_of_ble_eq_true rfl) (ev_G ?_)
  refine g_aload_n dX5_init_0 rfl rfl ?_
  refine g_obj dX5_init_1 (inT1 73 rfl rfl) oI2 oI3 (by decide) ?_
  refine g_aload_n dX5_init_4 rfl rfl ?_
  refine g_null dX5_init_5 ?_
  refine g_put (k := 0) (fs := [.null, .null, iv 0, iv 0]) (fs2 := [.null, .null, iv 0, iv 0]) dX5_init_6 fp_X5_9 (by decide) cb (nar_null _ ⟨rfl, rfl⟩) (Nat.le_of_ble_eq_true rfl) rfl ?_
  have w1 := w0.up (i := 4) (e := .inr (5, [.null, .null, iv 0, iv 0])) rfl
  refine g_aload_n dX5_init_9 rfl rfl ?_
  refine g_null dX5_init_10 ?_
  refine g_put (k := 1) (fs := [.null, .null, iv 0, iv 0]) (fs2 := [.null, .null, iv 0, iv 0]) dX5_init_11 fp_X5_15 (by decide) rfl (nar_null _ ⟨rfl, rfl⟩) (Nat.le_of_ble_eq_true rfl) rfl ?_
  have w2 := w1.up (i := 4) (e := .inr (5, [.null, .null, iv 0, iv 0])) rfl
  refine g_aload_n dX5_init_14 rfl rfl ?_
  refine g_iconst dX5_init_15 ?_
  refine g_put (k := 2) (fs := [.null, .null, iv 0, iv 0]) (fs2 := [.null, .null, iv 0, iv 0]) dX5_init_16 fp_X5_19 (by decide) rfl (nar_bool (Or.inl rfl)) (Nat.le_of_ble_eq_true rfl) rfl ?_
  have w3 := w2.up (i := 4) (e := .inr (5, [.null, .null, iv 0, iv 0])) rfl
  refine g_aload_n dX5_init_19 rfl rfl ?_
  refine g_iconst dX5_init_20 ?_
  refine g_put (k := 3) (fs := [.null, .null, iv 0, iv 0]) (fs2 := [.null, .null, iv 0, iv 0]) dX5_init_21 fp_X5_23 (by decide) rfl (nar_bool (Or.inl rfl)) (Nat.le_of_ble_eq_true rfl) rfl ?_
  have w4 := w3.up (i := 4) (e := .inr (5, [.null, .null, iv 0, iv 0])) rfl
  refine g_vret dX5_init_24 ?_
  refine ⟨rfl, rfl, w4, ?_⟩
  funext i
  by_cases e4 : i = 4
  · subst e4; rfl
  simp only [va_up, e4, if_false]
theorem s_X2_init_5 {h : aH} (w0 : WF 6 h) (cb : h 5 = .inr (2, [.null, .null, iv 0])) : mSem yX2_init cX2_init 1 none 1 0 0 [.ref 5] 6 h (MkQ 6 (fun h' => h' = va_up h 5 (.inr (2, [.null, .null, iv 0])))) noX := by
  refine mSem_of (own := RX2) (name := "<init>") pn_X2 rfl rfl (Nat.le_of_ble_eq_true rfl) (ev_G ?_)
  refine g_aload_n dX2_init_0 rfl rfl ?_
  refine g_obj dX2_init_1 (inT1 92 rfl rfl) oI2 oI3 (by decide) ?_
  refine g_aload_n dX2_init_4 rfl rfl ?_
  refine g_null dX2_init_5 ?_
  refine g_put (k := 0) (fs := [.null, .null, iv 0]) (fs2 := [.null, .null, iv 0]) dX2_init_6 fp_X2_9 (by decide) cb (nar_null _ ⟨rfl, rfl⟩) (Nat.le_of_ble_eq_true rfl) rfl ?_
  have w1 := w0.up (i := 5) (e := .inr (2, [.null, .null, iv 0])) rfl
  refine g_aload_n dX2_init_9 rfl rfl ?_
  refine g_null dX2_init_10 ?_
  refine g_put (k := 1) (fs := [.null, .null, iv 0]) (fs2 := [.null, .null, iv 0]) dX2_init_11 fp_X2_15 (by decide) rfl (nar_null _ ⟨rfl, rfl⟩) (Nat.le_of_ble_eq_true rfl) rfl ?_
  have w2 := w1.up (i := 5) (e := .inr (2, [.null, .null, iv 0])) rfl
  refine g_aload_n dX2_init_14 rfl rfl ?_
  refine g_iconst dX2_init_15 ?_
  refine g_put (k := 2) (fs := [.null, .null, iv 0]) (fs2 := [.null, .null, iv 0]) dX2_init_16 fp_X2_19 (by decide) rfl (nar_int _) (Nat.le_of_ble_eq_true rfl) rfl ?_
  have w3 := w2.up (i := 5) (e := .inr (2, [.null, .null, iv 0])) rfl
  refine g_vret dX2_init_19 ?_
  refine ⟨rfl, rfl, w3, ?_⟩
  funext i
  by_cases e5 : i = 5
  · subst e5; rfl
  simp only [va_up, e5, if_false]
theorem ff_X4_21 : FPF RX4 21 4 3 (.array .int) := ⟨RX4, TX4, 13, tyX4, rfl, by decide, inX4, inT1 118 rfl rfl, rfl, rfl, by decide +kernel, tyX4_ok, nmX4⟩
theorem ff_X4_25 : FPF RX4 25 4 4 (.array .int) := ⟨RX4, TX4, 13, tyX4, rfl, by decide, inX4, inT1 122 rfl rfl, rfl, rfl, by decide +kernel, tyX4_ok, nmX4⟩
theorem ff_X4_28 : FPF RX4 28 4 5 (.array .int) := ⟨RX4, TX4, 13, tyX4, rfl, by decide, inX4, inT1 125 rfl rfl, rfl, rfl, by decide +kernel, tyX4_ok, nmX4⟩
theorem ff_X4_31 : FPF RX4 31 4 6 (.array .int) := ⟨RX4, TX4, 13, tyX4, rfl, by decide, inX4, inT1 128 rfl rfl, rfl, rfl, by decide +kernel, tyX4_ok, nmX4⟩
theorem ff_X4_34 : FPF RX4 34 4 7 (.array .int) := ⟨RX4, TX4, 13, tyX4, rfl, by decide, inX4, inT1 131 rfl rfl, rfl, rfl, by decide +kernel, tyX4_ok, nmX4⟩
theorem ff_X4_37 : FPF RX4 37 4 8 (.array .int) := ⟨RX4, TX4, 13, tyX4, rfl, by decide, inX4, inT1 134 rfl rfl, rfl, rfl, by decide +kernel, tyX4_ok, nmX4⟩
theorem ff_X4_40 : FPF RX4 40 4 9 (.array .int) := ⟨RX4, TX4, 13, tyX4, rfl, by decide, inX4, inT1 137 rfl rfl, rfl, rfl, by decide +kernel, tyX4_ok, nmX4⟩
theorem ff_X4_43 : FPF RX4 43 4 10 (.array .int) := ⟨RX4, TX4, 13, tyX4, rfl, by decide, inX4, inT1 138 rfl rfl, rfl, rfl, by decide +kernel, tyX4_ok, nmX4⟩
theorem ff_X4_46 : FPF RX4 46 4 11 (.array .int) := ⟨RX4, TX4, 13, tyX4, rfl, by decide, inX4, inT1 139 rfl rfl, rfl, rfl, by decide +kernel, tyX4_ok, nmX4⟩
theorem ff_X4_49 : FPF RX4 49 4 12 (.array .int) := ⟨RX4, TX4, 13, tyX4, rfl, by decide, inX4, inT1 140 rfl rfl, rfl, rfl, by decide +kernel, tyX4_ok, nmX4⟩
theorem s_X4_init_6 {h : aH} (w0 : WF 7 h) (cb : h 6 = .inr (4, [iv 0, iv 0, iv 0, .null, .null, .null, .null, .null, .null, .null, .null, .null, .null])) : mSem yX4_init cX4_init 1 none 1 10 482 [.ref 6] 7 h (MkQ 17 (fun h' => h' = va_up (va_up (va_up (va_up (va_up (va_up (va_up (va_up (va_up (va_up (va_up h 6 (.inr (4, [iv 0, iv 120, iv 0, .ref 7, .ref 8, .ref 9, .ref 10, .ref 11, .ref 12, .ref 13, .ref 14, .ref 15, .ref 16]))) 7 (.inl (0, 9, fun _ => 0))) 8 (.inl (0, 9, fun _ => 0))) 9 (.inl (0, 9, fun _ => 0))) 10 (.inl (0, 9, fun _ => 0))) 11 (.inl (0, 9, fun _ => 0))) 12 (.inl (0, 12, fun _ => 0))) 13 (.inl (0, 20, fun _ => 0))) 14 (.inl (0, 20, fun _ => 0))) 15 (.inl (0, 365, fun _ => 0))) 16 (.inl (0, 20, fun _ => 0)))) noX := by
  refine mSem_of (own := RX4) (name := "<init>") pn_X4 rfl rfl (Nat.le_of_ble_eq_true rfl) (ev_G ?_)
  refine g_aload_n dX4_init_0 rfl rfl ?_
  refine g_obj dX4_init_1 (inT1 108 rfl rfl) oI2 oI3 (by decide) ?_
  refine g_aload_n dX4_init_4 rfl rfl ?_
  refine g_iconst dX4_init_5 ?_
  refine g_put (k := 0) (fs := [iv 0, iv 0, iv 0, .null, .null, .null, .null, .null, .null, .null, .null, .null, .null]) (fs2 := [iv 0, iv 0, iv 0, .null, .null, .null, .null, .null, .null, .null, .null, .null, .null]) dX4_init_6 fp_X4_9 (by decide) cb (nar_int _) (Nat.le_of_ble_eq_true rfl) rfl ?_
  have w1 := w0.up (i := 6) (e := .inr (4, [iv 0, iv 0, iv 0, .null, .null, .null, .null, .null, .null, .null, .null, .null, .null])) rfl
  refine g_aload_n dX4_init_9 rfl rfl ?_
  refine g_bipush dX4_init_10 rfl ?_
  refine g_put (k := 1) (fs := [iv 0, iv 0, iv 0, .null, .null, .null, .null, .null, .null, .null, .null, .null, .null]) (fs2 := [iv 0, iv 120, iv 0, .null, .null, .null, .null, .null, .null, .null, .null, .null, .null]) dX4_init_12 fp_X4_15 (by decide) rfl (nar_int _) (Nat.le_of_ble_eq_true rfl) rfl ?_
  have w2 := w1.up (i := 6) (e := .inr (4, [iv 0, iv 120, iv 0, .null, .null, .null, .null, .null, .null, .null, .null, .null, .null])) rfl
  refine g_aload_n dX4_init_15 rfl rfl ?_
  refine g_iconst dX4_init_16 ?_
  refine g_put (k := 2) (fs := [iv 0, iv 120, iv 0, .null, .null, .null, .null, .null, .null, .null, .null, .null, .null]) (fs2 := [iv 0, iv 120, iv 0, .null, .null, .null, .null, .null, .null, .null, .null, .null, .null]) dX4_init_17 fp_X4_18 (by decide) rfl (nar_int _) (Nat.le_of_ble_eq_true rfl) rfl ?_
  have w3 := w2.up (i := 6) (e := .inr (4, [iv 0, iv 120, iv 0, .null, .null, .null, .null, .null, .null, .null, .null, .null, .null])) rfl
  refine g_aload_n dX4_init_20 rfl rfl ?_
  refine g_bipush dX4_init_21 rfl ?_
  refine g_newaI (N := 9) dX4_init_23 aC_int (by decide) (by decide) (by decide) (by decide) rfl rfl w3 (fun w4 => ?_)
  refine g_putF (k := 3) (fs := [iv 0, iv 120, iv 0, .null, .null, .null, .null, .null, .null, .null, .null, .null, .null]) (fs2 := [iv 0, iv 120, iv 0, .ref 7, .null, .null, .null, .null, .null, .null, .null, .null, .null]) dX4_init_25 ff_X4_21 (by decide) rfl (nar_arr _ _) (Nat.le_of_ble_eq_true rfl) rfl ?_
  have w5 := w4.up (i := 6) (e := .inr (4, [iv 0, iv 120, iv 0, .ref 7, .null, .null, .null, .null, .null, .null, .null, .null, .null])) rfl
  refine g_aload_n dX4_init_28 rfl rfl ?_
  refine g_bipush dX4_init_29 rfl ?_
  refine g_newaI (N := 9) dX4_init_31 aC_int (by decide) (by decide) (by decide) (by decide) rfl rfl w5 (fun w6 => ?_)
  refine g_putF (k := 4) (fs := [iv 0, iv 120, iv 0, .ref 7, .null, .null, .null, .null, .null, .null, .null, .null, .null]) (fs2 := [iv 0, iv 120, iv 0, .ref 7, .ref 8, .null, .null, .null, .null, .null, .null, .null, .null]) dX4_init_33 ff_X4_25 (by decide) rfl (nar_arr _ _) (Nat.le_of_ble_eq_true rfl) rfl ?_
  have w7 := w6.up (i := 6) (e := .inr (4, [iv 0, iv 120, iv 0, .ref 7, .ref 8, .null, .null, .null, .null, .null, .null, .null, .null])) rfl
  refine g_aload_n dX4_init_36 rfl rfl ?_
  refine g_bipush dX4_init_37 rfl ?_
  refine g_newaI (N := 9) dX4_init_39 aC_int (by decide) (by decide) (by decide) (by decide) rfl rfl w7 (fun w8 => ?_)
  refine g_putF (k := 5) (fs := [iv 0, iv 120, iv 0, .ref 7, .ref 8, .null, .null, .null, .null, .null, .null, .null, .null]) (fs2 := [iv 0, iv 120, iv 0, .ref 7, .ref 8, .ref 9, .null, .null, .null, .null, .null, .null, .null]) dX4_init_41 ff_X4_28 (by decide) rfl (nar_arr _ _) (Nat.le_of_ble_eq_true rfl) rfl ?_
  have w9 := w8.up (i := 6) (e := .inr (4, [iv 0, iv 120, iv 0, .ref 7, .ref 8, .ref 9, .null, .null, .null, .null, .null, .null, .null])) rfl
  refine g_aload_n dX4_init_44 rfl rfl ?_
  refine g_bipush dX4_init_45 rfl ?_
  refine g_newaI (N := 9) dX4_init_47 aC_int (by decide) (by decide) (by decide) (by decide) rfl rfl w9 (fun w10 => ?_)
  refine g_putF (k := 6) (fs := [iv 0, iv 120, iv 0, .ref 7, .ref 8, .ref 9, .null, .null, .null, .null, .null, .null, .null]) (fs2 := [iv 0, iv 120, iv 0, .ref 7, .ref 8, .ref 9, .ref 10, .null, .null, .null, .null, .null, .null]) dX4_init_49 ff_X4_31 (by decide) rfl (nar_arr _ _) (Nat.le_of_ble_eq_true rfl) rfl ?_
  have w11 := w10.up (i := 6) (e := .inr (4, [iv 0, iv 120, iv 0, .ref 7, .ref 8, .ref 9, .ref 10, .null, .null, .null, .null, .null, .null])) rfl
  refine g_aload_n dX4_init_52 rfl rfl ?_
  refine g_bipush dX4_init_53 rfl ?_
  refine g_newaI (N := 9) dX4_init_55 aC_int (by decide) (by decide) (by decide) (by decide) rfl rfl w11 (fun w12 => ?_)
  refine g_putF (k := 7) (fs := [iv 0, iv 120, iv 0, .ref 7, .ref 8, .ref 9, .ref 10, .null, .null, .null, .null, .null, .null]) (fs2 := [iv 0, iv 120, iv 0, .ref 7, .ref 8, .ref 9, .ref 10, .ref 11, .null, .null, .null, .null, .null]) dX4_init_57 ff_X4_34 (by decide) rfl (nar_arr _ _) (Nat.le_of_ble_eq_true rfl) rfl ?_
  have w13 := w12.up (i := 6) (e := .inr (4, [iv 0, iv 120, iv 0, .ref 7, .ref 8, .ref 9, .ref 10, .ref 11, .null, .null, .null, .null, .null])) rfl
  refine g_aload_n dX4_init_60 rfl rfl ?_
  refine g_bipush dX4_init_61 rfl ?_
  refine g_newaI (N := 12) dX4_init_63 aC_int (by decide) (by decide) (by decide) (by decide) rfl rfl w13 (fun w14 => ?_)
  refine g_putF (k := 8) (fs := [iv 0, iv 120, iv 0, .ref 7, .ref 8, .ref 9, .ref 10, .ref 11, .null, .null, .null, .null, .null]) (fs2 := [iv 0, iv 120, iv 0, .ref 7, .ref 8, .ref 9, .ref 10, .ref 11, .ref 12, .null, .null, .null, .null]) dX4_init_65 ff_X4_37 (by decide) rfl (nar_arr _ _) (Nat.le_of_ble_eq_true rfl) rfl ?_
  have w15 := w14.up (i := 6) (e := .inr (4, [iv 0, iv 120, iv 0, .ref 7, .ref 8, .ref 9, .ref 10, .ref 11, .ref 12, .null, .null, .null, .null])) rfl
  refine g_aload_n dX4_init_68 rfl rfl ?_
  refine g_bipush dX4_init_69 rfl ?_
  refine g_newaI (N := 20) dX4_init_71 aC_int (by decide) (by decide) (by decide) (by decide) rfl rfl w15 (fun w16 => ?_)
  refine g_putF (k := 9) (fs := [iv 0, iv 120, iv 0, .ref 7, .ref 8, .ref 9, .ref 10, .ref 11, .ref 12, .null, .null, .null, .null]) (fs2 := [iv 0, iv 120, iv 0, .ref 7, .ref 8, .ref 9, .ref 10, .ref 11, .ref 12, .ref 13, .null, .null, .null]) dX4_init_73 ff_X4_40 (by decide) rfl (nar_arr _ _) (Nat.le_of_ble_eq_true rfl) rfl ?_
  have w17 := w16.up (i := 6) (e := .inr (4, [iv 0, iv 120, iv 0, .ref 7, .ref 8, .ref 9, .ref 10, .ref 11, .ref 12, .ref 13, .null, .null, .null])) rfl
  refine g_aload_n dX4_init_76 rfl rfl ?_
  refine g_bipush dX4_init_77 rfl ?_
  refine g_newaI (N := 20) dX4_init_79 aC_int (by decide) (by decide) (by decide) (by decide) rfl rfl w17 (fun w18 => ?_)
  refine g_putF (k := 10) (fs := [iv 0, iv 120, iv 0, .ref 7, .ref 8, .ref 9, .ref 10, .ref 11, .ref 12, .ref 13, .null, .null, .null]) (fs2 := [iv 0, iv 120, iv 0, .ref 7, .ref 8, .ref 9, .ref 10, .ref 11, .ref 12, .ref 13, .ref 14, .null, .null]) dX4_init_81 ff_X4_43 (by decide) rfl (nar_arr _ _) (Nat.le_of_ble_eq_true rfl) rfl ?_
  have w19 := w18.up (i := 6) (e := .inr (4, [iv 0, iv 120, iv 0, .ref 7, .ref 8, .ref 9, .ref 10, .ref 11, .ref 12, .ref 13, .ref 14, .null, .null])) rfl
  refine g_aload_n dX4_init_84 rfl rfl ?_
  refine g_sipush dX4_init_85 rfl ?_
  refine g_newaI (N := 365) dX4_init_88 aC_int (by decide) (by decide) (by decide) (by decide) rfl rfl w19 (fun w20 => ?_)
  refine g_putF (k := 11) (fs := [iv 0, iv 120, iv 0, .ref 7, .ref 8, .ref 9, .ref 10, .ref 11, .ref 12, .ref 13, .ref 14, .null, .null]) (fs2 := [iv 0, iv 120, iv 0, .ref 7, .ref 8, .ref 9, .ref 10, .ref 11, .ref 12, .ref 13, .ref 14, .ref 15, .null]) dX4_init_90 ff_X4_46 (by decide) rfl (nar_arr _ _) (Nat.le_of_ble_eq_true rfl) rfl ?_
  have w21 := w20.up (i := 6) (e := .inr (4, [iv 0, iv 120, iv 0, .ref 7, .ref 8, .ref 9, .ref 10, .ref 11, .ref 12, .ref 13, .ref 14, .ref 15, .null])) rfl
  refine g_aload_n dX4_init_93 rfl rfl ?_
  refine g_bipush dX4_init_94 rfl ?_
  refine g_newaI (N := 20) dX4_init_96 aC_int (by decide) (by decide) (by decide) (by decide) rfl rfl w21 (fun w22 => ?_)
  refine g_putF (k := 12) (fs := [iv 0, iv 120, iv 0, .ref 7, .ref 8, .ref 9, .ref 10, .ref 11, .ref 12, .ref 13, .ref 14, .ref 15, .null]) (fs2 := [iv 0, iv 120, iv 0, .ref 7, .ref 8, .ref 9, .ref 10, .ref 11, .ref 12, .ref 13, .ref 14, .ref 15, .ref 16]) dX4_init_98 ff_X4_49 (by decide) rfl (nar_arr _ _) (Nat.le_of_ble_eq_true rfl) rfl ?_
  have w23 := w22.up (i := 6) (e := .inr (4, [iv 0, iv 120, iv 0, .ref 7, .ref 8, .ref 9, .ref 10, .ref 11, .ref 12, .ref 13, .ref 14, .ref 15, .ref 16])) rfl
  refine g_vret dX4_init_101 ?_
  refine ⟨rfl, rfl, w23, ?_⟩
  funext i
  by_cases e6 : i = 6
  · subst e6; rfl
  by_cases e7 : i = 7
  · subst e7; rfl
  by_cases e8 : i = 8
  · subst e8; rfl
  by_cases e9 : i = 9
  · subst e9; rfl
  by_cases e10 : i = 10
  · subst e10; rfl
  by_cases e11 : i = 11
  · subst e11; rfl
  by_cases e12 : i = 12
  · subst e12; rfl
  by_cases e13 : i = 13
  · subst e13; rfl
  by_cases e14 : i = 14
  · subst e14; rfl
  by_cases e15 : i = 15
  · subst e15; rfl
  by_cases e16 : i = 16
  · subst e16; rfl
  simp only [va_up, e6, e7, e8, e9, e10, e11, e12, e13, e14, e15, e16, if_false]
theorem s_X4_init_17 {h : aH} (w0 : WF 18 h) (cb : h 17 = .inr (4, [iv 0, iv 0, iv 0, .null, .null, .null, .null, .null, .null, .null, .null, .null, .null])) : mSem yX4_init cX4_init 1 none 1 10 482 [.ref 17] 18 h (MkQ 28 (fun h' => h' = va_up (va_up (va_up (va_up (va_up (va_up (va_up (va_up (va_up (va_up (va_up h 17 (.inr (4, [iv 0, iv 120, iv 0, .ref 18, .ref 19, .ref 20, .ref 21, .ref 22, .ref 23, .ref 24, .ref 25, .ref 26, .ref 27]))) 18 (.inl (0, 9, fun _ => 0))) 19 (.inl (0, 9, fun _ => 0))) 20 (.inl (0, 9, fun _ => 0))) 21 (.inl (0, 9, fun _ => 0))) 22 (.inl (0, 9, fun _ => 0))) 23 (.inl (0, 12, fun _ => 0))) 24 (.inl (0, 20, fun _ => 0))) 25 (.inl (0, 20, fun _ => 0))) 26 (.inl (0, 365, fun _ => 0))) 27 (.inl (0, 20, fun _ => 0)))) noX := by
  refine mSem_of (own := RX4) (name := "<init>") pn_X4 rfl rfl (Nat.le_of_ble_eq_true rfl) (ev_G ?_)
  refine g_aload_n dX4_init_0 rfl rfl ?_
  refine g_obj dX4_init_1 (inT1 108 rfl rfl) oI2 oI3 (by decide) ?_
  refine g_aload_n dX4_init_4 rfl rfl ?_
  refine g_iconst dX4_init_5 ?_
  refine g_put (k := 0) (fs := [iv 0, iv 0, iv 0, .null, .null, .null, .null, .null, .null, .null, .null, .null, .null]) (fs2 := [iv 0, iv 0, iv 0, .null, .null, .null, .null, .null, .null, .null, .null, .null, .null]) dX4_init_6 fp_X4_9 (by decide) cb (nar_int _) (Nat.le_of_ble_eq_true rfl) rfl ?_
  have w1 := w0.up (i := 17) (e := .inr (4, [iv 0, iv 0, iv 0, .null, .null, .null, .null, .null, .null, .null, .null, .null, .null])) rfl
  refine g_aload_n dX4_init_9 rfl rfl ?_
  refine g_bipush dX4_init_10 rfl ?_
  refine g_put (k := 1) (fs := [iv 0, iv 0, iv 0, .null, .null, .null, .null, .null, .null, .null, .null, .null, .null]) (fs2 := [iv 0, iv 120, iv 0, .null, .null, .null, .null, .null, .null, .null, .null, .null, .null]) dX4_init_12 fp_X4_15 (by decide) rfl (nar_int _) (Nat.le_of_ble_eq_true rfl) rfl ?_
  have w2 := w1.up (i := 17) (e := .inr (4, [iv 0, iv 120, iv 0, .null, .null, .null, .null, .null, .null, .null, .null, .null, .null])) rfl
  refine g_aload_n dX4_init_15 rfl rfl ?_
  refine g_iconst dX4_init_16 ?_
  refine g_put (k := 2) (fs := [iv 0, iv 120, iv 0, .null, .null, .null, .null, .null, .null, .null, .null, .null, .null]) (fs2 := [iv 0, iv 120, iv 0, .null, .null, .null, .null, .null, .null, .null, .null, .null, .null]) dX4_init_17 fp_X4_18 (by decide) rfl (nar_int _) (Nat.le_of_ble_eq_true rfl) rfl ?_
  have w3 := w2.up (i := 17) (e := .inr (4, [iv 0, iv 120, iv 0, .null, .null, .null, .null, .null, .null, .null, .null, .null, .null])) rfl
  refine g_aload_n dX4_init_20 rfl rfl ?_
  refine g_bipush dX4_init_21 rfl ?_
  refine g_newaI (N := 9) dX4_init_23 aC_int (by decide) (by decide) (by decide) (by decide) rfl rfl w3 (fun w4 => ?_)
  refine g_putF (k := 3) (fs := [iv 0, iv 120, iv 0, .null, .null, .null, .null, .null, .null, .null, .null, .null, .null]) (fs2 := [iv 0, iv 120, iv 0, .ref 18, .null, .null, .null, .null, .null, .null, .null, .null, .null]) dX4_init_25 ff_X4_21 (by decide) rfl (nar_arr _ _) (Nat.le_of_ble_eq_true rfl) rfl ?_
  have w5 := w4.up (i := 17) (e := .inr (4, [iv 0, iv 120, iv 0, .ref 18, .null, .null, .null, .null, .null, .null, .null, .null, .null])) rfl
  refine g_aload_n dX4_init_28 rfl rfl ?_
  refine g_bipush dX4_init_29 rfl ?_
  refine g_newaI (N := 9) dX4_init_31 aC_int (by decide) (by decide) (by decide) (by decide) rfl rfl w5 (fun w6 => ?_)
  refine g_putF (k := 4) (fs := [iv 0, iv 120, iv 0, .ref 18, .null, .null, .null, .null, .null, .null, .null, .null, .null]) (fs2 := [iv 0, iv 120, iv 0, .ref 18, .ref 19, .null, .null, .null, .null, .null, .null, .null, .null]) dX4_init_33 ff_X4_25 (by decide) rfl (nar_arr _ _) (Nat.le_of_ble_eq_true rfl) rfl ?_
  have w7 := w6.up (i := 17) (e := .inr (4, [iv 0, iv 120, iv 0, .ref 18, .ref 19, .null, .null, .null, .null, .null, .null, .null, .null])) rfl
  refine g_aload_n dX4_init_36 rfl rfl ?_
  refine g_bipush dX4_init_37 rfl ?_
  refine g_newaI (N := 9) dX4_init_39 aC_int (by decide) (by decide) (by decide) (by decide) rfl rfl w7 (fun w8 => ?_)
  refine g_putF (k := 5) (fs := [iv 0, iv 120, iv 0, .ref 18, .ref 19, .null, .null, .null, .null, .null, .null, .null, .null]) (fs2 := [iv 0, iv 120, iv 0, .ref 18, .ref 19, .ref 20, .null, .null, .null, .null, .null, .null, .null]) dX4_init_41 ff_X4_28 (by decide) rfl (nar_arr _ _) (Nat.le_of_ble_eq_true rfl) rfl ?_
  have w9 := w8.up (i := 17) (e := .inr (4, [iv 0, iv 120, iv 0, .ref 18, .ref 19, .ref 20, .null, .null, .null, .null, .null, .null, .null])) rfl
  refine g_aload_n dX4_init_44 rfl rfl ?_
  refine g_bipush dX4_init_45 rfl ?_
  refine g_newaI (N := 9) dX4_init_47 aC_int (by decide) (by decide) (by decide) (by decide) rfl rfl w9 (fun w10 => ?_)
  refine g_putF (k := 6) (fs := [iv 0, iv 120, iv 0, .ref 18, .ref 19, .ref 20, .null, .null, .null, .null, .null, .null, .null]) (fs2 := [iv 0, iv 120, iv 0, .ref 18, .ref 19, .ref 20, .ref 21, .null, .null, .null, .null, .null, .null]) dX4_init_49 ff_X4_31 (by decide) rfl (nar_arr _ _) (Nat.le_of_ble_eq_true rfl) rfl ?_
  have w11 := w10.up (i := 17) (e := .inr (4, [iv 0, iv 120, iv 0, .ref 18, .ref 19, .ref 20, .ref 21, .null, .null, .null, .null, .null, .null])) rfl
  refine g_aload_n dX4_init_52 rfl rfl ?_
  refine g_bipush dX4_init_53 rfl ?_
  refine g_newaI (N := 9) dX4_init_55 aC_int (by decide) (by decide) (by decide) (by decide) rfl rfl w11 (fun w12 => ?_)
  refine g_putF (k := 7) (fs := [iv 0, iv 120, iv 0, .ref 18, .ref 19, .ref 20, .ref 21, .null, .null, .null, .null, .null, .null]) (fs2 := [iv 0, iv 120, iv 0, .ref 18, .ref 19, .ref 20, .ref 21, .ref 22, .null, .null, .null, .null, .null]) dX4_init_57 ff_X4_34 (by decide) rfl (nar_arr _ _) (Nat.le_of_ble_eq_true rfl) rfl ?_
  have w13 := w12.up (i := 17) (e := .inr (4, [iv 0, iv 120, iv 0, .ref 18, .ref 19, .ref 20, .ref 21, .ref 22, .null, .null, .null, .null, .null])) rfl
  refine g_aload_n dX4_init_60 rfl rfl ?_
  refine g_bipush dX4_init_61 rfl ?_
  refine g_newaI (N := 12) dX4_init_63 aC_int (by decide) (by decide) (by decide) (by decide) rfl rfl w13 (fun w14 => ?_)
  refine g_putF (k := 8) (fs := [iv 0, iv 120, iv 0, .ref 18, .ref 19, .ref 20, .ref 21, .ref 22, .null, .null, .null, .null, .null]) (fs2 := [iv 0, iv 120, iv 0, .ref 18, .ref 19, .ref 20, .ref 21, .ref 22, .ref 23, .null, .null, .null, .null]) dX4_init_65 ff_X4_37 (by decide) rfl (nar_arr _ _) (Nat.le_of_ble_eq_true rfl) rfl ?_
  have w15 := w14.up (i := 17) (e := .inr (4, [iv 0, iv 120, iv 0, .ref 18, .ref 19, .ref 20, .ref 21, .ref 22, .ref 23, .null, .null, .null, .null])) rfl
  refine g_aload_n dX4_init_68 rfl rfl ?_
  refine g_bipush dX4_init_69 rfl ?_
  refine g_newaI (N := 20) dX4_init_71 aC_int (by decide) (by decide) (by decide) (by decide) rfl rfl w15 (fun w16 => ?_)
  refine g_putF (k := 9) (fs := [iv 0, iv 120, iv 0, .ref 18, .ref 19, .ref 20, .ref 21, .ref 22, .ref 23, .null, .null, .null, .null]) (fs2 := [iv 0, iv 120, iv 0, .ref 18, .ref 19, .ref 20, .ref 21, .ref 22, .ref 23, .ref 24, .null, .null, .null]) dX4_init_73 ff_X4_40 (by decide) rfl (nar_arr _ _) (Nat.le_of_ble_eq_true rfl) rfl ?_
  have w17 := w16.up (i := 17) (e := .inr (4, [iv 0, iv 120, iv 0, .ref 18, .ref 19, .ref 20, .ref 21, .ref 22, .ref 23, .ref 24, .null, .null, .null])) rfl
  refine g_aload_n dX4_init_76 rfl rfl ?_
  refine g_bipush dX4_init_77 rfl ?_
  refine g_newaI (N := 20) dX4_init_79 aC_int (by decide) (by decide) (by decide) (by decide) rfl rfl w17 (fun w18 => ?_)
  refine g_putF (k := 10) (fs := [iv 0, iv 120, iv 0, .ref 18, .ref 19, .ref 20, .ref 21, .ref 22, .ref 23, .ref 24, .null, .null, .null]) (fs2 := [iv 0, iv 120, iv 0, .ref 18, .ref 19, .ref 20, .ref 21, .ref 22, .ref 23, .ref 24, .ref 25, .null, .null]) dX4_init_81 ff_X4_43 (by decide) rfl (nar_arr _ _) (Nat.le_of_ble_eq_true rfl) rfl ?_
  have w19 := w18.up (i := 17) (e := .inr (4, [iv 0, iv 120, iv 0, .ref 18, .ref 19, .ref 20, .ref 21, .ref 22, .ref 23, .ref 24, .ref 25, .null, .null])) rfl
  refine g_aload_n dX4_init_84 rfl rfl ?_
  refine g_sipush dX4_init_85 rfl ?_
  refine g_newaI (N := 365) dX4_init_88 aC_int (by decide) (by decide) (by decide) (by decide) rfl rfl w19 (fun w20 => ?_)
  refine g_putF (k := 11) (fs := [iv 0, iv 120, iv 0, .ref 18, .ref 19, .ref 20, .ref 21, .ref 22, .ref 23, .ref 24, .ref 25, .null, .null]) (fs2 := [iv 0, iv 120, iv 0, .ref 18, .ref 19, .ref 20, .ref 21, .ref 22, .ref 23, .ref 24, .ref 25, .ref 26, .null]) dX4_init_90 ff_X4_46 (by decide) rfl (nar_arr _ _) (Nat.le_of_ble_eq_true rfl) rfl ?_
  have w21 := w20.up (i := 17) (e := .inr (4, [iv 0, iv 120, iv 0, .ref 18, .ref 19, .ref 20, .ref 21, .ref 22, .ref 23, .ref 24, .ref 25, .ref 26, .null])) rfl
  refine g_aload_n dX4_init_93 rfl rfl ?_
  refine g_bipush dX4_init_94 rfl ?_
  refine g_newaI (N := 20) dX4_init_96 aC_int (by decide) (by decide) (by decide) (by decide) rfl rfl w21 (fun w22 => ?_)
  refine g_putF (k := 12) (fs := [iv 0, iv 120, iv 0, .ref 18, .ref 19, .ref 20, .ref 21, .ref 22, .ref 23, .ref 24, .ref 25, .ref 26, .null]) (fs2 := [iv 0, iv 120, iv 0, .ref 18, .ref 19, .ref 20, .ref 21, .ref 22, .ref 23, .ref 24, .ref 25, .ref 26, .ref 27]) dX4_init_98 ff_X4_49 (by decide) rfl (nar_arr _ _) (Nat.le_of_ble_eq_true rfl) rfl ?_
  have w23 := w22.up (i := 17) (e := .inr (4, [iv 0, iv 120, iv 0, .ref 18, .ref 19, .ref 20, .ref 21, .ref 22, .ref 23, .ref 24, .ref 25, .ref 26, .ref 27])) rfl
  refine g_vret dX4_init_101 ?_
  refine ⟨rfl, rfl, w23, ?_⟩
  funext i
  by_cases e17 : i = 17
  · subst e17; rfl
  by_cases e18 : i = 18
  · subst e18; rfl
  by_cases e19 : i = 19
  · subst e19; rfl
  by_cases e20 : i = 20
  · subst e20; rfl
  by_cases e21 : i = 21
  · subst e21; rfl
  by_cases e22 : i = 22
  · subst e22; rfl
  by_cases e23 : i = 23
  · subst e23; rfl
  by_cases e24 : i = 24
  · subst e24; rfl
  by_cases e25 : i = 25
  · subst e25; rfl
  by_cases e26 : i = 26
  · subst e26; rfl
  by_cases e27 : i = 27
  · subst e27; rfl
  simp only [va_up, e17, e18, e19, e20, e21, e22, e23, e24, e25, e26, e27, if_false]
theorem ff_X1_15 : FPF RX1 15 1 1 (.array .int) := ⟨RX1, TX1, 8, tyX1, rfl, by decide, inX1, inT1 175 rfl rfl, rfl, rfl, by decide +kernel, tyX1_ok, nmX1⟩
theorem ff_X1_19 : FPF RX1 19 1 2 (.array .int) := ⟨RX1, TX1, 8, tyX1, rfl, by decide, inX1, inT1 176 rfl rfl, rfl, rfl, by decide +kernel, tyX1_ok, nmX1⟩
theorem ff_X1_22 : FPF RX1 22 1 3 (.array .int) := ⟨RX1, TX1, 8, tyX1, rfl, by decide, inX1, inT1 177 rfl rfl, rfl, rfl, by decide +kernel, tyX1_ok, nmX1⟩
theorem ff_X1_25 : FPF RX1 25 1 4 (.array .int) := ⟨RX1, TX1, 8, tyX1, rfl, by decide, inX1, inT1 178 rfl rfl, rfl, rfl, by decide +kernel, tyX1_ok, nmX1⟩
theorem ff_X1_28 : FPF RX1 28 1 5 (.array .int) := ⟨RX1, TX1, 8, tyX1, rfl, by decide, inX1, inT1 179 rfl rfl, rfl, rfl, by decide +kernel, tyX1_ok, nmX1⟩
theorem s_X1_init_28 {h : aH} (w0 : WF 29 h) (cb : h 28 = .inr (1, [iv 0, .null, .null, .null, .null, .null, .null, iv 0])) : mSem yX1_init cX1_init 1 none 1 5 1409 [.ref 28] 29 h (MkQ 34 (fun h' => h' = va_up (va_up (va_up (va_up (va_up (va_up h 28 (.inr (1, [iv 0, .ref 29, .ref 30, .ref 31, .ref 32, .ref 33, .null, iv 0]))) 29 (.inl (0, 350, fun _ => 0))) 30 (.inl (0, 350, fun _ => 0))) 31 (.inl (0, 350, fun _ => 0))) 32 (.inl (0, 350, fun _ => 0))) 33 (.inl (0, 9, fun _ => 0)))) noX := by
  refine mSem_of (own := RX1) (name := "<init>") pn_X1 rfl rfl (Nat.le_of_ble_eq_true rfl) (ev_G ?_)
  refine g_aload_n dX1_init_0 rfl rfl ?_
  refine g_obj dX1_init_1 (inT1 173 rfl rfl) oI2 oI3 (by decide) ?_
  refine g_aload_n dX1_init_4 rfl rfl ?_
  refine g_iconst dX1_init_5 ?_
  refine g_put (k := 0) (fs := [iv 0, .null, .null, .null, .null, .null, .null, iv 0]) (fs2 := [iv 0, .null, .null, .null, .null, .null, .null, iv 0]) dX1_init_6 fp_X1_9 (by decide) cb (nar_int _) (Nat.le_of_ble_eq_true rfl) rfl ?_
  have w1 := w0.up (i := 28) (e := .inr (1, [iv 0, .null, .null, .null, .null, .null, .null, iv 0])) rfl
  refine g_aload_n dX1_init_9 rfl rfl ?_
  refine g_sipush dX1_init_10 rfl ?_
  refine g_newaI (N := 350) dX1_init_13 aC_int (by decide) (by decide) (by decide) (by decide) rfl rfl w1 (fun w2 => ?_)
  refine g_putF (k := 1) (fs := [iv 0, .null, .null, .null, .null, .null, .null, iv 0]) (fs2 := [iv 0, .ref 29, .null, .null, .null, .null, .null, iv 0]) dX1_init_15 ff_X1_15 (by decide) rfl (nar_arr _ _) (Nat.le_of_ble_eq_true rfl) rfl ?_
  have w3 := w2.up (i := 28) (e := .inr (1, [iv 0, .ref 29, .null, .null, .null, .null, .null, iv 0])) rfl
  refine g_aload_n dX1_init_18 rfl rfl ?_
  refine g_sipush dX1_init_19 rfl ?_
  refine g_newaI (N := 350) dX1_init_22 aC_int (by decide) (by decide) (by decide) (by decide) rfl rfl w3 (fun w4 => ?_)
  refine g_putF (k := 2) (fs := [iv 0, .ref 29, .null, .null, .null, .null, .null, iv 0]) (fs2 := [iv 0, .ref 29, .ref 30, .null, .null, .null, .null, iv 0]) dX1_init_24 ff_X1_19 (by decide) rfl (nar_arr _ _) (Nat.le_of_ble_eq_true rfl) rfl ?_
  have w5 := w4.up (i := 28) (e := .inr (1, [iv 0, .ref 29, .ref 30, .null, .null, .null, .null, iv 0])) rfl
  refine g_aload_n dX1_init_27 rfl rfl ?_
  refine g_sipush dX1_init_28 rfl ?_
  refine g_newaI (N := 350) dX1_init_31 aC_int (by decide) (by decide) (by decide) (by decide) rfl rfl w5 (fun w6 => ?_)
  refine g_putF (k := 3) (fs := [iv 0, .ref 29, .ref 30, .null, .null, .null, .null, iv 0]) (fs2 := [iv 0, .ref 29, .ref 30, .ref 31, .null, .null, .null, iv 0]) dX1_init_33 ff_X1_22 (by decide) rfl (nar_arr _ _) (Nat.le_of_ble_eq_true rfl) rfl ?_
  have w7 := w6.up (i := 28) (e := .inr (1, [iv 0, .ref 29, .ref 30, .ref 31, .null, .null, .null, iv 0])) rfl
  refine g_aload_n dX1_init_36 rfl rfl ?_
  refine g_sipush dX1_init_37 rfl ?_
  refine g_newaI (N := 350) dX1_init_40 aC_int (by decide) (by decide) (by decide) (by decide) rfl rfl w7 (fun w8 => ?_)
  refine g_putF (k := 4) (fs := [iv 0, .ref 29, .ref 30, .ref 31, .null, .null, .null, iv 0]) (fs2 := [iv 0, .ref 29, .ref 30, .ref 31, .ref 32, .null, .null, iv 0]) dX1_init_42 ff_X1_25 (by decide) rfl (nar_arr _ _) (Nat.le_of_ble_eq_true rfl) rfl ?_
  have w9 := w8.up (i := 28) (e := .inr (1, [iv 0, .ref 29, .ref 30, .ref 31, .ref 32, .null, .null, iv 0])) rfl
  refine g_aload_n dX1_init_45 rfl rfl ?_
  refine g_bipush dX1_init_46 rfl ?_
  refine g_newaI (N := 9) dX1_init_48 aC_int (by decide) (by decide) (by decide) (by decide) rfl rfl w9 (fun w10 => ?_)
  refine g_putF (k := 5) (fs := [iv 0, .ref 29, .ref 30, .ref 31, .ref 32, .null, .null, iv 0]) (fs2 := [iv 0, .ref 29, .ref 30, .ref 31, .ref 32, .ref 33, .null, iv 0]) dX1_init_50 ff_X1_28 (by decide) rfl (nar_arr _ _) (Nat.le_of_ble_eq_true rfl) rfl ?_
  have w11 := w10.up (i := 28) (e := .inr (1, [iv 0, .ref 29, .ref 30, .ref 31, .ref 32, .ref 33, .null, iv 0])) rfl
  refine g_aload_n dX1_init_53 rfl rfl ?_
  refine g_null dX1_init_54 ?_
  refine g_put (k := 6) (fs := [iv 0, .ref 29, .ref 30, .ref 31, .ref 32, .ref 33, .null, iv 0]) (fs2 := [iv 0, .ref 29, .ref 30, .ref 31, .ref 32, .ref 33, .null, iv 0]) dX1_init_55 fp_X1_31 (by decide) rfl (nar_null _ ⟨rfl, rfl⟩) (Nat.le_of_ble_eq_true rfl) rfl ?_
  have w12 := w11.up (i := 28) (e := .inr (1, [iv 0, .ref 29, .ref 30, .ref 31, .ref 32, .ref 33, .null, iv 0])) rfl
  refine g_aload_n dX1_init_58 rfl rfl ?_
  refine g_iconst dX1_init_59 ?_
  refine g_put (k := 7) (fs := [iv 0, .ref 29, .ref 30, .ref 31, .ref 32, .ref 33, .null, iv 0]) (fs2 := [iv 0, .ref 29, .ref 30, .ref 31, .ref 32, .ref 33, .null, iv 0]) dX1_init_60 fp_X1_34 (by decide) rfl (nar_int _) (Nat.le_of_ble_eq_true rfl) rfl ?_
  have w13 := w12.up (i := 28) (e := .inr (1, [iv 0, .ref 29, .ref 30, .ref 31, .ref 32, .ref 33, .null, iv 0])) rfl
  refine g_vret dX1_init_63 ?_
  refine ⟨rfl, rfl, w13, ?_⟩
  funext i
  by_cases e28 : i = 28
  · subst e28; rfl
  by_cases e29 : i = 29
  · subst e29; rfl
  by_cases e30 : i = 30
  · subst e30; rfl
  by_cases e31 : i = 31
  · subst e31; rfl
  by_cases e32 : i = 32
  · subst e32; rfl
  by_cases e33 : i = 33
  · subst e33; rfl
  simp only [va_up, e28, e29, e30, e31, e32, e33, if_false]
theorem s_X1_init_34 {h : aH} (w0 : WF 35 h) (cb : h 34 = .inr (1, [iv 0, .null, .null, .null, .null, .null, .null, iv 0])) : mSem yX1_init cX1_init 1 none 1 5 1409 [.ref 34] 35 h (MkQ 40 (fun h' => h' = va_up (va_up (va_up (va_up (va_up (va_up h 34 (.inr (1, [iv 0, .ref 35, .ref 36, .ref 37, .ref 38, .ref 39, .null, iv 0]))) 35 (.inl (0, 350, fun _ => 0))) 36 (.inl (0, 350, fun _ => 0))) 37 (.inl (0, 350, fun _ => 0))) 38 (.inl (0, 350, fun _ => 0))) 39 (.inl (0, 9, fun _ => 0)))) noX := by
  refine mSem_of (own := RX1) (name := "<init>") pn_X1 rfl rfl (Nat.le_of_ble_eq_true rfl) (ev_G ?_)
  refine g_aload_n dX1_init_0 rfl rfl ?_
  refine g_obj dX1_init_1 (inT1 173 rfl rfl) oI2 oI3 (by decide) ?_
  refine g_aload_n dX1_init_4 rfl rfl ?_
  refine g_iconst dX1_init_5 ?_
  refine g_put (k := 0) (fs := [iv 0, .null, .null, .null, .null, .null, .null, iv 0]) (fs2 := [iv 0, .null, .null, .null, .null, .null, .null, iv 0]) dX1_init_6 fp_X1_9 (by decide) cb (nar_int _) (Nat.le_of_ble_eq_true rfl) rfl ?_
  have w1 := w0.up (i := 34) (e := .inr (1, [iv 0, .null, .null, .null, .null, .null, .null, iv 0])) rfl
  refine g_aload_n dX1_init_9 rfl rfl ?_
  refine g_sipush dX1_init_10 rfl ?_
  refine g_newaI (N := 350) dX1_init_13 aC_int (by decide) (by decide) (by decide) (by decide) rfl rfl w1 (fun w2 => ?_)
  refine g_putF (k := 1) (fs := [iv 0, .null, .null, .null, .null, .null, .null, iv 0]) (fs2 := [iv 0, .ref 35, .null, .null, .null, .null, .null, iv 0]) dX1_init_15 ff_X1_15 (by decide) rfl (nar_arr _ _) (Nat.le_of_ble_eq_true rfl) rfl ?_
  have w3 := w2.up (i := 34) (e := .inr (1, [iv 0, .ref 35, .null, .null, .null, .null, .null, iv 0])) rfl
  refine g_aload_n dX1_init_18 rfl rfl ?_
  refine g_sipush dX1_init_19 rfl ?_
  refine g_newaI (N := 350) dX1_init_22 aC_int (by decide) (by decide) (by decide) (by decide) rfl rfl w3 (fun w4 => ?_)
  refine g_putF (k := 2) (fs := [iv 0, .ref 35, .null, .null, .null, .null, .null, iv 0]) (fs2 := [iv 0, .ref 35, .ref 36, .null, .null, .null, .null, iv 0]) dX1_init_24 ff_X1_19 (by decide) rfl (nar_arr _ _) (Nat.le_of_ble_eq_true rfl) rfl ?_
  have w5 := w4.up (i := 34) (e := .inr (1, [iv 0, .ref 35, .ref 36, .null, .null, .null, .null, iv 0])) rfl
  refine g_aload_n dX1_init_27 rfl rfl ?_
  refine g_sipush dX1_init_28 rfl ?_
  refine g_newaI (N := 350) dX1_init_31 aC_int (by decide) (by decide) (by decide) (by decide) rfl rfl w5 (fun w6 => ?_)
  refine g_putF (k := 3) (fs := [iv 0, .ref 35, .ref 36, .null, .null, .null, .null, iv 0]) (fs2 := [iv 0, .ref 35, .ref 36, .ref 37, .null, .null, .null, iv 0]) dX1_init_33 ff_X1_22 (by decide) rfl (nar_arr _ _) (Nat.le_of_ble_eq_true rfl) rfl ?_
  have w7 := w6.up (i := 34) (e := .inr (1, [iv 0, .ref 35, .ref 36, .ref 37, .null, .null, .null, iv 0])) rfl
  refine g_aload_n dX1_init_36 rfl rfl ?_
  refine g_sipush dX1_init_37 rfl ?_
  refine g_newaI (N := 350) dX1_init_40 aC_int (by decide) (by decide) (by decide) (by decide) rfl rfl w7 (fun w8 => ?_)
  refine g_putF (k := 4) (fs := [iv 0, .ref 35, .ref 36, .ref 37, .null, .null, .null, iv 0]) (fs2 := [iv 0, .ref 35, .ref 36, .ref 37, .ref 38, .null, .null, iv 0]) dX1_init_42 ff_X1_25 (by decide) rfl (nar_arr _ _) (Nat.le_of_ble_eq_true rfl) rfl ?_
  have w9 := w8.up (i := 34) (e := .inr (1, [iv 0, .ref 35, .ref 36, .ref 37, .ref 38, .null, .null, iv 0])) rfl
  refine g_aload_n dX1_init_45 rfl rfl ?_
  refine g_bipush dX1_init_46 rfl ?_
  refine g_newaI (N := 9) dX1_init_48 aC_int (by decide) (by decide) (by decide) (by decide) rfl rfl w9 (fun w10 => ?_)
  refine g_putF (k := 5) (fs := [iv 0, .ref 35, .ref 36, .ref 37, .ref 38, .null, .null, iv 0]) (fs2 := [iv 0, .ref 35, .ref 36, .ref 37, .ref 38, .ref 39, .null, iv 0]) dX1_init_50 ff_X1_28 (by decide) rfl (nar_arr _ _) (Nat.le_of_ble_eq_true rfl) rfl ?_
  have w11 := w10.up (i := 34) (e := .inr (1, [iv 0, .ref 35, .ref 36, .ref 37, .ref 38, .ref 39, .null, iv 0])) rfl
  refine g_aload_n dX1_init_53 rfl rfl ?_
  refine g_null dX1_init_54 ?_
  refine g_put (k := 6) (fs := [iv 0, .ref 35, .ref 36, .ref 37, .ref 38, .ref 39, .null, iv 0]) (fs2 := [iv 0, .ref 35, .ref 36, .ref 37, .ref 38, .ref 39, .null, iv 0]) dX1_init_55 fp_X1_31 (by decide) rfl (nar_null _ ⟨rfl, rfl⟩) (Nat.le_of_ble_eq_true rfl) rfl ?_
  have w12 := w11.up (i := 34) (e := .inr (1, [iv 0, .ref 35, .ref 36, .ref 37, .ref 38, .ref 39, .null, iv 0])) rfl
  refine g_aload_n dX1_init_58 rfl rfl ?_
  refine g_iconst dX1_init_59 ?_
  refine g_put (k := 7) (fs := [iv 0, .ref 35, .ref 36, .ref 37, .ref 38, .ref 39, .null, iv 0]) (fs2 := [iv 0, .ref 35, .ref 36, .ref 37, .ref 38, .ref 39, .null, iv 0]) dX1_init_60 fp_X1_34 (by decide) rfl (nar_int _) (Nat.le_of_ble_eq_true rfl) rfl ?_
  have w13 := w12.up (i := 34) (e := .inr (1, [iv 0, .ref 35, .ref 36, .ref 37, .ref 38, .ref 39, .null, iv 0])) rfl
  refine g_vret dX1_init_63 ?_
  refine ⟨rfl, rfl, w13, ?_⟩
  funext i
  by_cases e34 : i = 34
  · subst e34; rfl
  by_cases e35 : i = 35
  · subst e35; rfl
  by_cases e36 : i = 36
  · subst e36; rfl
  by_cases e37 : i = 37
  · subst e37; rfl
  by_cases e38 : i = 38
  · subst e38; rfl
  by_cases e39 : i = 39
  · subst e39; rfl
  simp only [va_up, e34, e35, e36, e37, e38, e39, if_false]
theorem ff_X3_21 : FPF RX3 21 3 3 (.array .int) := ⟨RX3, TX3, 11, tyX3, rfl, by decide, inX3, inT1 215 rfl rfl, rfl, rfl, by decide +kernel, tyX3_ok, nmX3⟩
theorem ff_X3_25 : FPF RX3 25 3 4 (.array .int) := ⟨RX3, TX3, 11, tyX3, rfl, by decide, inX3, inT1 217 rfl rfl, rfl, rfl, by decide +kernel, tyX3_ok, nmX3⟩
theorem ff_X3_28 : FPF RX3 28 3 5 (.array .int) := ⟨RX3, TX3, 11, tyX3, rfl, by decide, inX3, inT1 219 rfl rfl, rfl, rfl, by decide +kernel, tyX3_ok, nmX3⟩
theorem ff_X3_31 : FPF RX3 31 3 6 (.array .int) := ⟨RX3, TX3, 11, tyX3, rfl, by decide, inX3, inT1 221 rfl rfl, rfl, rfl, by decide +kernel, tyX3_ok, nmX3⟩
theorem ff_X3_34 : FPF RX3 34 3 7 (.array .int) := ⟨RX3, TX3, 11, tyX3, rfl, by decide, inX3, inT1 223 rfl rfl, rfl, rfl, by decide +kernel, tyX3_ok, nmX3⟩
theorem ff_X3_37 : FPF RX3 37 3 8 (.array .int) := ⟨RX3, TX3, 11, tyX3, rfl, by decide, inX3, inT1 225 rfl rfl, rfl, rfl, by decide +kernel, tyX3_ok, nmX3⟩
theorem ff_X3_40 : FPF RX3 40 3 9 (.array .int) := ⟨RX3, TX3, 11, tyX3, rfl, by decide, inX3, inT1 226 rfl rfl, rfl, rfl, by decide +kernel, tyX3_ok, nmX3⟩
theorem ff_X3_43 : FPF RX3 43 3 10 (.array .int) := ⟨RX3, TX3, 11, tyX3, rfl, by decide, inX3, inT1 227 rfl rfl, rfl, rfl, by decide +kernel, tyX3_ok, nmX3⟩
theorem s_X3_init_40 {h : aH} (w0 : WF 41 h) (cb : h 40 = .inr (3, [iv 0, iv 0, iv 0, .null, .null, .null, .null, .null, .null, .null, .null])) : mSem yX3_init cX3_init 1 none 1 8 177 [.ref 40] 41 h (MkQ 49 (fun h' => h' = va_up (va_up (va_up (va_up (va_up (va_up (va_up (va_up (va_up h 40 (.inr (3, [iv 0, iv 0, iv 0, .ref 41, .ref 42, .ref 43, .ref 44, .ref 45, .ref 46, .ref 47, .ref 48]))) 41 (.inl (0, 12, fun _ => 0))) 42 (.inl (0, 12, fun _ => 0))) 43 (.inl (0, 12, fun _ => 0))) 44 (.inl (0, 12, fun _ => 0))) 45 (.inl (0, 9, fillF (fun _ => 0) (-1) 9))) 46 (.inl (0, 40, fun _ => 0))) 47 (.inl (0, 40, fun _ => 0))) 48 (.inl (0, 40, fun _ => 0)))) noX := by
  refine mSem_of (own := RX3) (name := "<init>") pn_X3 rfl rfl (Nat.le_of_ble_eq_true rfl) (ev_G ?_)
  refine g_aload_n dX3_init_0 rfl rfl ?_
  refine g_obj dX3_init_1 (inT1 204 rfl rfl) oI2 oI3 (by decide) ?_
  refine g_aload_n dX3_init_4 rfl rfl ?_
  refine g_iconst dX3_init_5 ?_
  refine g_put (k := 0) (fs := [iv 0, iv 0, iv 0, .null, .null, .null, .null, .null, .null, .null, .null]) (fs2 := [iv 0, iv 0, iv 0, .null, .null, .null, .null, .null, .null, .null, .null]) dX3_init_6 fp_X3_9 (by decide) cb (nar_int _) (Nat.le_of_ble_eq_true rfl) rfl ?_
  have w1 := w0.up (i := 40) (e := .inr (3, [iv 0, iv 0, iv 0, .null, .null, .null, .null, .null, .null, .null, .null])) rfl
  refine g_aload_n dX3_init_9 rfl rfl ?_
  refine g_iconst dX3_init_10 ?_
  refine g_put (k := 1) (fs := [iv 0, iv 0, iv 0, .null, .null, .null, .null, .null, .null, .null, .null]) (fs2 := [iv 0, iv 0, iv 0, .null, .null, .null, .null, .null, .null, .null, .null]) dX3_init_11 fp_X3_15 (by decide) rfl (nar_int _) (Nat.le_of_ble_eq_true rfl) rfl ?_
  have w2 := w1.up (i := 40) (e := .inr (3, [iv 0, iv 0, iv 0, .null, .null, .null, .null, .null, .null, .null, .null])) rfl
  refine g_aload_n dX3_init_14 rfl rfl ?_
  refine g_iconst dX3_init_15 ?_
  refine g_put (k := 2) (fs := [iv 0, iv 0, iv 0, .null, .null, .null, .null, .null, .null, .null, .null]) (fs2 := [iv 0, iv 0, iv 0, .null, .null, .null, .null, .null, .null, .null, .null]) dX3_init_16 fp_X3_18 (by decide) rfl (nar_int _) (Nat.le_of_ble_eq_true rfl) rfl ?_
  have w3 := w2.up (i := 40) (e := .inr (3, [iv 0, iv 0, iv 0, .null, .null, .null, .null, .null, .null, .null, .null])) rfl
  refine g_aload_n dX3_init_19 rfl rfl ?_
  refine g_bipush dX3_init_20 rfl ?_
  refine g_newaI (N := 12) dX3_init_22 aC_int (by decide) (by decide) (by decide) (by decide) rfl rfl w3 (fun w4 => ?_)
  refine g_putF (k := 3) (fs := [iv 0, iv 0, iv 0, .null, .null, .null, .null, .null, .null, .null, .null]) (fs2 := [iv 0, iv 0, iv 0, .ref 41, .null, .null, .null, .null, .null, .null, .null]) dX3_init_24 ff_X3_21 (by decide) rfl (nar_arr _ _) (Nat.le_of_ble_eq_true rfl) rfl ?_
  have w5 := w4.up (i := 40) (e := .inr (3, [iv 0, iv 0, iv 0, .ref 41, .null, .null, .null, .null, .null, .null, .null])) rfl
  refine g_aload_n dX3_init_27 rfl rfl ?_
  refine g_bipush dX3_init_28 rfl ?_
  refine g_newaI (N := 12) dX3_init_30 aC_int (by decide) (by decide) (by decide) (by decide) rfl rfl w5 (fun w6 => ?_)
  refine g_putF (k := 4) (fs := [iv 0, iv 0, iv 0, .ref 41, .null, .null, .null, .null, .null, .null, .null]) (fs2 := [iv 0, iv 0, iv 0, .ref 41, .ref 42, .null, .null, .null, .null, .null, .null]) dX3_init_32 ff_X3_25 (by decide) rfl (nar_arr _ _) (Nat.le_of_ble_eq_true rfl) rfl ?_
  have w7 := w6.up (i := 40) (e := .inr (3, [iv 0, iv 0, iv 0, .ref 41, .ref 42, .null, .null, .null, .null, .null, .null])) rfl
  refine g_aload_n dX3_init_35 rfl rfl ?_
  refine g_bipush dX3_init_36 rfl ?_
  refine g_newaI (N := 12) dX3_init_38 aC_int (by decide) (by decide) (by decide) (by decide) rfl rfl w7 (fun w8 => ?_)
  refine g_putF (k := 5) (fs := [iv 0, iv 0, iv 0, .ref 41, .ref 42, .null, .null, .null, .null, .null, .null]) (fs2 := [iv 0, iv 0, iv 0, .ref 41, .ref 42, .ref 43, .null, .null, .null, .null, .null]) dX3_init_40 ff_X3_28 (by decide) rfl (nar_arr _ _) (Nat.le_of_ble_eq_true rfl) rfl ?_
  have w9 := w8.up (i := 40) (e := .inr (3, [iv 0, iv 0, iv 0, .ref 41, .ref 42, .ref 43, .null, .null, .null, .null, .null])) rfl
  refine g_aload_n dX3_init_43 rfl rfl ?_
  refine g_bipush dX3_init_44 rfl ?_
  refine g_newaI (N := 12) dX3_init_46 aC_int (by decide) (by decide) (by decide) (by decide) rfl rfl w9 (fun w10 => ?_)
  refine g_putF (k := 6) (fs := [iv 0, iv 0, iv 0, .ref 41, .ref 42, .ref 43, .null, .null, .null, .null, .null]) (fs2 := [iv 0, iv 0, iv 0, .ref 41, .ref 42, .ref 43, .ref 44, .null, .null, .null, .null]) dX3_init_48 ff_X3_31 (by decide) rfl (nar_arr _ _) (Nat.le_of_ble_eq_true rfl) rfl ?_
  have w11 := w10.up (i := 40) (e := .inr (3, [iv 0, iv 0, iv 0, .ref 41, .ref 42, .ref 43, .ref 44, .null, .null, .null, .null])) rfl
  refine g_aload_n dX3_init_51 rfl rfl ?_
  refine g_bipush dX3_init_52 rfl ?_
  refine g_newaI (N := 9) dX3_init_54 aC_int (by decide) (by decide) (by decide) (by decide) rfl rfl w11 (fun w12 => ?_)
  refine g_putF (k := 7) (fs := [iv 0, iv 0, iv 0, .ref 41, .ref 42, .ref 43, .ref 44, .null, .null, .null, .null]) (fs2 := [iv 0, iv 0, iv 0, .ref 41, .ref 42, .ref 43, .ref 44, .ref 45, .null, .null, .null]) dX3_init_56 ff_X3_34 (by decide) rfl (nar_arr _ _) (Nat.le_of_ble_eq_true rfl) rfl ?_
  have w13 := w12.up (i := 40) (e := .inr (3, [iv 0, iv 0, iv 0, .ref 41, .ref 42, .ref 43, .ref 44, .ref 45, .null, .null, .null])) rfl
  refine g_aload_n dX3_init_59 rfl rfl ?_
  refine g_bipush dX3_init_60 rfl ?_
  refine g_newaI (N := 40) dX3_init_62 aC_int (by decide) (by decide) (by decide) (by decide) rfl rfl w13 (fun w14 => ?_)
  refine g_putF (k := 8) (fs := [iv 0, iv 0, iv 0, .ref 41, .ref 42, .ref 43, .ref 44, .ref 45, .null, .null, .null]) (fs2 := [iv 0, iv 0, iv 0, .ref 41, .ref 42, .ref 43, .ref 44, .ref 45, .ref 46, .null, .null]) dX3_init_64 ff_X3_37 (by decide) rfl (nar_arr _ _) (Nat.le_of_ble_eq_true rfl) rfl ?_
  have w15 := w14.up (i := 40) (e := .inr (3, [iv 0, iv 0, iv 0, .ref 41, .ref 42, .ref 43, .ref 44, .ref 45, .ref 46, .null, .null])) rfl
  refine g_aload_n dX3_init_67 rfl rfl ?_
  refine g_bipush dX3_init_68 rfl ?_
  refine g_newaI (N := 40) dX3_init_70 aC_int (by decide) (by decide) (by decide) (by decide) rfl rfl w15 (fun w16 => ?_)
  refine g_putF (k := 9) (fs := [iv 0, iv 0, iv 0, .ref 41, .ref 42, .ref 43, .ref 44, .ref 45, .ref 46, .null, .null]) (fs2 := [iv 0, iv 0, iv 0, .ref 41, .ref 42, .ref 43, .ref 44, .ref 45, .ref 46, .ref 47, .null]) dX3_init_72 ff_X3_40 (by decide) rfl (nar_arr _ _) (Nat.le_of_ble_eq_true rfl) rfl ?_
  have w17 := w16.up (i := 40) (e := .inr (3, [iv 0, iv 0, iv 0, .ref 41, .ref 42, .ref 43, .ref 44, .ref 45, .ref 46, .ref 47, .null])) rfl
  refine g_aload_n dX3_init_75 rfl rfl ?_
  refine g_bipush dX3_init_76 rfl ?_
  refine g_newaI (N := 40) dX3_init_78 aC_int (by decide) (by decide) (by decide) (by decide) rfl rfl w17 (fun w18 => ?_)
  refine g_putF (k := 10) (fs := [iv 0, iv 0, iv 0, .ref 41, .ref 42, .ref 43, .ref 44, .ref 45, .ref 46, .ref 47, .null]) (fs2 := [iv 0, iv 0, iv 0, .ref 41, .ref 42, .ref 43, .ref 44, .ref 45, .ref 46, .ref 47, .ref 48]) dX3_init_80 ff_X3_43 (by decide) rfl (nar_arr _ _) (Nat.le_of_ble_eq_true rfl) rfl ?_
  have w19 := w18.up (i := 40) (e := .inr (3, [iv 0, iv 0, iv 0, .ref 41, .ref 42, .ref 43, .ref 44, .ref 45, .ref 46, .ref 47, .ref 48])) rfl
  refine g_aload_n dX3_init_83 rfl rfl ?_
  refine g_get (fs := [iv 0, iv 0, iv 0, .ref 41, .ref 42, .ref 43, .ref 44, .ref 45, .ref 46, .ref 47, .ref 48]) dX3_init_84 fl_X3_34 (by decide) rfl rfl ?_
  refine g_iconst dX3_init_87 ?_
  refine g_callS [.ref 45, iv (-1)] (s_fill_45_49 (h := _) (f := fun _ => 0) rfl) (fun _ _ _ hx => hx) dX3_init_88 cs_X3_46 sm_J7_fill_53178 (by decide) (by decide) (by decide) rfl rfl (by decide) rfl rfl (fun v9 n9 h9 q9 => ?_)
  obtain ⟨rfl, rfl, rfl⟩ := q9
  dsimp only [Option.toList, List.cons_append, List.nil_append]
  have w20 := w19.up (i := 45) (e := .inl (0, 9, fillF (fun _ => 0) (-1) 9)) rfl
  refine g_vret dX3_init_91 ?_
  refine ⟨rfl, rfl, w20, ?_⟩
  funext i
  by_cases e40 : i = 40
  · subst e40; rfl
  by_cases e41 : i = 41
  · subst e41; rfl
  by_cases e42 : i = 42
  · subst e42; rfl
  by_cases e43 : i = 43
  · subst e43; rfl
  by_cases e44 : i = 44
  · subst e44; rfl
  by_cases e45 : i = 45
  · subst e45; rfl
  by_cases e46 : i = 46
  · subst e46; rfl
  by_cases e47 : i = 47
  · subst e47; rfl
  by_cases e48 : i = 48
  · subst e48; rfl
  simp only [va_up, e40, e41, e42, e43, e44, e45, e46, e47, e48, if_false]
theorem s_X3_init_49 {h : aH} (w0 : WF 50 h) (cb : h 49 = .inr (3, [iv 0, iv 0, iv 0, .null, .null, .null, .null, .null, .null, .null, .null])) : mSem yX3_init cX3_init 1 none 1 8 177 [.ref 49] 50 h (MkQ 58 (fun h' => h' = va_up (va_up (va_up (va_up (va_up (va_up (va_up (va_up (va_up h 49 (.inr (3, [iv 0, iv 0, iv 0, .ref 50, .ref 51, .ref 52, .ref 53, .ref 54, .ref 55, .ref 56, .ref 57]))) 50 (.inl (0, 12, fun _ => 0))) 51 (.inl (0, 12, fun _ => 0))) 52 (.inl (0, 12, fun _ => 0))) 53 (.inl (0, 12, fun _ => 0))) 54 (.inl (0, 9, fillF (fun _ => 0) (-1) 9))) 55 (.inl (0, 40, fun _ => 0))) 56 (.inl (0, 40, fun _ => 0))) 57 (.inl (0, 40, fun _ => 0)))) noX := by
  refine mSem_of (own := RX3) (name := "<init>") pn_X3 rfl rfl (Nat.le_of_ble_eq_true rfl) (ev_G ?_)
  refine g_aload_n dX3_init_0 rfl rfl ?_
  refine g_obj dX3_init_1 (inT1 204 rfl rfl) oI2 oI3 (by decide) ?_
  refine g_aload_n dX3_init_4 rfl rfl ?_
  refine g_iconst dX3_init_5 ?_
  refine g_put (k := 0) (fs := [iv 0, iv 0, iv 0, .null, .null, .null, .null, .null, .null, .null, .null]) (fs2 := [iv 0, iv 0, iv 0, .null, .null, .null, .null, .null, .null, .null, .null]) dX3_init_6 fp_X3_9 (by decide) cb (nar_int _) (Nat.le_of_ble_eq_true rfl) rfl ?_
  have w1 := w0.up (i := 49) (e := .inr (3, [iv 0, iv 0, iv 0, .null, .null, .null, .null, .null, .null, .null, .null])) rfl
  refine g_aload_n dX3_init_9 rfl rfl ?_
  refine g_iconst dX3_init_10 ?_
  refine g_put (k := 1) (fs := [iv 0, iv 0, iv 0, .null, .null, .null, .null, .null, .null, .null, .null]) (fs2 := [iv 0, iv 0, iv 0, .null, .null, .null, .null, .null, .null, .null, .null]) dX3_init_11 fp_X3_15 (by decide) rfl (nar_int _) (Nat.le_of_ble_eq_true rfl) rfl ?_
  have w2 := w1.up (i := 49) (e := .inr (3, [iv 0, iv 0, iv 0, .null, .null, .null, .null, .null, .null, .null, .null])) rfl
  refine g_aload_n dX3_init_14 rfl rfl ?_
  refine g_iconst dX3_init_15 ?_
  refine g_put (k := 2) (fs := [iv 0, iv 0, iv 0, .null, .null, .null, .null, .null, .null, .null, .null]) (fs2 := [iv 0, iv 0, iv 0, .null, .null, .null, .null, .null, .null, .null, .null]) dX3_init_16 fp_X3_18 (by decide) rfl (nar_int _) (Nat.le_of_ble_eq_true rfl) rfl ?_
  have w3 := w2.up (i := 49) (e := .inr (3, [iv 0, iv 0, iv 0, .null, .null, .null, .null, .null, .null, .null, .null])) rfl
  refine g_aload_n dX3_init_19 rfl rfl ?_
  refine g_bipush dX3_init_20 rfl ?_
  refine g_newaI (N := 12) dX3_init_22 aC_int (by decide) (by decide) (by decide) (by decide) rfl rfl w3 (fun w4 => ?_)
  refine g_putF (k := 3) (fs := [iv 0, iv 0, iv 0, .null, .null, .null, .null, .null, .null, .null, .null]) (fs2 := [iv 0, iv 0, iv 0, .ref 50, .null, .null, .null, .null, .null, .null, .null]) dX3_init_24 ff_X3_21 (by decide) rfl (nar_arr _ _) (Nat.le_of_ble_eq_true rfl) rfl ?_
  have w5 := w4.up (i := 49) (e := .inr (3, [iv 0, iv 0, iv 0, .ref 50, .null, .null, .null, .null, .null, .null, .null])) rfl
  refine g_aload_n dX3_init_27 rfl rfl ?_
  refine g_bipush dX3_init_28 rfl ?_
  refine g_newaI (N := 12) dX3_init_30 aC_int (by decide) (by decide) (by decide) (by decide) rfl rfl w5 (fun w6 => ?_)
  refine g_putF (k := 4) (fs := [iv 0, iv 0, iv 0, .ref 50, .null, .null, .null, .null, .null, .null, .null]) (fs2 := [iv 0, iv 0, iv 0, .ref 50, .ref 51, .null, .null, .null, .null, .null, .null]) dX3_init_32 ff_X3_25 (by decide) rfl (nar_arr _ _) (Nat.le_of_ble_eq_true rfl) rfl ?_
  have w7 := w6.up (i := 49) (e := .inr (3, [iv 0, iv 0, iv 0, .ref 50, .ref 51, .null, .null, .null, .null, .null, .null])) rfl
  refine g_aload_n dX3_init_35 rfl rfl ?_
  refine g_bipush dX3_init_36 rfl ?_
  refine g_newaI (N := 12) dX3_init_38 aC_int (by decide) (by decide) (by decide) (by decide) rfl rfl w7 (fun w8 => ?_)
  refine g_putF (k := 5) (fs := [iv 0, iv 0, iv 0, .ref 50, .ref 51, .null, .null, .null, .null, .null, .null]) (fs2 := [iv 0, iv 0, iv 0, .ref 50, .ref 51, .ref 52, .null, .null, .null, .null, .null]) dX3_init_40 ff_X3_28 (by decide) rfl (nar_arr _ _) (Nat.le_of_ble_eq_true rfl) rfl ?_
  have w9 := w8.up (i := 49) (e := .inr (3, [iv 0, iv 0, iv 0, .ref 50, .ref 51, .ref 52, .null, .null, .null, .null, .null])) rfl
  refine g_aload_n dX3_init_43 rfl rfl ?_
  refine g_bipush dX3_init_44 rfl ?_
  refine g_newaI (N := 12) dX3_init_46 aC_int (by decide) (by decide) (by decide) (by decide) rfl rfl w9 (fun w10 => ?_)
  refine g_putF (k := 6) (fs := [iv 0, iv 0, iv 0, .ref 50, .ref 51, .ref 52, .null, .null, .null, .null, .null]) (fs2 := [iv 0, iv 0, iv 0, .ref 50, .ref 51, .ref 52, .ref 53, .null, .null, .null, .null]) dX3_init_48 ff_X3_31 (by decide) rfl (nar_arr _ _) (Nat.le_of_ble_eq_true rfl) rfl ?_
  have w11 := w10.up (i := 49) (e := .inr (3, [iv 0, iv 0, iv 0, .ref 50, .ref 51, .ref 52, .ref 53, .null, .null, .null, .null])) rfl
  refine g_aload_n dX3_init_51 rfl rfl ?_
  refine g_bipush dX3_init_52 rfl ?_
  refine g_newaI (N := 9) dX3_init_54 aC_int (by decide) (by decide) (by decide) (by decide) rfl rfl w11 (fun w12 => ?_)
  refine g_putF (k := 7) (fs := [iv 0, iv 0, iv 0, .ref 50, .ref 51, .ref 52, .ref 53, .null, .null, .null, .null]) (fs2 := [iv 0, iv 0, iv 0, .ref 50, .ref 51, .ref 52, .ref 53, .ref 54, .null, .null, .null]) dX3_init_56 ff_X3_34 (by decide) rfl (nar_arr _ _) (Nat.le_of_ble_eq_true rfl) rfl ?_
  have w13 := w12.up (i := 49) (e := .inr (3, [iv 0, iv 0, iv 0, .ref 50, .ref 51, .ref 52, .ref 53, .ref 54, .null, .null, .null])) rfl
  refine g_aload_n dX3_init_59 rfl rfl ?_
  refine g_bipush dX3_init_60 rfl ?_
  refine g_newaI (N := 40) dX3_init_62 aC_int (by decide) (by decide) (by decide) (by decide) rfl rfl w13 (fun w14 => ?_)
  refine g_putF (k := 8) (fs := [iv 0, iv 0, iv 0, .ref 50, .ref 51, .ref 52, .ref 53, .ref 54, .null, .null, .null]) (fs2 := [iv 0, iv 0, iv 0, .ref 50, .ref 51, .ref 52, .ref 53, .ref 54, .ref 55, .null, .null]) dX3_init_64 ff_X3_37 (by decide) rfl (nar_arr _ _) (Nat.le_of_ble_eq_true rfl) rfl ?_
  have w15 := w14.up (i := 49) (e := .inr (3, [iv 0, iv 0, iv 0, .ref 50, .ref 51, .ref 52, .ref 53, .ref 54, .ref 55, .null, .null])) rfl
  refine g_aload_n dX3_init_67 rfl rfl ?_
  refine g_bipush dX3_init_68 rfl ?_
  refine g_newaI (N := 40) dX3_init_70 aC_int (by decide) (by decide) (by decide) (by decide) rfl rfl w15 (fun w16 => ?_)
  refine g_putF (k := 9) (fs := [iv 0, iv 0, iv 0, .ref 50, .ref 51, .ref 52, .ref 53, .ref 54, .ref 55, .null, .null]) (fs2 := [iv 0, iv 0, iv 0, .ref 50, .ref 51, .ref 52, .ref 53, .ref 54, .ref 55, .ref 56, .null]) dX3_init_72 ff_X3_40 (by decide) rfl (nar_arr _ _) (Nat.le_of_ble_eq_true rfl) rfl ?_
  have w17 := w16.up (i := 49) (e := .inr (3, [iv 0, iv 0, iv 0, .ref 50, .ref 51, .ref 52, .ref 53, .ref 54, .ref 55, .ref 56, .null])) rfl
  refine g_aload_n dX3_init_75 rfl rfl ?_
  refine g_bipush dX3_init_76 rfl ?_
  refine g_newaI (N := 40) dX3_init_78 aC_int (by decide) (by decide) (by decide) (by decide) rfl rfl w17 (fun w18 => ?_)
  refine g_putF (k := 10) (fs := [iv 0, iv 0, iv 0, .ref 50, .ref 51, .ref 52, .ref 53, .ref 54, .ref 55, .ref 56, .null]) (fs2 := [iv 0, iv 0, iv 0, .ref 50, .ref 51, .ref 52, .ref 53, .ref 54, .ref 55, .ref 56, .ref 57]) dX3_init_80 ff_X3_43 (by decide) rfl (nar_arr _ _) (Nat.le_of_ble_eq_true rfl) rfl ?_
  have w19 := w18.up (i := 49) (e := .inr (3, [iv 0, iv 0, iv 0, .ref 50, .ref 51, .ref 52, .ref 53, .ref 54, .ref 55, .ref 56, .ref 57])) rfl
  refine g_aload_n dX3_init_83 rfl rfl ?_
  refine g_get (fs := [iv 0, iv 0, iv 0, .ref 50, .ref 51, .ref 52, .ref 53, .ref 54, .ref 55, .ref 56, .ref 57]) dX3_init_84 fl_X3_34 (by decide) rfl rfl ?_
  refine g_iconst dX3_init_87 ?_
  refine g_callS [.ref 54, iv (-1)] (s_fill_54_58 (h := _) (f := fun _ => 0) rfl) (fun _ _ _ hx => hx) dX3_init_88 cs_X3_46 sm_J7_fill_53178 (by decide) (by decide) (by decide) rfl rfl (by decide) rfl rfl (fun v9 n9 h9 q9 => ?_)
  obtain ⟨rfl, rfl, rfl⟩ := q9
  dsimp only [Option.toList, List.cons_append, List.nil_append]
  have w20 := w19.up (i := 54) (e := .inl (0, 9, fillF (fun _ => 0) (-1) 9)) rfl
  refine g_vret dX3_init_91 ?_
  refine ⟨rfl, rfl, w20, ?_⟩
  funext i
  by_cases e49 : i = 49
  · subst e49; rfl
  by_cases e50 : i = 50
  · subst e50; rfl
  by_cases e51 : i = 51
  · subst e51; rfl
  by_cases e52 : i = 52
  · subst e52; rfl
  by_cases e53 : i = 53
  · subst e53; rfl
  by_cases e54 : i = 54
  · subst e54; rfl
  by_cases e55 : i = 55
  · subst e55; rfl
  by_cases e56 : i = 56
  · subst e56; rfl
  by_cases e57 : i = 57
  · subst e57; rfl
  simp only [va_up, e49, e50, e51, e52, e53, e54, e55, e56, e57, if_false]
theorem ff_X0_15 : FPF RX0 15 0 1 (.array .int) := ⟨RX0, TX0, 4, tyX0, rfl, by decide, inX0, inT2 19 rfl rfl, rfl, rfl, by decide +kernel, tyX0_ok, nmX0⟩
theorem ff_X0_19 : FPF RX0 19 0 2 (.array .int) := ⟨RX0, TX0, 4, tyX0, rfl, by decide, inX0, inT2 20 rfl rfl, rfl, rfl, by decide +kernel, tyX0_ok, nmX0⟩
theorem ff_X0_22 : FPF RX0 22 0 3 (.array .int) := ⟨RX0, TX0, 4, tyX0, rfl, by decide, inX0, inT2 21 rfl rfl, rfl, rfl, by decide +kernel, tyX0_ok, nmX0⟩
theorem s_X0_init_58 {h : aH} (w0 : WF 59 h) (cb : h 58 = .inr (0, [iv 0, .null, .null, .null])) : mSem yX0_init cX0_init 1 none 1 3 703 [.ref 58] 59 h (MkQ 62 (fun h' => h' = va_up (va_up (va_up (va_up h 58 (.inr (0, [iv 0, .ref 59, .ref 60, .ref 61]))) 59 (.inl (0, 41, fun _ => 0))) 60 (.inl (0, 41, fun _ => 0))) 61 (.inl (0, 621, fun _ => 0)))) noX := by
  refine mSem_of (own := RX0) (name := "<init>") pn_X0 rfl rfl (Nat.le_of_ble_eq_true rfl) (ev_G ?_)
  refine g_aload_n dX0_init_0 rfl rfl ?_
  refine g_obj dX0_init_1 (inT2 16 rfl rfl) oI2 oI3 (by decide) ?_
  refine g_aload_n dX0_init_4 rfl rfl ?_
  refine g_iconst dX0_init_5 ?_
  refine g_put (k := 0) (fs := [iv 0, .null, .null, .null]) (fs2 := [iv 0, .null, .null, .null]) dX0_init_6 fp_X0_11 (by decide) cb (nar_int _) (Nat.le_of_ble_eq_true rfl) rfl ?_
  have w1 := w0.up (i := 58) (e := .inr (0, [iv 0, .null, .null, .null])) rfl
  refine g_aload_n dX0_init_9 rfl rfl ?_
  refine g_bipush dX0_init_10 rfl ?_
  refine g_newaI (N := 41) dX0_init_12 aC_int (by decide) (by decide) (by decide) (by decide) rfl rfl w1 (fun w2 => ?_)
  refine g_putF (k := 1) (fs := [iv 0, .null, .null, .null]) (fs2 := [iv 0, .ref 59, .null, .null]) dX0_init_14 ff_X0_15 (by decide) rfl (nar_arr _ _) (Nat.le_of_ble_eq_true rfl) rfl ?_
  have w3 := w2.up (i := 58) (e := .inr (0, [iv 0, .ref 59, .null, .null])) rfl
  refine g_aload_n dX0_init_17 rfl rfl ?_
  refine g_bipush dX0_init_18 rfl ?_
  refine g_newaI (N := 41) dX0_init_20 aC_int (by decide) (by decide) (by decide) (by decide) rfl rfl w3 (fun w4 => ?_)
  refine g_putF (k := 2) (fs := [iv 0, .ref 59, .null, .null]) (fs2 := [iv 0, .ref 59, .ref 60, .null]) dX0_init_22 ff_X0_19 (by decide) rfl (nar_arr _ _) (Nat.le_of_ble_eq_true rfl) rfl ?_
  have w5 := w4.up (i := 58) (e := .inr (0, [iv 0, .ref 59, .ref 60, .null])) rfl
  refine g_aload_n dX0_init_25 rfl rfl ?_
  refine g_sipush dX0_init_26 rfl ?_
  refine g_newaI (N := 621) dX0_init_29 aC_int (by decide) (by decide) (by decide) (by decide) rfl rfl w5 (fun w6 => ?_)
  refine g_putF (k := 3) (fs := [iv 0, .ref 59, .ref 60, .null]) (fs2 := [iv 0, .ref 59, .ref 60, .ref 61]) dX0_init_31 ff_X0_22 (by decide) rfl (nar_arr _ _) (Nat.le_of_ble_eq_true rfl) rfl ?_
  have w7 := w6.up (i := 58) (e := .inr (0, [iv 0, .ref 59, .ref 60, .ref 61])) rfl
  refine g_vret dX0_init_34 ?_
  refine ⟨rfl, rfl, w7, ?_⟩
  funext i
  by_cases e58 : i = 58
  · subst e58; rfl
  by_cases e59 : i = 59
  · subst e59; rfl
  by_cases e60 : i = 60
  · subst e60; rfl
  by_cases e61 : i = 61
  · subst e61; rfl
  simp only [va_up, e58, e59, e60, e61, if_false]
theorem ff_X7_36 : FPF RX7 36 7 8 (.array .int) := ⟨RX7, TX7, 10, tyX7, rfl, by decide, inX7, inT2 52 rfl rfl, rfl, rfl, by decide +kernel, tyX7_ok, nmX7⟩
theorem ff_X7_40 : FPF RX7 40 7 9 (.array .int) := ⟨RX7, TX7, 10, tyX7, rfl, by decide, inX7, inT2 53 rfl rfl, rfl, rfl, by decide +kernel, tyX7_ok, nmX7⟩
theorem s_X7_init_62 {h : aH} (w0 : WF 63 h) (cb : h 62 = .inr (7, [iv 0, iv 0, iv 0, iv 0, iv 0, iv 0, iv 0, iv 0, .null, .null])) : mSem yX7_init cX7_init 1 none 1 2 754 [.ref 62] 63 h (MkQ 65 (fun h' => h' = va_up (va_up (va_up h 62 (.inr (7, [iv 0, iv 0, iv (-1), iv (-1), iv 0, iv (-1), iv (-1), iv 0, .ref 63, .ref 64]))) 63 (.inl (0, 242, fun _ => 0))) 64 (.inl (0, 512, fun _ => 0)))) noX := by
  refine mSem_of (own := RX7) (name := "<init>") pn_X7 rfl rfl (Nat.le_of_ble_eq_true rfl) (ev_G ?_)
  refine g_aload_n dX7_init_0 rfl rfl ?_
  refine g_obj dX7_init_1 (inT2 36 rfl rfl) oI2 oI3 (by decide) ?_
  refine g_aload_n dX7_init_4 rfl rfl ?_
  refine g_iconst dX7_init_5 ?_
  refine g_put (k := 0) (fs := [iv 0, iv 0, iv 0, iv 0, iv 0, iv 0, iv 0, iv 0, .null, .null]) (fs2 := [iv 0, iv 0, iv 0, iv 0, iv 0, iv 0, iv 0, iv 0, .null, .null]) dX7_init_6 fp_X7_9 (by decide) cb (nar_int _) (Nat.le_of_ble_eq_true rfl) rfl ?_
  have w1 := w0.up (i := 62) (e := .inr (7, [iv 0, iv 0, iv 0, iv 0, iv 0, iv 0, iv 0, iv 0, .null, .null])) rfl
  refine g_aload_n dX7_init_9 rfl rfl ?_
  refine g_iconst dX7_init_10 ?_
  refine g_put (k := 1) (fs := [iv 0, iv 0, iv 0, iv 0, iv 0, iv 0, iv 0, iv 0, .null, .null]) (fs2 := [iv 0, iv 0, iv 0, iv 0, iv 0, iv 0, iv 0, iv 0, .null, .null]) dX7_init_11 fp_X7_15 (by decide) rfl (nar_int _) (Nat.le_of_ble_eq_true rfl) rfl ?_
  have w2 := w1.up (i := 62) (e := .inr (7, [iv 0, iv 0, iv 0, iv 0, iv 0, iv 0, iv 0, iv 0, .null, .null])) rfl
  refine g_aload_n dX7_init_14 rfl rfl ?_
  refine g_iconst dX7_init_15 ?_
  refine g_put (k := 2) (fs := [iv 0, iv 0, iv 0, iv 0, iv 0, iv 0, iv 0, iv 0, .null, .null]) (fs2 := [iv 0, iv 0, iv (-1), iv 0, iv 0, iv 0, iv 0, iv 0, .null, .null]) dX7_init_16 fp_X7_18 (by decide) rfl (nar_int _) (Nat.le_of_ble_eq_true rfl) rfl ?_
  have w3 := w2.up (i := 62) (e := .inr (7, [iv 0, iv 0, iv (-1), iv 0, iv 0, iv 0, iv 0, iv 0, .null, .null])) rfl
  refine g_aload_n dX7_init_19 rfl rfl ?_
  refine g_iconst dX7_init_20 ?_
  refine g_put (k := 3) (fs := [iv 0, iv 0, iv (-1), iv 0, iv 0, iv 0, iv 0, iv 0, .null, .null]) (fs2 := [iv 0, iv 0, iv (-1), iv (-1), iv 0, iv 0, iv 0, iv 0, .null, .null]) dX7_init_21 fp_X7_21 (by decide) rfl (nar_int _) (Nat.le_of_ble_eq_true rfl) rfl ?_
  have w4 := w3.up (i := 62) (e := .inr (7, [iv 0, iv 0, iv (-1), iv (-1), iv 0, iv 0, iv 0, iv 0, .null, .null])) rfl
  refine g_aload_n dX7_init_24 rfl rfl ?_
  refine g_iconst dX7_init_25 ?_
  refine g_put (k := 4) (fs := [iv 0, iv 0, iv (-1), iv (-1), iv 0, iv 0, iv 0, iv 0, .null, .null]) (fs2 := [iv 0, iv 0, iv (-1), iv (-1), iv 0, iv 0, iv 0, iv 0, .null, .null]) dX7_init_26 fp_X7_24 (by decide) rfl (nar_int _) (Nat.le_of_ble_eq_true rfl) rfl ?_
  have w5 := w4.up (i := 62) (e := .inr (7, [iv 0, iv 0, iv (-1), iv (-1), iv 0, iv 0, iv 0, iv 0, .null, .null])) rfl
  refine g_aload_n dX7_init_29 rfl rfl ?_
  refine g_iconst dX7_init_30 ?_
  refine g_put (k := 5) (fs := [iv 0, iv 0, iv (-1), iv (-1), iv 0, iv 0, iv 0, iv 0, .null, .null]) (fs2 := [iv 0, iv 0, iv (-1), iv (-1), iv 0, iv (-1), iv 0, iv 0, .null, .null]) dX7_init_31 fp_X7_27 (by decide) rfl (nar_int _) (Nat.le_of_ble_eq_true rfl) rfl ?_
  have w6 := w5.up (i := 62) (e := .inr (7, [iv 0, iv 0, iv (-1), iv (-1), iv 0, iv (-1), iv 0, iv 0, .null, .null])) rfl
  refine g_aload_n dX7_init_34 rfl rfl ?_
  refine g_iconst dX7_init_35 ?_
  refine g_put (k := 6) (fs := [iv 0, iv 0, iv (-1), iv (-1), iv 0, iv (-1), iv 0, iv 0, .null, .null]) (fs2 := [iv 0, iv 0, iv (-1), iv (-1), iv 0, iv (-1), iv (-1), iv 0, .null, .null]) dX7_init_36 fp_X7_30 (by decide) rfl (nar_int _) (Nat.le_of_ble_eq_true rfl) rfl ?_
  have w7 := w6.up (i := 62) (e := .inr (7, [iv 0, iv 0, iv (-1), iv (-1), iv 0, iv (-1), iv (-1), iv 0, .null, .null])) rfl
  refine g_aload_n dX7_init_39 rfl rfl ?_
  refine g_iconst dX7_init_40 ?_
  refine g_put (k := 7) (fs := [iv 0, iv 0, iv (-1), iv (-1), iv 0, iv (-1), iv (-1), iv 0, .null, .null]) (fs2 := [iv 0, iv 0, iv (-1), iv (-1), iv 0, iv (-1), iv (-1), iv 0, .null, .null]) dX7_init_41 fp_X7_33 (by decide) rfl (nar_int _) (Nat.le_of_ble_eq_true rfl) rfl ?_
  have w8 := w7.up (i := 62) (e := .inr (7, [iv 0, iv 0, iv (-1), iv (-1), iv 0, iv (-1), iv (-1), iv 0, .null, .null])) rfl
  refine g_aload_n dX7_init_44 rfl rfl ?_
  refine g_sipush dX7_init_45 rfl ?_
  refine g_newaI (N := 242) dX7_init_48 aC_int (by decide) (by decide) (by decide) (by decide) rfl rfl w8 (fun w9 => ?_)
  refine g_putF (k := 8) (fs := [iv 0, iv 0, iv (-1), iv (-1), iv 0, iv (-1), iv (-1), iv 0, .null, .null]) (fs2 := [iv 0, iv 0, iv (-1), iv (-1), iv 0, iv (-1), iv (-1), iv 0, .ref 63, .null]) dX7_init_50 ff_X7_36 (by decide) rfl (nar_arr _ _) (Nat.le_of_ble_eq_true rfl) rfl ?_
  have w10 := w9.up (i := 62) (e := .inr (7, [iv 0, iv 0, iv (-1), iv (-1), iv 0, iv (-1), iv (-1), iv 0, .ref 63, .null])) rfl
  refine g_aload_n dX7_init_53 rfl rfl ?_
  refine g_sipush dX7_init_54 rfl ?_
  refine g_newaI (N := 512) dX7_init_57 aC_int (by decide) (by decide) (by decide) (by decide) rfl rfl w10 (fun w11 => ?_)
  refine g_putF (k := 9) (fs := [iv 0, iv 0, iv (-1), iv (-1), iv 0, iv (-1), iv (-1), iv 0, .ref 63, .null]) (fs2 := [iv 0, iv 0, iv (-1), iv (-1), iv 0, iv (-1), iv (-1), iv 0, .ref 63, .ref 64]) dX7_init_59 ff_X7_40 (by decide) rfl (nar_arr _ _) (Nat.le_of_ble_eq_true rfl) rfl ?_
  have w12 := w11.up (i := 62) (e := .inr (7, [iv 0, iv 0, iv (-1), iv (-1), iv 0, iv (-1), iv (-1), iv 0, .ref 63, .ref 64])) rfl
  refine g_vret dX7_init_62 ?_
  refine ⟨rfl, rfl, w12, ?_⟩
  funext i
  by_cases e62 : i = 62
  · subst e62; rfl
  by_cases e63 : i = 63
  · subst e63; rfl
  by_cases e64 : i = 64
  · subst e64; rfl
  simp only [va_up, e62, e63, e64, if_false]
