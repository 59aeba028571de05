/-! ===== Arrays.fill, and the notes ===== -/
def fillF (f : Nat → Int) (v : Int) (i : Nat) : Nat → Int := fun j => if j < i then v else f j
theorem fill_0 (f : Nat → Int) (v : Int) : fillF f v 0 = f := by funext j; simp [fillF]
theorem fill_s (f : Nat → Int) (v : Int) (i : Nat) : va_up (fillF f v i) i v = fillF f v (i + 1) := by
  funext j
  by_cases h : j = i
  · subst h; simp [va_up, fillF]
  · by_cases h2 : j < i
    · simp [va_up, fillF, h, h2, show j < i + 1 by omega]
    · simp [va_up, fillF, h, h2, show ¬ j < i + 1 by omega]
theorem pf_fill : plainFor yJ7_fill_53178 = true := by decide +kernel
theorem up_same {h : aH} {k : Nat} {e : aE} (c : h k = e) : h = va_up h k e := by funext j; by_cases hj : j = k <;> simp [va_up, hj, c]

theorem l_fill_45 {h : aH} {f : Nat → Int} {v : Int} {d : Nat} : ∀ (w i : Nat), i + w = 9 → Ev RJ7 "fill" cJ7_fill_53178 4 none d 0 0 (RetV (va_up h 45 (.inl (0, 9, fillF f v 9)))) noX 97 (va_up h 45 (.inl (0, 9, fillF f v i))) 5 [(0, .ref 45), (1, iv v), (2, iv i), (3, iv 9)] [] := by
  intro w
  induction w with
  | zero =>
    intro i hi
    obtain rfl : i = 9 := by omega
    refine r_iload_n dJ7_fill_53178_5 rfl rfl ?_
    refine r_iload_n dJ7_fill_53178_6 rfl rfl ?_
    refine r_icmp_ge (tgt := 20) dJ7_fill_53178_7 (by decide) ⟨by omega, by omega⟩ ⟨by omega, by omega⟩ (fun g7 => ?_) (fun g7 => absurd g7 (by omega))
    refine r_vret dJ7_fill_53178_20 ?_
    exact ⟨rfl, rfl, rfl⟩
  | succ w ih =>
    intro i hi
    refine r_iload_n dJ7_fill_53178_5 rfl rfl ?_
    refine r_iload_n dJ7_fill_53178_6 rfl rfl ?_
    refine r_icmp_ge (tgt := 20) dJ7_fill_53178_7 (by decide) ⟨by omega, by omega⟩ ⟨by omega, by omega⟩ (fun g7 => absurd g7 (by omega)) (fun g7 => ?_)
    refine r_aload_n dJ7_fill_53178_10 rfl rfl ?_
    refine r_iload_n dJ7_fill_53178_11 rfl rfl ?_
    refine r_iload_n dJ7_fill_53178_12 rfl rfl ?_
    refine r_ast dJ7_fill_53178_13 (by decide) rfl (by omega) (by omega) (by decide) ?_
    refine r_iinc (lv2 := [(0, _), (1, _), (2, _), (3, _)]) dJ7_fill_53178_14 (by decide) rfl rfl rfl ?_
    refine r_goto (tgt := 5) dJ7_fill_53178_17 (by decide) ?_
    rw [bx_uu, Int.toNat_natCast, fill_s, show (i : Int) + 1 = ((i + 1 : Nat) : Int) by omega]
    exact ih (i + 1) (by omega)

theorem s_fill_45 {h : aH} {f : Nat → Int} {v : Int} (c45 : h 45 = .inl (0, 9, f)) : mSem yJ7_fill_53178 cJ7_fill_53178 4 none 0 0 0 [.ref 45, iv v] 97 h (RetV (va_up h 45 (.inl (0, 9, fillF f v 9)))) noX := by
  refine mSem_ofF (own := RJ7) (name := "fill") pf_fill rfl rfl (Nat.le_of_ble_eq_true rfl) ?_
  refine r_iconst dJ7_fill_53178_0 ?_
  refine r_istore_n (lv2 := [(0, _), (1, _), (2, _)]) dJ7_fill_53178_1 rfl (by decide) rfl rfl ?_
  refine r_aload_n dJ7_fill_53178_2 rfl rfl ?_
  refine r_alen dJ7_fill_53178_3 (by decide) c45 (by decide) ?_
  refine r_istore_n (lv2 := [(0, _), (1, _), (2, _), (3, _)]) dJ7_fill_53178_4 rfl (by decide) rfl rfl ?_
  refine ev_h (up_same c45) ?_
  have hk := l_fill_45 (h := h) (f := f) (v := v) (d := 0) 9 0 (by omega)
  rw [fill_0] at hk
  exact hk

theorem l_fill_54 {h : aH} {f : Nat → Int} {v : Int} {d : Nat} : ∀ (w i : Nat), i + w = 9 → Ev RJ7 "fill" cJ7_fill_53178 4 none d 0 0 (RetV (va_up h 54 (.inl (0, 9, fillF f v 9)))) noX 97 (va_up h 54 (.inl (0, 9, fillF f v i))) 5 [(0, .ref 54), (1, iv v), (2, iv i), (3, iv 9)] [] := by
  intro w
  induction w with
  | zero =>
    intro i hi
    obtain rfl : i = 9 := by omega
    refine r_iload_n dJ7_fill_53178_5 rfl rfl ?_
    refine r_iload_n dJ7_fill_53178_6 rfl rfl ?_
    refine r_icmp_ge (tgt := 20) dJ7_fill_53178_7 (by decide) ⟨by omega, by omega⟩ ⟨by omega, by omega⟩ (fun g7 => ?_) (fun g7 => absurd g7 (by omega))
    refine r_vret dJ7_fill_53178_20 ?_
    exact ⟨rfl, rfl, rfl⟩
  | succ w ih =>
    intro i hi
    refine r_iload_n dJ7_fill_53178_5 rfl rfl ?_
    refine r_iload_n dJ7_fill_53178_6 rfl rfl ?_
    refine r_icmp_ge (tgt := 20) dJ7_fill_53178_7 (by decide) ⟨by omega, by omega⟩ ⟨by omega, by omega⟩ (fun g7 => absurd g7 (by omega)) (fun g7 => ?_)
    refine r_aload_n dJ7_fill_53178_10 rfl rfl ?_
    refine r_iload_n dJ7_fill_53178_11 rfl rfl ?_
    refine r_iload_n dJ7_fill_53178_12 rfl rfl ?_
    refine r_ast dJ7_fill_53178_13 (by decide) rfl (by omega) (by omega) (by decide) ?_
    refine r_iinc (lv2 := [(0, _), (1, _), (2, _), (3, _)]) dJ7_fill_53178_14 (by decide) rfl rfl rfl ?_
    refine r_goto (tgt := 5) dJ7_fill_53178_17 (by decide) ?_
    rw [bx_uu, Int.toNat_natCast, fill_s, show (i : Int) + 1 = ((i + 1 : Nat) : Int) by omega]
    exact ih (i + 1) (by omega)

theorem s_fill_54 {h : aH} {f : Nat → Int} {v : Int} (c54 : h 54 = .inl (0, 9, f)) : mSem yJ7_fill_53178 cJ7_fill_53178 4 none 0 0 0 [.ref 54, iv v] 97 h (RetV (va_up h 54 (.inl (0, 9, fillF f v 9)))) noX := by
  refine mSem_ofF (own := RJ7) (name := "fill") pf_fill rfl rfl (Nat.le_of_ble_eq_true rfl) ?_
  refine r_iconst dJ7_fill_53178_0 ?_
  refine r_istore_n (lv2 := [(0, _), (1, _), (2, _)]) dJ7_fill_53178_1 rfl (by decide) rfl rfl ?_
  refine r_aload_n dJ7_fill_53178_2 rfl rfl ?_
  refine r_alen dJ7_fill_53178_3 (by decide) c54 (by decide) ?_
  refine r_istore_n (lv2 := [(0, _), (1, _), (2, _), (3, _)]) dJ7_fill_53178_4 rfl (by decide) rfl rfl ?_
  refine ev_h (up_same c54) ?_
  have hk := l_fill_54 (h := h) (f := f) (v := v) (d := 0) 9 0 (by omega)
  rw [fill_0] at hk
  exact hk

theorem l_fill_23 {h : aH} {f : Nat → Int} {v : Int} {d : Nat} : ∀ (w i : Nat), i + w = 12 → Ev RJ7 "fill" cJ7_fill_53178 4 none d 0 0 (RetV (va_up h 23 (.inl (0, 12, fillF f v 12)))) noX 97 (va_up h 23 (.inl (0, 12, fillF f v i))) 5 [(0, .ref 23), (1, iv v), (2, iv i), (3, iv 12)] [] := by
  intro w
  induction w with
  | zero =>
    intro i hi
    obtain rfl : i = 12 := by omega
    refine r_iload_n dJ7_fill_53178_5 rfl rfl ?_
    refine r_iload_n dJ7_fill_53178_6 rfl rfl ?_
    refine r_icmp_ge (tgt := 20) dJ7_fill_53178_7 (by decide) ⟨by omega, by omega⟩ ⟨by omega, by omega⟩ (fun g7 => ?_) (fun g7 => absurd g7 (by omega))
    refine r_vret dJ7_fill_53178_20 ?_
    exact ⟨rfl, rfl, rfl⟩
  | succ w ih =>
    intro i hi
    refine r_iload_n dJ7_fill_53178_5 rfl rfl ?_
    refine r_iload_n dJ7_fill_53178_6 rfl rfl ?_
    refine r_icmp_ge (tgt := 20) dJ7_fill_53178_7 (by decide) ⟨by omega, by omega⟩ ⟨by omega, by omega⟩ (fun g7 => absurd g7 (by omega)) (fun g7 => ?_)
    refine r_aload_n dJ7_fill_53178_10 rfl rfl ?_
    refine r_iload_n dJ7_fill_53178_11 rfl rfl ?_
    refine r_iload_n dJ7_fill_53178_12 rfl rfl ?_
    refine r_ast dJ7_fill_53178_13 (by decide) rfl (by omega) (by omega) (by decide) ?_
    refine r_iinc (lv2 := [(0, _), (1, _), (2, _), (3, _)]) dJ7_fill_53178_14 (by decide) rfl rfl rfl ?_
    refine r_goto (tgt := 5) dJ7_fill_53178_17 (by decide) ?_
    rw [bx_uu, Int.toNat_natCast, fill_s, show (i : Int) + 1 = ((i + 1 : Nat) : Int) by omega]
    exact ih (i + 1) (by omega)

theorem s_fill_23 {h : aH} {f : Nat → Int} {v : Int} (c23 : h 23 = .inl (0, 12, f)) : mSem yJ7_fill_53178 cJ7_fill_53178 4 none 0 0 0 [.ref 23, iv v] 97 h (RetV (va_up h 23 (.inl (0, 12, fillF f v 12)))) noX := by
  refine mSem_ofF (own := RJ7) (name := "fill") pf_fill rfl rfl (Nat.le_of_ble_eq_true rfl) ?_
  refine r_iconst dJ7_fill_53178_0 ?_
  refine r_istore_n (lv2 := [(0, _), (1, _), (2, _)]) dJ7_fill_53178_1 rfl (by decide) rfl rfl ?_
  refine r_aload_n dJ7_fill_53178_2 rfl rfl ?_
  refine r_alen dJ7_fill_53178_3 (by decide) c23 (by decide) ?_
  refine r_istore_n (lv2 := [(0, _), (1, _), (2, _), (3, _)]) dJ7_fill_53178_4 rfl (by decide) rfl rfl ?_
  refine ev_h (up_same c23) ?_
  have hk := l_fill_23 (h := h) (f := f) (v := v) (d := 0) 12 0 (by omega)
  rw [fill_0] at hk
  exact hk

theorem l_fill_26 {h : aH} {f : Nat → Int} {v : Int} {d : Nat} : ∀ (w i : Nat), i + w = 365 → Ev RJ7 "fill" cJ7_fill_53178 4 none d 0 0 (RetV (va_up h 26 (.inl (0, 365, fillF f v 365)))) noX 97 (va_up h 26 (.inl (0, 365, fillF f v i))) 5 [(0, .ref 26), (1, iv v), (2, iv i), (3, iv 365)] [] := by
  intro w
  induction w with
  | zero =>
    intro i hi
    obtain rfl : i = 365 := by omega
    refine r_iload_n dJ7_fill_53178_5 rfl rfl ?_
    refine r_iload_n dJ7_fill_53178_6 rfl rfl ?_
    refine r_icmp_ge (tgt := 20) dJ7_fill_53178_7 (by decide) ⟨by omega, by omega⟩ ⟨by omega, by omega⟩ (fun g7 => ?_) (fun g7 => absurd g7 (by omega))
    refine r_vret dJ7_fill_53178_20 ?_
    exact ⟨rfl, rfl, rfl⟩
  | succ w ih =>
    intro i hi
    refine r_iload_n dJ7_fill_53178_5 rfl rfl ?_
    refine r_iload_n dJ7_fill_53178_6 rfl rfl ?_
    refine r_icmp_ge (tgt := 20) dJ7_fill_53178_7 (by decide) ⟨by omega, by omega⟩ ⟨by omega, by omega⟩ (fun g7 => absurd g7 (by omega)) (fun g7 => ?_)
    refine r_aload_n dJ7_fill_53178_10 rfl rfl ?_
    refine r_iload_n dJ7_fill_53178_11 rfl rfl ?_
    refine r_iload_n dJ7_fill_53178_12 rfl rfl ?_
    refine r_ast dJ7_fill_53178_13 (by decide) rfl (by omega) (by omega) (by decide) ?_
    refine r_iinc (lv2 := [(0, _), (1, _), (2, _), (3, _)]) dJ7_fill_53178_14 (by decide) rfl rfl rfl ?_
    refine r_goto (tgt := 5) dJ7_fill_53178_17 (by decide) ?_
    rw [bx_uu, Int.toNat_natCast, fill_s, show (i : Int) + 1 = ((i + 1 : Nat) : Int) by omega]
    exact ih (i + 1) (by omega)

theorem s_fill_26 {h : aH} {f : Nat → Int} {v : Int} (c26 : h 26 = .inl (0, 365, f)) : mSem yJ7_fill_53178 cJ7_fill_53178 4 none 0 0 0 [.ref 26, iv v] 97 h (RetV (va_up h 26 (.inl (0, 365, fillF f v 365)))) noX := by
  refine mSem_ofF (own := RJ7) (name := "fill") pf_fill rfl rfl (Nat.le_of_ble_eq_true rfl) ?_
  refine r_iconst dJ7_fill_53178_0 ?_
  refine r_istore_n (lv2 := [(0, _), (1, _), (2, _)]) dJ7_fill_53178_1 rfl (by decide) rfl rfl ?_
  refine r_aload_n dJ7_fill_53178_2 rfl rfl ?_
  refine r_alen dJ7_fill_53178_3 (by decide) c26 (by decide) ?_
  refine r_istore_n (lv2 := [(0, _), (1, _), (2, _), (3, _)]) dJ7_fill_53178_4 rfl (by decide) rfl rfl ?_
  refine ev_h (up_same c26) ?_
  have hk := l_fill_26 (h := h) (f := f) (v := v) (d := 0) 365 0 (by omega)
  rw [fill_0] at hk
  exact hk

theorem l_fill_61 {h : aH} {f : Nat → Int} {v : Int} {d : Nat} : ∀ (w i : Nat), i + w = 621 → Ev RJ7 "fill" cJ7_fill_53178 4 none d 0 0 (RetV (va_up h 61 (.inl (0, 621, fillF f v 621)))) noX 97 (va_up h 61 (.inl (0, 621, fillF f v i))) 5 [(0, .ref 61), (1, iv v), (2, iv i), (3, iv 621)] [] := by
  intro w
  induction w with
  | zero =>
    intro i hi
    obtain rfl : i = 621 := by omega
    refine r_iload_n dJ7_fill_53178_5 rfl rfl ?_
    refine r_iload_n dJ7_fill_53178_6 rfl rfl ?_
    refine r_icmp_ge (tgt := 20) dJ7_fill_53178_7 (by decide) ⟨by omega, by omega⟩ ⟨by omega, by omega⟩ (fun g7 => ?_) (fun g7 => absurd g7 (by omega))
    refine r_vret dJ7_fill_53178_20 ?_
    exact ⟨rfl, rfl, rfl⟩
  | succ w ih =>
    intro i hi
    refine r_iload_n dJ7_fill_53178_5 rfl rfl ?_
    refine r_iload_n dJ7_fill_53178_6 rfl rfl ?_
    refine r_icmp_ge (tgt := 20) dJ7_fill_53178_7 (by decide) ⟨by omega, by omega⟩ ⟨by omega, by omega⟩ (fun g7 => absurd g7 (by omega)) (fun g7 => ?_)
    refine r_aload_n dJ7_fill_53178_10 rfl rfl ?_
    refine r_iload_n dJ7_fill_53178_11 rfl rfl ?_
    refine r_iload_n dJ7_fill_53178_12 rfl rfl ?_
    refine r_ast dJ7_fill_53178_13 (by decide) rfl (by omega) (by omega) (by decide) ?_
    refine r_iinc (lv2 := [(0, _), (1, _), (2, _), (3, _)]) dJ7_fill_53178_14 (by decide) rfl rfl rfl ?_
    refine r_goto (tgt := 5) dJ7_fill_53178_17 (by decide) ?_
    rw [bx_uu, Int.toNat_natCast, fill_s, show (i : Int) + 1 = ((i + 1 : Nat) : Int) by omega]
    exact ih (i + 1) (by omega)

theorem s_fill_61 {h : aH} {f : Nat → Int} {v : Int} (c61 : h 61 = .inl (0, 621, f)) : mSem yJ7_fill_53178 cJ7_fill_53178 4 none 0 0 0 [.ref 61, iv v] 97 h (RetV (va_up h 61 (.inl (0, 621, fillF f v 621)))) noX := by
  refine mSem_ofF (own := RJ7) (name := "fill") pf_fill rfl rfl (Nat.le_of_ble_eq_true rfl) ?_
  refine r_iconst dJ7_fill_53178_0 ?_
  refine r_istore_n (lv2 := [(0, _), (1, _), (2, _)]) dJ7_fill_53178_1 rfl (by decide) rfl rfl ?_
  refine r_aload_n dJ7_fill_53178_2 rfl rfl ?_
  refine r_alen dJ7_fill_53178_3 (by decide) c61 (by decide) ?_
  refine r_istore_n (lv2 := [(0, _), (1, _), (2, _), (3, _)]) dJ7_fill_53178_4 rfl (by decide) rfl rfl ?_
  refine ev_h (up_same c61) ?_
  have hk := l_fill_61 (h := h) (f := f) (v := v) (d := 0) 621 0 (by omega)
  rw [fill_0] at hk
  exact hk

theorem l_fill_63 {h : aH} {f : Nat → Int} {v : Int} {d : Nat} : ∀ (w i : Nat), i + w = 242 → Ev RJ7 "fill" cJ7_fill_53178 4 none d 0 0 (RetV (va_up h 63 (.inl (0, 242, fillF f v 242)))) noX 97 (va_up h 63 (.inl (0, 242, fillF f v i))) 5 [(0, .ref 63), (1, iv v), (2, iv i), (3, iv 242)] [] := by
  intro w
  induction w with
  | zero =>
    intro i hi
    obtain rfl : i = 242 := by omega
    refine r_iload_n dJ7_fill_53178_5 rfl rfl ?_
    refine r_iload_n dJ7_fill_53178_6 rfl rfl ?_
    refine r_icmp_ge (tgt := 20) dJ7_fill_53178_7 (by decide) ⟨by omega, by omega⟩ ⟨by omega, by omega⟩ (fun g7 => ?_) (fun g7 => absurd g7 (by omega))
    refine r_vret dJ7_fill_53178_20 ?_
    exact ⟨rfl, rfl, rfl⟩
  | succ w ih =>
    intro i hi
    refine r_iload_n dJ7_fill_53178_5 rfl rfl ?_
    refine r_iload_n dJ7_fill_53178_6 rfl rfl ?_
    refine r_icmp_ge (tgt := 20) dJ7_fill_53178_7 (by decide) ⟨by omega, by omega⟩ ⟨by omega, by omega⟩ (fun g7 => absurd g7 (by omega)) (fun g7 => ?_)
    refine r_aload_n dJ7_fill_53178_10 rfl rfl ?_
    refine r_iload_n dJ7_fill_53178_11 rfl rfl ?_
    refine r_iload_n dJ7_fill_53178_12 rfl rfl ?_
    refine r_ast dJ7_fill_53178_13 (by decide) rfl (by omega) (by omega) (by decide) ?_
    refine r_iinc (lv2 := [(0, _), (1, _), (2, _), (3, _)]) dJ7_fill_53178_14 (by decide) rfl rfl rfl ?_
    refine r_goto (tgt := 5) dJ7_fill_53178_17 (by decide) ?_
    rw [bx_uu, Int.toNat_natCast, fill_s, show (i : Int) + 1 = ((i + 1 : Nat) : Int) by omega]
    exact ih (i + 1) (by omega)

theorem s_fill_63 {h : aH} {f : Nat → Int} {v : Int} (c63 : h 63 = .inl (0, 242, f)) : mSem yJ7_fill_53178 cJ7_fill_53178 4 none 0 0 0 [.ref 63, iv v] 97 h (RetV (va_up h 63 (.inl (0, 242, fillF f v 242)))) noX := by
  refine mSem_ofF (own := RJ7) (name := "fill") pf_fill rfl rfl (Nat.le_of_ble_eq_true rfl) ?_
  refine r_iconst dJ7_fill_53178_0 ?_
  refine r_istore_n (lv2 := [(0, _), (1, _), (2, _)]) dJ7_fill_53178_1 rfl (by decide) rfl rfl ?_
  refine r_aload_n dJ7_fill_53178_2 rfl rfl ?_
  refine r_alen dJ7_fill_53178_3 (by decide) c63 (by decide) ?_
  refine r_istore_n (lv2 := [(0, _), (1, _), (2, _), (3, _)]) dJ7_fill_53178_4 rfl (by decide) rfl rfl ?_
  refine ev_h (up_same c63) ?_
  have hk := l_fill_63 (h := h) (f := f) (v := v) (d := 0) 242 0 (by omega)
  rw [fill_0] at hk
  exact hk

theorem l_fill_64 {h : aH} {f : Nat → Int} {v : Int} {d : Nat} : ∀ (w i : Nat), i + w = 512 → Ev RJ7 "fill" cJ7_fill_53178 4 none d 0 0 (RetV (va_up h 64 (.inl (0, 512, fillF f v 512)))) noX 97 (va_up h 64 (.inl (0, 512, fillF f v i))) 5 [(0, .ref 64), (1, iv v), (2, iv i), (3, iv 512)] [] := by
  intro w
  induction w with
  | zero =>
    intro i hi
    obtain rfl : i = 512 := by omega
    refine r_iload_n dJ7_fill_53178_5 rfl rfl ?_
    refine r_iload_n dJ7_fill_53178_6 rfl rfl ?_
    refine r_icmp_ge (tgt := 20) dJ7_fill_53178_7 (by decide) ⟨by omega, by omega⟩ ⟨by omega, by omega⟩ (fun g7 => ?_) (fun g7 => absurd g7 (by omega))
    refine r_vret dJ7_fill_53178_20 ?_
    exact ⟨rfl, rfl, rfl⟩
  | succ w ih =>
    intro i hi
    refine r_iload_n dJ7_fill_53178_5 rfl rfl ?_
    refine r_iload_n dJ7_fill_53178_6 rfl rfl ?_
    refine r_icmp_ge (tgt := 20) dJ7_fill_53178_7 (by decide) ⟨by omega, by omega⟩ ⟨by omega, by omega⟩ (fun g7 => absurd g7 (by omega)) (fun g7 => ?_)
    refine r_aload_n dJ7_fill_53178_10 rfl rfl ?_
    refine r_iload_n dJ7_fill_53178_11 rfl rfl ?_
    refine r_iload_n dJ7_fill_53178_12 rfl rfl ?_
    refine r_ast dJ7_fill_53178_13 (by decide) rfl (by omega) (by omega) (by decide) ?_
    refine r_iinc (lv2 := [(0, _), (1, _), (2, _), (3, _)]) dJ7_fill_53178_14 (by decide) rfl rfl rfl ?_
    refine r_goto (tgt := 5) dJ7_fill_53178_17 (by decide) ?_
    rw [bx_uu, Int.toNat_natCast, fill_s, show (i : Int) + 1 = ((i + 1 : Nat) : Int) by omega]
    exact ih (i + 1) (by omega)

theorem s_fill_64 {h : aH} {f : Nat → Int} {v : Int} (c64 : h 64 = .inl (0, 512, f)) : mSem yJ7_fill_53178 cJ7_fill_53178 4 none 0 0 0 [.ref 64, iv v] 97 h (RetV (va_up h 64 (.inl (0, 512, fillF f v 512)))) noX := by
  refine mSem_ofF (own := RJ7) (name := "fill") pf_fill rfl rfl (Nat.le_of_ble_eq_true rfl) ?_
  refine r_iconst dJ7_fill_53178_0 ?_
  refine r_istore_n (lv2 := [(0, _), (1, _), (2, _)]) dJ7_fill_53178_1 rfl (by decide) rfl rfl ?_
  refine r_aload_n dJ7_fill_53178_2 rfl rfl ?_
  refine r_alen dJ7_fill_53178_3 (by decide) c64 (by decide) ?_
  refine r_istore_n (lv2 := [(0, _), (1, _), (2, _), (3, _)]) dJ7_fill_53178_4 rfl (by decide) rfl rfl ?_
  refine ev_h (up_same c64) ?_
  have hk := l_fill_64 (h := h) (f := f) (v := v) (d := 0) 512 0 (by omega)
  rw [fill_0] at hk
  exact hk

def turnI (md my mt : Nat → Int) (di day own : Int) : Nat → Int
  | 0 => own
  | k + 1 => if md k = di ∧ my k ≤ day then mt k else turnI md my mt di day own k
def firstR (rd : Nat → Int) (di : Int) (i : Nat) : Nat → Int
  | 0 => -1
  | k + 1 => if rd i = di then i else firstR rd di (i + 1) k
def NInv (nr ns nm : Int) (rd ry rm rt se md my mt : Nat → Int) : Prop :=
  (0 ≤ nr ∧ nr ≤ 12) ∧ (0 ≤ ns ∧ ns ≤ 9) ∧ (0 ≤ nm ∧ nm ≤ 40) ∧ (∀ j, 0 ≤ rd j ∧ rd j < 9) ∧ (∀ j, 0 ≤ ry j ∧ ry j < 365) ∧ (∀ j, 0 ≤ rm j ∧ rm j < 1440) ∧ (∀ j, 0 ≤ rt j ∧ rt j < 1440) ∧ (∀ j, -1 ≤ se j ∧ se j < 1440) ∧ (∀ j, 0 ≤ md j ∧ md j < 9) ∧ (∀ j, 0 ≤ my j ∧ my j < 365) ∧ ∀ j, -120 ≤ mt j ∧ mt j ≤ 120
theorem turn_B {md my mt : Nat → Int} {di day own : Int} (ho : -120 ≤ own ∧ own ≤ 120) (ht : ∀ j, -120 ≤ mt j ∧ mt j ≤ 120) (k : Nat) : -120 ≤ turnI md my mt di day own k ∧ turnI md my mt di day own k ≤ 120 := by
  induction k with
  | zero => exact ho
  | succ k ih =>
    unfold turnI
    split
    · exact ht k
    · exact ih
theorem firstR_B (rd : Nat → Int) (di : Int) : ∀ (k i : Nat), -1 ≤ firstR rd di i k ∧ firstR rd di i k < (i + k : Nat) := by
  intro k
  induction k with
  | zero => intro i; simp [firstR]; omega
  | succ k ih =>
    intro i
    have := ih (i + 1)
    unfold firstR
    split <;> omega

theorem l_X3_turnBy {h : aH} {nr ns nm : Int} {rd ry rm rt se md my mt : Nat → Int} (c40 : h 40 = .inr (3, [iv nr, iv ns, iv nm, .ref 41, .ref 42, .ref 43, .ref 44, .ref 45, .ref 46, .ref 47, .ref 48])) (c41 : h 41 = .inl (0, 12, rd)) (c42 : h 42 = .inl (0, 12, ry)) (c43 : h 43 = .inl (0, 12, rm)) (c44 : h 44 = .inl (0, 12, rt)) (c45 : h 45 = .inl (0, 9, se)) (c46 : h 46 = .inl (0, 40, md)) (c47 : h 47 = .inl (0, 40, my)) (c48 : h 48 = .inl (0, 40, mt)) (ni : NInv nr ns nm rd ry rm rt se md my mt) {d : Nat} {di day own : Int} (hdi : 0 ≤ di ∧ di < 9) (hd : 0 ≤ day ∧ day < 365) : ∀ (k : Nat), (k : Int) ≤ nm → Ev RX3 "turnBy" cX3_turnBy 5 (some .int) d 0 0 (Ret (turnI md my mt di day own k) h) noX 97 h 8 [(0, .ref 40), (1, iv di), (2, iv day), (3, iv own), (4, iv ((k : Int) - 1))] [] := by
  obtain ⟨pnr, pns, pnm, prd, pry, prm, prt, pse, pmd, pmy, pmt⟩ := id ni
  intro k
  induction k with
  | zero =>
    intro hk
    refine r_iload dX3_turnBy_8 rfl ?_
    refine r_if_lt (tgt := 49) dX3_turnBy_10 (by decide) ⟨by omega, by omega⟩ (fun g10 => ?_) (fun g10 => absurd g10 (by omega))
    refine r_iload_n dX3_turnBy_49 rfl rfl ?_
    refine r_iret dX3_turnBy_50 ?_
    exact ⟨rfl, rfl, rfl⟩
  | succ k ih =>
    intro hk
    have b1 := pmd k
    have b2 := pmy k
    have ek : (((k + 1 : Nat) : Int) - 1).toNat = k := by omega
    refine r_iload dX3_turnBy_8 rfl ?_
    refine r_if_lt (tgt := 49) dX3_turnBy_10 (by decide) ⟨by omega, by omega⟩ (fun g10 => absurd g10 (by omega)) (fun g10 => ?_)
    refine r_aload_n dX3_turnBy_13 rfl rfl ?_
    refine r_get (fs := [_, _, _, _, _, _, _, _, _, _, _]) dX3_turnBy_14 fl_X3_37 (by decide) c40 rfl ?_
    refine r_iload dX3_turnBy_17 rfl ?_
    refine r_ald dX3_turnBy_19 (by decide) c46 (by omega) (by omega) (by decide) ?_
    rw [ek]
    refine r_iload_n dX3_turnBy_20 rfl rfl ?_
    refine r_icmp_ne (tgt := 43) dX3_turnBy_21 (by decide) ⟨by omega, by omega⟩ ⟨by omega, by omega⟩ (fun g21 => ?_) (fun g21 => ?_)
    · refine r_iinc (lv2 := [(0, _), (1, _), (2, _), (3, _), (4, _)]) dX3_turnBy_43 (by decide) rfl rfl rfl ?_
      refine r_goto (tgt := 8) dX3_turnBy_46 (by decide) ?_
      have hi := ih (by omega)
      unfold turnI
      rw [if_neg (by omega), show ((k + 1 : Nat) : Int) - 1 + -1 = (k : Int) - 1 by omega]
      exact hi
    · refine r_aload_n dX3_turnBy_24 rfl rfl ?_
      refine r_get (fs := [_, _, _, _, _, _, _, _, _, _, _]) dX3_turnBy_25 fl_X3_40 (by decide) c40 rfl ?_
      refine r_iload dX3_turnBy_28 rfl ?_
      refine r_ald dX3_turnBy_30 (by decide) c47 (by omega) (by omega) (by decide) ?_
      rw [ek]
      refine r_iload_n dX3_turnBy_31 rfl rfl ?_
      refine r_icmp_gt (tgt := 43) dX3_turnBy_32 (by decide) ⟨by omega, by omega⟩ ⟨by omega, by omega⟩ (fun g32 => ?_) (fun g32 => ?_)
      · refine r_iinc (lv2 := [(0, _), (1, _), (2, _), (3, _), (4, _)]) dX3_turnBy_43 (by decide) rfl rfl rfl ?_
        refine r_goto (tgt := 8) dX3_turnBy_46 (by decide) ?_
        have hi := ih (by omega)
        unfold turnI
        rw [if_neg (by omega), show ((k + 1 : Nat) : Int) - 1 + -1 = (k : Int) - 1 by omega]
        exact hi
      · refine r_aload_n dX3_turnBy_35 rfl rfl ?_
        refine r_get (fs := [_, _, _, _, _, _, _, _, _, _, _]) dX3_turnBy_36 fl_X3_43 (by decide) c40 rfl ?_
        refine r_iload dX3_turnBy_39 rfl ?_
        refine r_ald dX3_turnBy_41 (by decide) c48 (by omega) (by omega) (by decide) ?_
        rw [ek]
        refine r_iret dX3_turnBy_42 ?_
        exact ⟨ivE (by unfold turnI; rw [if_pos (by omega)]), rfl, rfl⟩

theorem s_X3_turnBy {h : aH} {nr ns nm : Int} {rd ry rm rt se md my mt : Nat → Int} (c40 : h 40 = .inr (3, [iv nr, iv ns, iv nm, .ref 41, .ref 42, .ref 43, .ref 44, .ref 45, .ref 46, .ref 47, .ref 48])) (c41 : h 41 = .inl (0, 12, rd)) (c42 : h 42 = .inl (0, 12, ry)) (c43 : h 43 = .inl (0, 12, rm)) (c44 : h 44 = .inl (0, 12, rt)) (c45 : h 45 = .inl (0, 9, se)) (c46 : h 46 = .inl (0, 40, md)) (c47 : h 47 = .inl (0, 40, my)) (c48 : h 48 = .inl (0, 40, mt)) (ni : NInv nr ns nm rd ry rm rt se md my mt) {di day own : Int} (hdi : 0 ≤ di ∧ di < 9) (hd : 0 ≤ day ∧ day < 365) : mSem yX3_turnBy cX3_turnBy 5 (some .int) 0 0 0 [.ref 40, iv di, iv day, iv own] 97 h (Ret (turnI md my mt di day own nm.toNat) h) noX := by
  obtain ⟨pnr, pns, pnm, prd, pry, prm, prt, pse, pmd, pmy, pmt⟩ := id ni
  refine mSem_of (own := RX3) (name := "turnBy") pn_X3 rfl rfl (Nat.le_of_ble_eq_true rfl) ?_
  refine r_aload_n dX3_turnBy_0 rfl rfl ?_
  refine r_get (fs := [_, _, _, _, _, _, _, _, _, _, _]) dX3_turnBy_1 fl_X3_18 (by decide) c40 rfl ?_
  refine r_iconst dX3_turnBy_4 ?_
  refine r_isub dX3_turnBy_5 ?_
  refine r_istore (lv2 := [(0, _), (1, _), (2, _), (3, _), (4, _)]) dX3_turnBy_6 (by decide) rfl rfl ?_
  have hk := l_X3_turnBy (d := 0) c40 c41 c42 c43 c44 c45 c46 c47 c48 ni (own := own) hdi hd nm.toNat (by omega)
  rw [show ((nm.toNat : Nat) : Int) = nm by omega] at hk
  exact hk

theorem l_X3_firstReadingOf {h : aH} {nr ns nm : Int} {rd ry rm rt se md my mt : Nat → Int} (c40 : h 40 = .inr (3, [iv nr, iv ns, iv nm, .ref 41, .ref 42, .ref 43, .ref 44, .ref 45, .ref 46, .ref 47, .ref 48])) (c41 : h 41 = .inl (0, 12, rd)) (c42 : h 42 = .inl (0, 12, ry)) (c43 : h 43 = .inl (0, 12, rm)) (c44 : h 44 = .inl (0, 12, rt)) (c45 : h 45 = .inl (0, 9, se)) (c46 : h 46 = .inl (0, 40, md)) (c47 : h 47 = .inl (0, 40, my)) (c48 : h 48 = .inl (0, 40, mt)) (ni : NInv nr ns nm rd ry rm rt se md my mt) {d : Nat} {di : Int} (hdi : 0 ≤ di ∧ di < 9) : ∀ (k i : Nat), (i : Int) + k = nr → Ev RX3 "firstReadingOf" cX3_firstReadingOf 3 (some .int) d 0 0 (Ret (firstR rd di i k) h) noX 97 h 2 [(0, .ref 40), (1, iv di), (2, iv i)] [] := by
  obtain ⟨pnr, pns, pnm, prd, pry, prm, prt, pse, pmd, pmy, pmt⟩ := id ni
  intro k
  induction k with
  | zero =>
    intro i hk
    refine r_iload_n dX3_firstReadingOf_2 rfl rfl ?_
    refine r_aload_n dX3_firstReadingOf_3 rfl rfl ?_
    refine r_get (fs := [_, _, _, _, _, _, _, _, _, _, _]) dX3_firstReadingOf_4 fl_X3_9 (by decide) c40 rfl ?_
    refine r_icmp_ge (tgt := 28) dX3_firstReadingOf_7 (by decide) ⟨by omega, by omega⟩ ⟨by omega, by omega⟩ (fun g7 => ?_) (fun g7 => absurd g7 (by omega))
    refine r_iconst dX3_firstReadingOf_28 ?_
    refine r_iret dX3_firstReadingOf_29 ?_
    exact ⟨rfl, rfl, rfl⟩
  | succ k ih =>
    intro i hk
    have b1 := prd i
    refine r_iload_n dX3_firstReadingOf_2 rfl rfl ?_
    refine r_aload_n dX3_firstReadingOf_3 rfl rfl ?_
    refine r_get (fs := [_, _, _, _, _, _, _, _, _, _, _]) dX3_firstReadingOf_4 fl_X3_9 (by decide) c40 rfl ?_
    refine r_icmp_ge (tgt := 28) dX3_firstReadingOf_7 (by decide) ⟨by omega, by omega⟩ ⟨by omega, by omega⟩ (fun g7 => absurd g7 (by omega)) (fun g7 => ?_)
    refine r_aload_n dX3_firstReadingOf_10 rfl rfl ?_
    refine r_get (fs := [_, _, _, _, _, _, _, _, _, _, _]) dX3_firstReadingOf_11 fl_X3_21 (by decide) c40 rfl ?_
    refine r_iload_n dX3_firstReadingOf_14 rfl rfl ?_
    refine r_ald dX3_firstReadingOf_15 (by decide) c41 (by omega) (by omega) (by decide) ?_
    rw [Int.toNat_natCast]
    refine r_iload_n dX3_firstReadingOf_16 rfl rfl ?_
    refine r_icmp_ne (tgt := 22) dX3_firstReadingOf_17 (by decide) ⟨by omega, by omega⟩ ⟨by omega, by omega⟩ (fun g17 => ?_) (fun g17 => ?_)
    · refine r_iinc (lv2 := [(0, _), (1, _), (2, _)]) dX3_firstReadingOf_22 (by decide) rfl rfl rfl ?_
      refine r_goto (tgt := 2) dX3_firstReadingOf_25 (by decide) ?_
      have hi := ih (i + 1) (by omega)
      unfold firstR
      rw [if_neg g17, show (i : Int) + 1 = ((i + 1 : Nat) : Int) by omega]
      exact hi
    · refine r_iload_n dX3_firstReadingOf_20 rfl rfl ?_
      refine r_iret dX3_firstReadingOf_21 ?_
      exact ⟨ivE (by unfold firstR; rw [if_pos g17]), rfl, rfl⟩

theorem s_X3_firstReadingOf {h : aH} {nr ns nm : Int} {rd ry rm rt se md my mt : Nat → Int} (c40 : h 40 = .inr (3, [iv nr, iv ns, iv nm, .ref 41, .ref 42, .ref 43, .ref 44, .ref 45, .ref 46, .ref 47, .ref 48])) (c41 : h 41 = .inl (0, 12, rd)) (c42 : h 42 = .inl (0, 12, ry)) (c43 : h 43 = .inl (0, 12, rm)) (c44 : h 44 = .inl (0, 12, rt)) (c45 : h 45 = .inl (0, 9, se)) (c46 : h 46 = .inl (0, 40, md)) (c47 : h 47 = .inl (0, 40, my)) (c48 : h 48 = .inl (0, 40, mt)) (ni : NInv nr ns nm rd ry rm rt se md my mt) {di : Int} (hdi : 0 ≤ di ∧ di < 9) : mSem yX3_firstReadingOf cX3_firstReadingOf 3 (some .int) 0 0 0 [.ref 40, iv di] 97 h (Ret (firstR rd di 0 nr.toNat) h) noX := by
  obtain ⟨pnr, pns, pnm, prd, pry, prm, prt, pse, pmd, pmy, pmt⟩ := id ni
  refine mSem_of (own := RX3) (name := "firstReadingOf") pn_X3 rfl rfl (Nat.le_of_ble_eq_true rfl) ?_
  refine r_iconst dX3_firstReadingOf_0 ?_
  refine r_istore_n (lv2 := [(0, _), (1, _), (2, _)]) dX3_firstReadingOf_1 rfl (by decide) rfl rfl ?_
  exact l_X3_firstReadingOf (d := 0) c40 c41 c42 c43 c44 c45 c46 c47 c48 ni hdi nr.toNat 0 (by omega)

theorem s_X3_addReading {h : aH} {nr ns nm : Int} {rd ry rm rt se md my mt : Nat → Int} (c40 : h 40 = .inr (3, [iv nr, iv ns, iv nm, .ref 41, .ref 42, .ref 43, .ref 44, .ref 45, .ref 46, .ref 47, .ref 48])) (c41 : h 41 = .inl (0, 12, rd)) (c42 : h 42 = .inl (0, 12, ry)) (c43 : h 43 = .inl (0, 12, rm)) (c44 : h 44 = .inl (0, 12, rt)) (c45 : h 45 = .inl (0, 9, se)) (c46 : h 46 = .inl (0, 40, md)) (c47 : h 47 = .inl (0, 40, my)) (c48 : h 48 = .inl (0, 40, mt)) (ni : NInv nr ns nm rd ry rm rt se md my mt) {di day m to : Int} (hnr : nr < 12) : mSem yX3_addReading cX3_addReading 5 (some .int) 0 0 0 [.ref 40, iv di, iv day, iv m, iv to] 97 h (Ret (nr + 1) (va_up (va_up (va_up (va_up (va_up h 41 (.inl (0, 12, va_up rd nr.toNat di))) 42 (.inl (0, 12, va_up ry nr.toNat day))) 43 (.inl (0, 12, va_up rm nr.toNat m))) 44 (.inl (0, 12, va_up rt nr.toNat to))) 40 (.inr (3, [iv (nr + 1), iv ns, iv nm, .ref 41, .ref 42, .ref 43, .ref 44, .ref 45, .ref 46, .ref 47, .ref 48])))) noX := by
  obtain ⟨pnr, pns, pnm, prd, pry, prm, prt, pse, pmd, pmy, pmt⟩ := id ni
  refine mSem_of (own := RX3) (name := "addReading") pn_X3 rfl rfl (Nat.le_of_ble_eq_true rfl) ?_
  refine r_aload_n dX3_addReading_0 rfl rfl ?_
  refine r_get (fs := [_, _, _, _, _, _, _, _, _, _, _]) dX3_addReading_1 fl_X3_9 (by decide) c40 rfl ?_
  refine r_bipush dX3_addReading_4 rfl ?_
  refine r_icmp_ge (tgt := 60) dX3_addReading_6 (by decide) ⟨by omega, by omega⟩ ⟨by omega, by omega⟩ (fun g6 => absurd g6 (by omega)) (fun g6 => ?_)
  refine r_aload_n dX3_addReading_9 rfl rfl ?_
  refine r_get (fs := [_, _, _, _, _, _, _, _, _, _, _]) dX3_addReading_10 fl_X3_21 (by decide) c40 rfl ?_
  refine r_aload_n dX3_addReading_13 rfl rfl ?_
  refine r_get (fs := [_, _, _, _, _, _, _, _, _, _, _]) dX3_addReading_14 fl_X3_9 (by decide) c40 rfl ?_
  refine r_iload_n dX3_addReading_17 rfl rfl ?_
  refine r_ast dX3_addReading_18 (by decide) c41 (by omega) (by omega) (by decide) ?_
  refine r_aload_n dX3_addReading_19 rfl rfl ?_
  refine r_get (fs := [_, _, _, _, _, _, _, _, _, _, _]) dX3_addReading_20 fl_X3_25 (by decide) c40 rfl ?_
  refine r_aload_n dX3_addReading_23 rfl rfl ?_
  refine r_get (fs := [_, _, _, _, _, _, _, _, _, _, _]) dX3_addReading_24 fl_X3_9 (by decide) c40 rfl ?_
  refine r_iload_n dX3_addReading_27 rfl rfl ?_
  refine r_ast dX3_addReading_28 (by decide) c42 (by omega) (by omega) (by decide) ?_
  refine r_aload_n dX3_addReading_29 rfl rfl ?_
  refine r_get (fs := [_, _, _, _, _, _, _, _, _, _, _]) dX3_addReading_30 fl_X3_28 (by decide) c40 rfl ?_
  refine r_aload_n dX3_addReading_33 rfl rfl ?_
  refine r_get (fs := [_, _, _, _, _, _, _, _, _, _, _]) dX3_addReading_34 fl_X3_9 (by decide) c40 rfl ?_
  refine r_iload_n dX3_addReading_37 rfl rfl ?_
  refine r_ast dX3_addReading_38 (by decide) c43 (by omega) (by omega) (by decide) ?_
  refine r_aload_n dX3_addReading_39 rfl rfl ?_
  refine r_get (fs := [_, _, _, _, _, _, _, _, _, _, _]) dX3_addReading_40 fl_X3_31 (by decide) c40 rfl ?_
  refine r_aload_n dX3_addReading_43 rfl rfl ?_
  refine r_get (fs := [_, _, _, _, _, _, _, _, _, _, _]) dX3_addReading_44 fl_X3_9 (by decide) c40 rfl ?_
  refine r_iload dX3_addReading_47 rfl ?_
  refine r_ast dX3_addReading_49 (by decide) c44 (by omega) (by omega) (by decide) ?_
  refine r_aload_n dX3_addReading_50 rfl rfl ?_
  refine r_dup dX3_addReading_51 rfl ?_
  refine r_get (fs := [_, _, _, _, _, _, _, _, _, _, _]) dX3_addReading_52 fl_X3_9 (by decide) c40 rfl ?_
  refine r_iconst dX3_addReading_55 ?_
  refine r_iadd dX3_addReading_56 ?_
  refine r_put (fs := [_, _, _, _, _, _, _, _, _, _, _]) (fs2 := [_, _, _, _, _, _, _, _, _, _, _]) dX3_addReading_57 fp_X3_9 (by decide) c40 (nar_int _) (Nat.le_of_ble_eq_true rfl) rfl ?_
  refine r_aload_n dX3_addReading_60 rfl rfl ?_
  refine r_get (fs := [_, _, _, _, _, _, _, _, _, _, _]) dX3_addReading_61 fl_X3_9 (by decide) rfl rfl ?_
  refine r_iret dX3_addReading_64 ?_
  exact ⟨rfl, rfl, rfl⟩

theorem s_X3_addMend {h : aH} {nr ns nm : Int} {rd ry rm rt se md my mt : Nat → Int} (c40 : h 40 = .inr (3, [iv nr, iv ns, iv nm, .ref 41, .ref 42, .ref 43, .ref 44, .ref 45, .ref 46, .ref 47, .ref 48])) (c41 : h 41 = .inl (0, 12, rd)) (c42 : h 42 = .inl (0, 12, ry)) (c43 : h 43 = .inl (0, 12, rm)) (c44 : h 44 = .inl (0, 12, rt)) (c45 : h 45 = .inl (0, 9, se)) (c46 : h 46 = .inl (0, 40, md)) (c47 : h 47 = .inl (0, 40, my)) (c48 : h 48 = .inl (0, 40, mt)) (ni : NInv nr ns nm rd ry rm rt se md my mt) {di day tu : Int} (hnm : nm < 40) : mSem yX3_addMend cX3_addMend 4 (some .int) 0 0 0 [.ref 40, iv di, iv day, iv tu] 97 h (Ret (nm + 1) (va_up (va_up (va_up (va_up h 46 (.inl (0, 40, va_up md nm.toNat di))) 47 (.inl (0, 40, va_up my nm.toNat day))) 48 (.inl (0, 40, va_up mt nm.toNat tu))) 40 (.inr (3, [iv nr, iv ns, iv (nm + 1), .ref 41, .ref 42, .ref 43, .ref 44, .ref 45, .ref 46, .ref 47, .ref 48])))) noX := by
  obtain ⟨pnr, pns, pnm, prd, pry, prm, prt, pse, pmd, pmy, pmt⟩ := id ni
  refine mSem_of (own := RX3) (name := "addMend") pn_X3 rfl rfl (Nat.le_of_ble_eq_true rfl) ?_
  refine r_aload_n dX3_addMend_0 rfl rfl ?_
  refine r_get (fs := [_, _, _, _, _, _, _, _, _, _, _]) dX3_addMend_1 fl_X3_18 (by decide) c40 rfl ?_
  refine r_bipush dX3_addMend_4 rfl ?_
  refine r_icmp_ge (tgt := 49) dX3_addMend_6 (by decide) ⟨by omega, by omega⟩ ⟨by omega, by omega⟩ (fun g6 => absurd g6 (by omega)) (fun g6 => ?_)
  refine r_aload_n dX3_addMend_9 rfl rfl ?_
  refine r_get (fs := [_, _, _, _, _, _, _, _, _, _, _]) dX3_addMend_10 fl_X3_37 (by decide) c40 rfl ?_
  refine r_aload_n dX3_addMend_13 rfl rfl ?_
  refine r_get (fs := [_, _, _, _, _, _, _, _, _, _, _]) dX3_addMend_14 fl_X3_18 (by decide) c40 rfl ?_
  refine r_iload_n dX3_addMend_17 rfl rfl ?_
  refine r_ast dX3_addMend_18 (by decide) c46 (by omega) (by omega) (by decide) ?_
  refine r_aload_n dX3_addMend_19 rfl rfl ?_
  refine r_get (fs := [_, _, _, _, _, _, _, _, _, _, _]) dX3_addMend_20 fl_X3_40 (by decide) c40 rfl ?_
  refine r_aload_n dX3_addMend_23 rfl rfl ?_
  refine r_get (fs := [_, _, _, _, _, _, _, _, _, _, _]) dX3_addMend_24 fl_X3_18 (by decide) c40 rfl ?_
  refine r_iload_n dX3_addMend_27 rfl rfl ?_
  refine r_ast dX3_addMend_28 (by decide) c47 (by omega) (by omega) (by decide) ?_
  refine r_aload_n dX3_addMend_29 rfl rfl ?_
  refine r_get (fs := [_, _, _, _, _, _, _, _, _, _, _]) dX3_addMend_30 fl_X3_43 (by decide) c40 rfl ?_
  refine r_aload_n dX3_addMend_33 rfl rfl ?_
  refine r_get (fs := [_, _, _, _, _, _, _, _, _, _, _]) dX3_addMend_34 fl_X3_18 (by decide) c40 rfl ?_
  refine r_iload_n dX3_addMend_37 rfl rfl ?_
  refine r_ast dX3_addMend_38 (by decide) c48 (by omega) (by omega) (by decide) ?_
  refine r_aload_n dX3_addMend_39 rfl rfl ?_
  refine r_dup dX3_addMend_40 rfl ?_
  refine r_get (fs := [_, _, _, _, _, _, _, _, _, _, _]) dX3_addMend_41 fl_X3_18 (by decide) c40 rfl ?_
  refine r_iconst dX3_addMend_44 ?_
  refine r_iadd dX3_addMend_45 ?_
  refine r_put (fs := [_, _, _, _, _, _, _, _, _, _, _]) (fs2 := [_, _, _, _, _, _, _, _, _, _, _]) dX3_addMend_46 fp_X3_18 (by decide) c40 (nar_int _) (Nat.le_of_ble_eq_true rfl) rfl ?_
  refine r_aload_n dX3_addMend_49 rfl rfl ?_
  refine r_get (fs := [_, _, _, _, _, _, _, _, _, _, _]) dX3_addMend_50 fl_X3_18 (by decide) rfl rfl ?_
  refine r_iret dX3_addMend_53 ?_
  exact ⟨rfl, rfl, rfl⟩

theorem s_X3_clearSeen {h : aH} {nr ns nm : Int} {rd ry rm rt se md my mt : Nat → Int} (c40 : h 40 = .inr (3, [iv nr, iv ns, iv nm, .ref 41, .ref 42, .ref 43, .ref 44, .ref 45, .ref 46, .ref 47, .ref 48])) (c41 : h 41 = .inl (0, 12, rd)) (c42 : h 42 = .inl (0, 12, ry)) (c43 : h 43 = .inl (0, 12, rm)) (c44 : h 44 = .inl (0, 12, rt)) (c45 : h 45 = .inl (0, 9, se)) (c46 : h 46 = .inl (0, 40, md)) (c47 : h 47 = .inl (0, 40, my)) (c48 : h 48 = .inl (0, 40, mt)) (ni : NInv nr ns nm rd ry rm rt se md my mt)  : mSem yX3_clearSeen cX3_clearSeen 1 none 1 0 0 [.ref 40] 97 h (RetV (va_up (va_up h 40 (.inr (3, [iv nr, iv 0, iv nm, .ref 41, .ref 42, .ref 43, .ref 44, .ref 45, .ref 46, .ref 47, .ref 48]))) 45 (.inl (0, 9, fillF se (-1) 9)))) noX := by
  obtain ⟨pnr, pns, pnm, prd, pry, prm, prt, pse, pmd, pmy, pmt⟩ := id ni
  refine mSem_of (own := RX3) (name := "clearSeen") pn_X3 rfl rfl (Nat.le_of_ble_eq_true rfl) ?_
  refine r_aload_n dX3_clearSeen_0 rfl rfl ?_
  refine r_iconst dX3_clearSeen_1 ?_
  refine r_put (fs := [_, _, _, _, _, _, _, _, _, _, _]) (fs2 := [_, _, _, _, _, _, _, _, _, _, _]) dX3_clearSeen_2 fp_X3_15 (by decide) c40 (nar_int _) (Nat.le_of_ble_eq_true rfl) rfl ?_
  refine r_aload_n dX3_clearSeen_5 rfl rfl ?_
  refine r_get (fs := [_, _, _, _, _, _, _, _, _, _, _]) dX3_clearSeen_6 fl_X3_34 (by decide) rfl rfl ?_
  refine r_iconst dX3_clearSeen_9 ?_
  refine r_callS [.ref 45, _] (s_fill_45 (by exact c45)) dX3_clearSeen_10 cs_X3_46 sm_J7_fill_53178 (by decide) (by decide) (by decide) rfl rfl (Nat.le_of_ble_eq_true rfl) (fun _ _ _ q => q.elim) (fun v n2 h2 q => ?_)
  obtain ⟨rfl, rfl, hh⟩ := q
  obtain rfl := hh.symm
  refine ⟨rfl, ?_⟩
  dsimp only [Option.toList, List.cons_append, List.nil_append]
  refine r_vret dX3_clearSeen_13 ?_
  exact ⟨rfl, rfl, rfl⟩

theorem s_X3_clear {h : aH} {nr ns nm : Int} {rd ry rm rt se md my mt : Nat → Int} (c40 : h 40 = .inr (3, [iv nr, iv ns, iv nm, .ref 41, .ref 42, .ref 43, .ref 44, .ref 45, .ref 46, .ref 47, .ref 48])) (c41 : h 41 = .inl (0, 12, rd)) (c42 : h 42 = .inl (0, 12, ry)) (c43 : h 43 = .inl (0, 12, rm)) (c44 : h 44 = .inl (0, 12, rt)) (c45 : h 45 = .inl (0, 9, se)) (c46 : h 46 = .inl (0, 40, md)) (c47 : h 47 = .inl (0, 40, my)) (c48 : h 48 = .inl (0, 40, mt)) (ni : NInv nr ns nm rd ry rm rt se md my mt)  : mSem yX3_clear cX3_clear 1 none 2 0 0 [.ref 40] 97 h (RetV (va_up (va_up (va_up (va_up h 40 (.inr (3, [iv 0, iv ns, iv nm, .ref 41, .ref 42, .ref 43, .ref 44, .ref 45, .ref 46, .ref 47, .ref 48]))) 40 (.inr (3, [iv 0, iv ns, iv 0, .ref 41, .ref 42, .ref 43, .ref 44, .ref 45, .ref 46, .ref 47, .ref 48]))) 40 (.inr (3, [iv 0, iv 0, iv 0, .ref 41, .ref 42, .ref 43, .ref 44, .ref 45, .ref 46, .ref 47, .ref 48]))) 45 (.inl (0, 9, fillF se (-1) 9)))) noX := by
  obtain ⟨pnr, pns, pnm, prd, pry, prm, prt, pse, pmd, pmy, pmt⟩ := id ni
  refine mSem_of (own := RX3) (name := "clear") pn_X3 rfl rfl (Nat.le_of_ble_eq_true rfl) ?_
  refine r_aload_n dX3_clear_0 rfl rfl ?_
  refine r_iconst dX3_clear_1 ?_
  refine r_put (fs := [_, _, _, _, _, _, _, _, _, _, _]) (fs2 := [_, _, _, _, _, _, _, _, _, _, _]) dX3_clear_2 fp_X3_9 (by decide) c40 (nar_int _) (Nat.le_of_ble_eq_true rfl) rfl ?_
  refine r_aload_n dX3_clear_5 rfl rfl ?_
  refine r_iconst dX3_clear_6 ?_
  refine r_put (fs := [_, _, _, _, _, _, _, _, _, _, _]) (fs2 := [_, _, _, _, _, _, _, _, _, _, _]) dX3_clear_7 fp_X3_18 (by decide) rfl (nar_int _) (Nat.le_of_ble_eq_true rfl) rfl ?_
  refine r_aload_n dX3_clear_10 rfl rfl ?_
  refine r_callV 40 [] (s_X3_clearSeen (by rfl) (by exact c41) (by exact c42) (by exact c43) (by exact c44) (by exact c45) (by exact c46) (by exact c47) (by exact c48) ⟨by omega, pns, by omega, prd, pry, prm, prt, pse, pmd, pmy, pmt⟩) dX3_clear_11 cs_X3_52 im_X3_clearSeen (by decide) rfl rfl (by decide) (by decide) (by decide) rfl rfl (Nat.le_of_ble_eq_true rfl) (fun _ _ _ q => q.elim) (fun v n2 h2 q => ?_)
  obtain ⟨rfl, rfl, hh⟩ := q
  obtain rfl := hh.symm
  refine ⟨rfl, ?_⟩
  dsimp only [Option.toList, List.cons_append, List.nil_append]
  refine r_vret dX3_clear_14 ?_
  exact ⟨rfl, rfl, rfl⟩
