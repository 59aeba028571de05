/-! ===== the reference: seen ones, images, the tape, counts ===== -/
theorem and255z (z : Int) : Int32.ofInt z &&& Int32.ofInt 255 = Int32.ofInt (z % 256) := by
  apply Int32.toBitVec_inj.mp
  show BitVec.ofInt 32 z &&& BitVec.ofInt 32 255 = BitVec.ofInt 32 (z % 256)
  apply BitVec.eq_of_toNat_eq
  rw [BitVec.toNat_and, BitVec.toNat_ofInt, BitVec.toNat_ofInt, BitVec.toNat_ofInt]
  have h1 : ((255 : Int) % ((2 ^ 32 : Nat) : Int)).toNat = 2 ^ 8 - 1 := by decide
  rw [h1, Nat.and_two_pow_sub_one_eq_mod]
  omega
theorem rdR_cpy {nr : Int} {a b rd ry rm rt rd2 ry2 rm2 rt2 : Nat → Int} (h : RdR nr a rd ry rm rt) (hn : nr ≤ 12) : RdR nr (cpyF a b 48) (cpyF rd rd2 12) (cpyF ry ry2 12) (cpyF rm rm2 12) (cpyF rt rt2 12) := by
  intro j hj
  obtain ⟨k1, k2, k3, k4⟩ := h j hj
  rw [cpy_lt (by omega), cpy_lt (by omega), cpy_lt (by omega), cpy_lt (by omega), cpy_lt (by omega), cpy_lt (by omega), cpy_lt (by omega), cpy_lt (by omega)]
  exact ⟨k1, k2, k3, k4⟩
theorem mdR_cpy {nm : Int} {a b md my mt md2 my2 mt2 : Nat → Int} (h : MdR nm a md my mt) (hn : nm ≤ 40) : MdR nm (cpyF a b 120) (cpyF md md2 40) (cpyF my my2 40) (cpyF mt mt2 40) := by
  intro j hj
  obtain ⟨k1, k2, k3⟩ := h j hj
  rw [cpy_lt (by omega), cpy_lt (by omega), cpy_lt (by omega), cpy_lt (by omega), cpy_lt (by omega), cpy_lt (by omega)]
  exact ⟨k1, k2, k3⟩
theorem seR_cpy {nd ns : Int} {a b se se2 : Nat → Int} (h : SeR nd ns a se) (hn : ns ≤ 9) (hd : nd ≤ 9) : SeR nd ns (cpyF a b 18) (cpyF se se2 9) := by
  obtain ⟨s1, s2, s3⟩ := h
  refine ⟨fun k hk => ?_, fun d hd9 hse => ?_, fun i j hij hj => ?_⟩
  · obtain ⟨a1, a2, a3⟩ := s1 k hk
    rw [cpy_lt (n := 18) (j := 2 * k) (by omega), cpy_lt (n := 18) (j := 2 * k + 1) (by omega), cpy_lt (n := 9) (by omega)]
    exact ⟨a1, a2, a3⟩
  · rw [cpy_lt hd9] at hse
    obtain ⟨k, hk, hk2⟩ := s2 d hd9 hse
    exact ⟨k, hk, by rw [cpy_lt (by omega)]; exact hk2⟩
  · rw [cpy_lt (by omega), cpy_lt (by omega)]
    exact s3 i j hij hj

theorem l_copies_80 {h : aH} {f1 f2 : Nat → Int} (c80 : h 80 = .inl (0, 48, f1)) {d : Nat} : ∀ (k i : Nat), i + k = 48 → Ev RX9 "copies" cX9_copies 4 none d 0 0 (RetV (va_up h 93 (.inl (0, 48, cpyF f1 f2 48)))) noX 97 (va_up h 93 (.inl (0, 48, cpyF f1 f2 i))) 2 [(0, .ref 68), (1, .ref 80), (2, .ref 93), (3, iv i)] [] := by
  intro k
  induction k with
  | zero =>
    intro i hi
    obtain rfl : i = 48 := by omega
    refine r_iload_n dX9_copies_2 rfl rfl ?_
    refine r_aload_n dX9_copies_3 rfl rfl ?_
    refine r_alen dX9_copies_4 (by decide) c80 (by decide) ?_
    refine r_icmp_ge (tgt := 20) dX9_copies_5 (by decide) ⟨by omega, by omega⟩ ⟨by omega, by omega⟩ (fun g5 => ?_) (fun g5 => absurd g5 (by omega))
    refine r_vret dX9_copies_20 ?_
    exact ⟨rfl, rfl, rfl⟩
  | succ k ih =>
    intro i hi
    refine r_iload_n dX9_copies_2 rfl rfl ?_
    refine r_aload_n dX9_copies_3 rfl rfl ?_
    refine r_alen dX9_copies_4 (by decide) c80 (by decide) ?_
    refine r_icmp_ge (tgt := 20) dX9_copies_5 (by decide) ⟨by omega, by omega⟩ ⟨by omega, by omega⟩ (fun g5 => absurd g5 (by omega)) (fun g5 => ?_)
    refine r_aload_n dX9_copies_8 rfl rfl ?_
    refine r_iload_n dX9_copies_9 rfl rfl ?_
    refine r_aload_n dX9_copies_10 rfl rfl ?_
    refine r_iload_n dX9_copies_11 rfl rfl ?_
    refine r_ald dX9_copies_12 (by decide) c80 (by omega) (by omega) (by decide) ?_
    refine r_ast dX9_copies_13 (by decide) rfl (by omega) (by omega) (by decide) ?_
    refine r_iinc (lv2 := [(0, _), (1, _), (2, _), (3, _)]) dX9_copies_14 (by decide) rfl rfl rfl ?_
    refine r_goto (tgt := 2) dX9_copies_17 (by decide) ?_
    rw [bx_uu, Int.toNat_natCast, cpy_s, show (i : Int) + 1 = ((i + 1 : Nat) : Int) by omega]
    exact ih (i + 1) (by omega)

theorem s_X9_copies_80 {h : aH} {f1 f2 : Nat → Int} (c80 : h 80 = .inl (0, 48, f1)) (c93 : h 93 = .inl (0, 48, f2)) : mSem yX9_copies cX9_copies 4 none 0 0 0 [.ref 68, .ref 80, .ref 93] 97 h (RetV (va_up h 93 (.inl (0, 48, cpyF f1 f2 48)))) noX := by
  refine mSem_of (own := RX9) (name := "copies") pn_X9 rfl rfl (Nat.le_of_ble_eq_true rfl) ?_
  refine r_iconst dX9_copies_0 ?_
  refine r_istore_n (lv2 := [(0, _), (1, _), (2, _), (3, _)]) dX9_copies_1 rfl (by decide) rfl rfl ?_
  refine ev_h (up_same c93) ?_
  have hk := l_copies_80 (f2 := f2) c80 (d := 0) 48 0 (by omega)
  rw [cpy_0] at hk
  exact hk

theorem l_copies_83 {h : aH} {f1 f2 : Nat → Int} (c83 : h 83 = .inl (0, 18, f1)) {d : Nat} : ∀ (k i : Nat), i + k = 18 → Ev RX9 "copies" cX9_copies 4 none d 0 0 (RetV (va_up h 94 (.inl (0, 18, cpyF f1 f2 18)))) noX 97 (va_up h 94 (.inl (0, 18, cpyF f1 f2 i))) 2 [(0, .ref 68), (1, .ref 83), (2, .ref 94), (3, iv i)] [] := by
  intro k
  induction k with
  | zero =>
    intro i hi
    obtain rfl : i = 18 := by omega
    refine r_iload_n dX9_copies_2 rfl rfl ?_
    refine r_aload_n dX9_copies_3 rfl rfl ?_
    refine r_alen dX9_copies_4 (by decide) c83 (by decide) ?_
    refine r_icmp_ge (tgt := 20) dX9_copies_5 (by decide) ⟨by omega, by omega⟩ ⟨by omega, by omega⟩ (fun g5 => ?_) (fun g5 => absurd g5 (by omega))
    refine r_vret dX9_copies_20 ?_
    exact ⟨rfl, rfl, rfl⟩
  | succ k ih =>
    intro i hi
    refine r_iload_n dX9_copies_2 rfl rfl ?_
    refine r_aload_n dX9_copies_3 rfl rfl ?_
    refine r_alen dX9_copies_4 (by decide) c83 (by decide) ?_
    refine r_icmp_ge (tgt := 20) dX9_copies_5 (by decide) ⟨by omega, by omega⟩ ⟨by omega, by omega⟩ (fun g5 => absurd g5 (by omega)) (fun g5 => ?_)
    refine r_aload_n dX9_copies_8 rfl rfl ?_
    refine r_iload_n dX9_copies_9 rfl rfl ?_
    refine r_aload_n dX9_copies_10 rfl rfl ?_
    refine r_iload_n dX9_copies_11 rfl rfl ?_
    refine r_ald dX9_copies_12 (by decide) c83 (by omega) (by omega) (by decide) ?_
    refine r_ast dX9_copies_13 (by decide) rfl (by omega) (by omega) (by decide) ?_
    refine r_iinc (lv2 := [(0, _), (1, _), (2, _), (3, _)]) dX9_copies_14 (by decide) rfl rfl rfl ?_
    refine r_goto (tgt := 2) dX9_copies_17 (by decide) ?_
    rw [bx_uu, Int.toNat_natCast, cpy_s, show (i : Int) + 1 = ((i + 1 : Nat) : Int) by omega]
    exact ih (i + 1) (by omega)

theorem s_X9_copies_83 {h : aH} {f1 f2 : Nat → Int} (c83 : h 83 = .inl (0, 18, f1)) (c94 : h 94 = .inl (0, 18, f2)) : mSem yX9_copies cX9_copies 4 none 0 0 0 [.ref 68, .ref 83, .ref 94] 97 h (RetV (va_up h 94 (.inl (0, 18, cpyF f1 f2 18)))) noX := by
  refine mSem_of (own := RX9) (name := "copies") pn_X9 rfl rfl (Nat.le_of_ble_eq_true rfl) ?_
  refine r_iconst dX9_copies_0 ?_
  refine r_istore_n (lv2 := [(0, _), (1, _), (2, _), (3, _)]) dX9_copies_1 rfl (by decide) rfl rfl ?_
  refine ev_h (up_same c94) ?_
  have hk := l_copies_83 (f2 := f2) c83 (d := 0) 18 0 (by omega)
  rw [cpy_0] at hk
  exact hk

theorem l_copies_79 {h : aH} {f1 f2 : Nat → Int} (c79 : h 79 = .inl (0, 120, f1)) {d : Nat} : ∀ (k i : Nat), i + k = 120 → Ev RX9 "copies" cX9_copies 4 none d 0 0 (RetV (va_up h 95 (.inl (0, 120, cpyF f1 f2 120)))) noX 97 (va_up h 95 (.inl (0, 120, cpyF f1 f2 i))) 2 [(0, .ref 68), (1, .ref 79), (2, .ref 95), (3, iv i)] [] := by
  intro k
  induction k with
  | zero =>
    intro i hi
    obtain rfl : i = 120 := by omega
    refine r_iload_n dX9_copies_2 rfl rfl ?_
    refine r_aload_n dX9_copies_3 rfl rfl ?_
    refine r_alen dX9_copies_4 (by decide) c79 (by decide) ?_
    refine r_icmp_ge (tgt := 20) dX9_copies_5 (by decide) ⟨by omega, by omega⟩ ⟨by omega, by omega⟩ (fun g5 => ?_) (fun g5 => absurd g5 (by omega))
    refine r_vret dX9_copies_20 ?_
    exact ⟨rfl, rfl, rfl⟩
  | succ k ih =>
    intro i hi
    refine r_iload_n dX9_copies_2 rfl rfl ?_
    refine r_aload_n dX9_copies_3 rfl rfl ?_
    refine r_alen dX9_copies_4 (by decide) c79 (by decide) ?_
    refine r_icmp_ge (tgt := 20) dX9_copies_5 (by decide) ⟨by omega, by omega⟩ ⟨by omega, by omega⟩ (fun g5 => absurd g5 (by omega)) (fun g5 => ?_)
    refine r_aload_n dX9_copies_8 rfl rfl ?_
    refine r_iload_n dX9_copies_9 rfl rfl ?_
    refine r_aload_n dX9_copies_10 rfl rfl ?_
    refine r_iload_n dX9_copies_11 rfl rfl ?_
    refine r_ald dX9_copies_12 (by decide) c79 (by omega) (by omega) (by decide) ?_
    refine r_ast dX9_copies_13 (by decide) rfl (by omega) (by omega) (by decide) ?_
    refine r_iinc (lv2 := [(0, _), (1, _), (2, _), (3, _)]) dX9_copies_14 (by decide) rfl rfl rfl ?_
    refine r_goto (tgt := 2) dX9_copies_17 (by decide) ?_
    rw [bx_uu, Int.toNat_natCast, cpy_s, show (i : Int) + 1 = ((i + 1 : Nat) : Int) by omega]
    exact ih (i + 1) (by omega)

theorem s_X9_copies_79 {h : aH} {f1 f2 : Nat → Int} (c79 : h 79 = .inl (0, 120, f1)) (c95 : h 95 = .inl (0, 120, f2)) : mSem yX9_copies cX9_copies 4 none 0 0 0 [.ref 68, .ref 79, .ref 95] 97 h (RetV (va_up h 95 (.inl (0, 120, cpyF f1 f2 120)))) noX := by
  refine mSem_of (own := RX9) (name := "copies") pn_X9 rfl rfl (Nat.le_of_ble_eq_true rfl) ?_
  refine r_iconst dX9_copies_0 ?_
  refine r_istore_n (lv2 := [(0, _), (1, _), (2, _), (3, _)]) dX9_copies_1 rfl (by decide) rfl rfl ?_
  refine ev_h (up_same c95) ?_
  have hk := l_copies_79 (f2 := f2) c79 (d := 0) 120 0 (by omega)
  rw [cpy_0] at hk
  exact hk

theorem l_copies_93 {h : aH} {f1 f2 : Nat → Int} (c93 : h 93 = .inl (0, 48, f1)) {d : Nat} : ∀ (k i : Nat), i + k = 48 → Ev RX9 "copies" cX9_copies 4 none d 0 0 (RetV (va_up h 80 (.inl (0, 48, cpyF f1 f2 48)))) noX 97 (va_up h 80 (.inl (0, 48, cpyF f1 f2 i))) 2 [(0, .ref 68), (1, .ref 93), (2, .ref 80), (3, iv i)] [] := by
  intro k
  induction k with
  | zero =>
    intro i hi
    obtain rfl : i = 48 := by omega
    refine r_iload_n dX9_copies_2 rfl rfl ?_
    refine r_aload_n dX9_copies_3 rfl rfl ?_
    refine r_alen dX9_copies_4 (by decide) c93 (by decide) ?_
    refine r_icmp_ge (tgt := 20) dX9_copies_5 (by decide) ⟨by omega, by omega⟩ ⟨by omega, by omega⟩ (fun g5 => ?_) (fun g5 => absurd g5 (by omega))
    refine r_vret dX9_copies_20 ?_
    exact ⟨rfl, rfl, rfl⟩
  | succ k ih =>
    intro i hi
    refine r_iload_n dX9_copies_2 rfl rfl ?_
    refine r_aload_n dX9_copies_3 rfl rfl ?_
    refine r_alen dX9_copies_4 (by decide) c93 (by decide) ?_
    refine r_icmp_ge (tgt := 20) dX9_copies_5 (by decide) ⟨by omega, by omega⟩ ⟨by omega, by omega⟩ (fun g5 => absurd g5 (by omega)) (fun g5 => ?_)
    refine r_aload_n dX9_copies_8 rfl rfl ?_
    refine r_iload_n dX9_copies_9 rfl rfl ?_
    refine r_aload_n dX9_copies_10 rfl rfl ?_
    refine r_iload_n dX9_copies_11 rfl rfl ?_
    refine r_ald dX9_copies_12 (by decide) c93 (by omega) (by omega) (by decide) ?_
    refine r_ast dX9_copies_13 (by decide) rfl (by omega) (by omega) (by decide) ?_
    refine r_iinc (lv2 := [(0, _), (1, _), (2, _), (3, _)]) dX9_copies_14 (by decide) rfl rfl rfl ?_
    refine r_goto (tgt := 2) dX9_copies_17 (by decide) ?_
    rw [bx_uu, Int.toNat_natCast, cpy_s, show (i : Int) + 1 = ((i + 1 : Nat) : Int) by omega]
    exact ih (i + 1) (by omega)

theorem s_X9_copies_93 {h : aH} {f1 f2 : Nat → Int} (c93 : h 93 = .inl (0, 48, f1)) (c80 : h 80 = .inl (0, 48, f2)) : mSem yX9_copies cX9_copies 4 none 0 0 0 [.ref 68, .ref 93, .ref 80] 97 h (RetV (va_up h 80 (.inl (0, 48, cpyF f1 f2 48)))) noX := by
  refine mSem_of (own := RX9) (name := "copies") pn_X9 rfl rfl (Nat.le_of_ble_eq_true rfl) ?_
  refine r_iconst dX9_copies_0 ?_
  refine r_istore_n (lv2 := [(0, _), (1, _), (2, _), (3, _)]) dX9_copies_1 rfl (by decide) rfl rfl ?_
  refine ev_h (up_same c80) ?_
  have hk := l_copies_93 (f2 := f2) c93 (d := 0) 48 0 (by omega)
  rw [cpy_0] at hk
  exact hk

theorem l_copies_94 {h : aH} {f1 f2 : Nat → Int} (c94 : h 94 = .inl (0, 18, f1)) {d : Nat} : ∀ (k i : Nat), i + k = 18 → Ev RX9 "copies" cX9_copies 4 none d 0 0 (RetV (va_up h 83 (.inl (0, 18, cpyF f1 f2 18)))) noX 97 (va_up h 83 (.inl (0, 18, cpyF f1 f2 i))) 2 [(0, .ref 68), (1, .ref 94), (2, .ref 83), (3, iv i)] [] := by
  intro k
  induction k with
  | zero =>
    intro i hi
    obtain rfl : i = 18 := by omega
    refine r_iload_n dX9_copies_2 rfl rfl ?_
    refine r_aload_n dX9_copies_3 rfl rfl ?_
    refine r_alen dX9_copies_4 (by decide) c94 (by decide) ?_
    refine r_icmp_ge (tgt := 20) dX9_copies_5 (by decide) ⟨by omega, by omega⟩ ⟨by omega, by omega⟩ (fun g5 => ?_) (fun g5 => absurd g5 (by omega))
    refine r_vret dX9_copies_20 ?_
    exact ⟨rfl, rfl, rfl⟩
  | succ k ih =>
    intro i hi
    refine r_iload_n dX9_copies_2 rfl rfl ?_
    refine r_aload_n dX9_copies_3 rfl rfl ?_
    refine r_alen dX9_copies_4 (by decide) c94 (by decide) ?_
    refine r_icmp_ge (tgt := 20) dX9_copies_5 (by decide) ⟨by omega, by omega⟩ ⟨by omega, by omega⟩ (fun g5 => absurd g5 (by omega)) (fun g5 => ?_)
    refine r_aload_n dX9_copies_8 rfl rfl ?_
    refine r_iload_n dX9_copies_9 rfl rfl ?_
    refine r_aload_n dX9_copies_10 rfl rfl ?_
    refine r_iload_n dX9_copies_11 rfl rfl ?_
    refine r_ald dX9_copies_12 (by decide) c94 (by omega) (by omega) (by decide) ?_
    refine r_ast dX9_copies_13 (by decide) rfl (by omega) (by omega) (by decide) ?_
    refine r_iinc (lv2 := [(0, _), (1, _), (2, _), (3, _)]) dX9_copies_14 (by decide) rfl rfl rfl ?_
    refine r_goto (tgt := 2) dX9_copies_17 (by decide) ?_
    rw [bx_uu, Int.toNat_natCast, cpy_s, show (i : Int) + 1 = ((i + 1 : Nat) : Int) by omega]
    exact ih (i + 1) (by omega)

theorem s_X9_copies_94 {h : aH} {f1 f2 : Nat → Int} (c94 : h 94 = .inl (0, 18, f1)) (c83 : h 83 = .inl (0, 18, f2)) : mSem yX9_copies cX9_copies 4 none 0 0 0 [.ref 68, .ref 94, .ref 83] 97 h (RetV (va_up h 83 (.inl (0, 18, cpyF f1 f2 18)))) noX := by
  refine mSem_of (own := RX9) (name := "copies") pn_X9 rfl rfl (Nat.le_of_ble_eq_true rfl) ?_
  refine r_iconst dX9_copies_0 ?_
  refine r_istore_n (lv2 := [(0, _), (1, _), (2, _), (3, _)]) dX9_copies_1 rfl (by decide) rfl rfl ?_
  refine ev_h (up_same c83) ?_
  have hk := l_copies_94 (f2 := f2) c94 (d := 0) 18 0 (by omega)
  rw [cpy_0] at hk
  exact hk

theorem l_copies_95 {h : aH} {f1 f2 : Nat → Int} (c95 : h 95 = .inl (0, 120, f1)) {d : Nat} : ∀ (k i : Nat), i + k = 120 → Ev RX9 "copies" cX9_copies 4 none d 0 0 (RetV (va_up h 79 (.inl (0, 120, cpyF f1 f2 120)))) noX 97 (va_up h 79 (.inl (0, 120, cpyF f1 f2 i))) 2 [(0, .ref 68), (1, .ref 95), (2, .ref 79), (3, iv i)] [] := by
  intro k
  induction k with
  | zero =>
    intro i hi
    obtain rfl : i = 120 := by omega
    refine r_iload_n dX9_copies_2 rfl rfl ?_
    refine r_aload_n dX9_copies_3 rfl rfl ?_
    refine r_alen dX9_copies_4 (by decide) c95 (by decide) ?_
    refine r_icmp_ge (tgt := 20) dX9_copies_5 (by decide) ⟨by omega, by omega⟩ ⟨by omega, by omega⟩ (fun g5 => ?_) (fun g5 => absurd g5 (by omega))
    refine r_vret dX9_copies_20 ?_
    exact ⟨rfl, rfl, rfl⟩
  | succ k ih =>
    intro i hi
    refine r_iload_n dX9_copies_2 rfl rfl ?_
    refine r_aload_n dX9_copies_3 rfl rfl ?_
    refine r_alen dX9_copies_4 (by decide) c95 (by decide) ?_
    refine r_icmp_ge (tgt := 20) dX9_copies_5 (by decide) ⟨by omega, by omega⟩ ⟨by omega, by omega⟩ (fun g5 => absurd g5 (by omega)) (fun g5 => ?_)
    refine r_aload_n dX9_copies_8 rfl rfl ?_
    refine r_iload_n dX9_copies_9 rfl rfl ?_
    refine r_aload_n dX9_copies_10 rfl rfl ?_
    refine r_iload_n dX9_copies_11 rfl rfl ?_
    refine r_ald dX9_copies_12 (by decide) c95 (by omega) (by omega) (by decide) ?_
    refine r_ast dX9_copies_13 (by decide) rfl (by omega) (by omega) (by decide) ?_
    refine r_iinc (lv2 := [(0, _), (1, _), (2, _), (3, _)]) dX9_copies_14 (by decide) rfl rfl rfl ?_
    refine r_goto (tgt := 2) dX9_copies_17 (by decide) ?_
    rw [bx_uu, Int.toNat_natCast, cpy_s, show (i : Int) + 1 = ((i + 1 : Nat) : Int) by omega]
    exact ih (i + 1) (by omega)

theorem s_X9_copies_95 {h : aH} {f1 f2 : Nat → Int} (c95 : h 95 = .inl (0, 120, f1)) (c79 : h 79 = .inl (0, 120, f2)) : mSem yX9_copies cX9_copies 4 none 0 0 0 [.ref 68, .ref 95, .ref 79] 97 h (RetV (va_up h 79 (.inl (0, 120, cpyF f1 f2 120)))) noX := by
  refine mSem_of (own := RX9) (name := "copies") pn_X9 rfl rfl (Nat.le_of_ble_eq_true rfl) ?_
  refine r_iconst dX9_copies_0 ?_
  refine r_istore_n (lv2 := [(0, _), (1, _), (2, _), (3, _)]) dX9_copies_1 rfl (by decide) rfl rfl ?_
  refine ev_h (up_same c79) ?_
  have hk := l_copies_95 (f2 := f2) c95 (d := 0) 120 0 (by omega)
  rw [cpy_0] at hk
  exact hk

theorem l_copies_74 {h : aH} {f1 f2 : Nat → Int} (c74 : h 74 = .inl (0, 45, f1)) {d : Nat} : ∀ (k i : Nat), i + k = 45 → Ev RX9 "copies" cX9_copies 4 none d 0 0 (RetV (va_up h 69 (.inl (0, 45, cpyF f1 f2 45)))) noX 97 (va_up h 69 (.inl (0, 45, cpyF f1 f2 i))) 2 [(0, .ref 68), (1, .ref 74), (2, .ref 69), (3, iv i)] [] := by
  intro k
  induction k with
  | zero =>
    intro i hi
    obtain rfl : i = 45 := by omega
    refine r_iload_n dX9_copies_2 rfl rfl ?_
    refine r_aload_n dX9_copies_3 rfl rfl ?_
    refine r_alen dX9_copies_4 (by decide) c74 (by decide) ?_
    refine r_icmp_ge (tgt := 20) dX9_copies_5 (by decide) ⟨by omega, by omega⟩ ⟨by omega, by omega⟩ (fun g5 => ?_) (fun g5 => absurd g5 (by omega))
    refine r_vret dX9_copies_20 ?_
    exact ⟨rfl, rfl, rfl⟩
  | succ k ih =>
    intro i hi
    refine r_iload_n dX9_copies_2 rfl rfl ?_
    refine r_aload_n dX9_copies_3 rfl rfl ?_
    refine r_alen dX9_copies_4 (by decide) c74 (by decide) ?_
    refine r_icmp_ge (tgt := 20) dX9_copies_5 (by decide) ⟨by omega, by omega⟩ ⟨by omega, by omega⟩ (fun g5 => absurd g5 (by omega)) (fun g5 => ?_)
    refine r_aload_n dX9_copies_8 rfl rfl ?_
    refine r_iload_n dX9_copies_9 rfl rfl ?_
    refine r_aload_n dX9_copies_10 rfl rfl ?_
    refine r_iload_n dX9_copies_11 rfl rfl ?_
    refine r_ald dX9_copies_12 (by decide) c74 (by omega) (by omega) (by decide) ?_
    refine r_ast dX9_copies_13 (by decide) rfl (by omega) (by omega) (by decide) ?_
    refine r_iinc (lv2 := [(0, _), (1, _), (2, _), (3, _)]) dX9_copies_14 (by decide) rfl rfl rfl ?_
    refine r_goto (tgt := 2) dX9_copies_17 (by decide) ?_
    rw [bx_uu, Int.toNat_natCast, cpy_s, show (i : Int) + 1 = ((i + 1 : Nat) : Int) by omega]
    exact ih (i + 1) (by omega)

theorem s_X9_copies_74 {h : aH} {f1 f2 : Nat → Int} (c74 : h 74 = .inl (0, 45, f1)) (c69 : h 69 = .inl (0, 45, f2)) : mSem yX9_copies cX9_copies 4 none 0 0 0 [.ref 68, .ref 74, .ref 69] 97 h (RetV (va_up h 69 (.inl (0, 45, cpyF f1 f2 45)))) noX := by
  refine mSem_of (own := RX9) (name := "copies") pn_X9 rfl rfl (Nat.le_of_ble_eq_true rfl) ?_
  refine r_iconst dX9_copies_0 ?_
  refine r_istore_n (lv2 := [(0, _), (1, _), (2, _), (3, _)]) dX9_copies_1 rfl (by decide) rfl rfl ?_
  refine ev_h (up_same c69) ?_
  have hk := l_copies_74 (f2 := f2) c74 (d := 0) 45 0 (by omega)
  rw [cpy_0] at hk
  exact hk

theorem l_copies_75 {h : aH} {f1 f2 : Nat → Int} (c75 : h 75 = .inl (0, 60, f1)) {d : Nat} : ∀ (k i : Nat), i + k = 60 → Ev RX9 "copies" cX9_copies 4 none d 0 0 (RetV (va_up h 70 (.inl (0, 60, cpyF f1 f2 60)))) noX 97 (va_up h 70 (.inl (0, 60, cpyF f1 f2 i))) 2 [(0, .ref 68), (1, .ref 75), (2, .ref 70), (3, iv i)] [] := by
  intro k
  induction k with
  | zero =>
    intro i hi
    obtain rfl : i = 60 := by omega
    refine r_iload_n dX9_copies_2 rfl rfl ?_
    refine r_aload_n dX9_copies_3 rfl rfl ?_
    refine r_alen dX9_copies_4 (by decide) c75 (by decide) ?_
    refine r_icmp_ge (tgt := 20) dX9_copies_5 (by decide) ⟨by omega, by omega⟩ ⟨by omega, by omega⟩ (fun g5 => ?_) (fun g5 => absurd g5 (by omega))
    refine r_vret dX9_copies_20 ?_
    exact ⟨rfl, rfl, rfl⟩
  | succ k ih =>
    intro i hi
    refine r_iload_n dX9_copies_2 rfl rfl ?_
    refine r_aload_n dX9_copies_3 rfl rfl ?_
    refine r_alen dX9_copies_4 (by decide) c75 (by decide) ?_
    refine r_icmp_ge (tgt := 20) dX9_copies_5 (by decide) ⟨by omega, by omega⟩ ⟨by omega, by omega⟩ (fun g5 => absurd g5 (by omega)) (fun g5 => ?_)
    refine r_aload_n dX9_copies_8 rfl rfl ?_
    refine r_iload_n dX9_copies_9 rfl rfl ?_
    refine r_aload_n dX9_copies_10 rfl rfl ?_
    refine r_iload_n dX9_copies_11 rfl rfl ?_
    refine r_ald dX9_copies_12 (by decide) c75 (by omega) (by omega) (by decide) ?_
    refine r_ast dX9_copies_13 (by decide) rfl (by omega) (by omega) (by decide) ?_
    refine r_iinc (lv2 := [(0, _), (1, _), (2, _), (3, _)]) dX9_copies_14 (by decide) rfl rfl rfl ?_
    refine r_goto (tgt := 2) dX9_copies_17 (by decide) ?_
    rw [bx_uu, Int.toNat_natCast, cpy_s, show (i : Int) + 1 = ((i + 1 : Nat) : Int) by omega]
    exact ih (i + 1) (by omega)

theorem s_X9_copies_75 {h : aH} {f1 f2 : Nat → Int} (c75 : h 75 = .inl (0, 60, f1)) (c70 : h 70 = .inl (0, 60, f2)) : mSem yX9_copies cX9_copies 4 none 0 0 0 [.ref 68, .ref 75, .ref 70] 97 h (RetV (va_up h 70 (.inl (0, 60, cpyF f1 f2 60)))) noX := by
  refine mSem_of (own := RX9) (name := "copies") pn_X9 rfl rfl (Nat.le_of_ble_eq_true rfl) ?_
  refine r_iconst dX9_copies_0 ?_
  refine r_istore_n (lv2 := [(0, _), (1, _), (2, _), (3, _)]) dX9_copies_1 rfl (by decide) rfl rfl ?_
  refine ev_h (up_same c70) ?_
  have hk := l_copies_75 (f2 := f2) c75 (d := 0) 60 0 (by omega)
  rw [cpy_0] at hk
  exact hk

theorem l_copies_76 {h : aH} {f1 f2 : Nat → Int} (c76 : h 76 = .inl (0, 12, f1)) {d : Nat} : ∀ (k i : Nat), i + k = 12 → Ev RX9 "copies" cX9_copies 4 none d 0 0 (RetV (va_up h 71 (.inl (0, 12, cpyF f1 f2 12)))) noX 97 (va_up h 71 (.inl (0, 12, cpyF f1 f2 i))) 2 [(0, .ref 68), (1, .ref 76), (2, .ref 71), (3, iv i)] [] := by
  intro k
  induction k with
  | zero =>
    intro i hi
    obtain rfl : i = 12 := by omega
    refine r_iload_n dX9_copies_2 rfl rfl ?_
    refine r_aload_n dX9_copies_3 rfl rfl ?_
    refine r_alen dX9_copies_4 (by decide) c76 (by decide) ?_
    refine r_icmp_ge (tgt := 20) dX9_copies_5 (by decide) ⟨by omega, by omega⟩ ⟨by omega, by omega⟩ (fun g5 => ?_) (fun g5 => absurd g5 (by omega))
    refine r_vret dX9_copies_20 ?_
    exact ⟨rfl, rfl, rfl⟩
  | succ k ih =>
    intro i hi
    refine r_iload_n dX9_copies_2 rfl rfl ?_
    refine r_aload_n dX9_copies_3 rfl rfl ?_
    refine r_alen dX9_copies_4 (by decide) c76 (by decide) ?_
    refine r_icmp_ge (tgt := 20) dX9_copies_5 (by decide) ⟨by omega, by omega⟩ ⟨by omega, by omega⟩ (fun g5 => absurd g5 (by omega)) (fun g5 => ?_)
    refine r_aload_n dX9_copies_8 rfl rfl ?_
    refine r_iload_n dX9_copies_9 rfl rfl ?_
    refine r_aload_n dX9_copies_10 rfl rfl ?_
    refine r_iload_n dX9_copies_11 rfl rfl ?_
    refine r_ald dX9_copies_12 (by decide) c76 (by omega) (by omega) (by decide) ?_
    refine r_ast dX9_copies_13 (by decide) rfl (by omega) (by omega) (by decide) ?_
    refine r_iinc (lv2 := [(0, _), (1, _), (2, _), (3, _)]) dX9_copies_14 (by decide) rfl rfl rfl ?_
    refine r_goto (tgt := 2) dX9_copies_17 (by decide) ?_
    rw [bx_uu, Int.toNat_natCast, cpy_s, show (i : Int) + 1 = ((i + 1 : Nat) : Int) by omega]
    exact ih (i + 1) (by omega)

theorem s_X9_copies_76 {h : aH} {f1 f2 : Nat → Int} (c76 : h 76 = .inl (0, 12, f1)) (c71 : h 71 = .inl (0, 12, f2)) : mSem yX9_copies cX9_copies 4 none 0 0 0 [.ref 68, .ref 76, .ref 71] 97 h (RetV (va_up h 71 (.inl (0, 12, cpyF f1 f2 12)))) noX := by
  refine mSem_of (own := RX9) (name := "copies") pn_X9 rfl rfl (Nat.le_of_ble_eq_true rfl) ?_
  refine r_iconst dX9_copies_0 ?_
  refine r_istore_n (lv2 := [(0, _), (1, _), (2, _), (3, _)]) dX9_copies_1 rfl (by decide) rfl rfl ?_
  refine ev_h (up_same c71) ?_
  have hk := l_copies_76 (f2 := f2) c76 (d := 0) 12 0 (by omega)
  rw [cpy_0] at hk
  exact hk

theorem l_copies_87 {h : aH} {f1 f2 : Nat → Int} (c87 : h 87 = .inl (0, 1500, f1)) {d : Nat} : ∀ (k i : Nat), i + k = 1500 → Ev RX9 "copies" cX9_copies 4 none d 0 0 (RetV (va_up h 86 (.inl (0, 1500, cpyF f1 f2 1500)))) noX 97 (va_up h 86 (.inl (0, 1500, cpyF f1 f2 i))) 2 [(0, .ref 68), (1, .ref 87), (2, .ref 86), (3, iv i)] [] := by
  intro k
  induction k with
  | zero =>
    intro i hi
    obtain rfl : i = 1500 := by omega
    refine r_iload_n dX9_copies_2 rfl rfl ?_
    refine r_aload_n dX9_copies_3 rfl rfl ?_
    refine r_alen dX9_copies_4 (by decide) c87 (by decide) ?_
    refine r_icmp_ge (tgt := 20) dX9_copies_5 (by decide) ⟨by omega, by omega⟩ ⟨by omega, by omega⟩ (fun g5 => ?_) (fun g5 => absurd g5 (by omega))
    refine r_vret dX9_copies_20 ?_
    exact ⟨rfl, rfl, rfl⟩
  | succ k ih =>
    intro i hi
    refine r_iload_n dX9_copies_2 rfl rfl ?_
    refine r_aload_n dX9_copies_3 rfl rfl ?_
    refine r_alen dX9_copies_4 (by decide) c87 (by decide) ?_
    refine r_icmp_ge (tgt := 20) dX9_copies_5 (by decide) ⟨by omega, by omega⟩ ⟨by omega, by omega⟩ (fun g5 => absurd g5 (by omega)) (fun g5 => ?_)
    refine r_aload_n dX9_copies_8 rfl rfl ?_
    refine r_iload_n dX9_copies_9 rfl rfl ?_
    refine r_aload_n dX9_copies_10 rfl rfl ?_
    refine r_iload_n dX9_copies_11 rfl rfl ?_
    refine r_ald dX9_copies_12 (by decide) c87 (by omega) (by omega) (by decide) ?_
    refine r_ast dX9_copies_13 (by decide) rfl (by omega) (by omega) (by decide) ?_
    refine r_iinc (lv2 := [(0, _), (1, _), (2, _), (3, _)]) dX9_copies_14 (by decide) rfl rfl rfl ?_
    refine r_goto (tgt := 2) dX9_copies_17 (by decide) ?_
    rw [bx_uu, Int.toNat_natCast, cpy_s, show (i : Int) + 1 = ((i + 1 : Nat) : Int) by omega]
    exact ih (i + 1) (by omega)

theorem s_X9_copies_87 {h : aH} {f1 f2 : Nat → Int} (c87 : h 87 = .inl (0, 1500, f1)) (c86 : h 86 = .inl (0, 1500, f2)) : mSem yX9_copies cX9_copies 4 none 0 0 0 [.ref 68, .ref 87, .ref 86] 97 h (RetV (va_up h 86 (.inl (0, 1500, cpyF f1 f2 1500)))) noX := by
  refine mSem_of (own := RX9) (name := "copies") pn_X9 rfl rfl (Nat.le_of_ble_eq_true rfl) ?_
  refine r_iconst dX9_copies_0 ?_
  refine r_istore_n (lv2 := [(0, _), (1, _), (2, _), (3, _)]) dX9_copies_1 rfl (by decide) rfl rfl ?_
  refine ev_h (up_same c86) ?_
  have hk := l_copies_87 (f2 := f2) c87 (d := 0) 1500 0 (by omega)
  rw [cpy_0] at hk
  exact hk

theorem l_X9_see {h : aH} {g : Nat → Int} {w : Int} (c68 : h 68 = RG g w) {sea rfr : Nat → Int} (c83 : h 83 = .inl (0, 18, sea)) (c73 : h 73 = .inl (0, 4, rfr)) {ns di to : Int} (e38 : g 38 = ns) (hns : 0 ≤ ns ∧ ns ≤ 9) (hdi : 0 ≤ di ∧ di < 9) (hse : ∀ k : Nat, (k : Int) < ns → 0 ≤ sea (2 * k) ∧ sea (2 * k) < 9) {d : Nat} (hd1 : 1 ≤ d) {Q : Option Value → Nat → aH → Prop} (hy : ∀ k : Nat, (k : Int) < ns → sea (2 * k) = di → Q (some (iv (-1))) 97 (va_up h 73 (.inl (0, 4, va_up rfr 2 (rfr 2 + 1))))) (hn : (∀ k : Nat, (k : Int) < ns → ¬ sea (2 * k) = di) → Ev RX9 "see" cX9_see 4 (some .int) d 0 0 Q noX 97 h 57 [(0, .ref 68), (1, iv di), (2, iv to), (3, iv ns)] []) : ∀ (w_ k : Nat), (k : Int) + w_ = ns → (∀ i : Nat, i < k → ¬ sea (2 * i) = di) → Ev RX9 "see" cX9_see 4 (some .int) d 0 0 Q noX 97 h 25 [(0, .ref 68), (1, iv di), (2, iv to), (3, iv k)] [] := by
  intro w_
  induction w_ with
  | zero =>
    intro k hk hi
    obtain rfl : ns = (k : Int) := by omega
    refine r_iload_n dX9_see_25 rfl rfl ?_
    refine r_aload_n dX9_see_26 rfl rfl ?_
    refine r_getR (z := (g 38)) dX9_see_27 fl_X9_227 (by decide) c68 rfl ?_
    refine r_icmp_ge (tgt := 57) dX9_see_30 (by decide) ⟨by omega, by omega⟩ ⟨by omega, by omega⟩ (fun g30 => ?_) (fun g30 => absurd g30 (by omega))
    exact hn (fun i h => hi i (by omega))
  | succ w_ ih =>
    intro k hk hi
    have b1 := hse k (by omega)
    refine r_iload_n dX9_see_25 rfl rfl ?_
    refine r_aload_n dX9_see_26 rfl rfl ?_
    refine r_getR (z := (g 38)) dX9_see_27 fl_X9_227 (by decide) c68 rfl ?_
    refine r_icmp_ge (tgt := 57) dX9_see_30 (by decide) ⟨by omega, by omega⟩ ⟨by omega, by omega⟩ (fun g30 => absurd g30 (by omega)) (fun g30 => ?_)
    refine r_aload_n dX9_see_33 rfl rfl ?_
    refine r_get (fs := RGL _ _) dX9_see_34 fl_X9_63 (by decide) c68 rfl ?_
    refine r_iconst dX9_see_37 ?_
    refine r_iload_n dX9_see_38 rfl rfl ?_
    refine r_imul dX9_see_39 ?_
    refine r_ald dX9_see_40 (by decide) c83 (by omega) (by omega) (by decide) ?_
    rw [show (2 * (k : Int)).toNat = 2 * k by omega]
    refine r_iload_n dX9_see_41 rfl rfl ?_
    refine r_icmp_ne (tgt := 51) dX9_see_42 (by decide) ⟨by omega, by omega⟩ ⟨by omega, by omega⟩ (fun g42 => ?_) (fun g42 => ?_)
    · refine r_iinc (lv2 := [(0, _), (1, _), (2, _), (3, _)]) dX9_see_51 (by decide) rfl rfl rfl ?_
      refine r_goto (tgt := 25) dX9_see_54 (by decide) ?_
      rw [show (k : Int) + 1 = ((k + 1 : Nat) : Int) by omega]
      exact ih (k + 1) (by omega) (fun i h => by
        by_cases q : i = k
        · subst q; exact g42
        · exact hi i (by omega))
    · refine r_aload_n dX9_see_45 rfl rfl ?_
      refine r_iconst dX9_see_46 ?_
      refine r_callV 68 [_] (s_X9_refuses c68 c73 (by decide)) dX9_see_47 cs_X9_282 im_X9_refuses (by decide) c68 rfl (by omega) (by decide) (by decide) rfl rfl (Nat.le_of_ble_eq_true rfl) (fun _ _ _ q => q.elim) (fun v n2 h2 q => ?_)
      obtain ⟨rfl, rfl, hh⟩ := q
      obtain rfl := hh.symm
      refine ⟨rfl, ?_⟩
      dsimp only [Option.toList, List.cons_append, List.nil_append]
      refine r_iret dX9_see_50 ?_
      exact hy k (by omega) g42

theorem s_X9_see {h : aH} {th : Int} {t : Nat → Int} {tp : Nat} {fpl hlaw himg : Int} {rf : Nat → Int} {nd sw nc hl hs : Int} {K U I O G L cf ct fc nx cd : Nat → Int} {nr ns nm : Int} {rd ry rm rt se md my mt : Nat → Int} {M : ND} {ls : LSm} (cr : RefC h (t, tp, fpl, rf, hlaw, himg, ((nd, sw, nc), (hl, hs), K, U, I, O, G, L, cf, ct, fc, nx, cd), ((nr, ns, nm), rd, ry, rm, rt, se, md, my, mt), M, ls) th) {di to : Int} (idi : inR di) (ito : inR to)  : mSem yX9_see cX9_see 4 (some .int) 6 0 0 [.ref 68, iv di, iv to] 97 h (RefQ (ocL [(diaB nd di, 1), (minB to, 1)]) (seeS (t, tp, fpl, rf, hlaw, himg, ((nd, sw, nc), (hl, hs), K, U, I, O, G, L, cf, ct, fc, nx, cd), ((nr, ns, nm), rd, ry, rm, rt, se, md, my, mt), M, ls) di to).1 h (if (ocL [(diaB nd di, 1), (minB to, 1)]) = 0 then (seeS (t, tp, fpl, rf, hlaw, himg, ((nd, sw, nc), (hl, hs), K, U, I, O, G, L, cf, ct, fc, nx, cd), ((nr, ns, nm), rd, ry, rm, rt, se, md, my, mt), M, ls) di to).2 else (t, tp, fpl, rf, hlaw, himg, ((nd, sw, nc), (hl, hs), K, U, I, O, G, L, cf, ct, fc, nx, cd), ((nr, ns, nm), rd, ry, rm, rt, se, md, my, mt), M, ls))) noX := by
  refine RefC_elim cr (fun g dl cl lm trr rfr nD nC nL lt lgt mn rdg cpl grp sea rts row cod ncod pil opn stg bsd imo imr ims imm w c68 c69 c70 c71 c72 c73 c74 c75 c76 c77 c78 c79 c80 c81 c82 c83 c84 c85 c86 c87 c88 c89 c90 c91 c92 c93 c94 c95 hth rr => ?_)
  refine RR_elim rr (fun e8 e10 e33 e38 e44 e53 tr pi ni li rrf rtp htp rrd rse phl phi rim rco ht nM nsn => ?_)
  obtain ⟨t1, t2, t3, t31, pnm, tdl, tcl, tlm, tmd, pmt, pmd, pmy⟩ := id tr
  obtain ⟨pnd, psw, pnc, pK, pU, pI, pO, pG, pL, pcf, pct, pfc, pnx⟩ := id pi
  obtain ⟨pnr, pns, pnm2, prd, pry, prm, prt, pse, pmd2, pmy2, pmt2⟩ := id ni
  unfold inR at idi ito
  have e0 : seeS (t, tp, fpl, rf, hlaw, himg, ((nd, sw, nc), (hl, hs), K, U, I, O, G, L, cf, ct, fc, nx, cd), ((nr, ns, nm), rd, ry, rm, rt, se, md, my, mt), M, ls) di to = if se di.toNat = -1 then (ns + 1, (t, tp, fpl, rf, hlaw, himg, ((nd, sw, nc), (hl, hs), K, U, I, O, G, L, cf, ct, fc, nx, cd), ((nr, ns + 1, nm), rd, ry, rm, rt, va_up se di.toNat to, md, my, mt), M, ls)) else (-1, (t, tp, fpl, (va_up rf 2 (rf 2 + 1)), hlaw, himg, ((nd, sw, nc), (hl, hs), K, U, I, O, G, L, cf, ct, fc, nx, cd), ((nr, ns, nm), rd, ry, rm, rt, se, md, my, mt), M, ls)) := rfl
  refine mSem_of (own := RX9) (name := "see") pn_X9 rfl rfl (Nat.le_of_ble_eq_true rfl) ?_
  refine r_aload_n dX9_see_0 rfl rfl ?_
  refine r_iconst dX9_see_1 ?_
  refine r_putR dX9_see_2 fp_X9_102 (by decide) c68 (nar_int _) (Nat.le_of_ble_eq_true rfl) setR_0 (fun z0 hz0 => ?_)
  refine r_aload_n dX9_see_5 rfl rfl ?_
  refine r_iload_n dX9_see_6 rfl rfl ?_
  refine r_callV 68 [_] (s_X9_isDial (by rfl) (by first | rfl | exact hz0) (by show 0 ≤ g 1 ∧ g 1 ≤ 9; omega) idi) dX9_see_7 cs_X9_243 im_X9_isDial (by decide) rfl rfl (by decide) (by decide) (by decide) rfl rfl (Nat.le_of_ble_eq_true rfl) (fun _ _ _ q => q.elim) (fun v n2 h2 q => ?_)
  obtain ⟨rfl, q⟩ := q
  rcases q with ⟨kb1, rfl, hh⟩ | ⟨kb1, rfl, hh⟩
  · obtain rfl := hh.symm
    replace kb1 : diaB nd di = true := by rw [← t1]; exact kb1
    have bdi := of_decide_eq_true kb1
    refine ⟨rfl, ?_⟩
    dsimp only [Option.toList, List.cons_append, List.nil_append]
    refine r_if_eq (tgt := 21) dX9_see_10 (by decide) ⟨by omega, by omega⟩ (fun g10 => absurd g10 (by omega)) (fun g10 => ?_)
    refine r_aload_n dX9_see_13 rfl rfl ?_
    refine r_iload_n dX9_see_14 rfl rfl ?_
    refine r_callV 68 [_] (s_X9_isMinute (by rfl) (by first | rfl | exact hz0) ito) dX9_see_15 cs_X9_275 im_X9_isMinute (by decide) rfl rfl (by decide) (by decide) (by decide) rfl rfl (Nat.le_of_ble_eq_true rfl) (fun _ _ _ q => q.elim) (fun v n2 h2 q => ?_)
    obtain ⟨rfl, q⟩ := q
    rcases q with ⟨kb2, rfl, hh⟩ | ⟨kb2, rfl, hh⟩
    · obtain rfl := hh.symm
      have bto := of_decide_eq_true kb2
      refine ⟨rfl, ?_⟩
      dsimp only [Option.toList, List.cons_append, List.nil_append]
      refine r_if_ne (tgt := 23) dX9_see_18 (by decide) ⟨by omega, by omega⟩ (fun g18 => ?_) (fun g18 => absurd g18 (by omega))
      refine r_iconst dX9_see_23 ?_
      refine r_istore_n (lv2 := [(0, _), (1, _), (2, _), (3, _)]) dX9_see_24 rfl (by decide) rfl rfl ?_
      refine l_X9_see (h := va_up h 68 (RG (va_up g 0 z0) w)) (g := va_up g 0 z0) rfl c83 c73 e38 pns (by omega) (fun k hk => by have := (rse.1 k hk).1; omega) (by decide) (fun k hk hkd => ?_) (fun hno => ?_) ns.toNat 0 (by omega) (fun i hi => absurd hi (by omega))
      · obtain ⟨a1, a2, a3⟩ := rse.1 k hk
        rw [hkd] at a3
        rw [if_neg (by omega)] at e0
        rw [e0]
        exact ⟨rfl, ⟨_, rfl, fun _ => rfl⟩, ref_eq ((ocT kb1).trans ((ocT kb2).trans ocE)) (RefC_mk (g := (va_up g 0 z0)) rfl (by exact c69) (by exact c70) (by exact c71) (by exact c72) rfl (by exact c74) (by exact c75) (by exact c76) (by exact c77) (by exact c78) (by exact c79) (by exact c80) (by exact c81) (by exact c82) (by exact c83) (by exact c84) (by exact c85) (by exact c86) (by exact c87) (by exact c88) (by exact c89) (by exact c90) (by exact c91) (by exact c92) (by exact c93) (by exact c94) (by exact c95) (by first | exact (hz0.trans (congrArg (fun n : Nat => (n : Int)) ((ocT kb1).trans ((ocT kb2).trans ocE)).symm)) | exact (kp2 0 (by decide)).trans (hz0.trans (congrArg (fun n : Nat => (n : Int)) ((ocT kb1).trans ((ocT kb2).trans ocE)).symm))) (RR_mk (by first | exact e8 | exact (kp2 8 (by decide)).trans e8) (by first | exact e10 | exact (kp2 10 (by decide)).trans e10) (by first | exact e33 | exact (kp2 33 (by decide)).trans e33) (by first | exact e38 | exact (kp2 38 (by decide)).trans e38) (by first | exact e44 | exact (kp2 44 (by decide)).trans e44) (by first | exact e53 | exact (kp2 53 (by decide)).trans e53) (by first | exact tr | exact tell_kp (by exact tr) kp2) pi ni (by first | exact li | exact li2) (fun j hj => by show va_up rfr 2 (rfr 2 + 1) j = va_up rf 2 (rf 2 + 1) j; by_cases q : j = 2; (subst q; rw [va_up_self, va_up_self, rrf _ (by decide)]); (rw [va_up_ne _ _ q, va_up_ne _ _ q]; exact rrf j hj)) rtp htp rrd rse phl phi rim rco ht nM nsn)), (by repeat (first | exact fun _ _ => rfl | refine frr_up ?_ (by decide)))⟩
      have hse1 : se di.toNat = -1 := Decidable.byContradiction (fun z => by
        obtain ⟨k, hk, hk2⟩ := rse.2.1 di.toNat (by omega) z
        exact hno k hk (by omega))
      have su := snc_up (se := se) (di := di) (to := to) (by omega) hse1 (by omega) 9
      have sb := snc_B (va_up se di.toNat to) 9
      rw [if_pos (by omega)] at su
      have hns9 : ns < 9 := by omega
      refine r_aload_n dX9_see_57 rfl rfl ?_
      refine r_get (fs := RGL _ _) dX9_see_58 fl_X9_63 (by decide) rfl rfl ?_
      refine r_iconst dX9_see_61 ?_
      refine r_aload_n dX9_see_62 rfl rfl ?_
      refine r_getR (z := (g 38)) dX9_see_63 fl_X9_227 (by decide) rfl rfl ?_
      rw [e38]
      refine r_imul dX9_see_66 ?_
      refine r_iload_n dX9_see_67 rfl rfl ?_
      refine r_ast dX9_see_68 (by decide) c83 (by omega) (by omega) (by decide) ?_
      refine r_aload_n dX9_see_69 rfl rfl ?_
      refine r_get (fs := RGL _ _) dX9_see_70 fl_X9_63 (by decide) rfl rfl ?_
      refine r_iconst dX9_see_73 ?_
      refine r_aload_n dX9_see_74 rfl rfl ?_
      refine r_getR (z := (g 38)) dX9_see_75 fl_X9_227 (by decide) rfl rfl ?_
      rw [e38]
      refine r_imul dX9_see_78 ?_
      refine r_iconst dX9_see_79 ?_
      refine r_iadd dX9_see_80 ?_
      refine r_iload_n dX9_see_81 rfl rfl ?_
      refine r_ast dX9_see_82 (by decide) rfl (by omega) (by omega) (by decide) ?_
      refine r_aload_n dX9_see_83 rfl rfl ?_
      refine r_dup dX9_see_84 rfl ?_
      refine r_getR (z := (g 38)) dX9_see_85 fl_X9_227 (by decide) rfl rfl ?_
      refine r_iconst dX9_see_88 ?_
      refine r_iadd dX9_see_89 ?_
      refine r_putR dX9_see_90 fp_X9_227 (by decide) rfl (nar_int _) (Nat.le_of_ble_eq_true rfl) setR_38 (fun z1 hz1 => ?_)
      refine r_aload_n dX9_see_93 rfl rfl ?_
      refine r_getR (z := z1) dX9_see_94 fl_X9_227 (by decide) rfl rfl ?_
      refine r_iret dX9_see_97 ?_
      rw [if_pos hse1] at e0
      rw [e0]
      exact ⟨rfl, ⟨_, rfl, fun _ => (by show _ = ns + 1; omega)⟩, ref_eq ((ocT kb1).trans ((ocT kb2).trans ocE)) (RefC_mk (g := (va_up (va_up g 0 z0) 38 z1)) rfl (by exact c69) (by exact c70) (by exact c71) (by exact c72) (by exact c73) (by exact c74) (by exact c75) (by exact c76) (by exact c77) (by exact c78) (by exact c79) (by exact c80) (by exact c81) (by exact c82) rfl (by exact c84) (by exact c85) (by exact c86) (by exact c87) (by exact c88) (by exact c89) (by exact c90) (by exact c91) (by exact c92) (by exact c93) (by exact c94) (by exact c95) (by first | exact (hz0.trans (congrArg (fun n : Nat => (n : Int)) ((ocT kb1).trans ((ocT kb2).trans ocE)).symm)) | exact (kp2 0 (by decide)).trans (hz0.trans (congrArg (fun n : Nat => (n : Int)) ((ocT kb1).trans ((ocT kb2).trans ocE)).symm))) (RR_mk (by first | exact e8 | exact (kp2 8 (by decide)).trans e8) (by first | exact e10 | exact (kp2 10 (by decide)).trans e10) (by first | exact e33 | exact (kp2 33 (by decide)).trans e33) (by show z1 = ns + 1; omega) (by first | exact e44 | exact (kp2 44 (by decide)).trans e44) (by first | exact e53 | exact (kp2 53 (by decide)).trans e53) (by first | exact tr | exact tell_kp (by exact tr) kp2) pi ⟨pnr, ⟨by omega, by omega⟩, pnm2, prd, pry, prm, prt, (up_L pse (by omega)), pmd2, pmy2, pmt2⟩ (by first | exact li | exact li2) rrf rtp htp rrd (seR_up rse pns.1 bdi pnd.2 bto hno) phl phi rim rco ht nM (by rw [su, nsn]))), (by repeat (first | exact fun _ _ => rfl | refine frr_up ?_ (by decide)))⟩
    · obtain rfl := hh.symm
      refine ⟨rfl, ?_⟩
      dsimp only [Option.toList, List.cons_append, List.nil_append]
      refine r_if_ne (tgt := 23) dX9_see_18 (by decide) ⟨by omega, by omega⟩ (fun g18 => absurd g18 (by omega)) (fun g18 => ?_)
      refine r_iconst dX9_see_21 ?_
      refine r_iret dX9_see_22 ?_
      first
        | exact ⟨rfl, ⟨0, rfl, fun z => absurd ((ocF kb1).symm.trans z) (by decide)⟩, ref_ne (ocF kb1) (RefC_mk (g := (va_up (va_up g 0 z0) 0 1)) rfl (by exact c69) (by exact c70) (by exact c71) (by exact c72) (by exact c73) (by exact c74) (by exact c75) (by exact c76) (by exact c77) (by exact c78) (by exact c79) (by exact c80) (by exact c81) (by exact c82) (by exact c83) (by exact c84) (by exact c85) (by exact c86) (by exact c87) (by exact c88) (by exact c89) (by exact c90) (by exact c91) (by exact c92) (by exact c93) (by exact c94) (by exact c95) (congrArg (fun n : Nat => (n : Int)) (ocF kb1).symm) (RR_mk (by first | exact e8 | exact (kp2 8 (by decide)).trans e8) (by first | exact e10 | exact (kp2 10 (by decide)).trans e10) (by first | exact e33 | exact (kp2 33 (by decide)).trans e33) (by first | exact e38 | exact (kp2 38 (by decide)).trans e38) (by first | exact e44 | exact (kp2 44 (by decide)).trans e44) (by first | exact e53 | exact (kp2 53 (by decide)).trans e53) (by first | exact tr | exact tell_kp (by exact tr) kp2) pi ni (by first | exact li | exact li2) rrf rtp htp rrd rse phl phi rim rco ht nM nsn)), (by repeat (first | exact fun _ _ => rfl | refine frr_up ?_ (by decide)))⟩
        | exact ⟨rfl, ⟨0, rfl, fun z => absurd (((ocT kb1).trans (ocF kb2)).symm.trans z) (by decide)⟩, ref_ne ((ocT kb1).trans (ocF kb2)) (RefC_mk (g := (va_up (va_up g 0 z0) 0 1)) rfl (by exact c69) (by exact c70) (by exact c71) (by exact c72) (by exact c73) (by exact c74) (by exact c75) (by exact c76) (by exact c77) (by exact c78) (by exact c79) (by exact c80) (by exact c81) (by exact c82) (by exact c83) (by exact c84) (by exact c85) (by exact c86) (by exact c87) (by exact c88) (by exact c89) (by exact c90) (by exact c91) (by exact c92) (by exact c93) (by exact c94) (by exact c95) (congrArg (fun n : Nat => (n : Int)) ((ocT kb1).trans (ocF kb2)).symm) (RR_mk (by first | exact e8 | exact (kp2 8 (by decide)).trans e8) (by first | exact e10 | exact (kp2 10 (by decide)).trans e10) (by first | exact e33 | exact (kp2 33 (by decide)).trans e33) (by first | exact e38 | exact (kp2 38 (by decide)).trans e38) (by first | exact e44 | exact (kp2 44 (by decide)).trans e44) (by first | exact e53 | exact (kp2 53 (by decide)).trans e53) (by first | exact tr | exact tell_kp (by exact tr) kp2) pi ni (by first | exact li | exact li2) rrf rtp htp rrd rse phl phi rim rco ht nM nsn)), (by repeat (first | exact fun _ _ => rfl | refine frr_up ?_ (by decide)))⟩
  · obtain rfl := hh.symm
    replace kb1 : diaB nd di = false := by rw [← t1]; exact kb1
    refine ⟨rfl, ?_⟩
    dsimp only [Option.toList, List.cons_append, List.nil_append]
    refine r_if_eq (tgt := 21) dX9_see_10 (by decide) ⟨by omega, by omega⟩ (fun g10 => ?_) (fun g10 => absurd g10 (by omega))
    refine r_iconst dX9_see_21 ?_
    refine r_iret dX9_see_22 ?_
    first
      | exact ⟨rfl, ⟨0, rfl, fun z => absurd ((ocF kb1).symm.trans z) (by decide)⟩, ref_ne (ocF kb1) (RefC_mk (g := (va_up (va_up g 0 z0) 0 1)) rfl (by exact c69) (by exact c70) (by exact c71) (by exact c72) (by exact c73) (by exact c74) (by exact c75) (by exact c76) (by exact c77) (by exact c78) (by exact c79) (by exact c80) (by exact c81) (by exact c82) (by exact c83) (by exact c84) (by exact c85) (by exact c86) (by exact c87) (by exact c88) (by exact c89) (by exact c90) (by exact c91) (by exact c92) (by exact c93) (by exact c94) (by exact c95) (congrArg (fun n : Nat => (n : Int)) (ocF kb1).symm) (RR_mk (by first | exact e8 | exact (kp2 8 (by decide)).trans e8) (by first | exact e10 | exact (kp2 10 (by decide)).trans e10) (by first | exact e33 | exact (kp2 33 (by decide)).trans e33) (by first | exact e38 | exact (kp2 38 (by decide)).trans e38) (by first | exact e44 | exact (kp2 44 (by decide)).trans e44) (by first | exact e53 | exact (kp2 53 (by decide)).trans e53) (by first | exact tr | exact tell_kp (by exact tr) kp2) pi ni (by first | exact li | exact li2) rrf rtp htp rrd rse phl phi rim rco ht nM nsn)), (by repeat (first | exact fun _ _ => rfl | refine frr_up ?_ (by decide)))⟩
      | exact ⟨rfl, ⟨0, rfl, fun z => absurd (((ocT kb1).trans (ocF kb2)).symm.trans z) (by decide)⟩, ref_ne ((ocT kb1).trans (ocF kb2)) (RefC_mk (g := (va_up (va_up g 0 z0) 0 1)) rfl (by exact c69) (by exact c70) (by exact c71) (by exact c72) (by exact c73) (by exact c74) (by exact c75) (by exact c76) (by exact c77) (by exact c78) (by exact c79) (by exact c80) (by exact c81) (by exact c82) (by exact c83) (by exact c84) (by exact c85) (by exact c86) (by exact c87) (by exact c88) (by exact c89) (by exact c90) (by exact c91) (by exact c92) (by exact c93) (by exact c94) (by exact c95) (congrArg (fun n : Nat => (n : Int)) ((ocT kb1).trans (ocF kb2)).symm) (RR_mk (by first | exact e8 | exact (kp2 8 (by decide)).trans e8) (by first | exact e10 | exact (kp2 10 (by decide)).trans e10) (by first | exact e33 | exact (kp2 33 (by decide)).trans e33) (by first | exact e38 | exact (kp2 38 (by decide)).trans e38) (by first | exact e44 | exact (kp2 44 (by decide)).trans e44) (by first | exact e53 | exact (kp2 53 (by decide)).trans e53) (by first | exact tr | exact tell_kp (by exact tr) kp2) pi ni (by first | exact li | exact li2) rrf rtp htp rrd rse phl phi rim rco ht nM nsn)), (by repeat (first | exact fun _ _ => rfl | refine frr_up ?_ (by decide)))⟩

theorem s_X9_image {h : aH} {th : Int} {t : Nat → Int} {tp : Nat} {fpl hlaw himg : Int} {rf : Nat → Int} {nd sw nc hl hs : Int} {K U I O G L cf ct fc nx cd : Nat → Int} {nr ns nm : Int} {rd ry rm rt se md my mt : Nat → Int} {nr2 ns2 nm2 : Int} {rd2 ry2 rm2 rt2 se2 md2 my2 mt2 : Nat → Int} {ls : LSm} (cr : RefC h (t, tp, fpl, rf, hlaw, himg, ((nd, sw, nc), (hl, hs), K, U, I, O, G, L, cf, ct, fc, nx, cd), ((nr, ns, nm), rd, ry, rm, rt, se, md, my, mt), ((nr2, ns2, nm2), rd2, ry2, rm2, rt2, se2, md2, my2, mt2), ls) th)  : mSem yX9_image cX9_image 1 none 1 0 0 [.ref 68] 97 h (fun v n' h' => v = none ∧ n' = 97 ∧ RefC h' (imageS (t, tp, fpl, rf, hlaw, himg, ((nd, sw, nc), (hl, hs), K, U, I, O, G, L, cf, ct, fc, nx, cd), ((nr, ns, nm), rd, ry, rm, rt, se, md, my, mt), ((nr2, ns2, nm2), rd2, ry2, rm2, rt2, se2, md2, my2, mt2), ls)) 0 ∧ FrR h h') noX := by
  refine RefC_elim cr (fun g dl cl lm trr rfr nD nC nL lt lgt mn rdg cpl grp sea rts row cod ncod pil opn stg bsd imo imr ims imm w c68 c69 c70 c71 c72 c73 c74 c75 c76 c77 c78 c79 c80 c81 c82 c83 c84 c85 c86 c87 c88 c89 c90 c91 c92 c93 c94 c95 hth rr => ?_)
  refine RR_elim rr (fun e8 e10 e33 e38 e44 e53 tr pi ni li rrf rtp htp rrd rse phl phi rim rco ht nM nsn => ?_)
  obtain ⟨t1, t2, t3, t31, pnm, tdl, tcl, tlm, tmd, pmt, pmd, pmy⟩ := id tr
  obtain ⟨pnd, psw, pnc, pK, pU, pI, pO, pG, pL, pcf, pct, pfc, pnx⟩ := id pi
  obtain ⟨pnr, pns, pnm2, prd, pry, prm, prt, pse, pmd2, pmy2, pmt2⟩ := id ni
  obtain ⟨⟨qnr, qns, qnm, qrd, qry, qrm, qrt, qse, qmd, qmy, qmt⟩, msn⟩ := id nM
  refine mSem_of (own := RX9) (name := "image") pn_X9 rfl rfl (Nat.le_of_ble_eq_true rfl) ?_
  refine r_aload_n dX9_image_0 rfl rfl ?_
  refine r_iconst dX9_image_1 ?_
  refine r_putR dX9_image_2 fp_X9_102 (by decide) c68 (nar_int _) (Nat.le_of_ble_eq_true rfl) setR_0 (fun z0 hz0 => ?_)
  refine r_aload_n dX9_image_5 rfl rfl ?_
  refine r_iconst dX9_image_6 ?_
  refine r_putR dX9_image_7 fp_X9_236 (by decide) rfl (nar_bool (by omega)) (Nat.le_of_ble_eq_true rfl) setR_53 (fun z1 hz1 => ?_)
  refine r_aload_n dX9_image_10 rfl rfl ?_
  refine r_get (fs := RGL _ _) dX9_image_11 fl_X9_90 (by decide) rfl rfl ?_
  refine r_iconst dX9_image_14 ?_
  refine r_aload_n dX9_image_15 rfl rfl ?_
  refine r_getR (z := (g 33)) dX9_image_16 fl_X9_224 (by decide) rfl rfl ?_
  refine r_ast dX9_image_19 (by decide) c92 (by omega) (by omega) (by decide) ?_
  refine r_aload_n dX9_image_20 rfl rfl ?_
  refine r_get (fs := RGL _ _) dX9_image_21 fl_X9_90 (by decide) rfl rfl ?_
  refine r_iconst dX9_image_24 ?_
  refine r_aload_n dX9_image_25 rfl rfl ?_
  refine r_getR (z := (g 38)) dX9_image_26 fl_X9_227 (by decide) rfl rfl ?_
  refine r_ast dX9_image_29 (by decide) rfl (by omega) (by omega) (by decide) ?_
  refine r_aload_n dX9_image_30 rfl rfl ?_
  refine r_get (fs := RGL _ _) dX9_image_31 fl_X9_90 (by decide) rfl rfl ?_
  refine r_iconst dX9_image_34 ?_
  refine r_aload_n dX9_image_35 rfl rfl ?_
  refine r_getR (z := (g 31)) dX9_image_36 fl_X9_230 (by decide) rfl rfl ?_
  refine r_ast dX9_image_39 (by decide) rfl (by omega) (by omega) (by decide) ?_
  refine r_aload_n dX9_image_40 rfl rfl ?_
  refine r_aload_n dX9_image_41 rfl rfl ?_
  refine r_get (fs := RGL _ _) dX9_image_42 fl_X9_54 (by decide) rfl rfl ?_
  refine r_aload_n dX9_image_45 rfl rfl ?_
  refine r_get (fs := RGL _ _) dX9_image_46 fl_X9_93 (by decide) rfl rfl ?_
  refine r_callV 68 [.ref 80, .ref 93] (s_X9_copies_80 (by exact c80) (by exact c93)) dX9_image_49 cs_X9_220 im_X9_copies (by decide) rfl rfl (by decide) (by decide) (by decide) rfl rfl (Nat.le_of_ble_eq_true rfl) (fun _ _ _ q => q.elim) (fun v n2 h2 q => ?_)
  obtain ⟨rfl, rfl, hh⟩ := q
  obtain rfl := hh.symm
  refine ⟨rfl, ?_⟩
  dsimp only [Option.toList, List.cons_append, List.nil_append]
  refine r_aload_n dX9_image_52 rfl rfl ?_
  refine r_aload_n dX9_image_53 rfl rfl ?_
  refine r_get (fs := RGL _ _) dX9_image_54 fl_X9_63 (by decide) rfl rfl ?_
  refine r_aload_n dX9_image_57 rfl rfl ?_
  refine r_get (fs := RGL _ _) dX9_image_58 fl_X9_96 (by decide) rfl rfl ?_
  refine r_callV 68 [.ref 83, .ref 94] (s_X9_copies_83 (by exact c83) (by exact c94)) dX9_image_61 cs_X9_220 im_X9_copies (by decide) rfl rfl (by decide) (by decide) (by decide) rfl rfl (Nat.le_of_ble_eq_true rfl) (fun _ _ _ q => q.elim) (fun v n2 h2 q => ?_)
  obtain ⟨rfl, rfl, hh⟩ := q
  obtain rfl := hh.symm
  refine ⟨rfl, ?_⟩
  dsimp only [Option.toList, List.cons_append, List.nil_append]
  refine r_aload_n dX9_image_64 rfl rfl ?_
  refine r_aload_n dX9_image_65 rfl rfl ?_
  refine r_get (fs := RGL _ _) dX9_image_66 fl_X9_51 (by decide) rfl rfl ?_
  refine r_aload_n dX9_image_69 rfl rfl ?_
  refine r_get (fs := RGL _ _) dX9_image_70 fl_X9_99 (by decide) rfl rfl ?_
  refine r_callV 68 [.ref 79, .ref 95] (s_X9_copies_79 (by exact c79) (by exact c95)) dX9_image_73 cs_X9_220 im_X9_copies (by decide) rfl rfl (by decide) (by decide) (by decide) rfl rfl (Nat.le_of_ble_eq_true rfl) (fun _ _ _ q => q.elim) (fun v n2 h2 q => ?_)
  obtain ⟨rfl, rfl, hh⟩ := q
  obtain rfl := hh.symm
  refine ⟨rfl, ?_⟩
  dsimp only [Option.toList, List.cons_append, List.nil_append]
  refine r_vret dX9_image_76 ?_
  exact ⟨rfl, rfl, (RefC_mk (g := (va_up (va_up g 0 z0) 53 z1)) rfl (by exact c69) (by exact c70) (by exact c71) (by exact c72) (by exact c73) (by exact c74) (by exact c75) (by exact c76) (by exact c77) (by exact c78) (by exact c79) (by exact c80) (by exact c81) (by exact c82) (by exact c83) (by exact c84) (by exact c85) (by exact c86) (by exact c87) (by exact c88) (by exact c89) (by exact c90) (by exact c91) rfl rfl rfl rfl hz0 (RR_mk (by first | exact e8 | exact (kp2 8 (by decide)).trans e8) (by first | exact e10 | exact (kp2 10 (by decide)).trans e10) (by first | exact e33 | exact (kp2 33 (by decide)).trans e33) (by first | exact e38 | exact (kp2 38 (by decide)).trans e38) (by first | exact e44 | exact (kp2 44 (by decide)).trans e44) (by show z1 = 1; omega) (by first | exact tr | exact tell_kp (by exact tr) kp2) pi ni (by first | exact li | exact li2) rrf rtp htp rrd rse phl (Or.inr rfl) (fun _ => ⟨e33, e38, t31, rdR_cpy rrd pnr.2, seR_cpy rse pns.2 pnd.2, mdR_cpy tmd pnm.2, ⟨pnr, pns, pnm2, (cpy_L prd qrd), (cpy_L pry qry), (cpy_L prm qrm), (cpy_L prt qrt), (cpy_L pse qse), (cpy_L pmd2 qmd), (cpy_L pmy2 qmy), (cpy_R pmt2 qmt)⟩⟩) rco ht ⟨⟨pnr, pns, pnm2, (cpy_L prd qrd), (cpy_L pry qry), (cpy_L prm qrm), (cpy_L prt qrt), (cpy_L pse qse), (cpy_L pmd2 qmd), (cpy_L pmy2 qmy), (cpy_R pmt2 qmt)⟩, (nsn.trans (snc_cpy se se2 9 (Nat.le_refl _)).symm)⟩ nsn)), (by repeat (first | exact fun _ _ => rfl | refine frr_up ?_ (by decide)))⟩

theorem s_X9_restore {h : aH} {th : Int} {t : Nat → Int} {tp : Nat} {fpl hlaw himg : Int} {rf : Nat → Int} {nd sw nc hl hs : Int} {K U I O G L cf ct fc nx cd : Nat → Int} {nr ns nm : Int} {rd ry rm rt se md my mt : Nat → Int} {nr2 ns2 nm2 : Int} {rd2 ry2 rm2 rt2 se2 md2 my2 mt2 : Nat → Int} {ls : LSm} (cr : RefC h (t, tp, fpl, rf, hlaw, himg, ((nd, sw, nc), (hl, hs), K, U, I, O, G, L, cf, ct, fc, nx, cd), ((nr, ns, nm), rd, ry, rm, rt, se, md, my, mt), ((nr2, ns2, nm2), rd2, ry2, rm2, rt2, se2, md2, my2, mt2), ls) th)  : mSem yX9_restore cX9_restore 1 (some .boolean) 1 0 0 [.ref 68] 97 h (fun v n' h' => n' = 97 ∧ v = some (iv (restoreS (t, tp, fpl, rf, hlaw, himg, ((nd, sw, nc), (hl, hs), K, U, I, O, G, L, cf, ct, fc, nx, cd), ((nr, ns, nm), rd, ry, rm, rt, se, md, my, mt), ((nr2, ns2, nm2), rd2, ry2, rm2, rt2, se2, md2, my2, mt2), ls)).1) ∧ RefC h' (restoreS (t, tp, fpl, rf, hlaw, himg, ((nd, sw, nc), (hl, hs), K, U, I, O, G, L, cf, ct, fc, nx, cd), ((nr, ns, nm), rd, ry, rm, rt, se, md, my, mt), ((nr2, ns2, nm2), rd2, ry2, rm2, rt2, se2, md2, my2, mt2), ls)).2 0 ∧ FrR h h') noX := by
  refine RefC_elim cr (fun g dl cl lm trr rfr nD nC nL lt lgt mn rdg cpl grp sea rts row cod ncod pil opn stg bsd imo imr ims imm w c68 c69 c70 c71 c72 c73 c74 c75 c76 c77 c78 c79 c80 c81 c82 c83 c84 c85 c86 c87 c88 c89 c90 c91 c92 c93 c94 c95 hth rr => ?_)
  refine RR_elim rr (fun e8 e10 e33 e38 e44 e53 tr pi ni li rrf rtp htp rrd rse phl phi rim rco ht nM nsn => ?_)
  obtain ⟨t1, t2, t3, t31, pnm, tdl, tcl, tlm, tmd, pmt, pmd, pmy⟩ := id tr
  obtain ⟨pnd, psw, pnc, pK, pU, pI, pO, pG, pL, pcf, pct, pfc, pnx⟩ := id pi
  obtain ⟨pnr, pns, pnm2, prd, pry, prm, prt, pse, pmd2, pmy2, pmt2⟩ := id ni
  obtain ⟨⟨qnr, qns, qnm, qrd, qry, qrm, qrt, qse, qmd, qmy, qmt⟩, msn⟩ := id nM
  have e0 : restoreS (t, tp, fpl, rf, hlaw, himg, ((nd, sw, nc), (hl, hs), K, U, I, O, G, L, cf, ct, fc, nx, cd), ((nr, ns, nm), rd, ry, rm, rt, se, md, my, mt), ((nr2, ns2, nm2), rd2, ry2, rm2, rt2, se2, md2, my2, mt2), ls) = if himg = 1 then (1, (t, tp, fpl, rf, hlaw, himg, ((nd, sw, nc), (hl, hs), K, U, I, O, G, L, cf, ct, fc, nx, cd), cpyN ((nr2, ns2, nm2), rd2, ry2, rm2, rt2, se2, md2, my2, mt2) ((nr, ns, nm), rd, ry, rm, rt, se, md, my, mt), ((nr2, ns2, nm2), rd2, ry2, rm2, rt2, se2, md2, my2, mt2), ls)) else (0, (t, tp, fpl, rf, hlaw, himg, ((nd, sw, nc), (hl, hs), K, U, I, O, G, L, cf, ct, fc, nx, cd), ((nr, ns, nm), rd, ry, rm, rt, se, md, my, mt), ((nr2, ns2, nm2), rd2, ry2, rm2, rt2, se2, md2, my2, mt2), ls)) := rfl
  refine mSem_of (own := RX9) (name := "restore") pn_X9 rfl rfl (Nat.le_of_ble_eq_true rfl) ?_
  refine r_aload_n dX9_restore_0 rfl rfl ?_
  refine r_iconst dX9_restore_1 ?_
  refine r_putR dX9_restore_2 fp_X9_102 (by decide) c68 (nar_int _) (Nat.le_of_ble_eq_true rfl) setR_0 (fun z0 hz0 => ?_)
  refine r_aload_n dX9_restore_5 rfl rfl ?_
  refine r_getR (z := (g 53)) dX9_restore_6 fl_X9_236 (by decide) rfl rfl ?_
  rw [e53]
  refine r_if_ne (tgt := 14) dX9_restore_9 (by decide) ⟨by omega, by omega⟩ (fun g9 => ?_) (fun g9 => ?_)
  · obtain ⟨i0, i1, i2, ir, is_, im_, inn⟩ := rim (by omega)
    refine r_aload_n dX9_restore_14 rfl rfl ?_
    refine r_aload_n dX9_restore_15 rfl rfl ?_
    refine r_get (fs := RGL _ _) dX9_restore_16 fl_X9_90 (by decide) rfl rfl ?_
    refine r_iconst dX9_restore_19 ?_
    refine r_ald dX9_restore_20 (by decide) c92 (by omega) (by omega) (by decide) ?_
    refine r_putR dX9_restore_21 fp_X9_224 (by decide) rfl (nar_int _) (Nat.le_of_ble_eq_true rfl) setR_33 (fun z1 hz1 => ?_)
    refine r_aload_n dX9_restore_24 rfl rfl ?_
    refine r_aload_n dX9_restore_25 rfl rfl ?_
    refine r_get (fs := RGL _ _) dX9_restore_26 fl_X9_90 (by decide) rfl rfl ?_
    refine r_iconst dX9_restore_29 ?_
    refine r_ald dX9_restore_30 (by decide) c92 (by omega) (by omega) (by decide) ?_
    refine r_putR dX9_restore_31 fp_X9_227 (by decide) rfl (nar_int _) (Nat.le_of_ble_eq_true rfl) setR_38 (fun z2 hz2 => ?_)
    refine r_aload_n dX9_restore_34 rfl rfl ?_
    refine r_aload_n dX9_restore_35 rfl rfl ?_
    refine r_get (fs := RGL _ _) dX9_restore_36 fl_X9_90 (by decide) rfl rfl ?_
    refine r_iconst dX9_restore_39 ?_
    refine r_ald dX9_restore_40 (by decide) c92 (by omega) (by omega) (by decide) ?_
    refine r_putR dX9_restore_41 fp_X9_230 (by decide) rfl (nar_int _) (Nat.le_of_ble_eq_true rfl) setR_31 (fun z3 hz3 => ?_)
    refine r_aload_n dX9_restore_44 rfl rfl ?_
    refine r_aload_n dX9_restore_45 rfl rfl ?_
    refine r_get (fs := RGL _ _) dX9_restore_46 fl_X9_93 (by decide) rfl rfl ?_
    refine r_aload_n dX9_restore_49 rfl rfl ?_
    refine r_get (fs := RGL _ _) dX9_restore_50 fl_X9_54 (by decide) rfl rfl ?_
    refine r_callV 68 [.ref 93, .ref 80] (s_X9_copies_93 (by exact c93) (by exact c80)) dX9_restore_53 cs_X9_220 im_X9_copies (by decide) rfl rfl (by decide) (by decide) (by decide) rfl rfl (Nat.le_of_ble_eq_true rfl) (fun _ _ _ q => q.elim) (fun v n2 h2 q => ?_)
    obtain ⟨rfl, rfl, hh⟩ := q
    obtain rfl := hh.symm
    refine ⟨rfl, ?_⟩
    dsimp only [Option.toList, List.cons_append, List.nil_append]
    refine r_aload_n dX9_restore_56 rfl rfl ?_
    refine r_aload_n dX9_restore_57 rfl rfl ?_
    refine r_get (fs := RGL _ _) dX9_restore_58 fl_X9_96 (by decide) rfl rfl ?_
    refine r_aload_n dX9_restore_61 rfl rfl ?_
    refine r_get (fs := RGL _ _) dX9_restore_62 fl_X9_63 (by decide) rfl rfl ?_
    refine r_callV 68 [.ref 94, .ref 83] (s_X9_copies_94 (by exact c94) (by exact c83)) dX9_restore_65 cs_X9_220 im_X9_copies (by decide) rfl rfl (by decide) (by decide) (by decide) rfl rfl (Nat.le_of_ble_eq_true rfl) (fun _ _ _ q => q.elim) (fun v n2 h2 q => ?_)
    obtain ⟨rfl, rfl, hh⟩ := q
    obtain rfl := hh.symm
    refine ⟨rfl, ?_⟩
    dsimp only [Option.toList, List.cons_append, List.nil_append]
    refine r_aload_n dX9_restore_68 rfl rfl ?_
    refine r_aload_n dX9_restore_69 rfl rfl ?_
    refine r_get (fs := RGL _ _) dX9_restore_70 fl_X9_99 (by decide) rfl rfl ?_
    refine r_aload_n dX9_restore_73 rfl rfl ?_
    refine r_get (fs := RGL _ _) dX9_restore_74 fl_X9_51 (by decide) rfl rfl ?_
    refine r_callV 68 [.ref 95, .ref 79] (s_X9_copies_95 (by exact c95) (by exact c79)) dX9_restore_77 cs_X9_220 im_X9_copies (by decide) rfl rfl (by decide) (by decide) (by decide) rfl rfl (Nat.le_of_ble_eq_true rfl) (fun _ _ _ q => q.elim) (fun v n2 h2 q => ?_)
    obtain ⟨rfl, rfl, hh⟩ := q
    obtain rfl := hh.symm
    refine ⟨rfl, ?_⟩
    dsimp only [Option.toList, List.cons_append, List.nil_append]
    refine r_iconst dX9_restore_80 ?_
    refine r_zret dX9_restore_81 (nar_z (by omega)) ?_
    rw [if_pos (by omega)] at e0
    rw [e0]
    exact ⟨rfl, rfl, (RefC_mk (g := (va_up (va_up (va_up (va_up g 0 z0) 33 z1) 38 z2) 31 z3)) rfl (by exact c69) (by exact c70) (by exact c71) (by exact c72) (by exact c73) (by exact c74) (by exact c75) (by exact c76) (by exact c77) (by exact c78) rfl rfl (by exact c81) (by exact c82) rfl (by exact c84) (by exact c85) (by exact c86) (by exact c87) (by exact c88) (by exact c89) (by exact c90) (by exact c91) (by exact c92) (by exact c93) (by exact c94) (by exact c95) hz0 (RR_mk (by first | exact e8 | exact (kp2 8 (by decide)).trans e8) (by first | exact e10 | exact (kp2 10 (by decide)).trans e10) (by show z1 = nr2; rw [hz1]; exact i0) (by show z2 = ns2; rw [hz2]; exact i1) (by first | exact e44 | exact (kp2 44 (by decide)).trans e44) (by first | exact e53 | exact (kp2 53 (by decide)).trans e53) ⟨t1, t2, t3, (by show z3 = nm2; rw [hz3]; exact i2), qnm, tdl, tcl, tlm, mdR_cpy im_ qnm.2, (cpy_R qmt pmt2), (cpy_L qmd pmd2), (cpy_L qmy pmy2)⟩ pi ⟨qnr, qns, qnm, (cpy_L qrd prd), (cpy_L qry pry), (cpy_L qrm prm), (cpy_L qrt prt), (cpy_L qse pse), (cpy_L qmd pmd2), (cpy_L qmy pmy2), (cpy_R qmt pmt2)⟩ (by first | exact li | exact li2) rrf rtp htp (rdR_cpy ir qnr.2) (seR_cpy is_ qns.2 pnd.2) phl phi rim rco ht nM (msn.trans (snc_cpy se2 se 9 (Nat.le_refl _)).symm))), (by repeat (first | exact fun _ _ => rfl | refine frr_up ?_ (by decide)))⟩
  · refine r_iconst dX9_restore_12 ?_
    refine r_zret dX9_restore_13 (nar_z (by omega)) ?_
    rw [if_neg (by omega)] at e0
    rw [e0]
    exact ⟨rfl, rfl, (RefC_mk (g := (va_up g 0 z0)) rfl (by exact c69) (by exact c70) (by exact c71) (by exact c72) (by exact c73) (by exact c74) (by exact c75) (by exact c76) (by exact c77) (by exact c78) (by exact c79) (by exact c80) (by exact c81) (by exact c82) (by exact c83) (by exact c84) (by exact c85) (by exact c86) (by exact c87) (by exact c88) (by exact c89) (by exact c90) (by exact c91) (by exact c92) (by exact c93) (by exact c94) (by exact c95) hz0 (RR_mk (by first | exact e8 | exact (kp2 8 (by decide)).trans e8) (by first | exact e10 | exact (kp2 10 (by decide)).trans e10) (by first | exact e33 | exact (kp2 33 (by decide)).trans e33) (by first | exact e38 | exact (kp2 38 (by decide)).trans e38) (by first | exact e44 | exact (kp2 44 (by decide)).trans e44) (by first | exact e53 | exact (kp2 53 (by decide)).trans e53) (by first | exact tr | exact tell_kp (by exact tr) kp2) pi ni (by first | exact li | exact li2) rrf rtp htp rrd rse phl phi rim rco ht nM nsn)), (by repeat (first | exact fun _ _ => rfl | refine frr_up ?_ (by decide)))⟩

theorem sb_mod (z : Int) : sbZ z % 256 = z % 256 := by unfold sbZ; omega
def lyT (r : Nat → Int) (tp : Nat) (x : Int) : Nat → Int := va_up (va_up (va_up (va_up r tp (x / 16777216 % 256)) (tp + 1) (x / 65536 % 256)) (tp + 2) (x / 256 % 256)) (tp + 3) (x / 1 % 256)
theorem ly_R {r t : Nat → Int} {tp : Nat} {x : Int} (h : ∀ j, j < tp → r j = t j % 256) : ∀ j, j < tp + 4 → lyT r tp x j = putT t tp x j % 256 := by
  intro j hj
  unfold lyT putT va_up
  by_cases q3 : j = tp + 3
  · simp only [q3, if_true, sb_mod]
  · simp only [q3, if_false]
    by_cases q2 : j = tp + 2
    · simp only [q2, if_true, sb_mod]
    · simp only [q2, if_false]
      by_cases q1 : j = tp + 1
      · simp only [q1, if_true, sb_mod]
      · simp only [q1, if_false]
        by_cases q0 : j = tp
        · simp only [q0, if_true, sb_mod]
        · simp only [q0, if_false]
          exact h j (by omega)
theorem s_X9_lays {h : aH} {th : Int} {t : Nat → Int} {tp : Nat} {fpl hlaw himg : Int} {rf : Nat → Int} {nd sw nc hl hs : Int} {K U I O G L cf ct fc nx cd : Nat → Int} {nr ns nm : Int} {rd ry rm rt se md my mt : Nat → Int} {M : ND} {ls : LSm} (cr : RefC h (t, tp, fpl, rf, hlaw, himg, ((nd, sw, nc), (hl, hs), K, U, I, O, G, L, cf, ct, fc, nx, cd), ((nr, ns, nm), rd, ry, rm, rt, se, md, my, mt), M, ls) th) {x : Int} (ix : inR x) (h4 : tp + 4 ≤ 700) : mSem yX9_lays cX9_lays 3 none 0 0 0 [.ref 68, iv x] 97 h (fun v n' h' => v = none ∧ n' = 97 ∧ RefC h' (putT t tp x, tp + 4, fpl, rf, hlaw, himg, ((nd, sw, nc), (hl, hs), K, U, I, O, G, L, cf, ct, fc, nx, cd), ((nr, ns, nm), rd, ry, rm, rt, se, md, my, mt), M, ls) th ∧ FrR h h') noX := by
  refine RefC_elim cr (fun g dl cl lm trr rfr nD nC nL lt lgt mn rdg cpl grp sea rts row cod ncod pil opn stg bsd imo imr ims imm w c68 c69 c70 c71 c72 c73 c74 c75 c76 c77 c78 c79 c80 c81 c82 c83 c84 c85 c86 c87 c88 c89 c90 c91 c92 c93 c94 c95 hth rr => ?_)
  refine RR_elim rr (fun e8 e10 e33 e38 e44 e53 tr pi ni li rrf rtp htp rrd rse phl phi rim rco ht nM nsn => ?_)
  obtain ⟨t1, t2, t3, t31, pnm, tdl, tcl, tlm, tmd, pmt, pmd, pmy⟩ := id tr
  obtain ⟨pnd, psw, pnc, pK, pU, pI, pO, pG, pL, pcf, pct, pfc, pnx⟩ := id pi
  obtain ⟨pnr, pns, pnm2, prd, pry, prm, prt, pse, pmd2, pmy2, pmt2⟩ := id ni
  refine mSem_of (own := RX9) (name := "lays") pn_X9 rfl rfl (Nat.le_of_ble_eq_true rfl) ?_
  refine r_bipush dX9_lays_0 rfl ?_
  refine r_istore_n (lv2 := [(0, _), (1, _), (2, _)]) dX9_lays_2 rfl (by decide) rfl rfl ?_
  try simp only [show (24 : Int) + -8 = 16 from rfl, show (16 : Int) + -8 = 8 from rfl, show (8 : Int) + -8 = 0 from rfl, show (0 : Int) + -8 = -8 from rfl]
  refine r_iload_n dX9_lays_3 rfl rfl ?_
  refine r_if_lt (tgt := 39) dX9_lays_4 (by decide) ⟨by omega, by omega⟩ (fun g4 => absurd g4 (by omega)) (fun g4 => ?_)
  refine r_aload_n dX9_lays_7 rfl rfl ?_
  refine r_get (fs := RGL _ _) dX9_lays_8 fl_X9_23 (by decide) c68 rfl ?_
  refine r_aload_n dX9_lays_11 rfl rfl ?_
  refine r_getR (z := (g 8)) dX9_lays_12 fl_X9_105 (by decide) c68 rfl ?_
  refine r_iload_n dX9_lays_15 rfl rfl ?_
  refine r_iload_n dX9_lays_16 rfl rfl ?_
  refine r_ishr _ dX9_lays_17 (by first | exact shr_24 ix | exact shr_16 ix | exact shr_8 ix | exact shr_0 ix) ?_
  refine r_sipush dX9_lays_18 rfl ?_
  refine r_iand _ dX9_lays_21 (and255z _) ?_
  refine r_ast dX9_lays_22 (by decide) c72 (by omega) (by omega) (by decide) ?_
  refine r_aload_n dX9_lays_23 rfl rfl ?_
  refine r_dup dX9_lays_24 rfl ?_
  refine r_getR (z := (g 8)) dX9_lays_25 fl_X9_105 (by decide) c68 rfl ?_
  refine r_iconst dX9_lays_28 ?_
  refine r_iadd dX9_lays_29 ?_
  refine r_putR dX9_lays_30 fp_X9_105 (by decide) c68 (nar_int _) (Nat.le_of_ble_eq_true rfl) setR_8 (fun z0 hz0 => ?_)
  refine r_iinc (lv2 := [(0, _), (1, _), (2, _)]) dX9_lays_33 (by decide) rfl rfl rfl ?_
  refine r_goto (tgt := 3) dX9_lays_36 (by decide) ?_
  try simp only [show (24 : Int) + -8 = 16 from rfl, show (16 : Int) + -8 = 8 from rfl, show (8 : Int) + -8 = 0 from rfl, show (0 : Int) + -8 = -8 from rfl]
  refine r_iload_n dX9_lays_3 rfl rfl ?_
  refine r_if_lt (tgt := 39) dX9_lays_4 (by decide) ⟨by omega, by omega⟩ (fun g4 => absurd g4 (by omega)) (fun g4 => ?_)
  refine r_aload_n dX9_lays_7 rfl rfl ?_
  refine r_get (fs := RGL _ _) dX9_lays_8 fl_X9_23 (by decide) rfl rfl ?_
  refine r_aload_n dX9_lays_11 rfl rfl ?_
  refine r_getR (z := z0) dX9_lays_12 fl_X9_105 (by decide) rfl rfl ?_
  refine r_iload_n dX9_lays_15 rfl rfl ?_
  refine r_iload_n dX9_lays_16 rfl rfl ?_
  refine r_ishr _ dX9_lays_17 (by first | exact shr_24 ix | exact shr_16 ix | exact shr_8 ix | exact shr_0 ix) ?_
  refine r_sipush dX9_lays_18 rfl ?_
  refine r_iand _ dX9_lays_21 (and255z _) ?_
  refine r_ast dX9_lays_22 (by decide) rfl (by omega) (by omega) (by decide) ?_
  refine r_aload_n dX9_lays_23 rfl rfl ?_
  refine r_dup dX9_lays_24 rfl ?_
  refine r_getR (z := z0) dX9_lays_25 fl_X9_105 (by decide) rfl rfl ?_
  refine r_iconst dX9_lays_28 ?_
  refine r_iadd dX9_lays_29 ?_
  refine r_putR dX9_lays_30 fp_X9_105 (by decide) rfl (nar_int _) (Nat.le_of_ble_eq_true rfl) setR_8 (fun z1 hz1 => ?_)
  refine r_iinc (lv2 := [(0, _), (1, _), (2, _)]) dX9_lays_33 (by decide) rfl rfl rfl ?_
  refine r_goto (tgt := 3) dX9_lays_36 (by decide) ?_
  try simp only [show (24 : Int) + -8 = 16 from rfl, show (16 : Int) + -8 = 8 from rfl, show (8 : Int) + -8 = 0 from rfl, show (0 : Int) + -8 = -8 from rfl]
  refine r_iload_n dX9_lays_3 rfl rfl ?_
  refine r_if_lt (tgt := 39) dX9_lays_4 (by decide) ⟨by omega, by omega⟩ (fun g4 => absurd g4 (by omega)) (fun g4 => ?_)
  refine r_aload_n dX9_lays_7 rfl rfl ?_
  refine r_get (fs := RGL _ _) dX9_lays_8 fl_X9_23 (by decide) rfl rfl ?_
  refine r_aload_n dX9_lays_11 rfl rfl ?_
  refine r_getR (z := z1) dX9_lays_12 fl_X9_105 (by decide) rfl rfl ?_
  refine r_iload_n dX9_lays_15 rfl rfl ?_
  refine r_iload_n dX9_lays_16 rfl rfl ?_
  refine r_ishr _ dX9_lays_17 (by first | exact shr_24 ix | exact shr_16 ix | exact shr_8 ix | exact shr_0 ix) ?_
  refine r_sipush dX9_lays_18 rfl ?_
  refine r_iand _ dX9_lays_21 (and255z _) ?_
  refine r_ast dX9_lays_22 (by decide) rfl (by omega) (by omega) (by decide) ?_
  refine r_aload_n dX9_lays_23 rfl rfl ?_
  refine r_dup dX9_lays_24 rfl ?_
  refine r_getR (z := z1) dX9_lays_25 fl_X9_105 (by decide) rfl rfl ?_
  refine r_iconst dX9_lays_28 ?_
  refine r_iadd dX9_lays_29 ?_
  refine r_putR dX9_lays_30 fp_X9_105 (by decide) rfl (nar_int _) (Nat.le_of_ble_eq_true rfl) setR_8 (fun z2 hz2 => ?_)
  refine r_iinc (lv2 := [(0, _), (1, _), (2, _)]) dX9_lays_33 (by decide) rfl rfl rfl ?_
  refine r_goto (tgt := 3) dX9_lays_36 (by decide) ?_
  try simp only [show (24 : Int) + -8 = 16 from rfl, show (16 : Int) + -8 = 8 from rfl, show (8 : Int) + -8 = 0 from rfl, show (0 : Int) + -8 = -8 from rfl]
  refine r_iload_n dX9_lays_3 rfl rfl ?_
  refine r_if_lt (tgt := 39) dX9_lays_4 (by decide) ⟨by omega, by omega⟩ (fun g4 => absurd g4 (by omega)) (fun g4 => ?_)
  refine r_aload_n dX9_lays_7 rfl rfl ?_
  refine r_get (fs := RGL _ _) dX9_lays_8 fl_X9_23 (by decide) rfl rfl ?_
  refine r_aload_n dX9_lays_11 rfl rfl ?_
  refine r_getR (z := z2) dX9_lays_12 fl_X9_105 (by decide) rfl rfl ?_
  refine r_iload_n dX9_lays_15 rfl rfl ?_
  refine r_iload_n dX9_lays_16 rfl rfl ?_
  refine r_ishr _ dX9_lays_17 (by first | exact shr_24 ix | exact shr_16 ix | exact shr_8 ix | exact shr_0 ix) ?_
  refine r_sipush dX9_lays_18 rfl ?_
  refine r_iand _ dX9_lays_21 (and255z _) ?_
  refine r_ast dX9_lays_22 (by decide) rfl (by omega) (by omega) (by decide) ?_
  refine r_aload_n dX9_lays_23 rfl rfl ?_
  refine r_dup dX9_lays_24 rfl ?_
  refine r_getR (z := z2) dX9_lays_25 fl_X9_105 (by decide) rfl rfl ?_
  refine r_iconst dX9_lays_28 ?_
  refine r_iadd dX9_lays_29 ?_
  refine r_putR dX9_lays_30 fp_X9_105 (by decide) rfl (nar_int _) (Nat.le_of_ble_eq_true rfl) setR_8 (fun z3 hz3 => ?_)
  refine r_iinc (lv2 := [(0, _), (1, _), (2, _)]) dX9_lays_33 (by decide) rfl rfl rfl ?_
  refine r_goto (tgt := 3) dX9_lays_36 (by decide) ?_
  try simp only [show (24 : Int) + -8 = 16 from rfl, show (16 : Int) + -8 = 8 from rfl, show (8 : Int) + -8 = 0 from rfl, show (0 : Int) + -8 = -8 from rfl]
  refine r_iload_n dX9_lays_3 rfl rfl ?_
  refine r_if_lt (tgt := 39) dX9_lays_4 (by decide) ⟨by omega, by omega⟩ (fun g4 => ?_) (fun g4 => absurd g4 (by omega))
  refine r_vret dX9_lays_39 ?_
  exact ⟨rfl, rfl, (RefC_mk (g := (va_up (va_up (va_up (va_up g 8 z0) 8 z1) 8 z2) 8 z3)) rfl (by exact c69) (by exact c70) (by exact c71) rfl (by exact c73) (by exact c74) (by exact c75) (by exact c76) (by exact c77) (by exact c78) (by exact c79) (by exact c80) (by exact c81) (by exact c82) (by exact c83) (by exact c84) (by exact c85) (by exact c86) (by exact c87) (by exact c88) (by exact c89) (by exact c90) (by exact c91) (by exact c92) (by exact c93) (by exact c94) (by exact c95) hth (RR_mk (by show z3 = ((tp + 4 : Nat) : Int); omega) (by first | exact e10 | exact (kp2 10 (by decide)).trans e10) (by first | exact e33 | exact (kp2 33 (by decide)).trans e33) (by first | exact e38 | exact (kp2 38 (by decide)).trans e38) (by first | exact e44 | exact (kp2 44 (by decide)).trans e44) (by first | exact e53 | exact (kp2 53 (by decide)).trans e53) (by first | exact tr | exact tell_kp (by exact tr) kp2) pi ni (by first | exact li | exact li2) rrf (by rw [show z2 = ((tp + 3 : Nat) : Int) by omega, show z1 = ((tp + 2 : Nat) : Int) by omega, show z0 = ((tp + 1 : Nat) : Int) by omega, e8]; exact ly_R rtp) (by omega) rrd rse phl phi rim rco (putT_B ht) nM nsn)), (by repeat (first | exact fun _ _ => rfl | refine frr_up ?_ (by decide)))⟩

