/-! ===== arraycopy, the notes' copies, the tally ===== -/
def cpyF (f g : Nat → Int) (n : Nat) : Nat → Int := fun j => if j < n then f j else g j
theorem w_arraycopy : Cond.methodLink RX3 55 arraycopyName ∈ Gw ∧ Cond.native arraycopyName ∈ Gw ∧ Cond.static arraycopyName ∈ Gw ∧ Cond.initialized "java/lang/System" ∈ Gw := ⟨inG 412 (by decide +kernel) rfl, inG 414 (by decide +kernel) rfl, inG 413 (by decide +kernel) rfl, inG 22 (by decide +kernel) rfl⟩
theorem r_copy {own name : String} {cc : ByteArray} {mL : Nat} {rt : Option FieldType} {d mc ms : Nat} {Q : Option Value → Nat → aH → Prop} {X : String → Nat → aH → Prop} {n : Nat} {h : aH} {pc : Nat} {lv : List (Nat × Value)} {st : List Value} {idx a0 a1 N0 N1 : Nat} {f g : Nat → Int} {k : Int}
    (hd : decode cc pc = .ok (.invokestatic idx, 3)) (hw : Cond.methodLink own idx arraycopyName ∈ Gw ∧ Cond.native arraycopyName ∈ Gw ∧ Cond.static arraycopyName ∈ Gw ∧ Cond.initialized "java/lang/System" ∈ Gw) (hi : a0 < n ∧ a1 < n) (c0 : h a0 = .inl (0, N0, f)) (c1 : h a1 = .inl (0, N1, g)) (hk : 0 ≤ k ∧ k ≤ 10000) (h0 : k ≤ N0) (h1 : k ≤ N1) (hd1 : 1 ≤ d) (hcat : (st.map fun v => v.category).sum ≤ 8)
    (kk : Ev own name cc mL rt d mc ms Q X n (va_up h a1 (.inl (0, N1, cpyF f g k.toNat))) (pc + 3) lv st) : Ev own name cc mL rt d mc ms Q X n h pc lv (iv k :: iv 0 :: .ref a1 :: iv 0 :: .ref a0 :: st) := by
  intro p l e R s m args below meth c D tc n0 ad0 ad adK A H locs cells slots MC MS ls fx rm wd hn he hl
  have z0 : (Int32.ofInt 0).toNatClampNeg = 0 := tCl (by decide) (by decide)
  have zk : (Int32.ofInt k).toNatClampNeg = k.toNat := tCl hk.1 (by omega)
  have ec : va_cpy (fun j => Int32.ofInt (f j)) (fun j => Int32.ofInt (g j)) (Int32.ofInt 0).toNatClampNeg (Int32.ofInt 0).toNatClampNeg (Int32.ofInt k).toNatClampNeg = fun j => Int32.ofInt (cpyF f g k.toNat j) := by
    rw [z0, zk]
    funext j
    unfold va_cpy cpyF
    by_cases hj : j < k.toNat
    · simp [hj]
    · simp [hj]
  refine va_copyi (D := D) (cl := vwCl) (tys := tyL tc) (a0 := ad a0) (a := ad a1) (c0 := tc 0) (c1 := tc 0) (n0 := N0) (n1 := N1) (f := fun j => Int32.ofInt (f j)) (g := fun j => Int32.ofInt (g j)) (ty := .int) fx.1 fx.2.1 (fx.2.2.2.1.trans hl.1.symm) fx.2.2.2.2.1 (fx.2.2.2.2.2.1 _ hw.1) (fx.2.2.2.2.2.1 _ hw.2.1) (fx.2.2.2.2.2.1 _ hw.2.2.1) (fx.2.2.2.2.2.1 _ hw.2.2.2) (wd_K fx) wd.1 wd.2.1 wd.2.2.1 a0 a1 0 0 ?_ ?_ rfl rfl rfl (by decide) (by decide) (by rw [show (0 : Int32) = Int32.ofInt 0 from rfl, tLt ⟨by omega, by omega⟩ (by decide)]; omega) (by rw [z0, zk]; omega) (by rw [z0, zk]; omega) (fun _ _ => rfl) ?_ ?_ hd (fun H1 locs1 hP hD hS => kk p l e R s m args below meth c D tc n0 ad0 ad adK A H1 locs1 cells slots MC MS ls fx rm ⟨?_, ?_, hS, wd.2.2.2⟩ hn he hl)
  · rw [cW_get hi.1, c0]; rfl
  · rw [cW_get hi.2, c1]; rfl
  · have := rm.1; omega
  · have h5 := rm.2.1
    have h6 : nativeFrameWords "java/lang/System" "arraycopy" 5 = 7 := by decide +kernel
    rw [cat_map, h6]
    omega
  · rw [ec, show (Sum.inl (tc 0, N1, Sum.inl fun j => Int32.ofInt (cpyF f g k.toNat j)) : va_E) = cE ad tc (.inl (0, N1, cpyF f g k.toNat)) from rfl, cW_set] at hP
    exact hP
  · rw [ec, show (Sum.inl (tc 0, N1, Sum.inl fun j => Int32.ofInt (cpyF f g k.toNat j)) : va_E) = cE ad tc (.inl (0, N1, cpyF f g k.toNat)) from rfl, cW_set] at hD
    exact hD

theorem s_X3_copyFrom_49 {h : aH} {nr ns nm : Int} {rd ry rm rt se md my mt : Nat → Int} {nr2 ns2 nm2 : Int} {rd2 ry2 rm2 rt2 se2 md2 my2 mt2 : Nat → Int} (c40 : h 40 = .inr (3, [iv nr, iv ns, iv nm, .ref 41, .ref 42, .ref 43, .ref 44, .ref 45, .ref 46, .ref 47, .ref 48])) (c41 : h 41 = .inl (0, 12, rd)) (c42 : h 42 = .inl (0, 12, ry)) (c43 : h 43 = .inl (0, 12, rm)) (c44 : h 44 = .inl (0, 12, rt)) (c45 : h 45 = .inl (0, 9, se)) (c46 : h 46 = .inl (0, 40, md)) (c47 : h 47 = .inl (0, 40, my)) (c48 : h 48 = .inl (0, 40, mt)) (c49 : h 49 = .inr (3, [iv nr2, iv ns2, iv nm2, .ref 50, .ref 51, .ref 52, .ref 53, .ref 54, .ref 55, .ref 56, .ref 57])) (c50 : h 50 = .inl (0, 12, rd2)) (c51 : h 51 = .inl (0, 12, ry2)) (c52 : h 52 = .inl (0, 12, rm2)) (c53 : h 53 = .inl (0, 12, rt2)) (c54 : h 54 = .inl (0, 9, se2)) (c55 : h 55 = .inl (0, 40, md2)) (c56 : h 56 = .inl (0, 40, my2)) (c57 : h 57 = .inl (0, 40, mt2))  : mSem yX3_copyFrom cX3_copyFrom 2 none 1 0 0 [.ref 49, .ref 40] 97 h (RetV (va_up (va_up (va_up (va_up (va_up (va_up (va_up (va_up (va_up (va_up (va_up h 49 (.inr (3, [iv nr, iv ns2, iv nm2, .ref 50, .ref 51, .ref 52, .ref 53, .ref 54, .ref 55, .ref 56, .ref 57]))) 49 (.inr (3, [iv nr, iv ns, iv nm2, .ref 50, .ref 51, .ref 52, .ref 53, .ref 54, .ref 55, .ref 56, .ref 57]))) 49 (.inr (3, [iv nr, iv ns, iv nm, .ref 50, .ref 51, .ref 52, .ref 53, .ref 54, .ref 55, .ref 56, .ref 57]))) 50 (.inl (0, 12, cpyF rd rd2 12))) 51 (.inl (0, 12, cpyF ry ry2 12))) 52 (.inl (0, 12, cpyF rm rm2 12))) 53 (.inl (0, 12, cpyF rt rt2 12))) 54 (.inl (0, 9, cpyF se se2 9))) 55 (.inl (0, 40, cpyF md md2 40))) 56 (.inl (0, 40, cpyF my my2 40))) 57 (.inl (0, 40, cpyF mt mt2 40)))) noX := by
  refine mSem_of (own := RX3) (name := "copyFrom") pn_X3 rfl rfl (Nat.le_of_ble_eq_true rfl) ?_
  refine r_aload_n dX3_copyFrom_0 rfl rfl ?_
  refine r_aload_n dX3_copyFrom_1 rfl rfl ?_
  refine r_get (fs := [_, _, _, _, _, _, _, _, _, _, _]) dX3_copyFrom_2 fl_X3_9 (by decide) c40 rfl ?_
  refine r_put (fs := [_, _, _, _, _, _, _, _, _, _, _]) (fs2 := [_, _, _, _, _, _, _, _, _, _, _]) dX3_copyFrom_5 fp_X3_9 (by decide) c49 (nar_int _) (Nat.le_of_ble_eq_true rfl) rfl ?_
  refine r_aload_n dX3_copyFrom_8 rfl rfl ?_
  refine r_aload_n dX3_copyFrom_9 rfl rfl ?_
  refine r_get (fs := [_, _, _, _, _, _, _, _, _, _, _]) dX3_copyFrom_10 fl_X3_15 (by decide) c40 rfl ?_
  refine r_put (fs := [_, _, _, _, _, _, _, _, _, _, _]) (fs2 := [_, _, _, _, _, _, _, _, _, _, _]) dX3_copyFrom_13 fp_X3_15 (by decide) rfl (nar_int _) (Nat.le_of_ble_eq_true rfl) rfl ?_
  refine r_aload_n dX3_copyFrom_16 rfl rfl ?_
  refine r_aload_n dX3_copyFrom_17 rfl rfl ?_
  refine r_get (fs := [_, _, _, _, _, _, _, _, _, _, _]) dX3_copyFrom_18 fl_X3_18 (by decide) c40 rfl ?_
  refine r_put (fs := [_, _, _, _, _, _, _, _, _, _, _]) (fs2 := [_, _, _, _, _, _, _, _, _, _, _]) dX3_copyFrom_21 fp_X3_18 (by decide) rfl (nar_int _) (Nat.le_of_ble_eq_true rfl) rfl ?_
  refine r_aload_n dX3_copyFrom_24 rfl rfl ?_
  refine r_get (fs := [_, _, _, _, _, _, _, _, _, _, _]) dX3_copyFrom_25 fl_X3_21 (by decide) c40 rfl ?_
  refine r_iconst dX3_copyFrom_28 ?_
  refine r_aload_n dX3_copyFrom_29 rfl rfl ?_
  refine r_get (fs := [_, _, _, _, _, _, _, _, _, _, _]) dX3_copyFrom_30 fl_X3_21 (by decide) rfl rfl ?_
  refine r_iconst dX3_copyFrom_33 ?_
  refine r_bipush dX3_copyFrom_34 rfl ?_
  refine r_copy dX3_copyFrom_36 w_arraycopy (by decide) c41 c50 (by decide) (by decide) (by decide) (by decide) (Nat.le_of_ble_eq_true rfl) ?_
  refine r_aload_n dX3_copyFrom_39 rfl rfl ?_
  refine r_get (fs := [_, _, _, _, _, _, _, _, _, _, _]) dX3_copyFrom_40 fl_X3_25 (by decide) c40 rfl ?_
  refine r_iconst dX3_copyFrom_43 ?_
  refine r_aload_n dX3_copyFrom_44 rfl rfl ?_
  refine r_get (fs := [_, _, _, _, _, _, _, _, _, _, _]) dX3_copyFrom_45 fl_X3_25 (by decide) rfl rfl ?_
  refine r_iconst dX3_copyFrom_48 ?_
  refine r_bipush dX3_copyFrom_49 rfl ?_
  refine r_copy dX3_copyFrom_51 w_arraycopy (by decide) c42 c51 (by decide) (by decide) (by decide) (by decide) (Nat.le_of_ble_eq_true rfl) ?_
  refine r_aload_n dX3_copyFrom_54 rfl rfl ?_
  refine r_get (fs := [_, _, _, _, _, _, _, _, _, _, _]) dX3_copyFrom_55 fl_X3_28 (by decide) c40 rfl ?_
  refine r_iconst dX3_copyFrom_58 ?_
  refine r_aload_n dX3_copyFrom_59 rfl rfl ?_
  refine r_get (fs := [_, _, _, _, _, _, _, _, _, _, _]) dX3_copyFrom_60 fl_X3_28 (by decide) rfl rfl ?_
  refine r_iconst dX3_copyFrom_63 ?_
  refine r_bipush dX3_copyFrom_64 rfl ?_
  refine r_copy dX3_copyFrom_66 w_arraycopy (by decide) c43 c52 (by decide) (by decide) (by decide) (by decide) (Nat.le_of_ble_eq_true rfl) ?_
  refine r_aload_n dX3_copyFrom_69 rfl rfl ?_
  refine r_get (fs := [_, _, _, _, _, _, _, _, _, _, _]) dX3_copyFrom_70 fl_X3_31 (by decide) c40 rfl ?_
  refine r_iconst dX3_copyFrom_73 ?_
  refine r_aload_n dX3_copyFrom_74 rfl rfl ?_
  refine r_get (fs := [_, _, _, _, _, _, _, _, _, _, _]) dX3_copyFrom_75 fl_X3_31 (by decide) rfl rfl ?_
  refine r_iconst dX3_copyFrom_78 ?_
  refine r_bipush dX3_copyFrom_79 rfl ?_
  refine r_copy dX3_copyFrom_81 w_arraycopy (by decide) c44 c53 (by decide) (by decide) (by decide) (by decide) (Nat.le_of_ble_eq_true rfl) ?_
  refine r_aload_n dX3_copyFrom_84 rfl rfl ?_
  refine r_get (fs := [_, _, _, _, _, _, _, _, _, _, _]) dX3_copyFrom_85 fl_X3_34 (by decide) c40 rfl ?_
  refine r_iconst dX3_copyFrom_88 ?_
  refine r_aload_n dX3_copyFrom_89 rfl rfl ?_
  refine r_get (fs := [_, _, _, _, _, _, _, _, _, _, _]) dX3_copyFrom_90 fl_X3_34 (by decide) rfl rfl ?_
  refine r_iconst dX3_copyFrom_93 ?_
  refine r_bipush dX3_copyFrom_94 rfl ?_
  refine r_copy dX3_copyFrom_96 w_arraycopy (by decide) c45 c54 (by decide) (by decide) (by decide) (by decide) (Nat.le_of_ble_eq_true rfl) ?_
  refine r_aload_n dX3_copyFrom_99 rfl rfl ?_
  refine r_get (fs := [_, _, _, _, _, _, _, _, _, _, _]) dX3_copyFrom_100 fl_X3_37 (by decide) c40 rfl ?_
  refine r_iconst dX3_copyFrom_103 ?_
  refine r_aload_n dX3_copyFrom_104 rfl rfl ?_
  refine r_get (fs := [_, _, _, _, _, _, _, _, _, _, _]) dX3_copyFrom_105 fl_X3_37 (by decide) rfl rfl ?_
  refine r_iconst dX3_copyFrom_108 ?_
  refine r_bipush dX3_copyFrom_109 rfl ?_
  refine r_copy dX3_copyFrom_111 w_arraycopy (by decide) c46 c55 (by decide) (by decide) (by decide) (by decide) (Nat.le_of_ble_eq_true rfl) ?_
  refine r_aload_n dX3_copyFrom_114 rfl rfl ?_
  refine r_get (fs := [_, _, _, _, _, _, _, _, _, _, _]) dX3_copyFrom_115 fl_X3_40 (by decide) c40 rfl ?_
  refine r_iconst dX3_copyFrom_118 ?_
  refine r_aload_n dX3_copyFrom_119 rfl rfl ?_
  refine r_get (fs := [_, _, _, _, _, _, _, _, _, _, _]) dX3_copyFrom_120 fl_X3_40 (by decide) rfl rfl ?_
  refine r_iconst dX3_copyFrom_123 ?_
  refine r_bipush dX3_copyFrom_124 rfl ?_
  refine r_copy dX3_copyFrom_126 w_arraycopy (by decide) c47 c56 (by decide) (by decide) (by decide) (by decide) (Nat.le_of_ble_eq_true rfl) ?_
  refine r_aload_n dX3_copyFrom_129 rfl rfl ?_
  refine r_get (fs := [_, _, _, _, _, _, _, _, _, _, _]) dX3_copyFrom_130 fl_X3_43 (by decide) c40 rfl ?_
  refine r_iconst dX3_copyFrom_133 ?_
  refine r_aload_n dX3_copyFrom_134 rfl rfl ?_
  refine r_get (fs := [_, _, _, _, _, _, _, _, _, _, _]) dX3_copyFrom_135 fl_X3_43 (by decide) rfl rfl ?_
  refine r_iconst dX3_copyFrom_138 ?_
  refine r_bipush dX3_copyFrom_139 rfl ?_
  refine r_copy dX3_copyFrom_141 w_arraycopy (by decide) c48 c57 (by decide) (by decide) (by decide) (by decide) (Nat.le_of_ble_eq_true rfl) ?_
  refine r_vret dX3_copyFrom_144 ?_
  exact ⟨rfl, rfl, rfl⟩

theorem s_X3_copyFrom_40 {h : aH} {nr ns nm : Int} {rd ry rm rt se md my mt : Nat → Int} {nr2 ns2 nm2 : Int} {rd2 ry2 rm2 rt2 se2 md2 my2 mt2 : Nat → Int} (c49 : h 49 = .inr (3, [iv nr, iv ns, iv nm, .ref 50, .ref 51, .ref 52, .ref 53, .ref 54, .ref 55, .ref 56, .ref 57])) (c50 : h 50 = .inl (0, 12, rd)) (c51 : h 51 = .inl (0, 12, ry)) (c52 : h 52 = .inl (0, 12, rm)) (c53 : h 53 = .inl (0, 12, rt)) (c54 : h 54 = .inl (0, 9, se)) (c55 : h 55 = .inl (0, 40, md)) (c56 : h 56 = .inl (0, 40, my)) (c57 : h 57 = .inl (0, 40, mt)) (c40 : h 40 = .inr (3, [iv nr2, iv ns2, iv nm2, .ref 41, .ref 42, .ref 43, .ref 44, .ref 45, .ref 46, .ref 47, .ref 48])) (c41 : h 41 = .inl (0, 12, rd2)) (c42 : h 42 = .inl (0, 12, ry2)) (c43 : h 43 = .inl (0, 12, rm2)) (c44 : h 44 = .inl (0, 12, rt2)) (c45 : h 45 = .inl (0, 9, se2)) (c46 : h 46 = .inl (0, 40, md2)) (c47 : h 47 = .inl (0, 40, my2)) (c48 : h 48 = .inl (0, 40, mt2))  : mSem yX3_copyFrom cX3_copyFrom 2 none 1 0 0 [.ref 40, .ref 49] 97 h (RetV (va_up (va_up (va_up (va_up (va_up (va_up (va_up (va_up (va_up (va_up (va_up h 40 (.inr (3, [iv nr, iv ns2, iv nm2, .ref 41, .ref 42, .ref 43, .ref 44, .ref 45, .ref 46, .ref 47, .ref 48]))) 40 (.inr (3, [iv nr, iv ns, iv nm2, .ref 41, .ref 42, .ref 43, .ref 44, .ref 45, .ref 46, .ref 47, .ref 48]))) 40 (.inr (3, [iv nr, iv ns, iv nm, .ref 41, .ref 42, .ref 43, .ref 44, .ref 45, .ref 46, .ref 47, .ref 48]))) 41 (.inl (0, 12, cpyF rd rd2 12))) 42 (.inl (0, 12, cpyF ry ry2 12))) 43 (.inl (0, 12, cpyF rm rm2 12))) 44 (.inl (0, 12, cpyF rt rt2 12))) 45 (.inl (0, 9, cpyF se se2 9))) 46 (.inl (0, 40, cpyF md md2 40))) 47 (.inl (0, 40, cpyF my my2 40))) 48 (.inl (0, 40, cpyF mt mt2 40)))) noX := by
  refine mSem_of (own := RX3) (name := "copyFrom") pn_X3 rfl rfl (Nat.le_of_ble_eq_true rfl) ?_
  refine r_aload_n dX3_copyFrom_0 rfl rfl ?_
  refine r_aload_n dX3_copyFrom_1 rfl rfl ?_
  refine r_get (fs := [_, _, _, _, _, _, _, _, _, _, _]) dX3_copyFrom_2 fl_X3_9 (by decide) c49 rfl ?_
  refine r_put (fs := [_, _, _, _, _, _, _, _, _, _, _]) (fs2 := [_, _, _, _, _, _, _, _, _, _, _]) dX3_copyFrom_5 fp_X3_9 (by decide) c40 (nar_int _) (Nat.le_of_ble_eq_true rfl) rfl ?_
  refine r_aload_n dX3_copyFrom_8 rfl rfl ?_
  refine r_aload_n dX3_copyFrom_9 rfl rfl ?_
  refine r_get (fs := [_, _, _, _, _, _, _, _, _, _, _]) dX3_copyFrom_10 fl_X3_15 (by decide) c49 rfl ?_
  refine r_put (fs := [_, _, _, _, _, _, _, _, _, _, _]) (fs2 := [_, _, _, _, _, _, _, _, _, _, _]) dX3_copyFrom_13 fp_X3_15 (by decide) rfl (nar_int _) (Nat.le_of_ble_eq_true rfl) rfl ?_
  refine r_aload_n dX3_copyFrom_16 rfl rfl ?_
  refine r_aload_n dX3_copyFrom_17 rfl rfl ?_
  refine r_get (fs := [_, _, _, _, _, _, _, _, _, _, _]) dX3_copyFrom_18 fl_X3_18 (by decide) c49 rfl ?_
  refine r_put (fs := [_, _, _, _, _, _, _, _, _, _, _]) (fs2 := [_, _, _, _, _, _, _, _, _, _, _]) dX3_copyFrom_21 fp_X3_18 (by decide) rfl (nar_int _) (Nat.le_of_ble_eq_true rfl) rfl ?_
  refine r_aload_n dX3_copyFrom_24 rfl rfl ?_
  refine r_get (fs := [_, _, _, _, _, _, _, _, _, _, _]) dX3_copyFrom_25 fl_X3_21 (by decide) c49 rfl ?_
  refine r_iconst dX3_copyFrom_28 ?_
  refine r_aload_n dX3_copyFrom_29 rfl rfl ?_
  refine r_get (fs := [_, _, _, _, _, _, _, _, _, _, _]) dX3_copyFrom_30 fl_X3_21 (by decide) rfl rfl ?_
  refine r_iconst dX3_copyFrom_33 ?_
  refine r_bipush dX3_copyFrom_34 rfl ?_
  refine r_copy dX3_copyFrom_36 w_arraycopy (by decide) c50 c41 (by decide) (by decide) (by decide) (by decide) (Nat.le_of_ble_eq_true rfl) ?_
  refine r_aload_n dX3_copyFrom_39 rfl rfl ?_
  refine r_get (fs := [_, _, _, _, _, _, _, _, _, _, _]) dX3_copyFrom_40 fl_X3_25 (by decide) c49 rfl ?_
  refine r_iconst dX3_copyFrom_43 ?_
  refine r_aload_n dX3_copyFrom_44 rfl rfl ?_
  refine r_get (fs := [_, _, _, _, _, _, _, _, _, _, _]) dX3_copyFrom_45 fl_X3_25 (by decide) rfl rfl ?_
  refine r_iconst dX3_copyFrom_48 ?_
  refine r_bipush dX3_copyFrom_49 rfl ?_
  refine r_copy dX3_copyFrom_51 w_arraycopy (by decide) c51 c42 (by decide) (by decide) (by decide) (by decide) (Nat.le_of_ble_eq_true rfl) ?_
  refine r_aload_n dX3_copyFrom_54 rfl rfl ?_
  refine r_get (fs := [_, _, _, _, _, _, _, _, _, _, _]) dX3_copyFrom_55 fl_X3_28 (by decide) c49 rfl ?_
  refine r_iconst dX3_copyFrom_58 ?_
  refine r_aload_n dX3_copyFrom_59 rfl rfl ?_
  refine r_get (fs := [_, _, _, _, _, _, _, _, _, _, _]) dX3_copyFrom_60 fl_X3_28 (by decide) rfl rfl ?_
  refine r_iconst dX3_copyFrom_63 ?_
  refine r_bipush dX3_copyFrom_64 rfl ?_
  refine r_copy dX3_copyFrom_66 w_arraycopy (by decide) c52 c43 (by decide) (by decide) (by decide) (by decide) (Nat.le_of_ble_eq_true rfl) ?_
  refine r_aload_n dX3_copyFrom_69 rfl rfl ?_
  refine r_get (fs := [_, _, _, _, _, _, _, _, _, _, _]) dX3_copyFrom_70 fl_X3_31 (by decide) c49 rfl ?_
  refine r_iconst dX3_copyFrom_73 ?_
  refine r_aload_n dX3_copyFrom_74 rfl rfl ?_
  refine r_get (fs := [_, _, _, _, _, _, _, _, _, _, _]) dX3_copyFrom_75 fl_X3_31 (by decide) rfl rfl ?_
  refine r_iconst dX3_copyFrom_78 ?_
  refine r_bipush dX3_copyFrom_79 rfl ?_
  refine r_copy dX3_copyFrom_81 w_arraycopy (by decide) c53 c44 (by decide) (by decide) (by decide) (by decide) (Nat.le_of_ble_eq_true rfl) ?_
  refine r_aload_n dX3_copyFrom_84 rfl rfl ?_
  refine r_get (fs := [_, _, _, _, _, _, _, _, _, _, _]) dX3_copyFrom_85 fl_X3_34 (by decide) c49 rfl ?_
  refine r_iconst dX3_copyFrom_88 ?_
  refine r_aload_n dX3_copyFrom_89 rfl rfl ?_
  refine r_get (fs := [_, _, _, _, _, _, _, _, _, _, _]) dX3_copyFrom_90 fl_X3_34 (by decide) rfl rfl ?_
  refine r_iconst dX3_copyFrom_93 ?_
  refine r_bipush dX3_copyFrom_94 rfl ?_
  refine r_copy dX3_copyFrom_96 w_arraycopy (by decide) c54 c45 (by decide) (by decide) (by decide) (by decide) (Nat.le_of_ble_eq_true rfl) ?_
  refine r_aload_n dX3_copyFrom_99 rfl rfl ?_
  refine r_get (fs := [_, _, _, _, _, _, _, _, _, _, _]) dX3_copyFrom_100 fl_X3_37 (by decide) c49 rfl ?_
  refine r_iconst dX3_copyFrom_103 ?_
  refine r_aload_n dX3_copyFrom_104 rfl rfl ?_
  refine r_get (fs := [_, _, _, _, _, _, _, _, _, _, _]) dX3_copyFrom_105 fl_X3_37 (by decide) rfl rfl ?_
  refine r_iconst dX3_copyFrom_108 ?_
  refine r_bipush dX3_copyFrom_109 rfl ?_
  refine r_copy dX3_copyFrom_111 w_arraycopy (by decide) c55 c46 (by decide) (by decide) (by decide) (by decide) (Nat.le_of_ble_eq_true rfl) ?_
  refine r_aload_n dX3_copyFrom_114 rfl rfl ?_
  refine r_get (fs := [_, _, _, _, _, _, _, _, _, _, _]) dX3_copyFrom_115 fl_X3_40 (by decide) c49 rfl ?_
  refine r_iconst dX3_copyFrom_118 ?_
  refine r_aload_n dX3_copyFrom_119 rfl rfl ?_
  refine r_get (fs := [_, _, _, _, _, _, _, _, _, _, _]) dX3_copyFrom_120 fl_X3_40 (by decide) rfl rfl ?_
  refine r_iconst dX3_copyFrom_123 ?_
  refine r_bipush dX3_copyFrom_124 rfl ?_
  refine r_copy dX3_copyFrom_126 w_arraycopy (by decide) c56 c47 (by decide) (by decide) (by decide) (by decide) (Nat.le_of_ble_eq_true rfl) ?_
  refine r_aload_n dX3_copyFrom_129 rfl rfl ?_
  refine r_get (fs := [_, _, _, _, _, _, _, _, _, _, _]) dX3_copyFrom_130 fl_X3_43 (by decide) c49 rfl ?_
  refine r_iconst dX3_copyFrom_133 ?_
  refine r_aload_n dX3_copyFrom_134 rfl rfl ?_
  refine r_get (fs := [_, _, _, _, _, _, _, _, _, _, _]) dX3_copyFrom_135 fl_X3_43 (by decide) rfl rfl ?_
  refine r_iconst dX3_copyFrom_138 ?_
  refine r_bipush dX3_copyFrom_139 rfl ?_
  refine r_copy dX3_copyFrom_141 w_arraycopy (by decide) c57 c48 (by decide) (by decide) (by decide) (by decide) (Nat.le_of_ble_eq_true rfl) ?_
  refine r_vret dX3_copyFrom_144 ?_
  exact ⟨rfl, rfl, rfl⟩

abbrev TAL (t : Int × Int × Int × Int) (s : Int × Int × Int) (dr : Int) : aE := .inr (7, [iv t.1, iv t.2.1, iv t.2.2.1, iv t.2.2.2, iv s.1, iv s.2.1, iv s.2.2, iv dr, .ref 63, .ref 64])
def t0 : Int × Int × Int × Int := (0, 0, -1, -1)
def s0 : Int × Int × Int := (0, -1, -1)
def tAdd (t : Int × Int × Int × Int) (day told m : Int) : Int × Int × Int × Int := if told = -1 then t else (t.1 + 1, t.2.1 + wrongI told m, if t.2.2.2 < wrongI told m then day else t.2.2.1, if t.2.2.2 < wrongI told m then wrongI told m else t.2.2.2)
def mAdd (s : Int × Int × Int) (m : Int) : Int × Int × Int := (s.1 + 1, if s.2.1 = -1 then m else min s.2.1 m, max s.2.2 m)
theorem wrong_B {a b : Int} (ha : 0 ≤ a ∧ a < 1440) (hb : 0 ≤ b ∧ b < 1440) : 0 ≤ wrongI a b ∧ wrongI a b ≤ 720 := by unfold wrongI; omega

theorem s_X7_clear {h : aH} {t : Int × Int × Int × Int} {s : Int × Int × Int} {dr : Int} (c62 : h 62 = TAL t s dr)  : mSem yX7_clear cX7_clear 1 none 0 0 0 [.ref 62] 97 h (RetV (va_up h 62 (TAL t0 s0 dr))) noX := by
  refine mSem_of (own := RX7) (name := "clear") pn_X7 rfl rfl (Nat.le_of_ble_eq_true rfl) ?_
  refine r_aload_n dX7_clear_0 rfl rfl ?_
  refine r_iconst dX7_clear_1 ?_
  refine r_put (fs := [_, _, _, _, _, _, _, _, _, _]) (fs2 := [_, _, _, _, _, _, _, _, _, _]) dX7_clear_2 fp_X7_9 (by decide) c62 (nar_int _) (Nat.le_of_ble_eq_true rfl) rfl ?_
  refine r_aload_n dX7_clear_5 rfl rfl ?_
  refine r_iconst dX7_clear_6 ?_
  refine r_put (fs := [_, _, _, _, _, _, _, _, _, _]) (fs2 := [_, _, _, _, _, _, _, _, _, _]) dX7_clear_7 fp_X7_15 (by decide) rfl (nar_int _) (Nat.le_of_ble_eq_true rfl) rfl ?_
  refine r_aload_n dX7_clear_10 rfl rfl ?_
  refine r_iconst dX7_clear_11 ?_
  refine r_put (fs := [_, _, _, _, _, _, _, _, _, _]) (fs2 := [_, _, _, _, _, _, _, _, _, _]) dX7_clear_12 fp_X7_18 (by decide) rfl (nar_int _) (Nat.le_of_ble_eq_true rfl) rfl ?_
  refine r_aload_n dX7_clear_15 rfl rfl ?_
  refine r_iconst dX7_clear_16 ?_
  refine r_put (fs := [_, _, _, _, _, _, _, _, _, _]) (fs2 := [_, _, _, _, _, _, _, _, _, _]) dX7_clear_17 fp_X7_21 (by decide) rfl (nar_int _) (Nat.le_of_ble_eq_true rfl) rfl ?_
  refine r_aload_n dX7_clear_20 rfl rfl ?_
  refine r_iconst dX7_clear_21 ?_
  refine r_put (fs := [_, _, _, _, _, _, _, _, _, _]) (fs2 := [_, _, _, _, _, _, _, _, _, _]) dX7_clear_22 fp_X7_24 (by decide) rfl (nar_int _) (Nat.le_of_ble_eq_true rfl) rfl ?_
  refine r_aload_n dX7_clear_25 rfl rfl ?_
  refine r_iconst dX7_clear_26 ?_
  refine r_put (fs := [_, _, _, _, _, _, _, _, _, _]) (fs2 := [_, _, _, _, _, _, _, _, _, _]) dX7_clear_27 fp_X7_27 (by decide) rfl (nar_int _) (Nat.le_of_ble_eq_true rfl) rfl ?_
  refine r_aload_n dX7_clear_30 rfl rfl ?_
  refine r_iconst dX7_clear_31 ?_
  refine r_put (fs := [_, _, _, _, _, _, _, _, _, _]) (fs2 := [_, _, _, _, _, _, _, _, _, _]) dX7_clear_32 fp_X7_30 (by decide) rfl (nar_int _) (Nat.le_of_ble_eq_true rfl) rfl ?_
  refine r_vret dX7_clear_35 ?_
  exact ⟨rfl, rfl, by simp only [bx_uu]; rfl⟩

theorem s_X7_add {h : aH} {t : Int × Int × Int × Int} {s : Int × Int × Int} {dr : Int} (c62 : h 62 = TAL t s dr) {day told m : Int} (hto : -1 ≤ told ∧ told < 1440) (hm : 0 ≤ m ∧ m < 1440) (hw : -1 ≤ t.2.2.2 ∧ t.2.2.2 ≤ 720) : mSem yX7_add cX7_add 5 none 2 0 0 [.ref 62, iv day, iv told, iv m] 97 h (RetV (va_up h 62 (TAL (tAdd t day told m) s dr))) noX := by
  refine mSem_of (own := RX7) (name := "add") pn_X7 rfl rfl (Nat.le_of_ble_eq_true rfl) ?_
  refine r_iload_n dX7_add_0 rfl rfl ?_
  refine r_iconst dX7_add_1 ?_
  refine r_icmp_ne (tgt := 6) dX7_add_2 (by decide) ⟨by omega, by omega⟩ ⟨by omega, by omega⟩ (fun g2 => ?_) (fun g2 => ?_)
  · have bw := wrong_B (a := told) (b := m) (by omega) hm
    refine r_iload_n dX7_add_6 rfl rfl ?_
    refine r_iload_n dX7_add_7 rfl rfl ?_
    refine r_callSN (np := 2) [_, _] (s_X8_wrongBy (by omega) (by omega)) dX7_add_8 "LyingDials" (by decide +kernel) cd_X8_wrongBy ini_X8 ⟨by decide +kernel, by decide +kernel, by decide +kernel⟩ (by decide) sm_X8_wrongBy (by decide) (by decide) (by decide) rfl rfl (Nat.le_of_ble_eq_true rfl) (fun v n2 h2 q => ?_)
    obtain ⟨rfl, rfl, hh⟩ := q
    obtain rfl := hh.symm
    refine ⟨rfl, ?_⟩
    dsimp only [Option.toList, List.cons_append, List.nil_append]
    refine r_istore (lv2 := [(0, _), (1, _), (2, _), (3, _), (4, _)]) dX7_add_11 (by decide) rfl rfl ?_
    refine r_aload_n dX7_add_13 rfl rfl ?_
    refine r_dup dX7_add_14 rfl ?_
    refine r_get (fs := [_, _, _, _, _, _, _, _, _, _]) dX7_add_15 fl_X7_9 (by decide) c62 rfl ?_
    refine r_iconst dX7_add_18 ?_
    refine r_iadd dX7_add_19 ?_
    refine r_put (fs := [_, _, _, _, _, _, _, _, _, _]) (fs2 := [_, _, _, _, _, _, _, _, _, _]) dX7_add_20 fp_X7_9 (by decide) c62 (nar_int _) (Nat.le_of_ble_eq_true rfl) rfl ?_
    refine r_aload_n dX7_add_23 rfl rfl ?_
    refine r_dup dX7_add_24 rfl ?_
    refine r_get (fs := [_, _, _, _, _, _, _, _, _, _]) dX7_add_25 fl_X7_15 (by decide) rfl rfl ?_
    refine r_iload dX7_add_28 rfl ?_
    refine r_iadd dX7_add_30 ?_
    refine r_put (fs := [_, _, _, _, _, _, _, _, _, _]) (fs2 := [_, _, _, _, _, _, _, _, _, _]) dX7_add_31 fp_X7_15 (by decide) rfl (nar_int _) (Nat.le_of_ble_eq_true rfl) rfl ?_
    refine r_iload dX7_add_34 rfl ?_
    refine r_aload_n dX7_add_36 rfl rfl ?_
    refine r_get (fs := [_, _, _, _, _, _, _, _, _, _]) dX7_add_37 fl_X7_21 (by decide) rfl rfl ?_
    refine r_icmp_le (tgt := 54) dX7_add_40 (by decide) ⟨by omega, by omega⟩ ⟨by omega, by omega⟩ (fun g40 => ?_) (fun g40 => ?_)
    · refine r_vret dX7_add_54 ?_
      exact ⟨rfl, rfl, by unfold tAdd; rw [if_neg g2]; simp only [bx_uu]; first | rw [if_pos (by omega), if_pos (by omega)] | rw [if_neg (by omega), if_neg (by omega)]⟩
    · refine r_aload_n dX7_add_43 rfl rfl ?_
      refine r_iload dX7_add_44 rfl ?_
      refine r_put (fs := [_, _, _, _, _, _, _, _, _, _]) (fs2 := [_, _, _, _, _, _, _, _, _, _]) dX7_add_46 fp_X7_21 (by decide) rfl (nar_int _) (Nat.le_of_ble_eq_true rfl) rfl ?_
      refine r_aload_n dX7_add_49 rfl rfl ?_
      refine r_iload_n dX7_add_50 rfl rfl ?_
      refine r_put (fs := [_, _, _, _, _, _, _, _, _, _]) (fs2 := [_, _, _, _, _, _, _, _, _, _]) dX7_add_51 fp_X7_18 (by decide) rfl (nar_int _) (Nat.le_of_ble_eq_true rfl) rfl ?_
      refine r_vret dX7_add_54 ?_
      exact ⟨rfl, rfl, by unfold tAdd; rw [if_neg g2]; simp only [bx_uu]; first | rw [if_pos (by omega), if_pos (by omega)] | rw [if_neg (by omega), if_neg (by omega)]⟩
  · refine r_vret dX7_add_5 ?_
    exact ⟨rfl, rfl, by unfold tAdd; rw [if_pos g2]; exact up_same c62⟩

theorem s_X7_addMinute {h : aH} {t : Int × Int × Int × Int} {s : Int × Int × Int} {dr : Int} (c62 : h 62 = TAL t s dr) {m : Int} (hm : 0 ≤ m ∧ m < 1440) (hs : -1 ≤ s.2.1 ∧ s.2.1 < 1440) (hs2 : -1 ≤ s.2.2 ∧ s.2.2 < 1440) : mSem yX7_addMinute cX7_addMinute 2 none 1 0 0 [.ref 62, iv m] 97 h (RetV (va_up h 62 (TAL t (mAdd s m) dr))) noX := by
  refine mSem_of (own := RX7) (name := "addMinute") pn_X7 rfl rfl (Nat.le_of_ble_eq_true rfl) ?_
  refine r_aload_n dX7_addMinute_0 rfl rfl ?_
  refine r_dup dX7_addMinute_1 rfl ?_
  refine r_get (fs := [_, _, _, _, _, _, _, _, _, _]) dX7_addMinute_2 fl_X7_24 (by decide) c62 rfl ?_
  refine r_iconst dX7_addMinute_5 ?_
  refine r_iadd dX7_addMinute_6 ?_
  refine r_put (fs := [_, _, _, _, _, _, _, _, _, _]) (fs2 := [_, _, _, _, _, _, _, _, _, _]) dX7_addMinute_7 fp_X7_24 (by decide) c62 (nar_int _) (Nat.le_of_ble_eq_true rfl) rfl ?_
  refine r_aload_n dX7_addMinute_10 rfl rfl ?_
  refine r_aload_n dX7_addMinute_11 rfl rfl ?_
  refine r_get (fs := [_, _, _, _, _, _, _, _, _, _]) dX7_addMinute_12 fl_X7_27 (by decide) rfl rfl ?_
  refine r_iconst dX7_addMinute_15 ?_
  refine r_icmp_ne (tgt := 23) dX7_addMinute_16 (by decide) ⟨by omega, by omega⟩ ⟨by omega, by omega⟩ (fun g16 => ?_) (fun g16 => ?_)
  · refine r_aload_n dX7_addMinute_23 rfl rfl ?_
    refine r_get (fs := [_, _, _, _, _, _, _, _, _, _]) dX7_addMinute_24 fl_X7_27 (by decide) rfl rfl ?_
    refine r_iload_n dX7_addMinute_27 rfl rfl ?_
    refine r_callS [_, _] (s_J9_min_7cf53 ⟨by omega, by omega⟩ ⟨by omega, by omega⟩) dX7_addMinute_28 cs_X7_47 sm_J9_min_7cf53 (by decide) (by decide) (by decide) rfl rfl (Nat.le_of_ble_eq_true rfl) (fun _ _ _ q => q.elim) (fun v n2 h2 q => ?_)
    obtain ⟨rfl, rfl, hh⟩ := q
    obtain rfl := hh.symm
    refine ⟨rfl, ?_⟩
    dsimp only [Option.toList, List.cons_append, List.nil_append]
    refine r_put (fs := [_, _, _, _, _, _, _, _, _, _]) (fs2 := [_, _, _, _, _, _, _, _, _, _]) dX7_addMinute_31 fp_X7_27 (by decide) rfl (nar_int _) (Nat.le_of_ble_eq_true rfl) rfl ?_
    refine r_aload_n dX7_addMinute_34 rfl rfl ?_
    refine r_aload_n dX7_addMinute_35 rfl rfl ?_
    refine r_get (fs := [_, _, _, _, _, _, _, _, _, _]) dX7_addMinute_36 fl_X7_30 (by decide) rfl rfl ?_
    refine r_iload_n dX7_addMinute_39 rfl rfl ?_
    refine r_callS [_, _] (s_J9_max_7cf53 ⟨by omega, by omega⟩ ⟨by omega, by omega⟩) dX7_addMinute_40 cs_X7_52 sm_J9_max_7cf53 (by decide) (by decide) (by decide) rfl rfl (Nat.le_of_ble_eq_true rfl) (fun _ _ _ q => q.elim) (fun v n2 h2 q => ?_)
    obtain ⟨rfl, rfl, hh⟩ := q
    obtain rfl := hh.symm
    refine ⟨rfl, ?_⟩
    dsimp only [Option.toList, List.cons_append, List.nil_append]
    refine r_put (fs := [_, _, _, _, _, _, _, _, _, _]) (fs2 := [_, _, _, _, _, _, _, _, _, _]) dX7_addMinute_43 fp_X7_30 (by decide) rfl (nar_int _) (Nat.le_of_ble_eq_true rfl) rfl ?_
    refine r_vret dX7_addMinute_46 ?_
    exact ⟨rfl, rfl, by unfold mAdd; simp only [bx_uu]; first | rw [if_pos g16] | rw [if_neg g16]⟩
  · refine r_iload_n dX7_addMinute_19 rfl rfl ?_
    refine r_goto (tgt := 31) dX7_addMinute_20 (by decide) ?_
    refine r_put (fs := [_, _, _, _, _, _, _, _, _, _]) (fs2 := [_, _, _, _, _, _, _, _, _, _]) dX7_addMinute_31 fp_X7_27 (by decide) rfl (nar_int _) (Nat.le_of_ble_eq_true rfl) rfl ?_
    refine r_aload_n dX7_addMinute_34 rfl rfl ?_
    refine r_aload_n dX7_addMinute_35 rfl rfl ?_
    refine r_get (fs := [_, _, _, _, _, _, _, _, _, _]) dX7_addMinute_36 fl_X7_30 (by decide) rfl rfl ?_
    refine r_iload_n dX7_addMinute_39 rfl rfl ?_
    refine r_callS [_, _] (s_J9_max_7cf53 ⟨by omega, by omega⟩ ⟨by omega, by omega⟩) dX7_addMinute_40 cs_X7_52 sm_J9_max_7cf53 (by decide) (by decide) (by decide) rfl rfl (Nat.le_of_ble_eq_true rfl) (fun _ _ _ q => q.elim) (fun v n2 h2 q => ?_)
    obtain ⟨rfl, rfl, hh⟩ := q
    obtain rfl := hh.symm
    refine ⟨rfl, ?_⟩
    dsimp only [Option.toList, List.cons_append, List.nil_append]
    refine r_put (fs := [_, _, _, _, _, _, _, _, _, _]) (fs2 := [_, _, _, _, _, _, _, _, _, _]) dX7_addMinute_43 fp_X7_30 (by decide) rfl (nar_int _) (Nat.le_of_ble_eq_true rfl) rfl ?_
    refine r_vret dX7_addMinute_46 ?_
    exact ⟨rfl, rfl, by unfold mAdd; simp only [bx_uu]; first | rw [if_pos g16] | rw [if_neg g16]⟩

theorem s_X7_addAllMinutes {h : aH} {t : Int × Int × Int × Int} {s : Int × Int × Int} {dr : Int} (c62 : h 62 = TAL t s dr)  : mSem yX7_addAllMinutes cX7_addAllMinutes 1 none 0 0 0 [.ref 62] 97 h (RetV (va_up h 62 (TAL t (1440, 0, 1439) dr))) noX := by
  refine mSem_of (own := RX7) (name := "addAllMinutes") pn_X7 rfl rfl (Nat.le_of_ble_eq_true rfl) ?_
  refine r_aload_n dX7_addAllMinutes_0 rfl rfl ?_
  refine r_sipush dX7_addAllMinutes_1 rfl ?_
  refine r_put (fs := [_, _, _, _, _, _, _, _, _, _]) (fs2 := [_, _, _, _, _, _, _, _, _, _]) dX7_addAllMinutes_4 fp_X7_24 (by decide) c62 (nar_int _) (Nat.le_of_ble_eq_true rfl) rfl ?_
  refine r_aload_n dX7_addAllMinutes_7 rfl rfl ?_
  refine r_iconst dX7_addAllMinutes_8 ?_
  refine r_put (fs := [_, _, _, _, _, _, _, _, _, _]) (fs2 := [_, _, _, _, _, _, _, _, _, _]) dX7_addAllMinutes_9 fp_X7_27 (by decide) rfl (nar_int _) (Nat.le_of_ble_eq_true rfl) rfl ?_
  refine r_aload_n dX7_addAllMinutes_12 rfl rfl ?_
  refine r_sipush dX7_addAllMinutes_13 rfl ?_
  refine r_put (fs := [_, _, _, _, _, _, _, _, _, _]) (fs2 := [_, _, _, _, _, _, _, _, _, _]) dX7_addAllMinutes_16 fp_X7_30 (by decide) rfl (nar_int _) (Nat.le_of_ble_eq_true rfl) rfl ?_
  refine r_vret dX7_addAllMinutes_19 ?_
  exact ⟨rfl, rfl, by simp only [bx_uu]⟩

theorem s_X7_clearTurns {h : aH} {t : Int × Int × Int × Int} {s : Int × Int × Int} {dr : Int} (c62 : h 62 = TAL t s dr) {f : Nat → Int} (c63 : h 63 = .inl (0, 242, f))  : mSem yX7_clearTurns cX7_clearTurns 1 none 1 0 0 [.ref 62] 97 h (RetV (va_up (va_up h 62 (TAL t s 0)) 63 (.inl (0, 242, fillF f 0 242)))) noX := by
  refine mSem_of (own := RX7) (name := "clearTurns") pn_X7 rfl rfl (Nat.le_of_ble_eq_true rfl) ?_
  refine r_aload_n dX7_clearTurns_0 rfl rfl ?_
  refine r_iconst dX7_clearTurns_1 ?_
  refine r_put (fs := [_, _, _, _, _, _, _, _, _, _]) (fs2 := [_, _, _, _, _, _, _, _, _, _]) dX7_clearTurns_2 fp_X7_33 (by decide) c62 (nar_int _) (Nat.le_of_ble_eq_true rfl) rfl ?_
  refine r_aload_n dX7_clearTurns_5 rfl rfl ?_
  refine r_get (fs := [_, _, _, _, _, _, _, _, _, _]) dX7_clearTurns_6 fl_X7_36 (by decide) rfl rfl ?_
  refine r_iconst dX7_clearTurns_9 ?_
  refine r_callS [.ref 63, _] (s_fill_63 (by exact c63)) dX7_clearTurns_10 cs_X7_55 sm_J7_fill_53178 (by decide) (by decide) (by decide) rfl rfl (Nat.le_of_ble_eq_true rfl) (fun _ _ _ q => q.elim) (fun v n2 h2 q => ?_)
  obtain ⟨rfl, rfl, hh⟩ := q
  obtain rfl := hh.symm
  refine ⟨rfl, ?_⟩
  dsimp only [Option.toList, List.cons_append, List.nil_append]
  refine r_vret dX7_clearTurns_13 ?_
  exact ⟨rfl, rfl, rfl⟩

def tsAdd (f : Nat → Int) (fr to : Int) : Nat → Int := if max fr (-120) ≤ min to 120 then va_up (va_up f (max fr (-120) + 120).toNat (f (max fr (-120) + 120).toNat + 1)) (min to 120 + 120 + 1).toNat ((va_up f (max fr (-120) + 120).toNat (f (max fr (-120) + 120).toNat + 1)) (min to 120 + 120 + 1).toNat - 1) else f

theorem s_X7_addTurns {h : aH} {t : Int × Int × Int × Int} {s : Int × Int × Int} {dr : Int} (c62 : h 62 = TAL t s dr) {f : Nat → Int} (c63 : h 63 = .inl (0, 242, f)) {fr to : Int} (hf : -10000 ≤ fr ∧ fr ≤ 10000) (ht : -10000 ≤ to ∧ to ≤ 10000) : mSem yX7_addTurns cX7_addTurns 5 none 1 0 0 [.ref 62, iv fr, iv to] 97 h (RetV (va_up h 63 (.inl (0, 242, tsAdd f fr to)))) noX := by
  refine mSem_of (own := RX7) (name := "addTurns") pn_X7 rfl rfl (Nat.le_of_ble_eq_true rfl) ?_
  refine r_iload_n dX7_addTurns_0 rfl rfl ?_
  refine r_bipush dX7_addTurns_1 rfl ?_
  refine r_callS [_, _] (s_J9_max_7cf53 ⟨by omega, by omega⟩ ⟨by omega, by omega⟩) dX7_addTurns_3 cs_X7_52 sm_J9_max_7cf53 (by decide) (by decide) (by decide) rfl rfl (Nat.le_of_ble_eq_true rfl) (fun _ _ _ q => q.elim) (fun v n2 h2 q => ?_)
  obtain ⟨rfl, rfl, hh⟩ := q
  obtain rfl := hh.symm
  refine ⟨rfl, ?_⟩
  dsimp only [Option.toList, List.cons_append, List.nil_append]
  refine r_istore_n (lv2 := [(0, _), (1, _), (2, _), (3, _)]) dX7_addTurns_6 rfl (by decide) rfl rfl ?_
  refine r_iload_n dX7_addTurns_7 rfl rfl ?_
  refine r_bipush dX7_addTurns_8 rfl ?_
  refine r_callS [_, _] (s_J9_min_7cf53 ⟨by omega, by omega⟩ ⟨by omega, by omega⟩) dX7_addTurns_10 cs_X7_47 sm_J9_min_7cf53 (by decide) (by decide) (by decide) rfl rfl (Nat.le_of_ble_eq_true rfl) (fun _ _ _ q => q.elim) (fun v n2 h2 q => ?_)
  obtain ⟨rfl, rfl, hh⟩ := q
  obtain rfl := hh.symm
  refine ⟨rfl, ?_⟩
  dsimp only [Option.toList, List.cons_append, List.nil_append]
  refine r_istore (lv2 := [(0, _), (1, _), (2, _), (3, _), (4, _)]) dX7_addTurns_13 (by decide) rfl rfl ?_
  refine r_iload_n dX7_addTurns_15 rfl rfl ?_
  refine r_iload dX7_addTurns_16 rfl ?_
  refine r_icmp_gt (tgt := 50) dX7_addTurns_18 (by decide) ⟨by omega, by omega⟩ ⟨by omega, by omega⟩ (fun g18 => ?_) (fun g18 => ?_)
  · refine r_vret dX7_addTurns_50 ?_
    exact ⟨rfl, rfl, by unfold tsAdd; first | (rw [if_neg (by omega)]; exact up_same c63) | (rw [if_pos (by omega), bx_uu])⟩
  · refine r_aload_n dX7_addTurns_21 rfl rfl ?_
    refine r_get (fs := [_, _, _, _, _, _, _, _, _, _]) dX7_addTurns_22 fl_X7_36 (by decide) c62 rfl ?_
    refine r_iload_n dX7_addTurns_25 rfl rfl ?_
    refine r_bipush dX7_addTurns_26 rfl ?_
    refine r_iadd dX7_addTurns_28 ?_
    refine r_dup2 dX7_addTurns_29 rfl rfl ?_
    refine r_ald dX7_addTurns_30 (by decide) c63 (by omega) (by omega) (by decide) ?_
    refine r_iconst dX7_addTurns_31 ?_
    refine r_iadd dX7_addTurns_32 ?_
    refine r_ast dX7_addTurns_33 (by decide) c63 (by omega) (by omega) (by decide) ?_
    refine r_aload_n dX7_addTurns_34 rfl rfl ?_
    refine r_get (fs := [_, _, _, _, _, _, _, _, _, _]) dX7_addTurns_35 fl_X7_36 (by decide) c62 rfl ?_
    refine r_iload dX7_addTurns_38 rfl ?_
    refine r_bipush dX7_addTurns_40 rfl ?_
    refine r_iadd dX7_addTurns_42 ?_
    refine r_iconst dX7_addTurns_43 ?_
    refine r_iadd dX7_addTurns_44 ?_
    refine r_dup2 dX7_addTurns_45 rfl rfl ?_
    refine r_ald dX7_addTurns_46 (by decide) rfl (by omega) (by omega) (by decide) ?_
    refine r_iconst dX7_addTurns_47 ?_
    refine r_isub dX7_addTurns_48 ?_
    refine r_ast dX7_addTurns_49 (by decide) rfl (by omega) (by omega) (by decide) ?_
    refine r_vret dX7_addTurns_50 ?_
    exact ⟨rfl, rfl, by unfold tsAdd; first | (rw [if_neg (by omega)]; exact up_same c63) | (rw [if_pos (by omega), bx_uu])⟩

/-- bestTurn's state behind k turns: the chosen one, the height, the most days -/
def btS (own : Int) (f : Nat → Int) : Nat → Int × Int × Int
  | 0 => (-1, 0, -1)
  | k + 1 =>
    if (btS own f k).2.2 < (btS own f k).2.1 + f k ∨ ((btS own f k).2.1 + f k = (btS own f k).2.2 ∧ (((k : Int) - 120 - own).natAbs : Int) < (((btS own f k).1 - own).natAbs : Int)) then ((k : Int) - 120, (btS own f k).2.1 + f k, (btS own f k).2.1 + f k) else ((btS own f k).1, (btS own f k).2.1 + f k, (btS own f k).2.2)
theorem btS_s (own : Int) (f : Nat → Int) (k : Nat) : btS own f (k + 1) = if (btS own f k).2.2 < (btS own f k).2.1 + f k ∨ ((btS own f k).2.1 + f k = (btS own f k).2.2 ∧ (((k : Int) - 120 - own).natAbs : Int) < (((btS own f k).1 - own).natAbs : Int)) then ((k : Int) - 120, (btS own f k).2.1 + f k, (btS own f k).2.1 + f k) else ((btS own f k).1, (btS own f k).2.1 + f k, (btS own f k).2.2) := rfl
def pSum (f : Nat → Int) : Nat → Int
  | 0 => 0
  | k + 1 => pSum f k + f k
theorem btS_B {own : Int} {f : Nat → Int} (hp : ∀ k, k ≤ 241 → -1000000 ≤ pSum f k ∧ pSum f k ≤ 1000000) : ∀ k, k ≤ 241 → (btS own f k).2.1 = pSum f k ∧ (-1000000 ≤ (btS own f k).2.2 ∧ (btS own f k).2.2 ≤ 1000000) ∧ -121 ≤ (btS own f k).1 ∧ (btS own f k).1 ≤ 121 := by
  intro k
  induction k with
  | zero => intro _; simp [btS, pSum]
  | succ k ih =>
    intro hk
    obtain ⟨h1, h2, h3⟩ := ih (by omega)
    have h4 := hp (k + 1) hk
    have e : pSum f (k + 1) = pSum f k + f k := rfl
    unfold btS
    split
    · exact ⟨by simp only; omega, by simp only; omega, by simp only; omega⟩
    · exact ⟨by simp only; omega, h2, h3⟩

theorem l_X7_bestTurn {h : aH} {t : Int × Int × Int × Int} {s : Int × Int × Int} {dr : Int} (c62 : h 62 = TAL t s dr) {f : Nat → Int} (c63 : h 63 = .inl (0, 242, f)) {own : Int} (hp : ∀ k, k ≤ 241 → -1000000 ≤ pSum f k ∧ pSum f k ≤ 1000000) (hown : -120 ≤ own ∧ own ≤ 120) {d : Nat} (hd1 : 1 ≤ d) : ∀ (w k : Nat), k + w = 241 → Ev RX7 "bestTurn" cX7_bestTurn 6 (some .int) d 0 0 (Ret (btS own f 241).1 (va_up h 62 (TAL t s (btS own f 241).2.2))) noX 97 (va_up h 62 (TAL t s (btS own f k).2.2)) 13 [(0, .ref 62), (1, iv own), (2, iv (btS own f k).1), (3, iv (btS own f k).2.1), (4, iv ((k : Int) - 120))] [] := by
  intro w
  induction w with
  | zero =>
    intro k hk
    obtain rfl : k = 241 := by omega
    refine r_iload dX7_bestTurn_13 rfl ?_
    refine r_bipush dX7_bestTurn_15 rfl ?_
    refine r_icmp_gt (tgt := 91) dX7_bestTurn_17 (by decide) ⟨by omega, by omega⟩ ⟨by omega, by omega⟩ (fun g17 => ?_) (fun g17 => absurd g17 (by omega))
    refine r_iload_n dX7_bestTurn_91 rfl rfl ?_
    refine r_iret dX7_bestTurn_92 ?_
    exact ⟨rfl, rfl, rfl⟩
  | succ w ih =>
    intro k hk
    obtain ⟨b1, b2, b3⟩ := btS_B (own := own) hp k (by omega)
    have b4 := hp (k + 1) (by omega)
    have b5 : pSum f (k + 1) = pSum f k + f k := rfl
    have ek : ((k : Int) - 120 + 120).toNat = k := by omega
    have hi := ih (k + 1) (by omega)
    rw [btS_s own f k] at hi
    refine r_iload dX7_bestTurn_13 rfl ?_
    refine r_bipush dX7_bestTurn_15 rfl ?_
    refine r_icmp_gt (tgt := 91) dX7_bestTurn_17 (by decide) ⟨by omega, by omega⟩ ⟨by omega, by omega⟩ (fun g17 => absurd g17 (by omega)) (fun g17 => ?_)
    refine r_iload_n dX7_bestTurn_20 rfl rfl ?_
    refine r_aload_n dX7_bestTurn_21 rfl rfl ?_
    refine r_get (fs := [_, _, _, _, _, _, _, _, _, _]) dX7_bestTurn_22 fl_X7_36 (by decide) rfl rfl ?_
    refine r_iload dX7_bestTurn_25 rfl ?_
    refine r_bipush dX7_bestTurn_27 rfl ?_
    refine r_iadd dX7_bestTurn_29 ?_
    refine r_ald dX7_bestTurn_30 (by decide) c63 (by omega) (by omega) (by decide) ?_
    rw [ek]
    refine r_iadd dX7_bestTurn_31 ?_
    refine r_istore_n (lv2 := [(0, _), (1, _), (2, _), (3, _), (4, _)]) dX7_bestTurn_32 rfl (by decide) rfl rfl ?_
    refine r_iload_n dX7_bestTurn_33 rfl rfl ?_
    refine r_aload_n dX7_bestTurn_34 rfl rfl ?_
    refine r_get (fs := [_, _, _, _, _, _, _, _, _, _]) dX7_bestTurn_35 fl_X7_33 (by decide) rfl rfl ?_
    refine r_icmp_ne (tgt := 61) dX7_bestTurn_38 (by decide) ⟨by omega, by omega⟩ ⟨by omega, by omega⟩ (fun g38 => ?_) (fun g38 => ?_)
    · refine r_iconst dX7_bestTurn_61 ?_
      refine r_istore (lv2 := [(0, _), (1, _), (2, _), (3, _), (4, _), (5, _)]) dX7_bestTurn_62 (by decide) rfl rfl ?_
      refine r_iload_n dX7_bestTurn_64 rfl rfl ?_
      refine r_aload_n dX7_bestTurn_65 rfl rfl ?_
      refine r_get (fs := [_, _, _, _, _, _, _, _, _, _]) dX7_bestTurn_66 fl_X7_33 (by decide) rfl rfl ?_
      refine r_icmp_gt (tgt := 77) dX7_bestTurn_69 (by decide) ⟨by omega, by omega⟩ ⟨by omega, by omega⟩ (fun g69 => ?_) (fun g69 => ?_)
      · refine r_aload_n dX7_bestTurn_77 rfl rfl ?_
        refine r_iload_n dX7_bestTurn_78 rfl rfl ?_
        refine r_put (fs := [_, _, _, _, _, _, _, _, _, _]) (fs2 := [_, _, _, _, _, _, _, _, _, _]) dX7_bestTurn_79 fp_X7_33 (by decide) rfl (nar_int _) (Nat.le_of_ble_eq_true rfl) rfl ?_
        refine r_iload dX7_bestTurn_82 rfl ?_
        refine r_istore_n (lv2 := [(0, _), (1, _), (2, _), (3, _), (4, _), (5, _)]) dX7_bestTurn_84 rfl (by decide) rfl rfl ?_
        refine r_iinc (lv2 := [(0, _), (1, _), (2, _), (3, _), (4, _), (5, _)]) dX7_bestTurn_85 (by decide) rfl rfl rfl ?_
        refine r_goto (tgt := 13) dX7_bestTurn_88 (by decide) ?_
        refine r_lv (lv2 := [(0, _), (1, _), (2, _), (3, _), (4, _)]) rfl ?_
        first
          | exact absurd g74 (by omega)
          | (rw [if_pos (by omega)] at hi
             rw [bx_uu, show (k : Int) - 120 + 1 = ((k + 1 : Nat) : Int) - 120 by omega]
             exact hi)
          | (rw [if_neg (by omega)] at hi
             rw [show (k : Int) - 120 + 1 = ((k + 1 : Nat) : Int) - 120 by omega]
             exact hi)
      · refine r_iload dX7_bestTurn_72 rfl ?_
        refine r_if_eq (tgt := 85) dX7_bestTurn_74 (by decide) ⟨by omega, by omega⟩ (fun g74 => ?_) (fun g74 => ?_)
        · refine r_iinc (lv2 := [(0, _), (1, _), (2, _), (3, _), (4, _), (5, _)]) dX7_bestTurn_85 (by decide) rfl rfl rfl ?_
          refine r_goto (tgt := 13) dX7_bestTurn_88 (by decide) ?_
          refine r_lv (lv2 := [(0, _), (1, _), (2, _), (3, _), (4, _)]) rfl ?_
          first
            | exact absurd g74 (by omega)
            | (rw [if_pos (by omega)] at hi
               rw [bx_uu, show (k : Int) - 120 + 1 = ((k + 1 : Nat) : Int) - 120 by omega]
               exact hi)
            | (rw [if_neg (by omega)] at hi
               rw [show (k : Int) - 120 + 1 = ((k + 1 : Nat) : Int) - 120 by omega]
               exact hi)
        · refine r_aload_n dX7_bestTurn_77 rfl rfl ?_
          refine r_iload_n dX7_bestTurn_78 rfl rfl ?_
          refine r_put (fs := [_, _, _, _, _, _, _, _, _, _]) (fs2 := [_, _, _, _, _, _, _, _, _, _]) dX7_bestTurn_79 fp_X7_33 (by decide) rfl (nar_int _) (Nat.le_of_ble_eq_true rfl) rfl ?_
          refine r_iload dX7_bestTurn_82 rfl ?_
          refine r_istore_n (lv2 := [(0, _), (1, _), (2, _), (3, _), (4, _), (5, _)]) dX7_bestTurn_84 rfl (by decide) rfl rfl ?_
          refine r_iinc (lv2 := [(0, _), (1, _), (2, _), (3, _), (4, _), (5, _)]) dX7_bestTurn_85 (by decide) rfl rfl rfl ?_
          refine r_goto (tgt := 13) dX7_bestTurn_88 (by decide) ?_
          refine r_lv (lv2 := [(0, _), (1, _), (2, _), (3, _), (4, _)]) rfl ?_
          first
            | exact absurd g74 (by omega)
            | (rw [if_pos (by omega)] at hi
               rw [bx_uu, show (k : Int) - 120 + 1 = ((k + 1 : Nat) : Int) - 120 by omega]
               exact hi)
            | (rw [if_neg (by omega)] at hi
               rw [show (k : Int) - 120 + 1 = ((k + 1 : Nat) : Int) - 120 by omega]
               exact hi)
    · refine r_iload dX7_bestTurn_41 rfl ?_
      refine r_iload_n dX7_bestTurn_43 rfl rfl ?_
      refine r_isub dX7_bestTurn_44 ?_
      refine r_callS [_] (s_J9_abs_0f7a4 (by omega)) dX7_bestTurn_45 cs_X7_61 sm_J9_abs_0f7a4 (by omega) (by decide) (by decide) rfl rfl (Nat.le_of_ble_eq_true rfl) (fun _ _ _ q => q.elim) (fun v n2 h2 q => ?_)
      obtain ⟨rfl, rfl, hh⟩ := q
      obtain rfl := hh.symm
      refine ⟨rfl, ?_⟩
      dsimp only [Option.toList, List.cons_append, List.nil_append]
      refine r_iload_n dX7_bestTurn_48 rfl rfl ?_
      refine r_iload_n dX7_bestTurn_49 rfl rfl ?_
      refine r_isub dX7_bestTurn_50 ?_
      refine r_callS [_] (s_J9_abs_0f7a4 (by omega)) dX7_bestTurn_51 cs_X7_61 sm_J9_abs_0f7a4 (by omega) (by decide) (by decide) rfl rfl (Nat.le_of_ble_eq_true rfl) (fun _ _ _ q => q.elim) (fun v n2 h2 q => ?_)
      obtain ⟨rfl, rfl, hh⟩ := q
      obtain rfl := hh.symm
      refine ⟨rfl, ?_⟩
      dsimp only [Option.toList, List.cons_append, List.nil_append]
      refine r_icmp_ge (tgt := 61) dX7_bestTurn_54 (by decide) ⟨by omega, by omega⟩ ⟨by omega, by omega⟩ (fun g54 => ?_) (fun g54 => ?_)
      · refine r_iconst dX7_bestTurn_61 ?_
        refine r_istore (lv2 := [(0, _), (1, _), (2, _), (3, _), (4, _), (5, _)]) dX7_bestTurn_62 (by decide) rfl rfl ?_
        refine r_iload_n dX7_bestTurn_64 rfl rfl ?_
        refine r_aload_n dX7_bestTurn_65 rfl rfl ?_
        refine r_get (fs := [_, _, _, _, _, _, _, _, _, _]) dX7_bestTurn_66 fl_X7_33 (by decide) rfl rfl ?_
        refine r_icmp_gt (tgt := 77) dX7_bestTurn_69 (by decide) ⟨by omega, by omega⟩ ⟨by omega, by omega⟩ (fun g69 => ?_) (fun g69 => ?_)
        · refine r_aload_n dX7_bestTurn_77 rfl rfl ?_
          refine r_iload_n dX7_bestTurn_78 rfl rfl ?_
          refine r_put (fs := [_, _, _, _, _, _, _, _, _, _]) (fs2 := [_, _, _, _, _, _, _, _, _, _]) dX7_bestTurn_79 fp_X7_33 (by decide) rfl (nar_int _) (Nat.le_of_ble_eq_true rfl) rfl ?_
          refine r_iload dX7_bestTurn_82 rfl ?_
          refine r_istore_n (lv2 := [(0, _), (1, _), (2, _), (3, _), (4, _), (5, _)]) dX7_bestTurn_84 rfl (by decide) rfl rfl ?_
          refine r_iinc (lv2 := [(0, _), (1, _), (2, _), (3, _), (4, _), (5, _)]) dX7_bestTurn_85 (by decide) rfl rfl rfl ?_
          refine r_goto (tgt := 13) dX7_bestTurn_88 (by decide) ?_
          refine r_lv (lv2 := [(0, _), (1, _), (2, _), (3, _), (4, _)]) rfl ?_
          first
            | exact absurd g74 (by omega)
            | (rw [if_pos (by omega)] at hi
               rw [bx_uu, show (k : Int) - 120 + 1 = ((k + 1 : Nat) : Int) - 120 by omega]
               exact hi)
            | (rw [if_neg (by omega)] at hi
               rw [show (k : Int) - 120 + 1 = ((k + 1 : Nat) : Int) - 120 by omega]
               exact hi)
        · refine r_iload dX7_bestTurn_72 rfl ?_
          refine r_if_eq (tgt := 85) dX7_bestTurn_74 (by decide) ⟨by omega, by omega⟩ (fun g74 => ?_) (fun g74 => ?_)
          · refine r_iinc (lv2 := [(0, _), (1, _), (2, _), (3, _), (4, _), (5, _)]) dX7_bestTurn_85 (by decide) rfl rfl rfl ?_
            refine r_goto (tgt := 13) dX7_bestTurn_88 (by decide) ?_
            refine r_lv (lv2 := [(0, _), (1, _), (2, _), (3, _), (4, _)]) rfl ?_
            first
              | exact absurd g74 (by omega)
              | (rw [if_pos (by omega)] at hi
                 rw [bx_uu, show (k : Int) - 120 + 1 = ((k + 1 : Nat) : Int) - 120 by omega]
                 exact hi)
              | (rw [if_neg (by omega)] at hi
                 rw [show (k : Int) - 120 + 1 = ((k + 1 : Nat) : Int) - 120 by omega]
                 exact hi)
          · refine r_aload_n dX7_bestTurn_77 rfl rfl ?_
            refine r_iload_n dX7_bestTurn_78 rfl rfl ?_
            refine r_put (fs := [_, _, _, _, _, _, _, _, _, _]) (fs2 := [_, _, _, _, _, _, _, _, _, _]) dX7_bestTurn_79 fp_X7_33 (by decide) rfl (nar_int _) (Nat.le_of_ble_eq_true rfl) rfl ?_
            refine r_iload dX7_bestTurn_82 rfl ?_
            refine r_istore_n (lv2 := [(0, _), (1, _), (2, _), (3, _), (4, _), (5, _)]) dX7_bestTurn_84 rfl (by decide) rfl rfl ?_
            refine r_iinc (lv2 := [(0, _), (1, _), (2, _), (3, _), (4, _), (5, _)]) dX7_bestTurn_85 (by decide) rfl rfl rfl ?_
            refine r_goto (tgt := 13) dX7_bestTurn_88 (by decide) ?_
            refine r_lv (lv2 := [(0, _), (1, _), (2, _), (3, _), (4, _)]) rfl ?_
            first
              | exact absurd g74 (by omega)
              | (rw [if_pos (by omega)] at hi
                 rw [bx_uu, show (k : Int) - 120 + 1 = ((k + 1 : Nat) : Int) - 120 by omega]
                 exact hi)
              | (rw [if_neg (by omega)] at hi
                 rw [show (k : Int) - 120 + 1 = ((k + 1 : Nat) : Int) - 120 by omega]
                 exact hi)
      · refine r_iconst dX7_bestTurn_57 ?_
        refine r_goto (tgt := 62) dX7_bestTurn_58 (by decide) ?_
        refine r_istore (lv2 := [(0, _), (1, _), (2, _), (3, _), (4, _), (5, _)]) dX7_bestTurn_62 (by decide) rfl rfl ?_
        refine r_iload_n dX7_bestTurn_64 rfl rfl ?_
        refine r_aload_n dX7_bestTurn_65 rfl rfl ?_
        refine r_get (fs := [_, _, _, _, _, _, _, _, _, _]) dX7_bestTurn_66 fl_X7_33 (by decide) rfl rfl ?_
        refine r_icmp_gt (tgt := 77) dX7_bestTurn_69 (by decide) ⟨by omega, by omega⟩ ⟨by omega, by omega⟩ (fun g69 => ?_) (fun g69 => ?_)
        · refine r_aload_n dX7_bestTurn_77 rfl rfl ?_
          refine r_iload_n dX7_bestTurn_78 rfl rfl ?_
          refine r_put (fs := [_, _, _, _, _, _, _, _, _, _]) (fs2 := [_, _, _, _, _, _, _, _, _, _]) dX7_bestTurn_79 fp_X7_33 (by decide) rfl (nar_int _) (Nat.le_of_ble_eq_true rfl) rfl ?_
          refine r_iload dX7_bestTurn_82 rfl ?_
          refine r_istore_n (lv2 := [(0, _), (1, _), (2, _), (3, _), (4, _), (5, _)]) dX7_bestTurn_84 rfl (by decide) rfl rfl ?_
          refine r_iinc (lv2 := [(0, _), (1, _), (2, _), (3, _), (4, _), (5, _)]) dX7_bestTurn_85 (by decide) rfl rfl rfl ?_
          refine r_goto (tgt := 13) dX7_bestTurn_88 (by decide) ?_
          refine r_lv (lv2 := [(0, _), (1, _), (2, _), (3, _), (4, _)]) rfl ?_
          first
            | exact absurd g74 (by omega)
            | (rw [if_pos (by omega)] at hi
               rw [bx_uu, show (k : Int) - 120 + 1 = ((k + 1 : Nat) : Int) - 120 by omega]
               exact hi)
            | (rw [if_neg (by omega)] at hi
               rw [show (k : Int) - 120 + 1 = ((k + 1 : Nat) : Int) - 120 by omega]
               exact hi)
        · refine r_iload dX7_bestTurn_72 rfl ?_
          refine r_if_eq (tgt := 85) dX7_bestTurn_74 (by decide) ⟨by omega, by omega⟩ (fun g74 => ?_) (fun g74 => ?_)
          · refine r_iinc (lv2 := [(0, _), (1, _), (2, _), (3, _), (4, _), (5, _)]) dX7_bestTurn_85 (by decide) rfl rfl rfl ?_
            refine r_goto (tgt := 13) dX7_bestTurn_88 (by decide) ?_
            refine r_lv (lv2 := [(0, _), (1, _), (2, _), (3, _), (4, _)]) rfl ?_
            first
              | exact absurd g74 (by omega)
              | (rw [if_pos (by omega)] at hi
                 rw [bx_uu, show (k : Int) - 120 + 1 = ((k + 1 : Nat) : Int) - 120 by omega]
                 exact hi)
              | (rw [if_neg (by omega)] at hi
                 rw [show (k : Int) - 120 + 1 = ((k + 1 : Nat) : Int) - 120 by omega]
                 exact hi)
          · refine r_aload_n dX7_bestTurn_77 rfl rfl ?_
            refine r_iload_n dX7_bestTurn_78 rfl rfl ?_
            refine r_put (fs := [_, _, _, _, _, _, _, _, _, _]) (fs2 := [_, _, _, _, _, _, _, _, _, _]) dX7_bestTurn_79 fp_X7_33 (by decide) rfl (nar_int _) (Nat.le_of_ble_eq_true rfl) rfl ?_
            refine r_iload dX7_bestTurn_82 rfl ?_
            refine r_istore_n (lv2 := [(0, _), (1, _), (2, _), (3, _), (4, _), (5, _)]) dX7_bestTurn_84 rfl (by decide) rfl rfl ?_
            refine r_iinc (lv2 := [(0, _), (1, _), (2, _), (3, _), (4, _), (5, _)]) dX7_bestTurn_85 (by decide) rfl rfl rfl ?_
            refine r_goto (tgt := 13) dX7_bestTurn_88 (by decide) ?_
            refine r_lv (lv2 := [(0, _), (1, _), (2, _), (3, _), (4, _)]) rfl ?_
            first
              | exact absurd g74 (by omega)
              | (rw [if_pos (by omega)] at hi
                 rw [bx_uu, show (k : Int) - 120 + 1 = ((k + 1 : Nat) : Int) - 120 by omega]
                 exact hi)
              | (rw [if_neg (by omega)] at hi
                 rw [show (k : Int) - 120 + 1 = ((k + 1 : Nat) : Int) - 120 by omega]
                 exact hi)

theorem s_X7_bestTurn {h : aH} {t : Int × Int × Int × Int} {s : Int × Int × Int} {dr : Int} (c62 : h 62 = TAL t s dr) {f : Nat → Int} (c63 : h 63 = .inl (0, 242, f)) {own : Int} (hp : ∀ k, k ≤ 241 → -1000000 ≤ pSum f k ∧ pSum f k ≤ 1000000) (hown : -120 ≤ own ∧ own ≤ 120)  : mSem yX7_bestTurn cX7_bestTurn 6 (some .int) 1 0 0 [.ref 62, iv own] 97 h (Ret (btS own f 241).1 (va_up h 62 (TAL t s (btS own f 241).2.2))) noX := by
  refine mSem_of (own := RX7) (name := "bestTurn") pn_X7 rfl rfl (Nat.le_of_ble_eq_true rfl) ?_
  refine r_iconst dX7_bestTurn_0 ?_
  refine r_istore_n (lv2 := [(0, _), (1, _), (2, _)]) dX7_bestTurn_1 rfl (by decide) rfl rfl ?_
  refine r_iconst dX7_bestTurn_2 ?_
  refine r_istore_n (lv2 := [(0, _), (1, _), (2, _), (3, _)]) dX7_bestTurn_3 rfl (by decide) rfl rfl ?_
  refine r_aload_n dX7_bestTurn_4 rfl rfl ?_
  refine r_iconst dX7_bestTurn_5 ?_
  refine r_put (fs := [_, _, _, _, _, _, _, _, _, _]) (fs2 := [_, _, _, _, _, _, _, _, _, _]) dX7_bestTurn_6 fp_X7_33 (by decide) c62 (nar_int _) (Nat.le_of_ble_eq_true rfl) rfl ?_
  refine r_bipush dX7_bestTurn_9 rfl ?_
  refine r_istore (lv2 := [(0, _), (1, _), (2, _), (3, _), (4, _)]) dX7_bestTurn_11 (by decide) rfl rfl ?_
  exact l_X7_bestTurn c62 c63 hp hown (by decide) 241 0 (by omega)

theorem s_X7_clearGroups {h : aH} {t : Int × Int × Int × Int} {s : Int × Int × Int} {dr : Int} (c62 : h 62 = TAL t s dr) {g : Nat → Int} (c64 : h 64 = .inl (0, 512, g))  : mSem yX7_clearGroups cX7_clearGroups 1 none 1 0 0 [.ref 62] 97 h (RetV (va_up h 64 (.inl (0, 512, fillF g 0 512)))) noX := by
  refine mSem_of (own := RX7) (name := "clearGroups") pn_X7 rfl rfl (Nat.le_of_ble_eq_true rfl) ?_
  refine r_aload_n dX7_clearGroups_0 rfl rfl ?_
  refine r_get (fs := [_, _, _, _, _, _, _, _, _, _]) dX7_clearGroups_1 fl_X7_40 (by decide) c62 rfl ?_
  refine r_iconst dX7_clearGroups_4 ?_
  refine r_callS [.ref 64, _] (s_fill_64 c64) dX7_clearGroups_5 cs_X7_55 sm_J7_fill_53178 (by decide) (by decide) (by decide) rfl rfl (Nat.le_of_ble_eq_true rfl) (fun _ _ _ q => q.elim) (fun v n2 h2 q => ?_)
  obtain ⟨rfl, rfl, hh⟩ := q
  obtain rfl := hh.symm
  refine ⟨rfl, ?_⟩
  dsimp only [Option.toList, List.cons_append, List.nil_append]
  refine r_vret dX7_clearGroups_8 ?_
  exact ⟨rfl, rfl, rfl⟩

theorem s_X7_addGroup {h : aH} {t : Int × Int × Int × Int} {s : Int × Int × Int} {dr : Int} (c62 : h 62 = TAL t s dr) {g : Nat → Int} (c64 : h 64 = .inl (0, 512, g)) {b : Int} (hb : 0 ≤ b ∧ b < 512) : mSem yX7_addGroup cX7_addGroup 2 none 0 0 0 [.ref 62, iv b] 97 h (RetV (va_up h 64 (.inl (0, 512, va_up g b.toNat (g b.toNat + 1))))) noX := by
  refine mSem_of (own := RX7) (name := "addGroup") pn_X7 rfl rfl (Nat.le_of_ble_eq_true rfl) ?_
  refine r_iload_n dX7_addGroup_0 rfl rfl ?_
  refine r_if_lt (tgt := 23) dX7_addGroup_1 (by decide) ⟨by omega, by omega⟩ (fun g1 => absurd g1 (by omega)) (fun g1 => ?_)
  refine r_iload_n dX7_addGroup_4 rfl rfl ?_
  refine r_aload_n dX7_addGroup_5 rfl rfl ?_
  refine r_get (fs := [_, _, _, _, _, _, _, _, _, _]) dX7_addGroup_6 fl_X7_40 (by decide) c62 rfl ?_
  refine r_alen dX7_addGroup_9 (by decide) c64 (by decide) ?_
  refine r_icmp_ge (tgt := 23) dX7_addGroup_10 (by decide) ⟨by omega, by omega⟩ ⟨by omega, by omega⟩ (fun g10 => absurd g10 (by omega)) (fun g10 => ?_)
  refine r_aload_n dX7_addGroup_13 rfl rfl ?_
  refine r_get (fs := [_, _, _, _, _, _, _, _, _, _]) dX7_addGroup_14 fl_X7_40 (by decide) c62 rfl ?_
  refine r_iload_n dX7_addGroup_17 rfl rfl ?_
  refine r_dup2 dX7_addGroup_18 rfl rfl ?_
  refine r_ald dX7_addGroup_19 (by decide) c64 (by omega) (by omega) (by decide) ?_
  refine r_iconst dX7_addGroup_20 ?_
  refine r_iadd dX7_addGroup_21 ?_
  refine r_ast dX7_addGroup_22 (by decide) c64 (by omega) (by omega) (by decide) ?_
  refine r_vret dX7_addGroup_23 ?_
  exact ⟨rfl, rfl, rfl⟩

theorem orI (a b : Nat) : Int32.ofInt a ||| Int32.ofInt b = Int32.ofInt ((a ||| b : Nat) : Int) := by
  rw [← ofInt_nat, ← ofInt_nat, ← ofInt_nat]
  apply Int32.toBitVec_inj.mp
  exact (BitVec.ofNat_or (x := a) (y := b)).symm
theorem andI (a b : Nat) : Int32.ofInt a &&& Int32.ofInt b = Int32.ofInt ((a &&& b : Nat) : Int) := by
  rw [← ofInt_nat, ← ofInt_nat, ← ofInt_nat]
  apply Int32.toBitVec_inj.mp
  exact (BitVec.ofNat_and (x := a) (y := b)).symm
theorem shl1 (k : Nat) (h : k < 10) : Int32.ofInt 1 <<< (Int32.ofInt k &&& 31) = Int32.ofInt ((2 ^ k : Nat) : Int) := by
  rcases (show k = 0 ∨ k = 1 ∨ k = 2 ∨ k = 3 ∨ k = 4 ∨ k = 5 ∨ k = 6 ∨ k = 7 ∨ k = 8 ∨ k = 9 by omega) with rfl | rfl | rfl | rfl | rfl | rfl | rfl | rfl | rfl | rfl <;> decide
/-- of the first k groups those with all bits of q: their minutes together -/
def gSum (g : Nat → Int) (q : Nat) : Nat → Int
  | 0 => 0
  | k + 1 => gSum g q k + if k &&& q = q then g k else 0
theorem gSum_s (g : Nat → Int) (q k : Nat) : gSum g q (k + 1) = gSum g q k + if k &&& q = q then g k else 0 := rfl
theorem and_lt {a b : Nat} (h : b < 512) : a &&& b < 512 := Nat.lt_of_le_of_lt Nat.and_le_right h

theorem l_X7_minutesOfBoth {h : aH} {t : Int × Int × Int × Int} {s : Int × Int × Int} {dr : Int} (c62 : h 62 = TAL t s dr) {g : Nat → Int} (c64 : h 64 = .inl (0, 512, g)) {q : Nat} (hq : q < 512) {x y : Int} {d : Nat} : ∀ (w k : Nat), k + w = 512 → Ev RX7 "minutesOfBoth" cX7_minutesOfBoth 6 (some .int) d 0 0 (Ret (gSum g q 512) h) noX 97 h 14 [(0, .ref 62), (1, iv x), (2, iv y), (3, iv q), (4, iv (gSum g q k)), (5, iv k)] [] := by
  intro w
  induction w with
  | zero =>
    intro k hk
    obtain rfl : k = 512 := by omega
    refine r_iload dX7_minutesOfBoth_14 rfl ?_
    refine r_aload_n dX7_minutesOfBoth_16 rfl rfl ?_
    refine r_get (fs := [_, _, _, _, _, _, _, _, _, _]) dX7_minutesOfBoth_17 fl_X7_40 (by decide) c62 rfl ?_
    refine r_alen dX7_minutesOfBoth_20 (by decide) c64 (by decide) ?_
    refine r_icmp_ge (tgt := 50) dX7_minutesOfBoth_21 (by decide) ⟨by omega, by omega⟩ ⟨by omega, by omega⟩ (fun g21 => ?_) (fun g21 => absurd g21 (by omega))
    refine r_iload dX7_minutesOfBoth_50 rfl ?_
    refine r_iret dX7_minutesOfBoth_52 ?_
    exact ⟨rfl, rfl, rfl⟩
  | succ w ih =>
    intro k hk
    have ba := and_lt (a := k) hq
    have hi := ih (k + 1) (by omega)
    rw [gSum_s g q k] at hi
    refine r_iload dX7_minutesOfBoth_14 rfl ?_
    refine r_aload_n dX7_minutesOfBoth_16 rfl rfl ?_
    refine r_get (fs := [_, _, _, _, _, _, _, _, _, _]) dX7_minutesOfBoth_17 fl_X7_40 (by decide) c62 rfl ?_
    refine r_alen dX7_minutesOfBoth_20 (by decide) c64 (by decide) ?_
    refine r_icmp_ge (tgt := 50) dX7_minutesOfBoth_21 (by decide) ⟨by omega, by omega⟩ ⟨by omega, by omega⟩ (fun g21 => absurd g21 (by omega)) (fun g21 => ?_)
    refine r_iload dX7_minutesOfBoth_24 rfl ?_
    refine r_iload_n dX7_minutesOfBoth_26 rfl rfl ?_
    refine r_iand _ dX7_minutesOfBoth_27 (andI k q) ?_
    refine r_iload_n dX7_minutesOfBoth_28 rfl rfl ?_
    refine r_icmp_ne (tgt := 44) dX7_minutesOfBoth_29 (by decide) ⟨by omega, by omega⟩ ⟨by omega, by omega⟩ (fun g29 => ?_) (fun g29 => ?_)
    · refine r_iinc (lv2 := [(0, _), (1, _), (2, _), (3, _), (4, _), (5, _)]) dX7_minutesOfBoth_44 (by decide) rfl rfl rfl ?_
      refine r_goto (tgt := 14) dX7_minutesOfBoth_47 (by decide) ?_
      rw [show (k : Int) + 1 = ((k + 1 : Nat) : Int) by omega]
      first
        | (rw [if_pos (by omega)] at hi
           exact hi)
        | (rw [if_neg (by omega), Int.add_zero] at hi
           exact hi)
    · refine r_iload dX7_minutesOfBoth_32 rfl ?_
      refine r_aload_n dX7_minutesOfBoth_34 rfl rfl ?_
      refine r_get (fs := [_, _, _, _, _, _, _, _, _, _]) dX7_minutesOfBoth_35 fl_X7_40 (by decide) c62 rfl ?_
      refine r_iload dX7_minutesOfBoth_38 rfl ?_
      refine r_ald dX7_minutesOfBoth_40 (by decide) c64 (by omega) (by omega) (by decide) ?_
      rw [Int.toNat_natCast]
      refine r_iadd dX7_minutesOfBoth_41 ?_
      refine r_istore (lv2 := [(0, _), (1, _), (2, _), (3, _), (4, _), (5, _)]) dX7_minutesOfBoth_42 (by decide) rfl rfl ?_
      refine r_iinc (lv2 := [(0, _), (1, _), (2, _), (3, _), (4, _), (5, _)]) dX7_minutesOfBoth_44 (by decide) rfl rfl rfl ?_
      refine r_goto (tgt := 14) dX7_minutesOfBoth_47 (by decide) ?_
      rw [show (k : Int) + 1 = ((k + 1 : Nat) : Int) by omega]
      first
        | (rw [if_pos (by omega)] at hi
           exact hi)
        | (rw [if_neg (by omega), Int.add_zero] at hi
           exact hi)

theorem s_X7_minutesOfBoth {h : aH} {t : Int × Int × Int × Int} {s : Int × Int × Int} {dr : Int} (c62 : h 62 = TAL t s dr) {g : Nat → Int} (c64 : h 64 = .inl (0, 512, g)) {x y : Nat} (hx : x < 9) (hy : y < 9) : mSem yX7_minutesOfBoth cX7_minutesOfBoth 6 (some .int) 0 0 0 [.ref 62, iv x, iv y] 97 h (Ret (gSum g (2 ^ x ||| 2 ^ y) 512) h) noX := by
  refine mSem_of (own := RX7) (name := "minutesOfBoth") pn_X7 rfl rfl (Nat.le_of_ble_eq_true rfl) ?_
  refine r_iconst dX7_minutesOfBoth_0 ?_
  refine r_iload_n dX7_minutesOfBoth_1 rfl rfl ?_
  refine r_ishl _ dX7_minutesOfBoth_2 (shl1 x (by omega)) ?_
  refine r_iconst dX7_minutesOfBoth_3 ?_
  refine r_iload_n dX7_minutesOfBoth_4 rfl rfl ?_
  refine r_ishl _ dX7_minutesOfBoth_5 (shl1 y (by omega)) ?_
  refine r_ior _ dX7_minutesOfBoth_6 (orI _ _) ?_
  refine r_istore_n (lv2 := [(0, _), (1, _), (2, _), (3, _)]) dX7_minutesOfBoth_7 rfl (by decide) rfl rfl ?_
  refine r_iconst dX7_minutesOfBoth_8 ?_
  refine r_istore (lv2 := [(0, _), (1, _), (2, _), (3, _), (4, _)]) dX7_minutesOfBoth_9 (by decide) rfl rfl ?_
  refine r_iconst dX7_minutesOfBoth_11 ?_
  refine r_istore (lv2 := [(0, _), (1, _), (2, _), (3, _), (4, _), (5, _)]) dX7_minutesOfBoth_12 (by decide) rfl rfl ?_
  exact l_X7_minutesOfBoth (q := 2 ^ x ||| 2 ^ y) c62 c64 (Nat.or_lt_two_pow (n := 9) (Nat.pow_lt_pow_right (by decide) (by omega)) (Nat.pow_lt_pow_right (by decide) (by omega))) 512 0 (by omega)
