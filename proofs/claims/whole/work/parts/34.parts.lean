/-! ===== the law's reader: parts ===== -/
theorem s_X2_readNot {h0 h : aH} {t : Nat → Int} {nd fa pl tk m0 : Int} {le e : Nat} {tv : Value} {D : LDt} (pw : LW h0 h t nd (SC t fa pl tk le e) tv m0 D) (lo : LOK D) (hnd : 0 ≤ nd ∧ nd ≤ 9) (ht : ∀ j, -128 ≤ t j ∧ t j ≤ 127) (hle : le ≤ 700) (hee : e ≤ le) (h2N : 2 * D.1 ≤ e) (hw : e + 2 ≤ tkE t le e) {k : Nat} (hk : k < 12) (it : RdT h0 t nd fa pl le tv m0 k) (ie : RdE h0 t nd fa pl le tv m0 k) {lv : Int} (hlv : lv = 11 - (k : Int))  : mSem yX2_readNot cX2_readNot 3 (some .int) (2 * k + 8) 0 0 [.ref 5, iv lv] 97 h (LQ h0 t nd fa pl le tv m0 D (k + 1) false (pUn t le ntI (pT t le nd k false) e)) noX := by
  obtain ⟨c1, c3, c5, c34, c35, c36, c37, c38, fr⟩ := id pw
  have hB := tk_B t hee
  have hB1 := tk_B t hB.2.2.2.1
  have hB2 := tk_B t hB1.2.2.2.1
  have pN := lo.1
  refine mSem_of (own := RX2) (name := "readNot") pn_X2 rfl rfl (Nat.le_of_ble_eq_true rfl) ?_
  refine r_aload_n dX2_readNot_0 rfl rfl ?_
  refine r_bipush dX2_readNot_1 rfl ?_
  refine r_callV 5 [_] (s_X2_open pw lo hnd ht hle hee h2N hw) dX2_readNot_3 cs_X2_111 im_X2_open (by decide) c5 rfl (by omega) (by decide) (by decide) rfl rfl (Nat.le_of_ble_eq_true rfl) (fun _ _ _ q => q.elim) (fun v n2 h2 q => ?_)
  obtain ⟨rfl, rfl, pwa⟩ := q
  obtain ⟨c1, c3, c5, c34, c35, c36, c37, c38, fr⟩ := id pwa
  refine ⟨rfl, ?_⟩
  dsimp only [Option.toList, List.cons_append, List.nil_append]
  refine r_istore_n (lv2 := [(0, _), (1, _), (2, _)]) dX2_readNot_6 rfl (by decide) rfl rfl ?_
  refine r_aload_n dX2_readNot_7 rfl rfl ?_
  refine r_iload_n dX2_readNot_8 rfl rfl ?_
  refine r_iconst dX2_readNot_9 ?_
  refine r_aload_n dX2_readNot_10 rfl rfl ?_
  refine r_iload_n dX2_readNot_11 rfl rfl ?_
  refine r_iconst dX2_readNot_12 ?_
  refine r_iadd dX2_readNot_13 ?_
  refine r_callV 5 [_] (ie _ tk (tkE t le e) (opD D 6) pwa (lok_op lo (by omega) ⟨by decide, by decide⟩) (by omega) (by show 2 * (D.1 + 1) ≤ _; omega) _ (by omega)) dX2_readNot_14 cs_X2_144 im_X2_readTest (by decide) c5 rfl (by omega) (by decide) (by decide) rfl rfl (Nat.le_of_ble_eq_true rfl) (fun _ _ _ q => q.elim) (fun v n2 h2 q => ?_)
  obtain ⟨rfl, q⟩ := q
  rcases q with ⟨s1, e1, D1, tk1, er1, hl1, rfl, pw1, lo1, kp1, dn1, nn1, h21⟩ | ⟨f1, p1, D1, tk1, ki1, st1, en1, er1, rfl, pw1, lo1⟩
  · obtain ⟨c1, c3, c5, c34, c35, c36, c37, c38, fr⟩ := id pw1
    have hE1 := tk_B t hl1
    have pN1 := lo1.1
    have dl1 : D.1 + 1 < D1.1 := dn1.1
    have ba1 : D1.1 ≤ 350 := by omega
    refine ⟨rfl, ?_⟩
    dsimp only [Option.toList, List.cons_append, List.nil_append]
    refine r_callV 5 [_, _, _] (s_X2_addPart_f pw1 (by omega) ba1 ⟨by show (0 : Int) ≤ ((D.1 + 1 : Nat) : Int); omega, by show ((D.1 + 1 : Nat) : Int) ≤ 350; omega⟩) dX2_readNot_17 cs_X2_138 im_X2_addPart (by decide) c5 rfl (by omega) (by decide) (by decide) rfl rfl (Nat.le_of_ble_eq_true rfl) (fun _ _ _ q => q.elim) (fun v n2 h2 q => ?_)
    obtain ⟨rfl, rfl, pwb1⟩ := q
    obtain ⟨c1, c3, c5, c34, c35, c36, c37, c38, fr⟩ := id pwb1
    refine ⟨rfl, ?_⟩
    dsimp only [Option.toList, List.cons_append, List.nil_append]
    refine r_if_eq (tgt := 27) dX2_readNot_20 (by decide) ⟨by omega, by omega⟩ (fun g20 => absurd g20 (by omega)) (fun g20 => ?_)
    refine r_iload_n dX2_readNot_23 rfl rfl ?_
    refine r_goto (tgt := 28) dX2_readNot_24 (by decide) ?_
    refine r_iret dX2_readNot_28 ?_
    first
      | refine ⟨rfl, Or.inl ⟨(fun tf mo => ntI (s1 tf mo)), e1, fpD D1 D.1 ((D.1 + 1 : Nat) : Int), tk1, ?_, hl1, rfl, pwb1, lok_fp lo1 ⟨by omega, by omega⟩, (mk_un kp1).2.2.2, mk_not kp1 dn1, (mk_un kp1).2.2.1, h21⟩⟩
      | refine ⟨rfl, Or.inr ⟨f1, p1, D1, tk1, ki1, st1, en1, ?_, rfl, pw1, lo1⟩⟩
    unfold pUn
    rw [er1]
  · obtain ⟨c1, c3, c5, c34, c35, c36, c37, c38, fr⟩ := id pw1
    refine ⟨rfl, ?_⟩
    dsimp only [Option.toList, List.cons_append, List.nil_append]
    refine r_callV 5 [_, _, _] (s_X2_addPart_o pw1) dX2_readNot_17 cs_X2_138 im_X2_addPart (by decide) c5 rfl (by omega) (by decide) (by decide) rfl rfl (Nat.le_of_ble_eq_true rfl) (fun _ _ _ q => q.elim) (fun v n2 h2 q => ?_)
    obtain ⟨rfl, rfl, hh⟩ := q
    obtain rfl := hh.symm
    refine ⟨rfl, ?_⟩
    dsimp only [Option.toList, List.cons_append, List.nil_append]
    refine r_if_eq (tgt := 27) dX2_readNot_20 (by decide) ⟨by omega, by omega⟩ (fun g20 => ?_) (fun g20 => absurd g20 (by omega))
    refine r_iconst dX2_readNot_27 ?_
    refine r_iret dX2_readNot_28 ?_
    first
      | refine ⟨rfl, Or.inl ⟨(fun tf mo => ntI (s1 tf mo)), e1, fpD D1 D.1 ((D.1 + 1 : Nat) : Int), tk1, ?_, hl1, rfl, pwb1, lok_fp lo1 ⟨by omega, by omega⟩, (mk_un kp1).2.2.2, mk_not kp1 dn1, (mk_un kp1).2.2.1, h21⟩⟩
      | refine ⟨rfl, Or.inr ⟨f1, p1, D1, tk1, ki1, st1, en1, ?_, rfl, pw1, lo1⟩⟩
    unfold pUn
    rw [er1]

theorem s_X2_readDark {h0 h : aH} {t : Nat → Int} {nd fa pl tk m0 : Int} {le e : Nat} {tv : Value} {D : LDt} (pw : LW h0 h t nd (SC t fa pl tk le e) tv m0 D) (lo : LOK D) (hnd : 0 ≤ nd ∧ nd ≤ 9) (ht : ∀ j, -128 ≤ t j ∧ t j ≤ 127) (hle : le ≤ 700) (hee : e ≤ le) (h2N : 2 * D.1 ≤ e) (hw : e + 2 ≤ tkE t le e) {k : Nat} (hk : k < 12) (it : RdT h0 t nd fa pl le tv m0 k) (ie : RdE h0 t nd fa pl le tv m0 k) {lv : Int} (hlv : lv = 11 - (k : Int))  : mSem yX2_readDark cX2_readDark 3 (some .int) (2 * k + 8) 0 0 [.ref 5, iv lv] 97 h (LQ h0 t nd fa pl le tv m0 D (k + 1) false (pUn t le dkI (pT t le nd k true) e)) noX := by
  obtain ⟨c1, c3, c5, c34, c35, c36, c37, c38, fr⟩ := id pw
  have hB := tk_B t hee
  have hB1 := tk_B t hB.2.2.2.1
  have hB2 := tk_B t hB1.2.2.2.1
  have pN := lo.1
  refine mSem_of (own := RX2) (name := "readDark") pn_X2 rfl rfl (Nat.le_of_ble_eq_true rfl) ?_
  refine r_aload_n dX2_readDark_0 rfl rfl ?_
  refine r_bipush dX2_readDark_1 rfl ?_
  refine r_callV 5 [_] (s_X2_open pw lo hnd ht hle hee h2N hw) dX2_readDark_3 cs_X2_111 im_X2_open (by decide) c5 rfl (by omega) (by decide) (by decide) rfl rfl (Nat.le_of_ble_eq_true rfl) (fun _ _ _ q => q.elim) (fun v n2 h2 q => ?_)
  obtain ⟨rfl, rfl, pwa⟩ := q
  obtain ⟨c1, c3, c5, c34, c35, c36, c37, c38, fr⟩ := id pwa
  refine ⟨rfl, ?_⟩
  dsimp only [Option.toList, List.cons_append, List.nil_append]
  refine r_istore_n (lv2 := [(0, _), (1, _), (2, _)]) dX2_readDark_6 rfl (by decide) rfl rfl ?_
  refine r_aload_n dX2_readDark_7 rfl rfl ?_
  refine r_iload_n dX2_readDark_8 rfl rfl ?_
  refine r_iconst dX2_readDark_9 ?_
  refine r_aload_n dX2_readDark_10 rfl rfl ?_
  refine r_iload_n dX2_readDark_11 rfl rfl ?_
  refine r_iconst dX2_readDark_12 ?_
  refine r_iadd dX2_readDark_13 ?_
  refine r_callV 5 [_] (it _ tk (tkE t le e) (opD D 7) pwa (lok_op lo (by omega) ⟨by decide, by decide⟩) (by omega) (by show 2 * (D.1 + 1) ≤ _; omega) _ (by omega)) dX2_readDark_14 cs_X2_28 im_X2_readTime (by decide) c5 rfl (by omega) (by decide) (by decide) rfl rfl (Nat.le_of_ble_eq_true rfl) (fun _ _ _ q => q.elim) (fun v n2 h2 q => ?_)
  obtain ⟨rfl, q⟩ := q
  rcases q with ⟨s1, e1, D1, tk1, er1, hl1, rfl, pw1, lo1, kp1, dn1, nn1, h21⟩ | ⟨f1, p1, D1, tk1, ki1, st1, en1, er1, rfl, pw1, lo1⟩
  · obtain ⟨c1, c3, c5, c34, c35, c36, c37, c38, fr⟩ := id pw1
    have hE1 := tk_B t hl1
    have pN1 := lo1.1
    have dl1 : D.1 + 1 < D1.1 := dn1.1
    have ba1 : D1.1 ≤ 350 := by omega
    refine ⟨rfl, ?_⟩
    dsimp only [Option.toList, List.cons_append, List.nil_append]
    refine r_callV 5 [_, _, _] (s_X2_addPart_f pw1 (by omega) ba1 ⟨by show (0 : Int) ≤ ((D.1 + 1 : Nat) : Int); omega, by show ((D.1 + 1 : Nat) : Int) ≤ 350; omega⟩) dX2_readDark_17 cs_X2_138 im_X2_addPart (by decide) c5 rfl (by omega) (by decide) (by decide) rfl rfl (Nat.le_of_ble_eq_true rfl) (fun _ _ _ q => q.elim) (fun v n2 h2 q => ?_)
    obtain ⟨rfl, rfl, pwb1⟩ := q
    obtain ⟨c1, c3, c5, c34, c35, c36, c37, c38, fr⟩ := id pwb1
    refine ⟨rfl, ?_⟩
    dsimp only [Option.toList, List.cons_append, List.nil_append]
    refine r_if_eq (tgt := 27) dX2_readDark_20 (by decide) ⟨by omega, by omega⟩ (fun g20 => absurd g20 (by omega)) (fun g20 => ?_)
    refine r_iload_n dX2_readDark_23 rfl rfl ?_
    refine r_goto (tgt := 28) dX2_readDark_24 (by decide) ?_
    refine r_iret dX2_readDark_28 ?_
    first
      | refine ⟨rfl, Or.inl ⟨(fun tf mo => dkI (s1 tf mo)), e1, fpD D1 D.1 ((D.1 + 1 : Nat) : Int), tk1, ?_, hl1, rfl, pwb1, lok_fp lo1 ⟨by omega, by omega⟩, (mk_un kp1).2.2.2, mk_dark kp1 dn1, (mk_un kp1).2.2.1, h21⟩⟩
      | refine ⟨rfl, Or.inr ⟨f1, p1, D1, tk1, ki1, st1, en1, ?_, rfl, pw1, lo1⟩⟩
    unfold pUn
    rw [er1]
  · obtain ⟨c1, c3, c5, c34, c35, c36, c37, c38, fr⟩ := id pw1
    refine ⟨rfl, ?_⟩
    dsimp only [Option.toList, List.cons_append, List.nil_append]
    refine r_callV 5 [_, _, _] (s_X2_addPart_o pw1) dX2_readDark_17 cs_X2_138 im_X2_addPart (by decide) c5 rfl (by omega) (by decide) (by decide) rfl rfl (Nat.le_of_ble_eq_true rfl) (fun _ _ _ q => q.elim) (fun v n2 h2 q => ?_)
    obtain ⟨rfl, rfl, hh⟩ := q
    obtain rfl := hh.symm
    refine ⟨rfl, ?_⟩
    dsimp only [Option.toList, List.cons_append, List.nil_append]
    refine r_if_eq (tgt := 27) dX2_readDark_20 (by decide) ⟨by omega, by omega⟩ (fun g20 => ?_) (fun g20 => absurd g20 (by omega))
    refine r_iconst dX2_readDark_27 ?_
    refine r_iret dX2_readDark_28 ?_
    first
      | refine ⟨rfl, Or.inl ⟨(fun tf mo => dkI (s1 tf mo)), e1, fpD D1 D.1 ((D.1 + 1 : Nat) : Int), tk1, ?_, hl1, rfl, pwb1, lok_fp lo1 ⟨by omega, by omega⟩, (mk_un kp1).2.2.2, mk_dark kp1 dn1, (mk_un kp1).2.2.1, h21⟩⟩
      | refine ⟨rfl, Or.inr ⟨f1, p1, D1, tk1, ki1, st1, en1, ?_, rfl, pw1, lo1⟩⟩
    unfold pUn
    rw [er1]

theorem pNum_E {t : Nat → Int} {le e : Nat} {lo hi x : Int} {e2 : Nat} (he : e ≤ le) (h : pNum t le lo hi e = .inr (x, e2)) : e ≤ e2 ∧ e2 ≤ le := by
  have hB := tk_B t he
  unfold pNum at h
  split at h
  · simp only [Sum.inr.injEq, Prod.mk.injEq] at h
    omega
  · cases h
theorem pSgn_E {t : Nat → Int} {le e : Nat} {hi x : Int} {e2 : Nat} (he : e ≤ le) (h : pSgn t le hi e = .inr (x, e2)) : e ≤ e2 ∧ e2 ≤ le := by
  have hB := tk_B t he
  unfold pSgn at h
  split at h
  · cases hp : pNum t le 0 hi (tkE t le e) with
    | inl y => rw [hp] at h; cases h
    | inr y =>
      rw [hp] at h
      have := pNum_E (x := y.1) (e2 := y.2) hB.2.2.2.1 hp
      simp only [Sum.inr.injEq, Prod.mk.injEq] at h
      omega
  · exact pNum_E he h

theorem s_X2_readLate {h0 h : aH} {t : Nat → Int} {nd fa pl tk m0 : Int} {le e : Nat} {tv : Value} {D : LDt} (pw : LW h0 h t nd (SC t fa pl tk le e) tv m0 D) (lo : LOK D) (hnd : 0 ≤ nd ∧ nd ≤ 9) (ht : ∀ j, -128 ≤ t j ∧ t j ≤ 127) (hle : le ≤ 700) (hee : e ≤ le) (h2N : 2 * D.1 ≤ e) (hw : e + 2 ≤ tkE t le e) {k : Nat} (hk : k < 12) (it : RdT h0 t nd fa pl le tv m0 k) (ie : RdE h0 t nd fa pl le tv m0 k) {lv : Int} (hlv : lv = 11 - (k : Int))  : mSem yX2_readLate cX2_readLate 3 (some .int) (2 * k + 8) 0 0 [.ref 5, iv lv] 97 h (LQ h0 t nd fa pl le tv m0 D (k + 1) true (pLt t le (pT t le nd k true) e)) noX := by
  obtain ⟨c1, c3, c5, c34, c35, c36, c37, c38, fr⟩ := id pw
  have hB := tk_B t hee
  have hB1 := tk_B t hB.2.2.2.1
  have hB2 := tk_B t hB1.2.2.2.1
  have pN := lo.1
  refine mSem_of (own := RX2) (name := "readLate") pn_X2 rfl rfl (Nat.le_of_ble_eq_true rfl) ?_
  have eL : pLt t le (pT t le nd k true) e = match pSgn t le 720 (tkE t le e) with | .inl x => .inl x | .inr (v, e1) => match pT t le nd k true e1 with | .inl x => .inl x | .inr (s, e2) => .inr (fun tf mo => laI (s tf mo) v, e2) := rfl
  refine r_aload_n dX2_readLate_0 rfl rfl ?_
  refine r_iconst dX2_readLate_1 ?_
  refine r_callV 5 [_] (s_X2_open pw lo hnd ht hle hee h2N hw) dX2_readLate_2 cs_X2_111 im_X2_open (by decide) c5 rfl (by omega) (by decide) (by decide) rfl rfl (Nat.le_of_ble_eq_true rfl) (fun _ _ _ q => q.elim) (fun v n2 h2 q => ?_)
  obtain ⟨rfl, rfl, pwa⟩ := q
  obtain ⟨c1, c3, c5, c34, c35, c36, c37, c38, fr⟩ := id pwa
  refine ⟨rfl, ?_⟩
  dsimp only [Option.toList, List.cons_append, List.nil_append]
  refine r_istore_n (lv2 := [(0, _), (1, _), (2, _)]) dX2_readLate_5 rfl (by decide) rfl rfl ?_
  refine r_aload_n dX2_readLate_6 rfl rfl ?_
  refine r_get (fs := [_, _, _]) dX2_readLate_7 fl_X2_9 (by decide) c5 rfl ?_
  refine r_sipush dX2_readLate_10 rfl ?_
  refine r_callV 3 [_] (s_X6_takeSigned c1 ht (by first | rfl | exact c3) hle (by omega) (by omega)) dX2_readLate_13 cs_X2_141 im_X6_takeSigned (by decide) c3 rfl (by omega) (by decide) (by decide) rfl rfl (Nat.le_of_ble_eq_true rfl) (fun _ _ _ q => q.elim) (fun v n2 h2 q => ?_)
  obtain ⟨rfl, q⟩ := q
  rcases q with ⟨x0, e0, er0, hl0, rfl, hh⟩ | ⟨f9, p9, tk9, ki9, st9, en9, er0, rfl, hh⟩
  · obtain rfl := hh.symm
    have bx0 := pSgn_ok er0
    have hm0 := pSgn_E (by omega) er0
    refine ⟨rfl, ?_⟩
    dsimp only [Option.toList, List.cons_append, List.nil_append]
    refine r_if_ne (tgt := 21) dX2_readLate_16 (by decide) ⟨by omega, by omega⟩ (fun g16 => ?_) (fun g16 => absurd g16 (by omega))
    refine r_aload_n dX2_readLate_21 rfl rfl ?_
    refine r_get (fs := [_, _, _]) dX2_readLate_22 fl_X2_15 (by decide) c5 rfl ?_
    refine r_iload_n dX2_readLate_25 rfl rfl ?_
    refine r_aload_n dX2_readLate_26 rfl rfl ?_
    refine r_get (fs := [_, _, _]) dX2_readLate_27 fl_X2_9 (by decide) c5 rfl ?_
    refine r_get (fs := [_, _, _, _, _, _, _, _]) dX2_readLate_30 fl_X2_118 (by decide) rfl rfl ?_
    refine r_callV 34 [_, _] (s_X1_setValue (by exact c34) (by exact c36) (Nat.lt_succ_self _) (by show D.1 + 1 ≤ 350; omega)) dX2_readLate_33 cs_X2_121 im_X1_setValue (by decide) c34 rfl (by omega) (by decide) (by decide) rfl rfl (Nat.le_of_ble_eq_true rfl) (fun _ _ _ q => q.elim) (fun v n2 h2 q => ?_)
    obtain ⟨rfl, rfl, hh⟩ := q
    obtain rfl := hh.symm
    refine ⟨rfl, ?_⟩
    dsimp only [Option.toList, List.cons_append, List.nil_append]
    refine r_aload_n dX2_readLate_36 rfl rfl ?_
    refine r_iload_n dX2_readLate_37 rfl rfl ?_
    refine r_iconst dX2_readLate_38 ?_
    refine r_aload_n dX2_readLate_39 rfl rfl ?_
    refine r_iload_n dX2_readLate_40 rfl rfl ?_
    refine r_iconst dX2_readLate_41 ?_
    refine r_iadd dX2_readLate_42 ?_
    refine r_callV 5 [_] (it _ x0 e0 (svD (opD D 4) D.1 x0) ⟨(by first | rfl | exact c1), (by first | rfl | exact c3), (by first | rfl | exact c5), (by first | rfl | exact c34), (by first | rfl | exact c35), (by first | rfl | exact c36), (by first | rfl | exact c37), (by first | rfl | exact c38), (fun j hj => by obtain ⟨a1, a2, a3⟩ := hj; try simp only [va_up]; (repeat rw [if_neg (by omega)]); exact fr j ⟨a1, a2, a3⟩)⟩ (lok_sv (lok_op lo (by omega) ⟨by decide, by decide⟩) (by omega) (fun z => absurd ((va_up_self _ _ _).symm.trans z) (by decide))) (by omega) (by show 2 * (D.1 + 1) ≤ _; omega) _ (by omega)) dX2_readLate_43 cs_X2_28 im_X2_readTime (by decide) c5 rfl (by omega) (by decide) (by decide) rfl rfl (Nat.le_of_ble_eq_true rfl) (fun _ _ _ q => q.elim) (fun v n2 h2 q => ?_)
    obtain ⟨rfl, q⟩ := q
    rcases q with ⟨s1, e1, D1, tk1, er1, hl1, rfl, pw1, lo1, kp1, dn1, nn1, h21⟩ | ⟨f1, p1, D1, tk1, ki1, st1, en1, er1, rfl, pw1, lo1⟩
    · obtain ⟨c1, c3, c5, c34, c35, c36, c37, c38, fr⟩ := id pw1
      have hE1 := tk_B t hl1
      have pN1 := lo1.1
      have dl1 : D.1 + 1 < D1.1 := dn1.1
      have ba1 : D1.1 ≤ 350 := by omega
      refine ⟨rfl, ?_⟩
      dsimp only [Option.toList, List.cons_append, List.nil_append]
      refine r_callV 5 [_, _, _] (s_X2_addPart_f pw1 (by omega) ba1 ⟨by show (0 : Int) ≤ ((D.1 + 1 : Nat) : Int); omega, by show ((D.1 + 1 : Nat) : Int) ≤ 350; omega⟩) dX2_readLate_46 cs_X2_138 im_X2_addPart (by decide) c5 rfl (by omega) (by decide) (by decide) rfl rfl (Nat.le_of_ble_eq_true rfl) (fun _ _ _ q => q.elim) (fun v n2 h2 q => ?_)
      obtain ⟨rfl, rfl, pwb1⟩ := q
      obtain ⟨c1, c3, c5, c34, c35, c36, c37, c38, fr⟩ := id pwb1
      refine ⟨rfl, ?_⟩
      dsimp only [Option.toList, List.cons_append, List.nil_append]
      refine r_if_eq (tgt := 56) dX2_readLate_49 (by decide) ⟨by omega, by omega⟩ (fun g49 => absurd g49 (by omega)) (fun g49 => ?_)
      refine r_iload_n dX2_readLate_52 rfl rfl ?_
      refine r_goto (tgt := 57) dX2_readLate_53 (by decide) ?_
      refine r_iret dX2_readLate_57 ?_
      first
        | refine ⟨rfl, Or.inl ⟨(fun tf mo => laI (s1 tf mo) x0), e1, fpD D1 D.1 ((D.1 + 1 : Nat) : Int), tk1, ?_, hl1, rfl, pwb1, lok_fp lo1 ⟨by omega, by omega⟩, (mk_late kp1 dn1).2.2, (mk_late kp1 dn1).1, (mk_late kp1 dn1).2.1, h21⟩⟩
        | refine ⟨rfl, Or.inr ⟨f1, p1, D1, tk1, ki1, st1, en1, ?_, rfl, pw1, lo1⟩⟩
      rw [eL, er0]
      dsimp only
      rw [er1]
    · obtain ⟨c1, c3, c5, c34, c35, c36, c37, c38, fr⟩ := id pw1
      refine ⟨rfl, ?_⟩
      dsimp only [Option.toList, List.cons_append, List.nil_append]
      refine r_callV 5 [_, _, _] (s_X2_addPart_o pw1) dX2_readLate_46 cs_X2_138 im_X2_addPart (by decide) c5 rfl (by omega) (by decide) (by decide) rfl rfl (Nat.le_of_ble_eq_true rfl) (fun _ _ _ q => q.elim) (fun v n2 h2 q => ?_)
      obtain ⟨rfl, rfl, hh⟩ := q
      obtain rfl := hh.symm
      refine ⟨rfl, ?_⟩
      dsimp only [Option.toList, List.cons_append, List.nil_append]
      refine r_if_eq (tgt := 56) dX2_readLate_49 (by decide) ⟨by omega, by omega⟩ (fun g49 => ?_) (fun g49 => absurd g49 (by omega))
      refine r_iconst dX2_readLate_56 ?_
      refine r_iret dX2_readLate_57 ?_
      first
        | refine ⟨rfl, Or.inl ⟨(fun tf mo => laI (s1 tf mo) x0), e1, fpD D1 D.1 ((D.1 + 1 : Nat) : Int), tk1, ?_, hl1, rfl, pwb1, lok_fp lo1 ⟨by omega, by omega⟩, (mk_late kp1 dn1).2.2, (mk_late kp1 dn1).1, (mk_late kp1 dn1).2.1, h21⟩⟩
        | refine ⟨rfl, Or.inr ⟨f1, p1, D1, tk1, ki1, st1, en1, ?_, rfl, pw1, lo1⟩⟩
      rw [eL, er0]
      dsimp only
      rw [er1]
  · obtain rfl := hh.symm
    refine ⟨rfl, ?_⟩
    dsimp only [Option.toList, List.cons_append, List.nil_append]
    refine r_if_ne (tgt := 21) dX2_readLate_16 (by decide) ⟨by omega, by omega⟩ (fun g16 => absurd g16 (by omega)) (fun g16 => ?_)
    refine r_iconst dX2_readLate_19 ?_
    refine r_iret dX2_readLate_20 ?_
    refine ⟨rfl, Or.inr ⟨_, _, (opD D 4), _, _, _, _, ?_, rfl, ⟨(by first | rfl | exact c1), (by first | rfl | exact c3), (by first | rfl | exact c5), (by first | rfl | exact c34), (by first | rfl | exact c35), (by first | rfl | exact c36), (by first | rfl | exact c37), (by first | rfl | exact c38), (fun j hj => by obtain ⟨a1, a2, a3⟩ := hj; try simp only [va_up]; (repeat rw [if_neg (by omega)]); exact fr j ⟨a1, a2, a3⟩)⟩, (lok_op lo (by omega) ⟨by decide, by decide⟩)⟩⟩
    rw [eL, er0]

theorem s_X2_readCouple_3 {h0 h : aH} {t : Nat → Int} {nd fa pl tk m0 : Int} {le e : Nat} {tv : Value} {D : LDt} (pw : LW h0 h t nd (SC t fa pl tk le e) tv m0 D) (lo : LOK D) (hnd : 0 ≤ nd ∧ nd ≤ 9) (ht : ∀ j, -128 ≤ t j ∧ t j ≤ 127) (hle : le ≤ 700) (hee : e ≤ le) (h2N : 2 * D.1 ≤ e) (hw : e + 2 ≤ tkE t le e) {k : Nat} (hk : k < 12) (it : RdT h0 t nd fa pl le tv m0 k) (ie : RdE h0 t nd fa pl le tv m0 k) {lv : Int} (hlv : lv = 11 - (k : Int))  : mSem yX2_readCouple cX2_readCouple 6 (some .int) (2 * k + 8) 0 0 [.ref 5, iv 3, iv lv] 97 h (LQ h0 t nd fa pl le tv m0 D (k + 1) true (pCp t le meI (pT t le nd k true) e)) noX := by
  obtain ⟨c1, c3, c5, c34, c35, c36, c37, c38, fr⟩ := id pw
  have hB := tk_B t hee
  have hB1 := tk_B t hB.2.2.2.1
  have hB2 := tk_B t hB1.2.2.2.1
  have pN := lo.1
  refine mSem_of (own := RX2) (name := "readCouple") pn_X2 rfl rfl (Nat.le_of_ble_eq_true rfl) ?_
  have eC : pCp t le meI (pT t le nd k true) e = if signAt t le (tkE t le e) 40 = true then (match pT t le nd k true (tkE t le (tkE t le e)) with | .inl x => .inl x | .inr (s1, e1) => if signAt t le e1 44 = true then (match pT t le nd k true (tkE t le e1) with | .inl x => .inl x | .inr (s2, e2) => pCl t le (fun tf mo => meI (s1 tf mo) (s2 tf mo)) e2) else .inl (1, tkS t le e1)) else .inl (1, tkS t le (tkE t le e)) := rfl
  refine r_aload_n dX2_readCouple_0 rfl rfl ?_
  refine r_iload_n dX2_readCouple_1 rfl rfl ?_
  refine r_callV 5 [_] (s_X2_open pw lo hnd ht hle hee h2N hw) dX2_readCouple_2 cs_X2_111 im_X2_open (by decide) c5 rfl (by omega) (by decide) (by decide) rfl rfl (Nat.le_of_ble_eq_true rfl) (fun _ _ _ q => q.elim) (fun v n2 h2 q => ?_)
  obtain ⟨rfl, rfl, pwa⟩ := q
  obtain ⟨c1, c3, c5, c34, c35, c36, c37, c38, fr⟩ := id pwa
  refine ⟨rfl, ?_⟩
  dsimp only [Option.toList, List.cons_append, List.nil_append]
  refine r_istore_n (lv2 := [(0, _), (1, _), (2, _), (3, _)]) dX2_readCouple_5 rfl (by decide) rfl rfl ?_
  refine r_aload_n dX2_readCouple_6 rfl rfl ?_
  refine r_get (fs := [_, _, _]) dX2_readCouple_7 fl_X2_9 (by decide) c5 rfl ?_
  refine r_bipush dX2_readCouple_10 rfl ?_
  refine r_callV 3 [_] (s_X6_takeSign c1 ht (by first | rfl | exact c3) hle (by omega) (by omega)) dX2_readCouple_12 cs_X2_125 im_X6_takeSign (by decide) c3 rfl (by omega) (by decide) (by decide) rfl rfl (Nat.le_of_ble_eq_true rfl) (fun _ _ _ q => q.elim) (fun v n2 h2 q => ?_)
  obtain ⟨rfl, q⟩ := q
  rcases q with ⟨z0, rfl, hh⟩ | ⟨z0, rfl, hh⟩
  · obtain rfl := hh.symm
    refine ⟨rfl, ?_⟩
    dsimp only [Option.toList, List.cons_append, List.nil_append]
    refine r_if_ne (tgt := 20) dX2_readCouple_15 (by decide) ⟨by omega, by omega⟩ (fun g15 => ?_) (fun g15 => absurd g15 (by omega))
    refine r_aload_n dX2_readCouple_20 rfl rfl ?_
    refine r_iload_n dX2_readCouple_21 rfl rfl ?_
    refine r_iconst dX2_readCouple_22 ?_
    refine r_iadd dX2_readCouple_23 ?_
    refine r_callV 5 [_] (it _ tk (tkE t le (tkE t le e)) (opD D 3) ⟨(by first | rfl | exact c1), (by first | rfl | exact c3), (by first | rfl | exact c5), (by first | rfl | exact c34), (by first | rfl | exact c35), (by first | rfl | exact c36), (by first | rfl | exact c37), (by first | rfl | exact c38), (fun j hj => by obtain ⟨a1, a2, a3⟩ := hj; try simp only [va_up]; (repeat rw [if_neg (by omega)]); exact fr j ⟨a1, a2, a3⟩)⟩ (lok_op lo (by omega) ⟨by decide, by decide⟩) (by omega) (by show 2 * (D.1 + 1) ≤ _; omega) _ (by omega)) dX2_readCouple_24 cs_X2_28 im_X2_readTime (by decide) c5 rfl (by omega) (by decide) (by decide) rfl rfl (Nat.le_of_ble_eq_true rfl) (fun _ _ _ q => q.elim) (fun v n2 h2 q => ?_)
    obtain ⟨rfl, q⟩ := q
    rcases q with ⟨s1, e1, D1, tk1, er1, hl1, rfl, pw1, lo1, kp1, dn1, nn1, h21⟩ | ⟨f1, p1, D1, tk1, ki1, st1, en1, er1, rfl, pw1, lo1⟩
    · obtain ⟨c1, c3, c5, c34, c35, c36, c37, c38, fr⟩ := id pw1
      have hE1 := tk_B t hl1
      have pN1 := lo1.1
      have dl1 : D.1 + 1 < D1.1 := dn1.1
      have ba1 : D1.1 ≤ 350 := by omega
      refine ⟨rfl, ?_⟩
      dsimp only [Option.toList, List.cons_append, List.nil_append]
      refine r_istore (lv2 := [(0, _), (1, _), (2, _), (3, _), (4, _)]) dX2_readCouple_27 (by decide) rfl rfl ?_
      refine r_aload_n dX2_readCouple_29 rfl rfl ?_
      refine r_iload_n dX2_readCouple_30 rfl rfl ?_
      refine r_iconst dX2_readCouple_31 ?_
      refine r_iload dX2_readCouple_32 rfl ?_
      refine r_callV 5 [_, _, _] (s_X2_addPart_f pw1 (by omega) ba1 ⟨by show (0 : Int) ≤ ((D.1 + 1 : Nat) : Int); omega, by show ((D.1 + 1 : Nat) : Int) ≤ 350; omega⟩) dX2_readCouple_34 cs_X2_138 im_X2_addPart (by decide) c5 rfl (by omega) (by decide) (by decide) rfl rfl (Nat.le_of_ble_eq_true rfl) (fun _ _ _ q => q.elim) (fun v n2 h2 q => ?_)
      obtain ⟨rfl, rfl, pwb1⟩ := q
      obtain ⟨c1, c3, c5, c34, c35, c36, c37, c38, fr⟩ := id pwb1
      refine ⟨rfl, ?_⟩
      dsimp only [Option.toList, List.cons_append, List.nil_append]
      refine r_if_eq (tgt := 52) dX2_readCouple_37 (by decide) ⟨by omega, by omega⟩ (fun g37 => absurd g37 (by omega)) (fun g37 => ?_)
      refine r_aload_n dX2_readCouple_40 rfl rfl ?_
      refine r_get (fs := [_, _, _]) dX2_readCouple_41 fl_X2_9 (by decide) c5 rfl ?_
      refine r_bipush dX2_readCouple_44 rfl ?_
      refine r_callV 3 [_] (s_X6_takeSign c1 ht (by first | rfl | exact c3) hle (by omega) (by omega)) dX2_readCouple_46 cs_X2_125 im_X6_takeSign (by decide) c3 rfl (by omega) (by decide) (by decide) rfl rfl (Nat.le_of_ble_eq_true rfl) (fun _ _ _ q => q.elim) (fun v n2 h2 q => ?_)
      obtain ⟨rfl, q⟩ := q
      rcases q with ⟨z3, rfl, hh⟩ | ⟨z3, rfl, hh⟩
      · obtain rfl := hh.symm
        refine ⟨rfl, ?_⟩
        dsimp only [Option.toList, List.cons_append, List.nil_append]
        refine r_if_ne (tgt := 54) dX2_readCouple_49 (by decide) ⟨by omega, by omega⟩ (fun g49 => ?_) (fun g49 => absurd g49 (by omega))
        refine r_aload_n dX2_readCouple_54 rfl rfl ?_
        refine r_iload_n dX2_readCouple_55 rfl rfl ?_
        refine r_iconst dX2_readCouple_56 ?_
        refine r_iadd dX2_readCouple_57 ?_
        refine r_callV 5 [_] (it _ tk1 (tkE t le e1) (fpD D1 D.1 ((D.1 + 1 : Nat) : Int)) ⟨(by first | rfl | exact c1), (by first | rfl | exact c3), (by first | rfl | exact c5), (by first | rfl | exact c34), (by first | rfl | exact c35), (by first | rfl | exact c36), (by first | rfl | exact c37), (by first | rfl | exact c38), (fun j hj => by obtain ⟨a1, a2, a3⟩ := hj; try simp only [va_up]; (repeat rw [if_neg (by omega)]); exact fr j ⟨a1, a2, a3⟩)⟩ (lok_fp lo1 ⟨by omega, by omega⟩) (by omega) (by show 2 * D1.1 ≤ _; omega) _ (by omega)) dX2_readCouple_58 cs_X2_28 im_X2_readTime (by decide) c5 rfl (by omega) (by decide) (by decide) rfl rfl (Nat.le_of_ble_eq_true rfl) (fun _ _ _ q => q.elim) (fun v n2 h2 q => ?_)
        obtain ⟨rfl, q⟩ := q
        rcases q with ⟨s2, e2, D2, tk2, er2, hl2, rfl, pw2, lo2, kp2, dn2, nn2, h22⟩ | ⟨f2, p2, D2, tk2, ki2, st2, en2, er2, rfl, pw2, lo2⟩
        · obtain ⟨c1, c3, c5, c34, c35, c36, c37, c38, fr⟩ := id pw2
          have hE2 := tk_B t hl2
          have pN2 := lo2.1
          have dl2 : D1.1 < D2.1 := dn2.1
          have ba2 : D2.1 ≤ 350 := by omega
          refine ⟨rfl, ?_⟩
          dsimp only [Option.toList, List.cons_append, List.nil_append]
          refine r_istore (lv2 := [(0, _), (1, _), (2, _), (3, _), (4, _), (5, _)]) dX2_readCouple_61 (by decide) rfl rfl ?_
          refine r_aload_n dX2_readCouple_63 rfl rfl ?_
          refine r_iload_n dX2_readCouple_64 rfl rfl ?_
          refine r_iload dX2_readCouple_65 rfl ?_
          refine r_iload dX2_readCouple_67 rfl ?_
          refine r_callV 5 [_, _, _] (s_X2_addPart_n pw2 (by show D.1 + 1 < D2.1; omega) ba2 ⟨by show (0 : Int) ≤ (D1.1 : Int); omega, by show (D1.1 : Int) ≤ 350; omega⟩) dX2_readCouple_69 cs_X2_138 im_X2_addPart (by decide) c5 rfl (by omega) (by decide) (by decide) rfl rfl (Nat.le_of_ble_eq_true rfl) (fun _ _ _ q => q.elim) (fun v n2 h2 q => ?_)
          obtain ⟨rfl, rfl, pwb2⟩ := q
          obtain ⟨c1, c3, c5, c34, c35, c36, c37, c38, fr⟩ := id pwb2
          refine ⟨rfl, ?_⟩
          dsimp only [Option.toList, List.cons_append, List.nil_append]
          refine r_if_eq (tgt := 87) dX2_readCouple_72 (by decide) ⟨by omega, by omega⟩ (fun g72 => absurd g72 (by omega)) (fun g72 => ?_)
          refine r_aload_n dX2_readCouple_75 rfl rfl ?_
          refine r_get (fs := [_, _, _]) dX2_readCouple_76 fl_X2_9 (by decide) c5 rfl ?_
          refine r_bipush dX2_readCouple_79 rfl ?_
          refine r_callV 3 [_] (s_X6_takeSign c1 ht (by first | rfl | exact c3) hle (by omega) (by omega)) dX2_readCouple_81 cs_X2_125 im_X6_takeSign (by decide) c3 rfl (by omega) (by decide) (by decide) rfl rfl (Nat.le_of_ble_eq_true rfl) (fun _ _ _ q => q.elim) (fun v n2 h2 q => ?_)
          obtain ⟨rfl, q⟩ := q
          rcases q with ⟨z4, rfl, hh⟩ | ⟨z4, rfl, hh⟩
          · obtain rfl := hh.symm
            refine ⟨rfl, ?_⟩
            dsimp only [Option.toList, List.cons_append, List.nil_append]
            refine r_if_ne (tgt := 89) dX2_readCouple_84 (by decide) ⟨by omega, by omega⟩ (fun g84 => ?_) (fun g84 => absurd g84 (by omega))
            refine r_iload_n dX2_readCouple_89 rfl rfl ?_
            refine r_iret dX2_readCouple_90 ?_
            obtain ⟨y1, y2, y3, y4, y5, y6, y7⟩ := mk_two kp1 dl1 dn1 kp2 dn2
            rw [eC, if_pos z0, er1]
            dsimp only
            rw [if_pos z3, er2]
            dsimp only
            unfold pCl
            rw [if_pos z4]
            exact ⟨rfl, Or.inl ⟨_, _, (npD D2 (D.1 + 1) (D1.1 : Int)), _, rfl, by omega, rfl, ⟨(by first | rfl | exact c1), (by first | rfl | exact c3), (by first | rfl | exact c5), (by first | rfl | exact c34), (by first | rfl | exact c35), (by first | rfl | exact c36), (by first | rfl | exact c37), (by first | rfl | exact c38), (fun j hj => by obtain ⟨a1, a2, a3⟩ := hj; try simp only [va_up]; (repeat rw [if_neg (by omega)]); exact fr j ⟨a1, a2, a3⟩)⟩, (lok_np lo2 ⟨by omega, by omega⟩), y5, den_mean y1 y2 y3 y6 y7, y4, by show 2 * D2.1 ≤ _; omega⟩⟩
          · obtain rfl := hh.symm
            refine ⟨rfl, ?_⟩
            dsimp only [Option.toList, List.cons_append, List.nil_append]
            refine r_if_ne (tgt := 89) dX2_readCouple_84 (by decide) ⟨by omega, by omega⟩ (fun g84 => absurd g84 (by omega)) (fun g84 => ?_)
            refine r_iconst dX2_readCouple_87 ?_
            refine r_iret dX2_readCouple_88 ?_
            rw [eC, if_pos z0, er1]
            dsimp only
            rw [if_pos z3, er2]
            dsimp only
            first
              | exact ⟨rfl, Or.inr ⟨f2, p2, D2, tk2, ki2, st2, en2, rfl, rfl, pw2, lo2⟩⟩
              | (unfold pCl
                 rw [if_neg (by rw [z4]; decide)]
                 exact ⟨rfl, Or.inr ⟨_, _, (npD D2 (D.1 + 1) (D1.1 : Int)), _, _, _, _, rfl, rfl, ⟨(by first | rfl | exact c1), (by first | rfl | exact c3), (by first | rfl | exact c5), (by first | rfl | exact c34), (by first | rfl | exact c35), (by first | rfl | exact c36), (by first | rfl | exact c37), (by first | rfl | exact c38), (fun j hj => by obtain ⟨a1, a2, a3⟩ := hj; try simp only [va_up]; (repeat rw [if_neg (by omega)]); exact fr j ⟨a1, a2, a3⟩)⟩, (lok_np lo2 ⟨by omega, by omega⟩)⟩⟩)
        · obtain ⟨c1, c3, c5, c34, c35, c36, c37, c38, fr⟩ := id pw2
          refine ⟨rfl, ?_⟩
          dsimp only [Option.toList, List.cons_append, List.nil_append]
          refine r_istore (lv2 := [(0, _), (1, _), (2, _), (3, _), (4, _), (5, _)]) dX2_readCouple_61 (by decide) rfl rfl ?_
          refine r_aload_n dX2_readCouple_63 rfl rfl ?_
          refine r_iload_n dX2_readCouple_64 rfl rfl ?_
          refine r_iload dX2_readCouple_65 rfl ?_
          refine r_iload dX2_readCouple_67 rfl ?_
          refine r_callV 5 [_, _, _] (s_X2_addPart_o pw2) dX2_readCouple_69 cs_X2_138 im_X2_addPart (by decide) c5 rfl (by omega) (by decide) (by decide) rfl rfl (Nat.le_of_ble_eq_true rfl) (fun _ _ _ q => q.elim) (fun v n2 h2 q => ?_)
          obtain ⟨rfl, rfl, hh⟩ := q
          obtain rfl := hh.symm
          refine ⟨rfl, ?_⟩
          dsimp only [Option.toList, List.cons_append, List.nil_append]
          refine r_if_eq (tgt := 87) dX2_readCouple_72 (by decide) ⟨by omega, by omega⟩ (fun g72 => ?_) (fun g72 => absurd g72 (by omega))
          refine r_iconst dX2_readCouple_87 ?_
          refine r_iret dX2_readCouple_88 ?_
          rw [eC, if_pos z0, er1]
          dsimp only
          rw [if_pos z3, er2]
          dsimp only
          first
            | exact ⟨rfl, Or.inr ⟨f2, p2, D2, tk2, ki2, st2, en2, rfl, rfl, pw2, lo2⟩⟩
            | (unfold pCl
               rw [if_neg (by rw [z4]; decide)]
               exact ⟨rfl, Or.inr ⟨_, _, (npD D2 (D.1 + 1) (D1.1 : Int)), _, _, _, _, rfl, rfl, ⟨(by first | rfl | exact c1), (by first | rfl | exact c3), (by first | rfl | exact c5), (by first | rfl | exact c34), (by first | rfl | exact c35), (by first | rfl | exact c36), (by first | rfl | exact c37), (by first | rfl | exact c38), (fun j hj => by obtain ⟨a1, a2, a3⟩ := hj; try simp only [va_up]; (repeat rw [if_neg (by omega)]); exact fr j ⟨a1, a2, a3⟩)⟩, (lok_np lo2 ⟨by omega, by omega⟩)⟩⟩)
      · obtain rfl := hh.symm
        refine ⟨rfl, ?_⟩
        dsimp only [Option.toList, List.cons_append, List.nil_append]
        refine r_if_ne (tgt := 54) dX2_readCouple_49 (by decide) ⟨by omega, by omega⟩ (fun g49 => absurd g49 (by omega)) (fun g49 => ?_)
        refine r_iconst dX2_readCouple_52 ?_
        refine r_iret dX2_readCouple_53 ?_
        rw [eC, if_pos z0, er1]
        dsimp only
        first
          | exact ⟨rfl, Or.inr ⟨f1, p1, D1, tk1, ki1, st1, en1, rfl, rfl, pw1, lo1⟩⟩
          | (rw [if_neg (by rw [z3]; decide)]
             exact ⟨rfl, Or.inr ⟨_, _, (fpD D1 D.1 ((D.1 + 1 : Nat) : Int)), _, _, _, _, rfl, rfl, ⟨(by first | rfl | exact c1), (by first | rfl | exact c3), (by first | rfl | exact c5), (by first | rfl | exact c34), (by first | rfl | exact c35), (by first | rfl | exact c36), (by first | rfl | exact c37), (by first | rfl | exact c38), (fun j hj => by obtain ⟨a1, a2, a3⟩ := hj; try simp only [va_up]; (repeat rw [if_neg (by omega)]); exact fr j ⟨a1, a2, a3⟩)⟩, (lok_fp lo1 ⟨by omega, by omega⟩)⟩⟩)
    · obtain ⟨c1, c3, c5, c34, c35, c36, c37, c38, fr⟩ := id pw1
      refine ⟨rfl, ?_⟩
      dsimp only [Option.toList, List.cons_append, List.nil_append]
      refine r_istore (lv2 := [(0, _), (1, _), (2, _), (3, _), (4, _)]) dX2_readCouple_27 (by decide) rfl rfl ?_
      refine r_aload_n dX2_readCouple_29 rfl rfl ?_
      refine r_iload_n dX2_readCouple_30 rfl rfl ?_
      refine r_iconst dX2_readCouple_31 ?_
      refine r_iload dX2_readCouple_32 rfl ?_
      refine r_callV 5 [_, _, _] (s_X2_addPart_o pw1) dX2_readCouple_34 cs_X2_138 im_X2_addPart (by decide) c5 rfl (by omega) (by decide) (by decide) rfl rfl (Nat.le_of_ble_eq_true rfl) (fun _ _ _ q => q.elim) (fun v n2 h2 q => ?_)
      obtain ⟨rfl, rfl, hh⟩ := q
      obtain rfl := hh.symm
      refine ⟨rfl, ?_⟩
      dsimp only [Option.toList, List.cons_append, List.nil_append]
      refine r_if_eq (tgt := 52) dX2_readCouple_37 (by decide) ⟨by omega, by omega⟩ (fun g37 => ?_) (fun g37 => absurd g37 (by omega))
      refine r_iconst dX2_readCouple_52 ?_
      refine r_iret dX2_readCouple_53 ?_
      rw [eC, if_pos z0, er1]
      dsimp only
      first
        | exact ⟨rfl, Or.inr ⟨f1, p1, D1, tk1, ki1, st1, en1, rfl, rfl, pw1, lo1⟩⟩
        | (rw [if_neg (by rw [z3]; decide)]
           exact ⟨rfl, Or.inr ⟨_, _, (fpD D1 D.1 ((D.1 + 1 : Nat) : Int)), _, _, _, _, rfl, rfl, ⟨(by first | rfl | exact c1), (by first | rfl | exact c3), (by first | rfl | exact c5), (by first | rfl | exact c34), (by first | rfl | exact c35), (by first | rfl | exact c36), (by first | rfl | exact c37), (by first | rfl | exact c38), (fun j hj => by obtain ⟨a1, a2, a3⟩ := hj; try simp only [va_up]; (repeat rw [if_neg (by omega)]); exact fr j ⟨a1, a2, a3⟩)⟩, (lok_fp lo1 ⟨by omega, by omega⟩)⟩⟩)
  · obtain rfl := hh.symm
    refine ⟨rfl, ?_⟩
    dsimp only [Option.toList, List.cons_append, List.nil_append]
    refine r_if_ne (tgt := 20) dX2_readCouple_15 (by decide) ⟨by omega, by omega⟩ (fun g15 => absurd g15 (by omega)) (fun g15 => ?_)
    refine r_iconst dX2_readCouple_18 ?_
    refine r_iret dX2_readCouple_19 ?_
    refine ⟨rfl, Or.inr ⟨_, _, (opD D 3), _, _, _, _, ?_, rfl, ⟨(by first | rfl | exact c1), (by first | rfl | exact c3), (by first | rfl | exact c5), (by first | rfl | exact c34), (by first | rfl | exact c35), (by first | rfl | exact c36), (by first | rfl | exact c37), (by first | rfl | exact c38), (fun j hj => by obtain ⟨a1, a2, a3⟩ := hj; try simp only [va_up]; (repeat rw [if_neg (by omega)]); exact fr j ⟨a1, a2, a3⟩)⟩, (lok_op lo (by omega) ⟨by decide, by decide⟩)⟩⟩
    rw [eC, if_neg (by rw [z0]; decide)]

theorem s_X2_readCouple_9 {h0 h : aH} {t : Nat → Int} {nd fa pl tk m0 : Int} {le e : Nat} {tv : Value} {D : LDt} (pw : LW h0 h t nd (SC t fa pl tk le e) tv m0 D) (lo : LOK D) (hnd : 0 ≤ nd ∧ nd ≤ 9) (ht : ∀ j, -128 ≤ t j ∧ t j ≤ 127) (hle : le ≤ 700) (hee : e ≤ le) (h2N : 2 * D.1 ≤ e) (hw : e + 2 ≤ tkE t le e) {k : Nat} (hk : k < 12) (it : RdT h0 t nd fa pl le tv m0 k) (ie : RdE h0 t nd fa pl le tv m0 k) {lv : Int} (hlv : lv = 11 - (k : Int))  : mSem yX2_readCouple cX2_readCouple 6 (some .int) (2 * k + 8) 0 0 [.ref 5, iv 9, iv lv] 97 h (LQ h0 t nd fa pl le tv m0 D (k + 1) false (pCp t le beI (pT t le nd k true) e)) noX := by
  obtain ⟨c1, c3, c5, c34, c35, c36, c37, c38, fr⟩ := id pw
  have hB := tk_B t hee
  have hB1 := tk_B t hB.2.2.2.1
  have hB2 := tk_B t hB1.2.2.2.1
  have pN := lo.1
  refine mSem_of (own := RX2) (name := "readCouple") pn_X2 rfl rfl (Nat.le_of_ble_eq_true rfl) ?_
  have eC : pCp t le beI (pT t le nd k true) e = if signAt t le (tkE t le e) 40 = true then (match pT t le nd k true (tkE t le (tkE t le e)) with | .inl x => .inl x | .inr (s1, e1) => if signAt t le e1 44 = true then (match pT t le nd k true (tkE t le e1) with | .inl x => .inl x | .inr (s2, e2) => pCl t le (fun tf mo => beI (s1 tf mo) (s2 tf mo)) e2) else .inl (1, tkS t le e1)) else .inl (1, tkS t le (tkE t le e)) := rfl
  refine r_aload_n dX2_readCouple_0 rfl rfl ?_
  refine r_iload_n dX2_readCouple_1 rfl rfl ?_
  refine r_callV 5 [_] (s_X2_open pw lo hnd ht hle hee h2N hw) dX2_readCouple_2 cs_X2_111 im_X2_open (by decide) c5 rfl (by omega) (by decide) (by decide) rfl rfl (Nat.le_of_ble_eq_true rfl) (fun _ _ _ q => q.elim) (fun v n2 h2 q => ?_)
  obtain ⟨rfl, rfl, pwa⟩ := q
  obtain ⟨c1, c3, c5, c34, c35, c36, c37, c38, fr⟩ := id pwa
  refine ⟨rfl, ?_⟩
  dsimp only [Option.toList, List.cons_append, List.nil_append]
  refine r_istore_n (lv2 := [(0, _), (1, _), (2, _), (3, _)]) dX2_readCouple_5 rfl (by decide) rfl rfl ?_
  refine r_aload_n dX2_readCouple_6 rfl rfl ?_
  refine r_get (fs := [_, _, _]) dX2_readCouple_7 fl_X2_9 (by decide) c5 rfl ?_
  refine r_bipush dX2_readCouple_10 rfl ?_
  refine r_callV 3 [_] (s_X6_takeSign c1 ht (by first | rfl | exact c3) hle (by omega) (by omega)) dX2_readCouple_12 cs_X2_125 im_X6_takeSign (by decide) c3 rfl (by omega) (by decide) (by decide) rfl rfl (Nat.le_of_ble_eq_true rfl) (fun _ _ _ q => q.elim) (fun v n2 h2 q => ?_)
  obtain ⟨rfl, q⟩ := q
  rcases q with ⟨z0, rfl, hh⟩ | ⟨z0, rfl, hh⟩
  · obtain rfl := hh.symm
    refine ⟨rfl, ?_⟩
    dsimp only [Option.toList, List.cons_append, List.nil_append]
    refine r_if_ne (tgt := 20) dX2_readCouple_15 (by decide) ⟨by omega, by omega⟩ (fun g15 => ?_) (fun g15 => absurd g15 (by omega))
    refine r_aload_n dX2_readCouple_20 rfl rfl ?_
    refine r_iload_n dX2_readCouple_21 rfl rfl ?_
    refine r_iconst dX2_readCouple_22 ?_
    refine r_iadd dX2_readCouple_23 ?_
    refine r_callV 5 [_] (it _ tk (tkE t le (tkE t le e)) (opD D 9) ⟨(by first | rfl | exact c1), (by first | rfl | exact c3), (by first | rfl | exact c5), (by first | rfl | exact c34), (by first | rfl | exact c35), (by first | rfl | exact c36), (by first | rfl | exact c37), (by first | rfl | exact c38), (fun j hj => by obtain ⟨a1, a2, a3⟩ := hj; try simp only [va_up]; (repeat rw [if_neg (by omega)]); exact fr j ⟨a1, a2, a3⟩)⟩ (lok_op lo (by omega) ⟨by decide, by decide⟩) (by omega) (by show 2 * (D.1 + 1) ≤ _; omega) _ (by omega)) dX2_readCouple_24 cs_X2_28 im_X2_readTime (by decide) c5 rfl (by omega) (by decide) (by decide) rfl rfl (Nat.le_of_ble_eq_true rfl) (fun _ _ _ q => q.elim) (fun v n2 h2 q => ?_)
    obtain ⟨rfl, q⟩ := q
    rcases q with ⟨s1, e1, D1, tk1, er1, hl1, rfl, pw1, lo1, kp1, dn1, nn1, h21⟩ | ⟨f1, p1, D1, tk1, ki1, st1, en1, er1, rfl, pw1, lo1⟩
    · obtain ⟨c1, c3, c5, c34, c35, c36, c37, c38, fr⟩ := id pw1
      have hE1 := tk_B t hl1
      have pN1 := lo1.1
      have dl1 : D.1 + 1 < D1.1 := dn1.1
      have ba1 : D1.1 ≤ 350 := by omega
      refine ⟨rfl, ?_⟩
      dsimp only [Option.toList, List.cons_append, List.nil_append]
      refine r_istore (lv2 := [(0, _), (1, _), (2, _), (3, _), (4, _)]) dX2_readCouple_27 (by decide) rfl rfl ?_
      refine r_aload_n dX2_readCouple_29 rfl rfl ?_
      refine r_iload_n dX2_readCouple_30 rfl rfl ?_
      refine r_iconst dX2_readCouple_31 ?_
      refine r_iload dX2_readCouple_32 rfl ?_
      refine r_callV 5 [_, _, _] (s_X2_addPart_f pw1 (by omega) ba1 ⟨by show (0 : Int) ≤ ((D.1 + 1 : Nat) : Int); omega, by show ((D.1 + 1 : Nat) : Int) ≤ 350; omega⟩) dX2_readCouple_34 cs_X2_138 im_X2_addPart (by decide) c5 rfl (by omega) (by decide) (by decide) rfl rfl (Nat.le_of_ble_eq_true rfl) (fun _ _ _ q => q.elim) (fun v n2 h2 q => ?_)
      obtain ⟨rfl, rfl, pwb1⟩ := q
      obtain ⟨c1, c3, c5, c34, c35, c36, c37, c38, fr⟩ := id pwb1
      refine ⟨rfl, ?_⟩
      dsimp only [Option.toList, List.cons_append, List.nil_append]
      refine r_if_eq (tgt := 52) dX2_readCouple_37 (by decide) ⟨by omega, by omega⟩ (fun g37 => absurd g37 (by omega)) (fun g37 => ?_)
      refine r_aload_n dX2_readCouple_40 rfl rfl ?_
      refine r_get (fs := [_, _, _]) dX2_readCouple_41 fl_X2_9 (by decide) c5 rfl ?_
      refine r_bipush dX2_readCouple_44 rfl ?_
      refine r_callV 3 [_] (s_X6_takeSign c1 ht (by first | rfl | exact c3) hle (by omega) (by omega)) dX2_readCouple_46 cs_X2_125 im_X6_takeSign (by decide) c3 rfl (by omega) (by decide) (by decide) rfl rfl (Nat.le_of_ble_eq_true rfl) (fun _ _ _ q => q.elim) (fun v n2 h2 q => ?_)
      obtain ⟨rfl, q⟩ := q
      rcases q with ⟨z3, rfl, hh⟩ | ⟨z3, rfl, hh⟩
      · obtain rfl := hh.symm
        refine ⟨rfl, ?_⟩
        dsimp only [Option.toList, List.cons_append, List.nil_append]
        refine r_if_ne (tgt := 54) dX2_readCouple_49 (by decide) ⟨by omega, by omega⟩ (fun g49 => ?_) (fun g49 => absurd g49 (by omega))
        refine r_aload_n dX2_readCouple_54 rfl rfl ?_
        refine r_iload_n dX2_readCouple_55 rfl rfl ?_
        refine r_iconst dX2_readCouple_56 ?_
        refine r_iadd dX2_readCouple_57 ?_
        refine r_callV 5 [_] (it _ tk1 (tkE t le e1) (fpD D1 D.1 ((D.1 + 1 : Nat) : Int)) ⟨(by first | rfl | exact c1), (by first | rfl | exact c3), (by first | rfl | exact c5), (by first | rfl | exact c34), (by first | rfl | exact c35), (by first | rfl | exact c36), (by first | rfl | exact c37), (by first | rfl | exact c38), (fun j hj => by obtain ⟨a1, a2, a3⟩ := hj; try simp only [va_up]; (repeat rw [if_neg (by omega)]); exact fr j ⟨a1, a2, a3⟩)⟩ (lok_fp lo1 ⟨by omega, by omega⟩) (by omega) (by show 2 * D1.1 ≤ _; omega) _ (by omega)) dX2_readCouple_58 cs_X2_28 im_X2_readTime (by decide) c5 rfl (by omega) (by decide) (by decide) rfl rfl (Nat.le_of_ble_eq_true rfl) (fun _ _ _ q => q.elim) (fun v n2 h2 q => ?_)
        obtain ⟨rfl, q⟩ := q
        rcases q with ⟨s2, e2, D2, tk2, er2, hl2, rfl, pw2, lo2, kp2, dn2, nn2, h22⟩ | ⟨f2, p2, D2, tk2, ki2, st2, en2, er2, rfl, pw2, lo2⟩
        · obtain ⟨c1, c3, c5, c34, c35, c36, c37, c38, fr⟩ := id pw2
          have hE2 := tk_B t hl2
          have pN2 := lo2.1
          have dl2 : D1.1 < D2.1 := dn2.1
          have ba2 : D2.1 ≤ 350 := by omega
          refine ⟨rfl, ?_⟩
          dsimp only [Option.toList, List.cons_append, List.nil_append]
          refine r_istore (lv2 := [(0, _), (1, _), (2, _), (3, _), (4, _), (5, _)]) dX2_readCouple_61 (by decide) rfl rfl ?_
          refine r_aload_n dX2_readCouple_63 rfl rfl ?_
          refine r_iload_n dX2_readCouple_64 rfl rfl ?_
          refine r_iload dX2_readCouple_65 rfl ?_
          refine r_iload dX2_readCouple_67 rfl ?_
          refine r_callV 5 [_, _, _] (s_X2_addPart_n pw2 (by show D.1 + 1 < D2.1; omega) ba2 ⟨by show (0 : Int) ≤ (D1.1 : Int); omega, by show (D1.1 : Int) ≤ 350; omega⟩) dX2_readCouple_69 cs_X2_138 im_X2_addPart (by decide) c5 rfl (by omega) (by decide) (by decide) rfl rfl (Nat.le_of_ble_eq_true rfl) (fun _ _ _ q => q.elim) (fun v n2 h2 q => ?_)
          obtain ⟨rfl, rfl, pwb2⟩ := q
          obtain ⟨c1, c3, c5, c34, c35, c36, c37, c38, fr⟩ := id pwb2
          refine ⟨rfl, ?_⟩
          dsimp only [Option.toList, List.cons_append, List.nil_append]
          refine r_if_eq (tgt := 87) dX2_readCouple_72 (by decide) ⟨by omega, by omega⟩ (fun g72 => absurd g72 (by omega)) (fun g72 => ?_)
          refine r_aload_n dX2_readCouple_75 rfl rfl ?_
          refine r_get (fs := [_, _, _]) dX2_readCouple_76 fl_X2_9 (by decide) c5 rfl ?_
          refine r_bipush dX2_readCouple_79 rfl ?_
          refine r_callV 3 [_] (s_X6_takeSign c1 ht (by first | rfl | exact c3) hle (by omega) (by omega)) dX2_readCouple_81 cs_X2_125 im_X6_takeSign (by decide) c3 rfl (by omega) (by decide) (by decide) rfl rfl (Nat.le_of_ble_eq_true rfl) (fun _ _ _ q => q.elim) (fun v n2 h2 q => ?_)
          obtain ⟨rfl, q⟩ := q
          rcases q with ⟨z4, rfl, hh⟩ | ⟨z4, rfl, hh⟩
          · obtain rfl := hh.symm
            refine ⟨rfl, ?_⟩
            dsimp only [Option.toList, List.cons_append, List.nil_append]
            refine r_if_ne (tgt := 89) dX2_readCouple_84 (by decide) ⟨by omega, by omega⟩ (fun g84 => ?_) (fun g84 => absurd g84 (by omega))
            refine r_iload_n dX2_readCouple_89 rfl rfl ?_
            refine r_iret dX2_readCouple_90 ?_
            obtain ⟨y1, y2, y3, y4, y5, y6, y7⟩ := mk_two kp1 dl1 dn1 kp2 dn2
            rw [eC, if_pos z0, er1]
            dsimp only
            rw [if_pos z3, er2]
            dsimp only
            unfold pCl
            rw [if_pos z4]
            exact ⟨rfl, Or.inl ⟨_, _, (npD D2 (D.1 + 1) (D1.1 : Int)), _, rfl, by omega, rfl, ⟨(by first | rfl | exact c1), (by first | rfl | exact c3), (by first | rfl | exact c5), (by first | rfl | exact c34), (by first | rfl | exact c35), (by first | rfl | exact c36), (by first | rfl | exact c37), (by first | rfl | exact c38), (fun j hj => by obtain ⟨a1, a2, a3⟩ := hj; try simp only [va_up]; (repeat rw [if_neg (by omega)]); exact fr j ⟨a1, a2, a3⟩)⟩, (lok_np lo2 ⟨by omega, by omega⟩), y5, den_before y1 y2 y3 y6 y7, y4, by show 2 * D2.1 ≤ _; omega⟩⟩
          · obtain rfl := hh.symm
            refine ⟨rfl, ?_⟩
            dsimp only [Option.toList, List.cons_append, List.nil_append]
            refine r_if_ne (tgt := 89) dX2_readCouple_84 (by decide) ⟨by omega, by omega⟩ (fun g84 => absurd g84 (by omega)) (fun g84 => ?_)
            refine r_iconst dX2_readCouple_87 ?_
            refine r_iret dX2_readCouple_88 ?_
            rw [eC, if_pos z0, er1]
            dsimp only
            rw [if_pos z3, er2]
            dsimp only
            first
              | exact ⟨rfl, Or.inr ⟨f2, p2, D2, tk2, ki2, st2, en2, rfl, rfl, pw2, lo2⟩⟩
              | (unfold pCl
                 rw [if_neg (by rw [z4]; decide)]
                 exact ⟨rfl, Or.inr ⟨_, _, (npD D2 (D.1 + 1) (D1.1 : Int)), _, _, _, _, rfl, rfl, ⟨(by first | rfl | exact c1), (by first | rfl | exact c3), (by first | rfl | exact c5), (by first | rfl | exact c34), (by first | rfl | exact c35), (by first | rfl | exact c36), (by first | rfl | exact c37), (by first | rfl | exact c38), (fun j hj => by obtain ⟨a1, a2, a3⟩ := hj; try simp only [va_up]; (repeat rw [if_neg (by omega)]); exact fr j ⟨a1, a2, a3⟩)⟩, (lok_np lo2 ⟨by omega, by omega⟩)⟩⟩)
        · obtain ⟨c1, c3, c5, c34, c35, c36, c37, c38, fr⟩ := id pw2
          refine ⟨rfl, ?_⟩
          dsimp only [Option.toList, List.cons_append, List.nil_append]
          refine r_istore (lv2 := [(0, _), (1, _), (2, _), (3, _), (4, _), (5, _)]) dX2_readCouple_61 (by decide) rfl rfl ?_
          refine r_aload_n dX2_readCouple_63 rfl rfl ?_
          refine r_iload_n dX2_readCouple_64 rfl rfl ?_
          refine r_iload dX2_readCouple_65 rfl ?_
          refine r_iload dX2_readCouple_67 rfl ?_
          refine r_callV 5 [_, _, _] (s_X2_addPart_o pw2) dX2_readCouple_69 cs_X2_138 im_X2_addPart (by decide) c5 rfl (by omega) (by decide) (by decide) rfl rfl (Nat.le_of_ble_eq_true rfl) (fun _ _ _ q => q.elim) (fun v n2 h2 q => ?_)
          obtain ⟨rfl, rfl, hh⟩ := q
          obtain rfl := hh.symm
          refine ⟨rfl, ?_⟩
          dsimp only [Option.toList, List.cons_append, List.nil_append]
          refine r_if_eq (tgt := 87) dX2_readCouple_72 (by decide) ⟨by omega, by omega⟩ (fun g72 => ?_) (fun g72 => absurd g72 (by omega))
          refine r_iconst dX2_readCouple_87 ?_
          refine r_iret dX2_readCouple_88 ?_
          rw [eC, if_pos z0, er1]
          dsimp only
          rw [if_pos z3, er2]
          dsimp only
          first
            | exact ⟨rfl, Or.inr ⟨f2, p2, D2, tk2, ki2, st2, en2, rfl, rfl, pw2, lo2⟩⟩
            | (unfold pCl
               rw [if_neg (by rw [z4]; decide)]
               exact ⟨rfl, Or.inr ⟨_, _, (npD D2 (D.1 + 1) (D1.1 : Int)), _, _, _, _, rfl, rfl, ⟨(by first | rfl | exact c1), (by first | rfl | exact c3), (by first | rfl | exact c5), (by first | rfl | exact c34), (by first | rfl | exact c35), (by first | rfl | exact c36), (by first | rfl | exact c37), (by first | rfl | exact c38), (fun j hj => by obtain ⟨a1, a2, a3⟩ := hj; try simp only [va_up]; (repeat rw [if_neg (by omega)]); exact fr j ⟨a1, a2, a3⟩)⟩, (lok_np lo2 ⟨by omega, by omega⟩)⟩⟩)
      · obtain rfl := hh.symm
        refine ⟨rfl, ?_⟩
        dsimp only [Option.toList, List.cons_append, List.nil_append]
        refine r_if_ne (tgt := 54) dX2_readCouple_49 (by decide) ⟨by omega, by omega⟩ (fun g49 => absurd g49 (by omega)) (fun g49 => ?_)
        refine r_iconst dX2_readCouple_52 ?_
        refine r_iret dX2_readCouple_53 ?_
        rw [eC, if_pos z0, er1]
        dsimp only
        first
          | exact ⟨rfl, Or.inr ⟨f1, p1, D1, tk1, ki1, st1, en1, rfl, rfl, pw1, lo1⟩⟩
          | (rw [if_neg (by rw [z3]; decide)]
             exact ⟨rfl, Or.inr ⟨_, _, (fpD D1 D.1 ((D.1 + 1 : Nat) : Int)), _, _, _, _, rfl, rfl, ⟨(by first | rfl | exact c1), (by first | rfl | exact c3), (by first | rfl | exact c5), (by first | rfl | exact c34), (by first | rfl | exact c35), (by first | rfl | exact c36), (by first | rfl | exact c37), (by first | rfl | exact c38), (fun j hj => by obtain ⟨a1, a2, a3⟩ := hj; try simp only [va_up]; (repeat rw [if_neg (by omega)]); exact fr j ⟨a1, a2, a3⟩)⟩, (lok_fp lo1 ⟨by omega, by omega⟩)⟩⟩)
    · obtain ⟨c1, c3, c5, c34, c35, c36, c37, c38, fr⟩ := id pw1
      refine ⟨rfl, ?_⟩
      dsimp only [Option.toList, List.cons_append, List.nil_append]
      refine r_istore (lv2 := [(0, _), (1, _), (2, _), (3, _), (4, _)]) dX2_readCouple_27 (by decide) rfl rfl ?_
      refine r_aload_n dX2_readCouple_29 rfl rfl ?_
      refine r_iload_n dX2_readCouple_30 rfl rfl ?_
      refine r_iconst dX2_readCouple_31 ?_
      refine r_iload dX2_readCouple_32 rfl ?_
      refine r_callV 5 [_, _, _] (s_X2_addPart_o pw1) dX2_readCouple_34 cs_X2_138 im_X2_addPart (by decide) c5 rfl (by omega) (by decide) (by decide) rfl rfl (Nat.le_of_ble_eq_true rfl) (fun _ _ _ q => q.elim) (fun v n2 h2 q => ?_)
      obtain ⟨rfl, rfl, hh⟩ := q
      obtain rfl := hh.symm
      refine ⟨rfl, ?_⟩
      dsimp only [Option.toList, List.cons_append, List.nil_append]
      refine r_if_eq (tgt := 52) dX2_readCouple_37 (by decide) ⟨by omega, by omega⟩ (fun g37 => ?_) (fun g37 => absurd g37 (by omega))
      refine r_iconst dX2_readCouple_52 ?_
      refine r_iret dX2_readCouple_53 ?_
      rw [eC, if_pos z0, er1]
      dsimp only
      first
        | exact ⟨rfl, Or.inr ⟨f1, p1, D1, tk1, ki1, st1, en1, rfl, rfl, pw1, lo1⟩⟩
        | (rw [if_neg (by rw [z3]; decide)]
           exact ⟨rfl, Or.inr ⟨_, _, (fpD D1 D.1 ((D.1 + 1 : Nat) : Int)), _, _, _, _, rfl, rfl, ⟨(by first | rfl | exact c1), (by first | rfl | exact c3), (by first | rfl | exact c5), (by first | rfl | exact c34), (by first | rfl | exact c35), (by first | rfl | exact c36), (by first | rfl | exact c37), (by first | rfl | exact c38), (fun j hj => by obtain ⟨a1, a2, a3⟩ := hj; try simp only [va_up]; (repeat rw [if_neg (by omega)]); exact fr j ⟨a1, a2, a3⟩)⟩, (lok_fp lo1 ⟨by omega, by omega⟩)⟩⟩)
  · obtain rfl := hh.symm
    refine ⟨rfl, ?_⟩
    dsimp only [Option.toList, List.cons_append, List.nil_append]
    refine r_if_ne (tgt := 20) dX2_readCouple_15 (by decide) ⟨by omega, by omega⟩ (fun g15 => absurd g15 (by omega)) (fun g15 => ?_)
    refine r_iconst dX2_readCouple_18 ?_
    refine r_iret dX2_readCouple_19 ?_
    refine ⟨rfl, Or.inr ⟨_, _, (opD D 9), _, _, _, _, ?_, rfl, ⟨(by first | rfl | exact c1), (by first | rfl | exact c3), (by first | rfl | exact c5), (by first | rfl | exact c34), (by first | rfl | exact c35), (by first | rfl | exact c36), (by first | rfl | exact c37), (by first | rfl | exact c38), (fun j hj => by obtain ⟨a1, a2, a3⟩ := hj; try simp only [va_up]; (repeat rw [if_neg (by omega)]); exact fr j ⟨a1, a2, a3⟩)⟩, (lok_op lo (by omega) ⟨by decide, by decide⟩)⟩⟩
    rw [eC, if_neg (by rw [z0]; decide)]

theorem s_X2_readIf {h0 h : aH} {t : Nat → Int} {nd fa pl tk m0 : Int} {le e : Nat} {tv : Value} {D : LDt} (pw : LW h0 h t nd (SC t fa pl tk le e) tv m0 D) (lo : LOK D) (hnd : 0 ≤ nd ∧ nd ≤ 9) (ht : ∀ j, -128 ≤ t j ∧ t j ≤ 127) (hle : le ≤ 700) (hee : e ≤ le) (h2N : 2 * D.1 ≤ e) (hw : e + 2 ≤ tkE t le e) {k : Nat} (hk : k < 12) (it : RdT h0 t nd fa pl le tv m0 k) (ie : RdE h0 t nd fa pl le tv m0 k) {lv : Int} (hlv : lv = 11 - (k : Int))  : mSem yX2_readIf cX2_readIf 6 (some .int) (2 * k + 8) 0 0 [.ref 5, iv lv] 97 h (LQ h0 t nd fa pl le tv m0 D (k + 1) true (pIf t le (pT t le nd k true) (pT t le nd k false) e)) noX := by
  obtain ⟨c1, c3, c5, c34, c35, c36, c37, c38, fr⟩ := id pw
  have hB := tk_B t hee
  have hB1 := tk_B t hB.2.2.2.1
  have hB2 := tk_B t hB1.2.2.2.1
  have pN := lo.1
  refine mSem_of (own := RX2) (name := "readIf") pn_X2 rfl rfl (Nat.le_of_ble_eq_true rfl) ?_
  have eI : pIf t le (pT t le nd k true) (pT t le nd k false) e = match pT t le nd k false (tkE t le e) with | .inl x => .inl x | .inr (s0, e1) => if wordAt t le e1 20 = true then (match pT t le nd k true (tkE t le e1) with | .inl x => .inl x | .inr (s1, e2) => if wordAt t le e2 21 = true then (match pT t le nd k true (tkE t le e2) with | .inl x => .inl x | .inr (s2, e3) => pWd t le 22 (fun tf mo => if s0 tf mo = 0 then s2 tf mo else s1 tf mo) e3) else .inl (1, tkS t le e2)) else .inl (1, tkS t le e1) := rfl
  refine r_aload_n dX2_readIf_0 rfl rfl ?_
  refine r_iconst dX2_readIf_1 ?_
  refine r_callV 5 [_] (s_X2_open pw lo hnd ht hle hee h2N hw) dX2_readIf_2 cs_X2_111 im_X2_open (by decide) c5 rfl (by omega) (by decide) (by decide) rfl rfl (Nat.le_of_ble_eq_true rfl) (fun _ _ _ q => q.elim) (fun v n2 h2 q => ?_)
  obtain ⟨rfl, rfl, pwa⟩ := q
  obtain ⟨c1, c3, c5, c34, c35, c36, c37, c38, fr⟩ := id pwa
  refine ⟨rfl, ?_⟩
  dsimp only [Option.toList, List.cons_append, List.nil_append]
  refine r_istore_n (lv2 := [(0, _), (1, _), (2, _)]) dX2_readIf_5 rfl (by decide) rfl rfl ?_
  refine r_aload_n dX2_readIf_6 rfl rfl ?_
  refine r_iload_n dX2_readIf_7 rfl rfl ?_
  refine r_iconst dX2_readIf_8 ?_
  refine r_iadd dX2_readIf_9 ?_
  refine r_callV 5 [_] (ie _ tk (tkE t le e) (opD D 5) pwa (lok_op lo (by omega) ⟨by decide, by decide⟩) (by omega) (by show 2 * (D.1 + 1) ≤ _; omega) _ (by omega)) dX2_readIf_10 cs_X2_144 im_X2_readTest (by decide) c5 rfl (by omega) (by decide) (by decide) rfl rfl (Nat.le_of_ble_eq_true rfl) (fun _ _ _ q => q.elim) (fun v n2 h2 q => ?_)
  obtain ⟨rfl, q⟩ := q
  rcases q with ⟨s1, e1, D1, tk1, er1, hl1, rfl, pw1, lo1, kp1, dn1, nn1, h21⟩ | ⟨f1, p1, D1, tk1, ki1, st1, en1, er1, rfl, pw1, lo1⟩
  · obtain ⟨c1, c3, c5, c34, c35, c36, c37, c38, fr⟩ := id pw1
    have hE1 := tk_B t hl1
    have pN1 := lo1.1
    have dl1 : D.1 + 1 < D1.1 := dn1.1
    have ba1 : D1.1 ≤ 350 := by omega
    refine ⟨rfl, ?_⟩
    dsimp only [Option.toList, List.cons_append, List.nil_append]
    refine r_istore_n (lv2 := [(0, _), (1, _), (2, _), (3, _)]) dX2_readIf_13 rfl (by decide) rfl rfl ?_
    refine r_aload_n dX2_readIf_14 rfl rfl ?_
    refine r_iload_n dX2_readIf_15 rfl rfl ?_
    refine r_iconst dX2_readIf_16 ?_
    refine r_iload_n dX2_readIf_17 rfl rfl ?_
    refine r_callV 5 [_, _, _] (s_X2_addPart_f pw1 (by omega) ba1 ⟨by show (0 : Int) ≤ ((D.1 + 1 : Nat) : Int); omega, by show ((D.1 + 1 : Nat) : Int) ≤ 350; omega⟩) dX2_readIf_18 cs_X2_138 im_X2_addPart (by decide) c5 rfl (by omega) (by decide) (by decide) rfl rfl (Nat.le_of_ble_eq_true rfl) (fun _ _ _ q => q.elim) (fun v n2 h2 q => ?_)
    obtain ⟨rfl, rfl, pwb1⟩ := q
    obtain ⟨c1, c3, c5, c34, c35, c36, c37, c38, fr⟩ := id pwb1
    refine ⟨rfl, ?_⟩
    dsimp only [Option.toList, List.cons_append, List.nil_append]
    refine r_if_eq (tgt := 36) dX2_readIf_21 (by decide) ⟨by omega, by omega⟩ (fun g21 => absurd g21 (by omega)) (fun g21 => ?_)
    refine r_aload_n dX2_readIf_24 rfl rfl ?_
    refine r_get (fs := [_, _, _]) dX2_readIf_25 fl_X2_9 (by decide) c5 rfl ?_
    refine r_ldcS (own2 := "") (tx := "then") (i := 20) dX2_readIf_28 (by decide +kernel) ?_
    refine r_callV 3 [.ref (1000 + 20)] (s_X6_takeWord c1 ht (by first | rfl | exact c3) hle (by omega) (by decide)) dX2_readIf_30 cs_X2_149 im_X6_takeWord (by decide) c3 rfl (by omega) (by decide) (by decide) rfl rfl (Nat.le_of_ble_eq_true rfl) (fun _ _ _ q => q.elim) (fun v n2 h2 q => ?_)
    obtain ⟨rfl, q⟩ := q
    rcases q with ⟨z4, rfl, hh⟩ | ⟨z4, rfl, hh⟩
    · obtain rfl := hh.symm
      refine ⟨rfl, ?_⟩
      dsimp only [Option.toList, List.cons_append, List.nil_append]
      refine r_if_ne (tgt := 38) dX2_readIf_33 (by decide) ⟨by omega, by omega⟩ (fun g33 => ?_) (fun g33 => absurd g33 (by omega))
      refine r_aload_n dX2_readIf_38 rfl rfl ?_
      refine r_iload_n dX2_readIf_39 rfl rfl ?_
      refine r_iconst dX2_readIf_40 ?_
      refine r_iadd dX2_readIf_41 ?_
      refine r_callV 5 [_] (it _ tk1 (tkE t le e1) (fpD D1 D.1 ((D.1 + 1 : Nat) : Int)) ⟨(by first | rfl | exact c1), (by first | rfl | exact c3), (by first | rfl | exact c5), (by first | rfl | exact c34), (by first | rfl | exact c35), (by first | rfl | exact c36), (by first | rfl | exact c37), (by first | rfl | exact c38), (fun j hj => by obtain ⟨a1, a2, a3⟩ := hj; try simp only [va_up]; (repeat rw [if_neg (by omega)]); exact fr j ⟨a1, a2, a3⟩)⟩ (lok_fp lo1 ⟨by omega, by omega⟩) (by omega) (by show 2 * D1.1 ≤ _; omega) _ (by omega)) dX2_readIf_42 cs_X2_28 im_X2_readTime (by decide) c5 rfl (by omega) (by decide) (by decide) rfl rfl (Nat.le_of_ble_eq_true rfl) (fun _ _ _ q => q.elim) (fun v n2 h2 q => ?_)
      obtain ⟨rfl, q⟩ := q
      rcases q with ⟨s2, e2, D2, tk2, er2, hl2, rfl, pw2, lo2, kp2, dn2, nn2, h22⟩ | ⟨f2, p2, D2, tk2, ki2, st2, en2, er2, rfl, pw2, lo2⟩
      · obtain ⟨c1, c3, c5, c34, c35, c36, c37, c38, fr⟩ := id pw2
        have hE2 := tk_B t hl2
        have pN2 := lo2.1
        have dl2 : D1.1 < D2.1 := dn2.1
        have ba2 : D2.1 ≤ 350 := by omega
        refine ⟨rfl, ?_⟩
        dsimp only [Option.toList, List.cons_append, List.nil_append]
        refine r_istore (lv2 := [(0, _), (1, _), (2, _), (3, _), (4, _)]) dX2_readIf_45 (by decide) rfl rfl ?_
        refine r_aload_n dX2_readIf_47 rfl rfl ?_
        refine r_iload_n dX2_readIf_48 rfl rfl ?_
        refine r_iload_n dX2_readIf_49 rfl rfl ?_
        refine r_iload dX2_readIf_50 rfl ?_
        refine r_callV 5 [_, _, _] (s_X2_addPart_n pw2 (by show D.1 + 1 < D2.1; omega) ba2 ⟨by show (0 : Int) ≤ (D1.1 : Int); omega, by show (D1.1 : Int) ≤ 350; omega⟩) dX2_readIf_52 cs_X2_138 im_X2_addPart (by decide) c5 rfl (by omega) (by decide) (by decide) rfl rfl (Nat.le_of_ble_eq_true rfl) (fun _ _ _ q => q.elim) (fun v n2 h2 q => ?_)
        obtain ⟨rfl, rfl, pwb2⟩ := q
        obtain ⟨c1, c3, c5, c34, c35, c36, c37, c38, fr⟩ := id pwb2
        refine ⟨rfl, ?_⟩
        dsimp only [Option.toList, List.cons_append, List.nil_append]
        refine r_if_eq (tgt := 70) dX2_readIf_55 (by decide) ⟨by omega, by omega⟩ (fun g55 => absurd g55 (by omega)) (fun g55 => ?_)
        refine r_aload_n dX2_readIf_58 rfl rfl ?_
        refine r_get (fs := [_, _, _]) dX2_readIf_59 fl_X2_9 (by decide) c5 rfl ?_
        refine r_ldcS (own2 := "") (tx := "else") (i := 21) dX2_readIf_62 (by decide +kernel) ?_
        refine r_callV 3 [.ref (1000 + 21)] (s_X6_takeWord c1 ht (by first | rfl | exact c3) hle (by omega) (by decide)) dX2_readIf_64 cs_X2_149 im_X6_takeWord (by decide) c3 rfl (by omega) (by decide) (by decide) rfl rfl (Nat.le_of_ble_eq_true rfl) (fun _ _ _ q => q.elim) (fun v n2 h2 q => ?_)
        obtain ⟨rfl, q⟩ := q
        rcases q with ⟨z5, rfl, hh⟩ | ⟨z5, rfl, hh⟩
        · obtain rfl := hh.symm
          refine ⟨rfl, ?_⟩
          dsimp only [Option.toList, List.cons_append, List.nil_append]
          refine r_if_ne (tgt := 72) dX2_readIf_67 (by decide) ⟨by omega, by omega⟩ (fun g67 => ?_) (fun g67 => absurd g67 (by omega))
          refine r_aload_n dX2_readIf_72 rfl rfl ?_
          refine r_iload_n dX2_readIf_73 rfl rfl ?_
          refine r_iconst dX2_readIf_74 ?_
          refine r_iadd dX2_readIf_75 ?_
          refine r_callV 5 [_] (it _ tk2 (tkE t le e2) (npD D2 (D.1 + 1) (D1.1 : Int)) ⟨(by first | rfl | exact c1), (by first | rfl | exact c3), (by first | rfl | exact c5), (by first | rfl | exact c34), (by first | rfl | exact c35), (by first | rfl | exact c36), (by first | rfl | exact c37), (by first | rfl | exact c38), (fun j hj => by obtain ⟨a1, a2, a3⟩ := hj; try simp only [va_up]; (repeat rw [if_neg (by omega)]); exact fr j ⟨a1, a2, a3⟩)⟩ (lok_np lo2 ⟨by omega, by omega⟩) (by omega) (by show 2 * D2.1 ≤ _; omega) _ (by omega)) dX2_readIf_76 cs_X2_28 im_X2_readTime (by decide) c5 rfl (by omega) (by decide) (by decide) rfl rfl (Nat.le_of_ble_eq_true rfl) (fun _ _ _ q => q.elim) (fun v n2 h2 q => ?_)
          obtain ⟨rfl, q⟩ := q
          rcases q with ⟨s3, e3, D3, tk3, er3, hl3, rfl, pw3, lo3, kp3, dn3, nn3, h23⟩ | ⟨f3, p3, D3, tk3, ki3, st3, en3, er3, rfl, pw3, lo3⟩
          · obtain ⟨c1, c3, c5, c34, c35, c36, c37, c38, fr⟩ := id pw3
            have hE3 := tk_B t hl3
            have pN3 := lo3.1
            have dl3 : D2.1 < D3.1 := dn3.1
            have ba3 : D3.1 ≤ 350 := by omega
            refine ⟨rfl, ?_⟩
            dsimp only [Option.toList, List.cons_append, List.nil_append]
            refine r_istore (lv2 := [(0, _), (1, _), (2, _), (3, _), (4, _), (5, _)]) dX2_readIf_79 (by decide) rfl rfl ?_
            refine r_aload_n dX2_readIf_81 rfl rfl ?_
            refine r_iload_n dX2_readIf_82 rfl rfl ?_
            refine r_iload dX2_readIf_83 rfl ?_
            refine r_iload dX2_readIf_85 rfl ?_
            refine r_callV 5 [_, _, _] (s_X2_addPart_n pw3 (by show D1.1 < D3.1; omega) ba3 ⟨by show (0 : Int) ≤ (D2.1 : Int); omega, by show (D2.1 : Int) ≤ 350; omega⟩) dX2_readIf_87 cs_X2_138 im_X2_addPart (by decide) c5 rfl (by omega) (by decide) (by decide) rfl rfl (Nat.le_of_ble_eq_true rfl) (fun _ _ _ q => q.elim) (fun v n2 h2 q => ?_)
            obtain ⟨rfl, rfl, pwb3⟩ := q
            obtain ⟨c1, c3, c5, c34, c35, c36, c37, c38, fr⟩ := id pwb3
            refine ⟨rfl, ?_⟩
            dsimp only [Option.toList, List.cons_append, List.nil_append]
            refine r_if_eq (tgt := 105) dX2_readIf_90 (by decide) ⟨by omega, by omega⟩ (fun g90 => absurd g90 (by omega)) (fun g90 => ?_)
            refine r_aload_n dX2_readIf_93 rfl rfl ?_
            refine r_get (fs := [_, _, _]) dX2_readIf_94 fl_X2_9 (by decide) c5 rfl ?_
            refine r_ldcS (own2 := "") (tx := "end") (i := 22) dX2_readIf_97 (by decide +kernel) ?_
            refine r_callV 3 [.ref (1000 + 22)] (s_X6_takeWord c1 ht (by first | rfl | exact c3) hle (by omega) (by decide)) dX2_readIf_99 cs_X2_149 im_X6_takeWord (by decide) c3 rfl (by omega) (by decide) (by decide) rfl rfl (Nat.le_of_ble_eq_true rfl) (fun _ _ _ q => q.elim) (fun v n2 h2 q => ?_)
            obtain ⟨rfl, q⟩ := q
            rcases q with ⟨z6, rfl, hh⟩ | ⟨z6, rfl, hh⟩
            · obtain rfl := hh.symm
              refine ⟨rfl, ?_⟩
              dsimp only [Option.toList, List.cons_append, List.nil_append]
              refine r_if_ne (tgt := 107) dX2_readIf_102 (by decide) ⟨by omega, by omega⟩ (fun g102 => ?_) (fun g102 => absurd g102 (by omega))
              refine r_iload_n dX2_readIf_107 rfl rfl ?_
              refine r_iret dX2_readIf_108 ?_
              obtain ⟨y1, y2, y3, y4, y5, y6, y7, y8, y9⟩ := mk_three kp1 dl1 dn1 kp2 dl2 dn2 kp3 dn3
              rw [eI, er1]
              dsimp only
              rw [if_pos z4, er2]
              dsimp only
              rw [if_pos z5, er3]
              dsimp only
              unfold pWd
              rw [if_pos z6]
              exact ⟨rfl, Or.inl ⟨_, _, (npD D3 D1.1 (D2.1 : Int)), _, rfl, by omega, rfl, ⟨(by first | rfl | exact c1), (by first | rfl | exact c3), (by first | rfl | exact c5), (by first | rfl | exact c34), (by first | rfl | exact c35), (by first | rfl | exact c36), (by first | rfl | exact c37), (by first | rfl | exact c38), (fun j hj => by obtain ⟨a1, a2, a3⟩ := hj; try simp only [va_up]; (repeat rw [if_neg (by omega)]); exact fr j ⟨a1, a2, a3⟩)⟩, (lok_np lo3 ⟨by omega, by omega⟩), y6, den_if y1 y2 y3 y4 y7 y8 y9, y5, by show 2 * D3.1 ≤ _; omega⟩⟩
            · obtain rfl := hh.symm
              refine ⟨rfl, ?_⟩
              dsimp only [Option.toList, List.cons_append, List.nil_append]
              refine r_if_ne (tgt := 107) dX2_readIf_102 (by decide) ⟨by omega, by omega⟩ (fun g102 => absurd g102 (by omega)) (fun g102 => ?_)
              refine r_iconst dX2_readIf_105 ?_
              refine r_iret dX2_readIf_106 ?_
              rw [eI, er1]
              dsimp only
              rw [if_pos z4, er2]
              dsimp only
              rw [if_pos z5, er3]
              dsimp only
              first
                | exact ⟨rfl, Or.inr ⟨f3, p3, D3, tk3, ki3, st3, en3, rfl, rfl, pw3, lo3⟩⟩
                | (unfold pWd
                   rw [if_neg (by rw [z6]; decide)]
                   exact ⟨rfl, Or.inr ⟨_, _, (npD D3 D1.1 (D2.1 : Int)), _, _, _, _, rfl, rfl, ⟨(by first | rfl | exact c1), (by first | rfl | exact c3), (by first | rfl | exact c5), (by first | rfl | exact c34), (by first | rfl | exact c35), (by first | rfl | exact c36), (by first | rfl | exact c37), (by first | rfl | exact c38), (fun j hj => by obtain ⟨a1, a2, a3⟩ := hj; try simp only [va_up]; (repeat rw [if_neg (by omega)]); exact fr j ⟨a1, a2, a3⟩)⟩, (lok_np lo3 ⟨by omega, by omega⟩)⟩⟩)
          · obtain ⟨c1, c3, c5, c34, c35, c36, c37, c38, fr⟩ := id pw3
            refine ⟨rfl, ?_⟩
            dsimp only [Option.toList, List.cons_append, List.nil_append]
            refine r_istore (lv2 := [(0, _), (1, _), (2, _), (3, _), (4, _), (5, _)]) dX2_readIf_79 (by decide) rfl rfl ?_
            refine r_aload_n dX2_readIf_81 rfl rfl ?_
            refine r_iload_n dX2_readIf_82 rfl rfl ?_
            refine r_iload dX2_readIf_83 rfl ?_
            refine r_iload dX2_readIf_85 rfl ?_
            refine r_callV 5 [_, _, _] (s_X2_addPart_o pw3) dX2_readIf_87 cs_X2_138 im_X2_addPart (by decide) c5 rfl (by omega) (by decide) (by decide) rfl rfl (Nat.le_of_ble_eq_true rfl) (fun _ _ _ q => q.elim) (fun v n2 h2 q => ?_)
            obtain ⟨rfl, rfl, hh⟩ := q
            obtain rfl := hh.symm
            refine ⟨rfl, ?_⟩
            dsimp only [Option.toList, List.cons_append, List.nil_append]
            refine r_if_eq (tgt := 105) dX2_readIf_90 (by decide) ⟨by omega, by omega⟩ (fun g90 => ?_) (fun g90 => absurd g90 (by omega))
            refine r_iconst dX2_readIf_105 ?_
            refine r_iret dX2_readIf_106 ?_
            rw [eI, er1]
            dsimp only
            rw [if_pos z4, er2]
            dsimp only
            rw [if_pos z5, er3]
            dsimp only
            first
              | exact ⟨rfl, Or.inr ⟨f3, p3, D3, tk3, ki3, st3, en3, rfl, rfl, pw3, lo3⟩⟩
              | (unfold pWd
                 rw [if_neg (by rw [z6]; decide)]
                 exact ⟨rfl, Or.inr ⟨_, _, (npD D3 D1.1 (D2.1 : Int)), _, _, _, _, rfl, rfl, ⟨(by first | rfl | exact c1), (by first | rfl | exact c3), (by first | rfl | exact c5), (by first | rfl | exact c34), (by first | rfl | exact c35), (by first | rfl | exact c36), (by first | rfl | exact c37), (by first | rfl | exact c38), (fun j hj => by obtain ⟨a1, a2, a3⟩ := hj; try simp only [va_up]; (repeat rw [if_neg (by omega)]); exact fr j ⟨a1, a2, a3⟩)⟩, (lok_np lo3 ⟨by omega, by omega⟩)⟩⟩)
        · obtain rfl := hh.symm
          refine ⟨rfl, ?_⟩
          dsimp only [Option.toList, List.cons_append, List.nil_append]
          refine r_if_ne (tgt := 72) dX2_readIf_67 (by decide) ⟨by omega, by omega⟩ (fun g67 => absurd g67 (by omega)) (fun g67 => ?_)
          refine r_iconst dX2_readIf_70 ?_
          refine r_iret dX2_readIf_71 ?_
          rw [eI, er1]
          dsimp only
          rw [if_pos z4, er2]
          dsimp only
          first
            | exact ⟨rfl, Or.inr ⟨f2, p2, D2, tk2, ki2, st2, en2, rfl, rfl, pw2, lo2⟩⟩
            | (rw [if_neg (by rw [z5]; decide)]
               exact ⟨rfl, Or.inr ⟨_, _, (npD D2 (D.1 + 1) (D1.1 : Int)), _, _, _, _, rfl, rfl, ⟨(by first | rfl | exact c1), (by first | rfl | exact c3), (by first | rfl | exact c5), (by first | rfl | exact c34), (by first | rfl | exact c35), (by first | rfl | exact c36), (by first | rfl | exact c37), (by first | rfl | exact c38), (fun j hj => by obtain ⟨a1, a2, a3⟩ := hj; try simp only [va_up]; (repeat rw [if_neg (by omega)]); exact fr j ⟨a1, a2, a3⟩)⟩, (lok_np lo2 ⟨by omega, by omega⟩)⟩⟩)
      · obtain ⟨c1, c3, c5, c34, c35, c36, c37, c38, fr⟩ := id pw2
        refine ⟨rfl, ?_⟩
        dsimp only [Option.toList, List.cons_append, List.nil_append]
        refine r_istore (lv2 := [(0, _), (1, _), (2, _), (3, _), (4, _)]) dX2_readIf_45 (by decide) rfl rfl ?_
        refine r_aload_n dX2_readIf_47 rfl rfl ?_
        refine r_iload_n dX2_readIf_48 rfl rfl ?_
        refine r_iload_n dX2_readIf_49 rfl rfl ?_
        refine r_iload dX2_readIf_50 rfl ?_
        refine r_callV 5 [_, _, _] (s_X2_addPart_o pw2) dX2_readIf_52 cs_X2_138 im_X2_addPart (by decide) c5 rfl (by omega) (by decide) (by decide) rfl rfl (Nat.le_of_ble_eq_true rfl) (fun _ _ _ q => q.elim) (fun v n2 h2 q => ?_)
        obtain ⟨rfl, rfl, hh⟩ := q
        obtain rfl := hh.symm
        refine ⟨rfl, ?_⟩
        dsimp only [Option.toList, List.cons_append, List.nil_append]
        refine r_if_eq (tgt := 70) dX2_readIf_55 (by decide) ⟨by omega, by omega⟩ (fun g55 => ?_) (fun g55 => absurd g55 (by omega))
        refine r_iconst dX2_readIf_70 ?_
        refine r_iret dX2_readIf_71 ?_
        rw [eI, er1]
        dsimp only
        rw [if_pos z4, er2]
        dsimp only
        first
          | exact ⟨rfl, Or.inr ⟨f2, p2, D2, tk2, ki2, st2, en2, rfl, rfl, pw2, lo2⟩⟩
          | (rw [if_neg (by rw [z5]; decide)]
             exact ⟨rfl, Or.inr ⟨_, _, (npD D2 (D.1 + 1) (D1.1 : Int)), _, _, _, _, rfl, rfl, ⟨(by first | rfl | exact c1), (by first | rfl | exact c3), (by first | rfl | exact c5), (by first | rfl | exact c34), (by first | rfl | exact c35), (by first | rfl | exact c36), (by first | rfl | exact c37), (by first | rfl | exact c38), (fun j hj => by obtain ⟨a1, a2, a3⟩ := hj; try simp only [va_up]; (repeat rw [if_neg (by omega)]); exact fr j ⟨a1, a2, a3⟩)⟩, (lok_np lo2 ⟨by omega, by omega⟩)⟩⟩)
    · obtain rfl := hh.symm
      refine ⟨rfl, ?_⟩
      dsimp only [Option.toList, List.cons_append, List.nil_append]
      refine r_if_ne (tgt := 38) dX2_readIf_33 (by decide) ⟨by omega, by omega⟩ (fun g33 => absurd g33 (by omega)) (fun g33 => ?_)
      refine r_iconst dX2_readIf_36 ?_
      refine r_iret dX2_readIf_37 ?_
      rw [eI, er1]
      dsimp only
      first
        | exact ⟨rfl, Or.inr ⟨f1, p1, D1, tk1, ki1, st1, en1, rfl, rfl, pw1, lo1⟩⟩
        | (rw [if_neg (by rw [z4]; decide)]
           exact ⟨rfl, Or.inr ⟨_, _, (fpD D1 D.1 ((D.1 + 1 : Nat) : Int)), _, _, _, _, rfl, rfl, ⟨(by first | rfl | exact c1), (by first | rfl | exact c3), (by first | rfl | exact c5), (by first | rfl | exact c34), (by first | rfl | exact c35), (by first | rfl | exact c36), (by first | rfl | exact c37), (by first | rfl | exact c38), (fun j hj => by obtain ⟨a1, a2, a3⟩ := hj; try simp only [va_up]; (repeat rw [if_neg (by omega)]); exact fr j ⟨a1, a2, a3⟩)⟩, (lok_fp lo1 ⟨by omega, by omega⟩)⟩⟩)
  · obtain ⟨c1, c3, c5, c34, c35, c36, c37, c38, fr⟩ := id pw1
    refine ⟨rfl, ?_⟩
    dsimp only [Option.toList, List.cons_append, List.nil_append]
    refine r_istore_n (lv2 := [(0, _), (1, _), (2, _), (3, _)]) dX2_readIf_13 rfl (by decide) rfl rfl ?_
    refine r_aload_n dX2_readIf_14 rfl rfl ?_
    refine r_iload_n dX2_readIf_15 rfl rfl ?_
    refine r_iconst dX2_readIf_16 ?_
    refine r_iload_n dX2_readIf_17 rfl rfl ?_
    refine r_callV 5 [_, _, _] (s_X2_addPart_o pw1) dX2_readIf_18 cs_X2_138 im_X2_addPart (by decide) c5 rfl (by omega) (by decide) (by decide) rfl rfl (Nat.le_of_ble_eq_true rfl) (fun _ _ _ q => q.elim) (fun v n2 h2 q => ?_)
    obtain ⟨rfl, rfl, hh⟩ := q
    obtain rfl := hh.symm
    refine ⟨rfl, ?_⟩
    dsimp only [Option.toList, List.cons_append, List.nil_append]
    refine r_if_eq (tgt := 36) dX2_readIf_21 (by decide) ⟨by omega, by omega⟩ (fun g21 => ?_) (fun g21 => absurd g21 (by omega))
    refine r_iconst dX2_readIf_36 ?_
    refine r_iret dX2_readIf_37 ?_
    rw [eI, er1]
    dsimp only
    first
      | exact ⟨rfl, Or.inr ⟨f1, p1, D1, tk1, ki1, st1, en1, rfl, rfl, pw1, lo1⟩⟩
      | (rw [if_neg (by rw [z4]; decide)]
         exact ⟨rfl, Or.inr ⟨_, _, (fpD D1 D.1 ((D.1 + 1 : Nat) : Int)), _, _, _, _, rfl, rfl, ⟨(by first | rfl | exact c1), (by first | rfl | exact c3), (by first | rfl | exact c5), (by first | rfl | exact c34), (by first | rfl | exact c35), (by first | rfl | exact c36), (by first | rfl | exact c37), (by first | rfl | exact c38), (fun j hj => by obtain ⟨a1, a2, a3⟩ := hj; try simp only [va_up]; (repeat rw [if_neg (by omega)]); exact fr j ⟨a1, a2, a3⟩)⟩, (lok_fp lo1 ⟨by omega, by omega⟩)⟩⟩)

theorem l_X2_readFirst {h0 : aH} {t : Nat → Int} {nd fa pl m0 : Int} {le : Nat} {tv : Value} {D : LDt} (hnd : 0 ≤ nd ∧ nd ≤ 9) (ht : ∀ j, -128 ≤ t j ∧ t j ≤ 127) (hle : le ≤ 700) {k : Nat} (hk : k < 12) (it : RdT h0 t nd fa pl le tv m0 k) (ie : RdE h0 t nd fa pl le tv m0 k) {lv : Int} (hlv : lv = 11 - (k : Int)) : ∀ (w i : Nat) (h : aH) (Dc : LDt) (e : Nat) (tk : Int) (la m : Nat) (a : LSm), i + w = 700 → LW h0 h t nd (SC t fa pl tk le e) tv m0 Dc → LOK Dc → e ≤ le → 2 * Dc.1 ≤ e → Dc.2.1 D.1 = 2 → Dc.2.2.2.1 D.1 = ((D.1 + 1 : Nat) : Int) → Dc.2.2.2.2 D.1 = -1 → Kp D Dc → Dc.2.2.2.2 la = -1 → Chn Dc (D.1 + 1) Dc.1 la m k a →
    Ev RX2 "readFirst" cX2_readFirst 6 (some .int) (2 * k + 8) 0 0 (LQ h0 t nd fa pl le tv m0 D (k + 1) true (pFs t le (pT t le nd k true) w a e)) noX 97 h 43 [(0, .ref 5), (1, iv lv), (2, iv (D.1 : Int)), (3, iv la), (4, iv i)] [] := by
  intro w
  induction w with
  | zero =>
    intro i h Dc e tk la m a hi pw lo hee h2N hs hf hn kp hl ch
    obtain ⟨c1, c3, c5, c34, c35, c36, c37, c38, fr⟩ := id pw
    have hB := tk_B t hee
    have ba := lo.1
    refine r_iload dX2_readFirst_43 rfl ?_
    refine r_sipush dX2_readFirst_45 rfl ?_
    refine r_icmp_ge (tgt := 101) dX2_readFirst_48 (by decide) ⟨by omega, by omega⟩ ⟨by omega, by omega⟩ (fun g48 => ?_) (fun g48 => absurd g48 (by omega))
    refine r_aload_n dX2_readFirst_101 rfl rfl ?_
    refine r_get (fs := [_, _, _]) dX2_readFirst_102 fl_X2_9 (by decide) c5 rfl ?_
    refine r_bipush dX2_readFirst_105 rfl ?_
    refine r_callV 3 [_] (s_X6_takeSign c1 ht (by first | rfl | exact c3) hle (by omega) (by omega)) dX2_readFirst_107 cs_X2_125 im_X6_takeSign (by decide) c3 rfl (by omega) (by decide) (by decide) rfl rfl (Nat.le_of_ble_eq_true rfl) (fun _ _ _ q => q.elim) (fun v n2 h2 q => ?_)
    obtain ⟨rfl, q⟩ := q
    rcases q with ⟨z9, rfl, hh⟩ | ⟨z9, rfl, hh⟩
    · obtain rfl := hh.symm
      refine ⟨rfl, ?_⟩
      dsimp only [Option.toList, List.cons_append, List.nil_append]
      refine r_if_eq (tgt := 117) dX2_readFirst_110 (by decide) ⟨by omega, by omega⟩ (fun g110 => absurd g110 (by omega)) (fun g110 => ?_)
      refine r_iload_n dX2_readFirst_113 rfl rfl ?_
      refine r_goto (tgt := 118) dX2_readFirst_114 (by decide) ?_
      refine r_iret dX2_readFirst_118 ?_
      rw [show pFs t le (pT t le nd k true) 0 a e = pCl t le a e from rfl]
      unfold pCl
      first
        | (rw [if_pos z9]
           exact ⟨rfl, Or.inl ⟨_, _, Dc, _, rfl, by omega, rfl, ⟨(by first | rfl | exact c1), (by first | rfl | exact c3), (by first | rfl | exact c5), (by first | rfl | exact c34), (by first | rfl | exact c35), (by first | rfl | exact c36), (by first | rfl | exact c37), (by first | rfl | exact c38), (fun j hj => by obtain ⟨a1, a2, a3⟩ := hj; try simp only [va_up]; (repeat rw [if_neg (by omega)]); exact fr j ⟨a1, a2, a3⟩)⟩, lo, kp, den_first hs hf (by have := ch.2.2.1; omega) hl ch, hn, by omega⟩⟩)
        | (rw [if_neg (by rw [z9]; decide)]
           exact ⟨rfl, Or.inr ⟨_, _, Dc, _, _, _, _, rfl, rfl, ⟨(by first | rfl | exact c1), (by first | rfl | exact c3), (by first | rfl | exact c5), (by first | rfl | exact c34), (by first | rfl | exact c35), (by first | rfl | exact c36), (by first | rfl | exact c37), (by first | rfl | exact c38), (fun j hj => by obtain ⟨a1, a2, a3⟩ := hj; try simp only [va_up]; (repeat rw [if_neg (by omega)]); exact fr j ⟨a1, a2, a3⟩)⟩, lo⟩⟩)
    · obtain rfl := hh.symm
      refine ⟨rfl, ?_⟩
      dsimp only [Option.toList, List.cons_append, List.nil_append]
      refine r_if_eq (tgt := 117) dX2_readFirst_110 (by decide) ⟨by omega, by omega⟩ (fun g110 => ?_) (fun g110 => absurd g110 (by omega))
      refine r_iconst dX2_readFirst_117 ?_
      refine r_iret dX2_readFirst_118 ?_
      rw [show pFs t le (pT t le nd k true) 0 a e = pCl t le a e from rfl]
      unfold pCl
      first
        | (rw [if_pos z9]
           exact ⟨rfl, Or.inl ⟨_, _, Dc, _, rfl, by omega, rfl, ⟨(by first | rfl | exact c1), (by first | rfl | exact c3), (by first | rfl | exact c5), (by first | rfl | exact c34), (by first | rfl | exact c35), (by first | rfl | exact c36), (by first | rfl | exact c37), (by first | rfl | exact c38), (fun j hj => by obtain ⟨a1, a2, a3⟩ := hj; try simp only [va_up]; (repeat rw [if_neg (by omega)]); exact fr j ⟨a1, a2, a3⟩)⟩, lo, kp, den_first hs hf (by have := ch.2.2.1; omega) hl ch, hn, by omega⟩⟩)
        | (rw [if_neg (by rw [z9]; decide)]
           exact ⟨rfl, Or.inr ⟨_, _, Dc, _, _, _, _, rfl, rfl, ⟨(by first | rfl | exact c1), (by first | rfl | exact c3), (by first | rfl | exact c5), (by first | rfl | exact c34), (by first | rfl | exact c35), (by first | rfl | exact c36), (by first | rfl | exact c37), (by first | rfl | exact c38), (fun j hj => by obtain ⟨a1, a2, a3⟩ := hj; try simp only [va_up]; (repeat rw [if_neg (by omega)]); exact fr j ⟨a1, a2, a3⟩)⟩, lo⟩⟩)
  | succ w ih =>
    intro i h Dc e tk la m a hi pw lo hee h2N hs hf hn kp hl ch
    obtain ⟨c1, c3, c5, c34, c35, c36, c37, c38, fr⟩ := id pw
    have hB := tk_B t hee
    have ba := lo.1
    have hB1 := tk_B t hB.2.2.2.1
    have kb := b2i_01 (signAt t le e 44)
    have e1 : pFs t le (pT t le nd k true) (w + 1) a e = if signAt t le e 44 = true then (match pT t le nd k true (tkE t le e) with | .inl x => .inl x | .inr (s, e2) => pFs t le (pT t le nd k true) w (fsO a s) e2) else pCl t le a e := rfl
    refine r_iload dX2_readFirst_43 rfl ?_
    refine r_sipush dX2_readFirst_45 rfl ?_
    refine r_icmp_ge (tgt := 101) dX2_readFirst_48 (by decide) ⟨by omega, by omega⟩ ⟨by omega, by omega⟩ (fun g48 => absurd g48 (by omega)) (fun g48 => ?_)
    refine r_aload_n dX2_readFirst_51 rfl rfl ?_
    refine r_get (fs := [_, _, _]) dX2_readFirst_52 fl_X2_9 (by decide) c5 rfl ?_
    refine r_bipush dX2_readFirst_55 rfl ?_
    refine r_callV 3 [_] (s_X6_isSign c1 ht (by first | rfl | exact c3) hle (by omega) (by omega)) dX2_readFirst_57 cs_X2_132 im_X6_isSign (by decide) c3 rfl (by omega) (by decide) (by decide) rfl rfl (Nat.le_of_ble_eq_true rfl) (fun _ _ _ q => q.elim) (fun v n2 h2 q => ?_)
    obtain ⟨rfl, rfl, hh⟩ := q
    obtain rfl := hh.symm
    refine ⟨rfl, ?_⟩
    dsimp only [Option.toList, List.cons_append, List.nil_append]
    refine r_if_eq (tgt := 101) dX2_readFirst_60 (by decide) ⟨by omega, by omega⟩ (fun g60 => ?_) (fun g60 => ?_)
    · refine r_aload_n dX2_readFirst_101 rfl rfl ?_
      refine r_get (fs := [_, _, _]) dX2_readFirst_102 fl_X2_9 (by decide) c5 rfl ?_
      refine r_bipush dX2_readFirst_105 rfl ?_
      refine r_callV 3 [_] (s_X6_takeSign c1 ht (by first | rfl | exact c3) hle (by omega) (by omega)) dX2_readFirst_107 cs_X2_125 im_X6_takeSign (by decide) c3 rfl (by omega) (by decide) (by decide) rfl rfl (Nat.le_of_ble_eq_true rfl) (fun _ _ _ q => q.elim) (fun v n2 h2 q => ?_)
      obtain ⟨rfl, q⟩ := q
      rcases q with ⟨z9, rfl, hh⟩ | ⟨z9, rfl, hh⟩
      · obtain rfl := hh.symm
        refine ⟨rfl, ?_⟩
        dsimp only [Option.toList, List.cons_append, List.nil_append]
        refine r_if_eq (tgt := 117) dX2_readFirst_110 (by decide) ⟨by omega, by omega⟩ (fun g110 => absurd g110 (by omega)) (fun g110 => ?_)
        refine r_iload_n dX2_readFirst_113 rfl rfl ?_
        refine r_goto (tgt := 118) dX2_readFirst_114 (by decide) ?_
        refine r_iret dX2_readFirst_118 ?_
        rw [b2i_0] at g60
        rw [e1, if_neg (by rw [g60]; decide)]
        unfold pCl
        first
          | (rw [if_pos z9]
             exact ⟨rfl, Or.inl ⟨_, _, Dc, _, rfl, by omega, rfl, ⟨(by first | rfl | exact c1), (by first | rfl | exact c3), (by first | rfl | exact c5), (by first | rfl | exact c34), (by first | rfl | exact c35), (by first | rfl | exact c36), (by first | rfl | exact c37), (by first | rfl | exact c38), (fun j hj => by obtain ⟨a1, a2, a3⟩ := hj; try simp only [va_up]; (repeat rw [if_neg (by omega)]); exact fr j ⟨a1, a2, a3⟩)⟩, lo, kp, den_first hs hf (by have := ch.2.2.1; omega) hl ch, hn, by omega⟩⟩)
          | (rw [if_neg (by rw [z9]; decide)]
             exact ⟨rfl, Or.inr ⟨_, _, Dc, _, _, _, _, rfl, rfl, ⟨(by first | rfl | exact c1), (by first | rfl | exact c3), (by first | rfl | exact c5), (by first | rfl | exact c34), (by first | rfl | exact c35), (by first | rfl | exact c36), (by first | rfl | exact c37), (by first | rfl | exact c38), (fun j hj => by obtain ⟨a1, a2, a3⟩ := hj; try simp only [va_up]; (repeat rw [if_neg (by omega)]); exact fr j ⟨a1, a2, a3⟩)⟩, lo⟩⟩)
      · obtain rfl := hh.symm
        refine ⟨rfl, ?_⟩
        dsimp only [Option.toList, List.cons_append, List.nil_append]
        refine r_if_eq (tgt := 117) dX2_readFirst_110 (by decide) ⟨by omega, by omega⟩ (fun g110 => ?_) (fun g110 => absurd g110 (by omega))
        refine r_iconst dX2_readFirst_117 ?_
        refine r_iret dX2_readFirst_118 ?_
        rw [b2i_0] at g60
        rw [e1, if_neg (by rw [g60]; decide)]
        unfold pCl
        first
          | (rw [if_pos z9]
             exact ⟨rfl, Or.inl ⟨_, _, Dc, _, rfl, by omega, rfl, ⟨(by first | rfl | exact c1), (by first | rfl | exact c3), (by first | rfl | exact c5), (by first | rfl | exact c34), (by first | rfl | exact c35), (by first | rfl | exact c36), (by first | rfl | exact c37), (by first | rfl | exact c38), (fun j hj => by obtain ⟨a1, a2, a3⟩ := hj; try simp only [va_up]; (repeat rw [if_neg (by omega)]); exact fr j ⟨a1, a2, a3⟩)⟩, lo, kp, den_first hs hf (by have := ch.2.2.1; omega) hl ch, hn, by omega⟩⟩)
          | (rw [if_neg (by rw [z9]; decide)]
             exact ⟨rfl, Or.inr ⟨_, _, Dc, _, _, _, _, rfl, rfl, ⟨(by first | rfl | exact c1), (by first | rfl | exact c3), (by first | rfl | exact c5), (by first | rfl | exact c34), (by first | rfl | exact c35), (by first | rfl | exact c36), (by first | rfl | exact c37), (by first | rfl | exact c38), (fun j hj => by obtain ⟨a1, a2, a3⟩ := hj; try simp only [va_up]; (repeat rw [if_neg (by omega)]); exact fr j ⟨a1, a2, a3⟩)⟩, lo⟩⟩)
    · rw [b2i_0, Bool.not_eq_false] at g60
      refine r_aload_n dX2_readFirst_63 rfl rfl ?_
      refine r_get (fs := [_, _, _]) dX2_readFirst_64 fl_X2_9 (by decide) c5 rfl ?_
      refine r_callV 3 [] (s_X6_advance c1 ht (by first | rfl | exact c3) hle (by omega)) dX2_readFirst_67 cs_X2_101 im_X6_advance (by decide) c3 rfl (by omega) (by decide) (by decide) rfl rfl (Nat.le_of_ble_eq_true rfl) (fun _ _ _ q => q.elim) (fun v n2 h2 q => ?_)
      obtain ⟨rfl, rfl, hh⟩ := q
      obtain rfl := hh.symm
      refine ⟨rfl, ?_⟩
      dsimp only [Option.toList, List.cons_append, List.nil_append]
      refine r_aload_n dX2_readFirst_70 rfl rfl ?_
      refine r_iload_n dX2_readFirst_71 rfl rfl ?_
      refine r_iconst dX2_readFirst_72 ?_
      refine r_iadd dX2_readFirst_73 ?_
      refine r_callV 5 [_] (it _ tk (tkE t le e) Dc ⟨(by first | rfl | exact c1), (by first | rfl | exact c3), (by first | rfl | exact c5), (by first | rfl | exact c34), (by first | rfl | exact c35), (by first | rfl | exact c36), (by first | rfl | exact c37), (by first | rfl | exact c38), (fun j hj => by obtain ⟨a1, a2, a3⟩ := hj; try simp only [va_up]; (repeat rw [if_neg (by omega)]); exact fr j ⟨a1, a2, a3⟩)⟩ lo (by omega) (by omega) _ (by omega)) dX2_readFirst_74 cs_X2_28 im_X2_readTime (by decide) c5 rfl (by omega) (by decide) (by decide) rfl rfl (Nat.le_of_ble_eq_true rfl) (fun _ _ _ q => q.elim) (fun v n2 h2 q => ?_)
      obtain ⟨rfl, q⟩ := q
      rcases q with ⟨s2, e2, D2, tk2, er2, hl2, rfl, pw2, lo2, kp2, dn2, nn2, h22⟩ | ⟨f2, p2, D2, tk2, ki2, st2, en2, er2, rfl, pw2, lo2⟩
      · obtain ⟨c1, c3, c5, c34, c35, c36, c37, c38, fr⟩ := id pw2
        have hE2 := tk_B t hl2
        have pN2 := lo2.1
        have dl2 : Dc.1 < D2.1 := dn2.1
        have ba2 : D2.1 ≤ 350 := by omega
        refine ⟨rfl, ?_⟩
        dsimp only [Option.toList, List.cons_append, List.nil_append]
        refine r_istore (lv2 := [(0, _), (1, _), (2, _), (3, _), (4, _), (5, _)]) dX2_readFirst_77 (by decide) rfl rfl ?_
        refine r_aload_n dX2_readFirst_79 rfl rfl ?_
        refine r_iload_n dX2_readFirst_80 rfl rfl ?_
        refine r_iload_n dX2_readFirst_81 rfl rfl ?_
        refine r_iload dX2_readFirst_82 rfl ?_
        refine r_callV 5 [_, _, _] (s_X2_addPart_n pw2 (by have := ch.2.1; omega) ba2 ⟨by omega, by omega⟩) dX2_readFirst_84 cs_X2_138 im_X2_addPart (by decide) c5 rfl (by omega) (by decide) (by decide) rfl rfl (Nat.le_of_ble_eq_true rfl) (fun _ _ _ q => q.elim) (fun v n2 h2 q => ?_)
        obtain ⟨rfl, rfl, pwb2⟩ := q
        obtain ⟨c1, c3, c5, c34, c35, c36, c37, c38, fr⟩ := id pwb2
        refine ⟨rfl, ?_⟩
        dsimp only [Option.toList, List.cons_append, List.nil_append]
        refine r_if_ne (tgt := 92) dX2_readFirst_87 (by decide) ⟨by omega, by omega⟩ (fun g87 => ?_) (fun g87 => absurd g87 (by omega))
        refine r_iload dX2_readFirst_92 rfl ?_
        refine r_istore_n (lv2 := [(0, _), (1, _), (2, _), (3, _), (4, _), (5, _)]) dX2_readFirst_94 rfl (by decide) rfl rfl ?_
        refine r_iinc (lv2 := [(0, _), (1, _), (2, _), (3, _), (4, _), (5, _)]) dX2_readFirst_95 (by decide) rfl rfl rfl ?_
        refine r_goto (tgt := 43) dX2_readFirst_98 (by decide) ?_
        refine r_lv (lv2 := [(0, _), (1, _), (2, _), (3, _), (4, _)]) rfl ?_
        obtain ⟨y1, y2, y3, y4, y5, y6, y7⟩ := mk_chn ch kp2 dn2 hs hf hn kp nn2
        rw [e1, if_pos g60, er2, show (i : Int) + 1 = ((i + 1 : Nat) : Int) by omega]
        exact ih (i + 1) _ _ e2 tk2 _ _ _ (by omega) pwb2 (lok_np lo2 ⟨by omega, by omega⟩) hl2 h22 y2 y3 y4 y5 y6 y7
      · obtain ⟨c1, c3, c5, c34, c35, c36, c37, c38, fr⟩ := id pw2
        refine ⟨rfl, ?_⟩
        dsimp only [Option.toList, List.cons_append, List.nil_append]
        refine r_istore (lv2 := [(0, _), (1, _), (2, _), (3, _), (4, _), (5, _)]) dX2_readFirst_77 (by decide) rfl rfl ?_
        refine r_aload_n dX2_readFirst_79 rfl rfl ?_
        refine r_iload_n dX2_readFirst_80 rfl rfl ?_
        refine r_iload_n dX2_readFirst_81 rfl rfl ?_
        refine r_iload dX2_readFirst_82 rfl ?_
        refine r_callV 5 [_, _, _] (s_X2_addPart_o pw2) dX2_readFirst_84 cs_X2_138 im_X2_addPart (by decide) c5 rfl (by omega) (by decide) (by decide) rfl rfl (Nat.le_of_ble_eq_true rfl) (fun _ _ _ q => q.elim) (fun v n2 h2 q => ?_)
        obtain ⟨rfl, rfl, hh⟩ := q
        obtain rfl := hh.symm
        refine ⟨rfl, ?_⟩
        dsimp only [Option.toList, List.cons_append, List.nil_append]
        refine r_if_ne (tgt := 92) dX2_readFirst_87 (by decide) ⟨by omega, by omega⟩ (fun g87 => absurd g87 (by omega)) (fun g87 => ?_)
        refine r_iconst dX2_readFirst_90 ?_
        refine r_iret dX2_readFirst_91 ?_
        rw [e1, if_pos g60, er2]
        exact ⟨rfl, Or.inr ⟨f2, p2, D2, tk2, ki2, st2, en2, rfl, rfl, pw2, lo2⟩⟩

theorem s_X2_readFirst {h0 h : aH} {t : Nat → Int} {nd fa pl tk m0 : Int} {le e : Nat} {tv : Value} {D : LDt} (pw : LW h0 h t nd (SC t fa pl tk le e) tv m0 D) (lo : LOK D) (hnd : 0 ≤ nd ∧ nd ≤ 9) (ht : ∀ j, -128 ≤ t j ∧ t j ≤ 127) (hle : le ≤ 700) (hee : e ≤ le) (h2N : 2 * D.1 ≤ e) (hw : e + 2 ≤ tkE t le e) {k : Nat} (hk : k < 12) (it : RdT h0 t nd fa pl le tv m0 k) (ie : RdE h0 t nd fa pl le tv m0 k) {lv : Int} (hlv : lv = 11 - (k : Int))  : mSem yX2_readFirst cX2_readFirst 6 (some .int) (2 * k + 8) 0 0 [.ref 5, iv lv] 97 h (LQ h0 t nd fa pl le tv m0 D (k + 1) true (pFi t le (pT t le nd k true) e)) noX := by
  obtain ⟨c1, c3, c5, c34, c35, c36, c37, c38, fr⟩ := id pw
  have hB := tk_B t hee
  have hB1 := tk_B t hB.2.2.2.1
  have hB2 := tk_B t hB1.2.2.2.1
  have pN := lo.1
  refine mSem_of (own := RX2) (name := "readFirst") pn_X2 rfl rfl (Nat.le_of_ble_eq_true rfl) ?_
  have eC : pFi t le (pT t le nd k true) e = if signAt t le (tkE t le e) 40 = true then (match pT t le nd k true (tkE t le (tkE t le e)) with | .inl x => .inl x | .inr (s, e2) => pFs t le (pT t le nd k true) 700 s e2) else .inl (1, tkS t le (tkE t le e)) := rfl
  refine r_aload_n dX2_readFirst_0 rfl rfl ?_
  refine r_iconst dX2_readFirst_1 ?_
  refine r_callV 5 [_] (s_X2_open pw lo hnd ht hle hee h2N hw) dX2_readFirst_2 cs_X2_111 im_X2_open (by decide) c5 rfl (by omega) (by decide) (by decide) rfl rfl (Nat.le_of_ble_eq_true rfl) (fun _ _ _ q => q.elim) (fun v n2 h2 q => ?_)
  obtain ⟨rfl, rfl, pwa⟩ := q
  obtain ⟨c1, c3, c5, c34, c35, c36, c37, c38, fr⟩ := id pwa
  refine ⟨rfl, ?_⟩
  dsimp only [Option.toList, List.cons_append, List.nil_append]
  refine r_istore_n (lv2 := [(0, _), (1, _), (2, _)]) dX2_readFirst_5 rfl (by decide) rfl rfl ?_
  refine r_aload_n dX2_readFirst_6 rfl rfl ?_
  refine r_get (fs := [_, _, _]) dX2_readFirst_7 fl_X2_9 (by decide) c5 rfl ?_
  refine r_bipush dX2_readFirst_10 rfl ?_
  refine r_callV 3 [_] (s_X6_takeSign c1 ht (by first | rfl | exact c3) hle (by omega) (by omega)) dX2_readFirst_12 cs_X2_125 im_X6_takeSign (by decide) c3 rfl (by omega) (by decide) (by decide) rfl rfl (Nat.le_of_ble_eq_true rfl) (fun _ _ _ q => q.elim) (fun v n2 h2 q => ?_)
  obtain ⟨rfl, q⟩ := q
  rcases q with ⟨z0, rfl, hh⟩ | ⟨z0, rfl, hh⟩
  · obtain rfl := hh.symm
    refine ⟨rfl, ?_⟩
    dsimp only [Option.toList, List.cons_append, List.nil_append]
    refine r_if_ne (tgt := 20) dX2_readFirst_15 (by decide) ⟨by omega, by omega⟩ (fun g15 => ?_) (fun g15 => absurd g15 (by omega))
    refine r_aload_n dX2_readFirst_20 rfl rfl ?_
    refine r_iload_n dX2_readFirst_21 rfl rfl ?_
    refine r_iconst dX2_readFirst_22 ?_
    refine r_iadd dX2_readFirst_23 ?_
    refine r_callV 5 [_] (it _ tk (tkE t le (tkE t le e)) (opD D 2) ⟨(by first | rfl | exact c1), (by first | rfl | exact c3), (by first | rfl | exact c5), (by first | rfl | exact c34), (by first | rfl | exact c35), (by first | rfl | exact c36), (by first | rfl | exact c37), (by first | rfl | exact c38), (fun j hj => by obtain ⟨a1, a2, a3⟩ := hj; try simp only [va_up]; (repeat rw [if_neg (by omega)]); exact fr j ⟨a1, a2, a3⟩)⟩ (lok_op lo (by omega) ⟨by decide, by decide⟩) (by omega) (by show 2 * (D.1 + 1) ≤ _; omega) _ (by omega)) dX2_readFirst_24 cs_X2_28 im_X2_readTime (by decide) c5 rfl (by omega) (by decide) (by decide) rfl rfl (Nat.le_of_ble_eq_true rfl) (fun _ _ _ q => q.elim) (fun v n2 h2 q => ?_)
    obtain ⟨rfl, q⟩ := q
    rcases q with ⟨s1, e1, D1, tk1, er1, hl1, rfl, pw1, lo1, kp1, dn1, nn1, h21⟩ | ⟨f1, p1, D1, tk1, ki1, st1, en1, er1, rfl, pw1, lo1⟩
    · obtain ⟨c1, c3, c5, c34, c35, c36, c37, c38, fr⟩ := id pw1
      have hE1 := tk_B t hl1
      have pN1 := lo1.1
      have dl1 : D.1 + 1 < D1.1 := dn1.1
      have ba1 : D1.1 ≤ 350 := by omega
      refine ⟨rfl, ?_⟩
      dsimp only [Option.toList, List.cons_append, List.nil_append]
      refine r_istore_n (lv2 := [(0, _), (1, _), (2, _), (3, _)]) dX2_readFirst_27 rfl (by decide) rfl rfl ?_
      refine r_aload_n dX2_readFirst_28 rfl rfl ?_
      refine r_iload_n dX2_readFirst_29 rfl rfl ?_
      refine r_iconst dX2_readFirst_30 ?_
      refine r_iload_n dX2_readFirst_31 rfl rfl ?_
      refine r_callV 5 [_, _, _] (s_X2_addPart_f pw1 (by omega) ba1 ⟨by show (0 : Int) ≤ ((D.1 + 1 : Nat) : Int); omega, by show ((D.1 + 1 : Nat) : Int) ≤ 350; omega⟩) dX2_readFirst_32 cs_X2_138 im_X2_addPart (by decide) c5 rfl (by omega) (by decide) (by decide) rfl rfl (Nat.le_of_ble_eq_true rfl) (fun _ _ _ q => q.elim) (fun v n2 h2 q => ?_)
      obtain ⟨rfl, rfl, pwb1⟩ := q
      obtain ⟨c1, c3, c5, c34, c35, c36, c37, c38, fr⟩ := id pwb1
      refine ⟨rfl, ?_⟩
      dsimp only [Option.toList, List.cons_append, List.nil_append]
      refine r_if_ne (tgt := 40) dX2_readFirst_35 (by decide) ⟨by omega, by omega⟩ (fun g35 => ?_) (fun g35 => absurd g35 (by omega))
      refine r_iconst dX2_readFirst_40 ?_
      refine r_istore (lv2 := [(0, _), (1, _), (2, _), (3, _), (4, _)]) dX2_readFirst_41 (by decide) rfl rfl ?_
      obtain ⟨y1, y2, y3, y4⟩ := mk_un kp1
      rw [eC, if_pos z0, er1]
      exact l_X2_readFirst hnd ht hle hk it ie hlv 700 0 _ (fpD D1 D.1 ((D.1 + 1 : Nat) : Int)) e1 tk1 (D.1 + 1) 1 s1 (by decide) pwb1 (lok_fp lo1 ⟨by omega, by omega⟩) hl1 h21 y1 y2 y3 y4 nn1 (chn_1 (fp_den dn1 (Nat.lt_succ_self _)))
    · obtain ⟨c1, c3, c5, c34, c35, c36, c37, c38, fr⟩ := id pw1
      refine ⟨rfl, ?_⟩
      dsimp only [Option.toList, List.cons_append, List.nil_append]
      refine r_istore_n (lv2 := [(0, _), (1, _), (2, _), (3, _)]) dX2_readFirst_27 rfl (by decide) rfl rfl ?_
      refine r_aload_n dX2_readFirst_28 rfl rfl ?_
      refine r_iload_n dX2_readFirst_29 rfl rfl ?_
      refine r_iconst dX2_readFirst_30 ?_
      refine r_iload_n dX2_readFirst_31 rfl rfl ?_
      refine r_callV 5 [_, _, _] (s_X2_addPart_o pw1) dX2_readFirst_32 cs_X2_138 im_X2_addPart (by decide) c5 rfl (by omega) (by decide) (by decide) rfl rfl (Nat.le_of_ble_eq_true rfl) (fun _ _ _ q => q.elim) (fun v n2 h2 q => ?_)
      obtain ⟨rfl, rfl, hh⟩ := q
      obtain rfl := hh.symm
      refine ⟨rfl, ?_⟩
      dsimp only [Option.toList, List.cons_append, List.nil_append]
      refine r_if_ne (tgt := 40) dX2_readFirst_35 (by decide) ⟨by omega, by omega⟩ (fun g35 => absurd g35 (by omega)) (fun g35 => ?_)
      refine r_iconst dX2_readFirst_38 ?_
      refine r_iret dX2_readFirst_39 ?_
      rw [eC, if_pos z0, er1]
      exact ⟨rfl, Or.inr ⟨f1, p1, D1, tk1, ki1, st1, en1, rfl, rfl, pw1, lo1⟩⟩
  · obtain rfl := hh.symm
    refine ⟨rfl, ?_⟩
    dsimp only [Option.toList, List.cons_append, List.nil_append]
    refine r_if_ne (tgt := 20) dX2_readFirst_15 (by decide) ⟨by omega, by omega⟩ (fun g15 => absurd g15 (by omega)) (fun g15 => ?_)
    refine r_iconst dX2_readFirst_18 ?_
    refine r_iret dX2_readFirst_19 ?_
    refine ⟨rfl, Or.inr ⟨_, _, (opD D 2), _, _, _, _, ?_, rfl, ⟨(by first | rfl | exact c1), (by first | rfl | exact c3), (by first | rfl | exact c5), (by first | rfl | exact c34), (by first | rfl | exact c35), (by first | rfl | exact c36), (by first | rfl | exact c37), (by first | rfl | exact c38), (fun j hj => by obtain ⟨a1, a2, a3⟩ := hj; try simp only [va_up]; (repeat rw [if_neg (by omega)]); exact fr j ⟨a1, a2, a3⟩)⟩, (lok_op lo (by omega) ⟨by decide, by decide⟩)⟩⟩
    rw [eC, if_neg (by rw [z0]; decide)]
