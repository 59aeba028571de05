/-! ===== the law's reader ===== -/
def RdT (h0 : aH) (t : Nat → Int) (nd fa pl : Int) (le : Nat) (tv : Value) (m0 : Int) (k : Nat) : Prop := ∀ (h : aH) (tk : Int) (e : Nat) (D : LDt), LW h0 h t nd (SC t fa pl tk le e) tv m0 D → LOK D → e ≤ le → 2 * D.1 ≤ e → ∀ lv : Int, lv = 12 - (k : Int) → mSem yX2_readTime cX2_readTime 2 (some .int) (2 * k + 7) 0 0 [.ref 5, iv lv] 97 h (LQ h0 t nd fa pl le tv m0 D k true (pT t le nd k true e)) noX
def RdE (h0 : aH) (t : Nat → Int) (nd fa pl : Int) (le : Nat) (tv : Value) (m0 : Int) (k : Nat) : Prop := ∀ (h : aH) (tk : Int) (e : Nat) (D : LDt), LW h0 h t nd (SC t fa pl tk le e) tv m0 D → LOK D → e ≤ le → 2 * D.1 ≤ e → ∀ lv : Int, lv = 12 - (k : Int) → mSem yX2_readTest cX2_readTest 2 (some .int) (2 * k + 7) 0 0 [.ref 5, iv lv] 97 h (LQ h0 t nd fa pl le tv m0 D k false (pT t le nd k false e)) noX
theorem pT_t {t : Nat → Int} {le : Nat} {nd : Int} {k e : Nat} : pT t le nd (k + 1) true e = if tkK t le e = 1 then
      (if wordAt t le e 0 = true then pDl t le nd e else if wordAt t le e 11 = true then pMd t le nd e else if wordAt t le e 12 = true then pFi t le (pT t le nd k true) e else if wordAt t le e 13 = true then pCp t le meI (pT t le nd k true) e
        else if wordAt t le e 14 = true then pLt t le (pT t le nd k true) e else if wordAt t le e 15 = true then pIf t le (pT t le nd k true) (pT t le nd k false) e else .inl (4, tkS t le e)) else .inl (1, tkS t le e) := rfl
theorem pT_f {t : Nat → Int} {le : Nat} {nd : Int} {k e : Nat} : pT t le nd (k + 1) false e = if tkK t le e = 1 then
      (if wordAt t le e 16 = true then pUn t le ntI (pT t le nd k false) e else if wordAt t le e 17 = true then pUn t le dkI (pT t le nd k true) e else if wordAt t le e 18 = true then pMo t le e else if wordAt t le e 19 = true then pCp t le beI (pT t le nd k true) e
        else .inl (4, tkS t le e)) else .inl (1, tkS t le e) := rfl
theorem mk_chn {D Dc D2 : LDt} {la m k : Nat} {a s : LSm} (h : Chn Dc (D.1 + 1) Dc.1 la m k a) (g : Kp Dc D2) (h2 : DenL D2 Dc.1 D2.1 k true s) (hs : Dc.2.1 D.1 = 2) (hf : Dc.2.2.2.1 D.1 = ((D.1 + 1 : Nat) : Int)) (hn : Dc.2.2.2.2 D.1 = -1) (kp : Kp D Dc) (nn : D2.2.2.2.2 Dc.1 = -1) :
    la < D2.1 ∧ (npD D2 la (Dc.1 : Int)).2.1 D.1 = 2 ∧ (npD D2 la (Dc.1 : Int)).2.2.2.1 D.1 = ((D.1 + 1 : Nat) : Int) ∧ (npD D2 la (Dc.1 : Int)).2.2.2.2 D.1 = -1 ∧ Kp D (npD D2 la (Dc.1 : Int)) ∧ (npD D2 la (Dc.1 : Int)).2.2.2.2 Dc.1 = -1 ∧ Chn (npD D2 la (Dc.1 : Int)) (D.1 + 1) D2.1 Dc.1 (m + 1) k (fsO a s) := by
  obtain ⟨q1, q2, q3, q4⟩ := id h
  have l2 := h2.1
  obtain ⟨z1, z2, z3, z4⟩ := g.2 D.1 (by omega)
  refine ⟨by omega, z1.trans hs, z3.trans hf, (va_up_ne _ _ (by omega)).trans (z4.trans hn), kp_np (kp.trans g) (by omega), (va_up_ne _ _ (by omega)).trans nn, chn_s h (fun j j1 j2 => ?_) (va_up_self _ _ _) (np_den h2 (by omega))⟩
  obtain ⟨x1, x2, x3, x4⟩ := g.2 j j2
  refine ⟨x1, x2, x3, ?_⟩
  by_cases c : j = la
  · exact Or.inl c
  · exact Or.inr ((va_up_ne _ _ c).trans x4)

theorem s_X2_readDial {h0 h : aH} {t : Nat → Int} {nd fa pl tk m0 : Int} {le e : Nat} {tv : Value} {D : LDt} (pw : LW h0 h t nd (SC t fa pl tk le e) tv m0 D) (lo : LOK D) (hnd : 0 ≤ nd ∧ nd ≤ 9) (ht : ∀ j, -128 ≤ t j ∧ t j ≤ 127) (hle : le ≤ 700) (hee : e ≤ le) (h2N : 2 * D.1 ≤ e) (hw : e + 2 ≤ tkE t le e) {k : Nat}  : mSem yX2_readDial cX2_readDial 2 (some .int) 6 0 0 [.ref 5] 97 h (LQ h0 t nd fa pl le tv m0 D (k + 1) true (pDl t le nd e)) noX := by
  obtain ⟨c1, c3, c5, c34, c35, c36, c37, c38, fr⟩ := id pw
  have hB := tk_B t hee
  have hB1 := tk_B t hB.2.2.2.1
  have hB2 := tk_B t hB1.2.2.2.1
  have pN := lo.1
  refine mSem_of (own := RX2) (name := "readDial") pn_X2 rfl rfl (Nat.le_of_ble_eq_true rfl) ?_
  refine r_aload_n dX2_readDial_0 rfl rfl ?_
  refine r_iconst dX2_readDial_1 ?_
  refine r_callV 5 [_] (s_X2_open pw lo hnd ht hle hee h2N hw) dX2_readDial_2 cs_X2_111 im_X2_open (by decide) c5 rfl (by decide) (by decide) (by decide) rfl rfl (Nat.le_of_ble_eq_true rfl) (fun _ _ _ q => q.elim) (fun v n2 h2 q => ?_)
  obtain ⟨rfl, rfl, pwa⟩ := q
  obtain ⟨c1, c3, c5, c34, c35, c36, c37, c38, fr⟩ := id pwa
  refine ⟨rfl, ?_⟩
  dsimp only [Option.toList, List.cons_append, List.nil_append]
  refine r_istore_n (lv2 := [(0, _), (1, _)]) dX2_readDial_5 rfl (by decide) rfl rfl ?_
  refine r_aload_n dX2_readDial_6 rfl rfl ?_
  refine r_get (fs := [_, _, _]) dX2_readDial_7 fl_X2_9 (by decide) c5 rfl ?_
  refine r_iconst dX2_readDial_10 ?_
  refine r_aload_n dX2_readDial_11 rfl rfl ?_
  refine r_get (fs := [_, _, _]) dX2_readDial_12 fl_X2_19 (by decide) c5 rfl ?_
  refine r_iconst dX2_readDial_15 ?_
  refine r_isub dX2_readDial_16 ?_
  refine r_callV 3 [_, _] (s_X6_takeNumber c1 ht (by first | rfl | exact c3) hle (by omega) (by omega) (by omega)) dX2_readDial_17 cs_X2_114 im_X6_takeNumber (by decide) c3 rfl (by decide) (by decide) (by decide) rfl rfl (Nat.le_of_ble_eq_true rfl) (fun _ _ _ q => q.elim) (fun v n2 h2 q => ?_)
  obtain ⟨rfl, q⟩ := q
  rcases q with ⟨z1, rfl, hh⟩ | ⟨z1, rfl, hh⟩
  · obtain rfl := hh.symm
    refine ⟨rfl, ?_⟩
    dsimp only [Option.toList, List.cons_append, List.nil_append]
    refine r_if_ne (tgt := 25) dX2_readDial_20 (by decide) ⟨by omega, by omega⟩ (fun g20 => ?_) (fun g20 => absurd g20 (by omega))
    refine r_aload_n dX2_readDial_25 rfl rfl ?_
    refine r_get (fs := [_, _, _]) dX2_readDial_26 fl_X2_15 (by decide) c5 rfl ?_
    refine r_iload_n dX2_readDial_29 rfl rfl ?_
    refine r_aload_n dX2_readDial_30 rfl rfl ?_
    refine r_get (fs := [_, _, _]) dX2_readDial_31 fl_X2_9 (by decide) c5 rfl ?_
    refine r_get (fs := [_, _, _, _, _, _, _, _]) dX2_readDial_34 fl_X2_118 (by decide) rfl rfl ?_
    refine r_callV 34 [_, _] (s_X1_setValue (by exact c34) (by exact c36) (Nat.lt_succ_self _) (by show D.1 + 1 ≤ 350; omega)) dX2_readDial_37 cs_X2_121 im_X1_setValue (by decide) c34 rfl (by decide) (by decide) (by decide) rfl rfl (Nat.le_of_ble_eq_true rfl) (fun _ _ _ q => q.elim) (fun v n2 h2 q => ?_)
    obtain ⟨rfl, rfl, hh⟩ := q
    obtain rfl := hh.symm
    refine ⟨rfl, ?_⟩
    dsimp only [Option.toList, List.cons_append, List.nil_append]
    refine r_iload_n dX2_readDial_40 rfl rfl ?_
    refine r_iret dX2_readDial_41 ?_
    have bn := pNum_ok (numOk z1)
    refine ⟨rfl, Or.inl ⟨_, (tkE t le (tkE t le e)), svD (opD D 0) D.1 (numAt t le (tkE t le e)), _, ?_, by omega, rfl, ⟨(by first | rfl | exact c1), (by first | rfl | exact c3), (by first | rfl | exact c5), (by first | rfl | exact c34), (by first | rfl | exact c35), (by first | rfl | exact c36), (by first | rfl | exact c37), (by first | rfl | exact c38), (fun j hj => by obtain ⟨a1, a2, a3⟩ := hj; try simp only [va_up]; (repeat rw [if_neg (by omega)]); exact fr j ⟨a1, a2, a3⟩)⟩, lok_sv (lok_op lo (by omega) ⟨by decide, by decide⟩) (by omega) (fun z => absurd ((va_up_self _ _ _).symm.trans z) (by decide)), kp_sv (kp_op D 0) (Nat.le_refl _), den_dial (va_up_self _ _ _) (va_up_self _ _ _), va_up_self _ _ _, ?_⟩⟩
    · unfold pDl
      rw [numOk z1]
    · show 2 * (D.1 + 1) ≤ _
      omega
  · obtain rfl := hh.symm
    refine ⟨rfl, ?_⟩
    dsimp only [Option.toList, List.cons_append, List.nil_append]
    refine r_if_ne (tgt := 25) dX2_readDial_20 (by decide) ⟨by omega, by omega⟩ (fun g20 => absurd g20 (by omega)) (fun g20 => ?_)
    refine r_iconst dX2_readDial_23 ?_
    refine r_iret dX2_readDial_24 ?_
    refine ⟨rfl, Or.inr ⟨_, _, (opD D 0), _, _, _, _, ?_, rfl, ⟨(by first | rfl | exact c1), (by first | rfl | exact c3), (by first | rfl | exact c5), (by first | rfl | exact c34), (by first | rfl | exact c35), (by first | rfl | exact c36), (by first | rfl | exact c37), (by first | rfl | exact c38), (fun j hj => by obtain ⟨a1, a2, a3⟩ := hj; try simp only [va_up]; (repeat rw [if_neg (by omega)]); exact fr j ⟨a1, a2, a3⟩)⟩, (lok_op lo (by omega) ⟨by decide, by decide⟩)⟩⟩
    unfold pDl
    rw [numNo z1]

theorem s_X2_readMonth {h0 h : aH} {t : Nat → Int} {nd fa pl tk m0 : Int} {le e : Nat} {tv : Value} {D : LDt} (pw : LW h0 h t nd (SC t fa pl tk le e) tv m0 D) (lo : LOK D) (hnd : 0 ≤ nd ∧ nd ≤ 9) (ht : ∀ j, -128 ≤ t j ∧ t j ≤ 127) (hle : le ≤ 700) (hee : e ≤ le) (h2N : 2 * D.1 ≤ e) (hw : e + 2 ≤ tkE t le e) {k : Nat}  : mSem yX2_readMonth cX2_readMonth 2 (some .int) 6 0 0 [.ref 5] 97 h (LQ h0 t nd fa pl le tv m0 D (k + 1) false (pMo t le e)) noX := by
  obtain ⟨c1, c3, c5, c34, c35, c36, c37, c38, fr⟩ := id pw
  have hB := tk_B t hee
  have hB1 := tk_B t hB.2.2.2.1
  have hB2 := tk_B t hB1.2.2.2.1
  have pN := lo.1
  refine mSem_of (own := RX2) (name := "readMonth") pn_X2 rfl rfl (Nat.le_of_ble_eq_true rfl) ?_
  refine r_aload_n dX2_readMonth_0 rfl rfl ?_
  refine r_bipush dX2_readMonth_1 rfl ?_
  refine r_callV 5 [_] (s_X2_open pw lo hnd ht hle hee h2N hw) dX2_readMonth_3 cs_X2_111 im_X2_open (by decide) c5 rfl (by decide) (by decide) (by decide) rfl rfl (Nat.le_of_ble_eq_true rfl) (fun _ _ _ q => q.elim) (fun v n2 h2 q => ?_)
  obtain ⟨rfl, rfl, pwa⟩ := q
  obtain ⟨c1, c3, c5, c34, c35, c36, c37, c38, fr⟩ := id pwa
  refine ⟨rfl, ?_⟩
  dsimp only [Option.toList, List.cons_append, List.nil_append]
  refine r_istore_n (lv2 := [(0, _), (1, _)]) dX2_readMonth_6 rfl (by decide) rfl rfl ?_
  refine r_aload_n dX2_readMonth_7 rfl rfl ?_
  refine r_get (fs := [_, _, _]) dX2_readMonth_8 fl_X2_9 (by decide) c5 rfl ?_
  refine r_iconst dX2_readMonth_11 ?_
  refine r_bipush dX2_readMonth_12 rfl ?_
  refine r_callV 3 [_, _] (s_X6_takeNumber c1 ht (by first | rfl | exact c3) hle (by omega) (by omega) (by omega)) dX2_readMonth_14 cs_X2_114 im_X6_takeNumber (by decide) c3 rfl (by decide) (by decide) (by decide) rfl rfl (Nat.le_of_ble_eq_true rfl) (fun _ _ _ q => q.elim) (fun v n2 h2 q => ?_)
  obtain ⟨rfl, q⟩ := q
  rcases q with ⟨z1, rfl, hh⟩ | ⟨z1, rfl, hh⟩
  · obtain rfl := hh.symm
    refine ⟨rfl, ?_⟩
    dsimp only [Option.toList, List.cons_append, List.nil_append]
    refine r_if_ne (tgt := 22) dX2_readMonth_17 (by decide) ⟨by omega, by omega⟩ (fun g17 => ?_) (fun g17 => absurd g17 (by omega))
    refine r_aload_n dX2_readMonth_22 rfl rfl ?_
    refine r_get (fs := [_, _, _]) dX2_readMonth_23 fl_X2_15 (by decide) c5 rfl ?_
    refine r_iload_n dX2_readMonth_26 rfl rfl ?_
    refine r_aload_n dX2_readMonth_27 rfl rfl ?_
    refine r_get (fs := [_, _, _]) dX2_readMonth_28 fl_X2_9 (by decide) c5 rfl ?_
    refine r_get (fs := [_, _, _, _, _, _, _, _]) dX2_readMonth_31 fl_X2_118 (by decide) rfl rfl ?_
    refine r_callV 34 [_, _] (s_X1_setValue (by exact c34) (by exact c36) (Nat.lt_succ_self _) (by show D.1 + 1 ≤ 350; omega)) dX2_readMonth_34 cs_X2_121 im_X1_setValue (by decide) c34 rfl (by decide) (by decide) (by decide) rfl rfl (Nat.le_of_ble_eq_true rfl) (fun _ _ _ q => q.elim) (fun v n2 h2 q => ?_)
    obtain ⟨rfl, rfl, hh⟩ := q
    obtain rfl := hh.symm
    refine ⟨rfl, ?_⟩
    dsimp only [Option.toList, List.cons_append, List.nil_append]
    refine r_iload_n dX2_readMonth_37 rfl rfl ?_
    refine r_iret dX2_readMonth_38 ?_
    have bn := pNum_ok (numOk z1)
    refine ⟨rfl, Or.inl ⟨_, (tkE t le (tkE t le e)), svD (opD D 8) D.1 (numAt t le (tkE t le e)), _, ?_, by omega, rfl, ⟨(by first | rfl | exact c1), (by first | rfl | exact c3), (by first | rfl | exact c5), (by first | rfl | exact c34), (by first | rfl | exact c35), (by first | rfl | exact c36), (by first | rfl | exact c37), (by first | rfl | exact c38), (fun j hj => by obtain ⟨a1, a2, a3⟩ := hj; try simp only [va_up]; (repeat rw [if_neg (by omega)]); exact fr j ⟨a1, a2, a3⟩)⟩, lok_sv (lok_op lo (by omega) ⟨by decide, by decide⟩) (by omega) (fun z => absurd ((va_up_self _ _ _).symm.trans z) (by decide)), kp_sv (kp_op D 8) (Nat.le_refl _), den_month (va_up_self _ _ _) (va_up_self _ _ _), va_up_self _ _ _, ?_⟩⟩
    · unfold pMo
      rw [numOk z1]
    · show 2 * (D.1 + 1) ≤ _
      omega
  · obtain rfl := hh.symm
    refine ⟨rfl, ?_⟩
    dsimp only [Option.toList, List.cons_append, List.nil_append]
    refine r_if_ne (tgt := 22) dX2_readMonth_17 (by decide) ⟨by omega, by omega⟩ (fun g17 => absurd g17 (by omega)) (fun g17 => ?_)
    refine r_iconst dX2_readMonth_20 ?_
    refine r_iret dX2_readMonth_21 ?_
    refine ⟨rfl, Or.inr ⟨_, _, (opD D 8), _, _, _, _, ?_, rfl, ⟨(by first | rfl | exact c1), (by first | rfl | exact c3), (by first | rfl | exact c5), (by first | rfl | exact c34), (by first | rfl | exact c35), (by first | rfl | exact c36), (by first | rfl | exact c37), (by first | rfl | exact c38), (fun j hj => by obtain ⟨a1, a2, a3⟩ := hj; try simp only [va_up]; (repeat rw [if_neg (by omega)]); exact fr j ⟨a1, a2, a3⟩)⟩, (lok_op lo (by omega) ⟨by decide, by decide⟩)⟩⟩
    unfold pMo
    rw [numNo z1]

theorem s_X2_takeOther {h0 h : aH} {t : Nat → Int} {nd fa pl tk m0 : Int} {le e : Nat} {tv : Value} {D : LDt} (pw : LW h0 h t nd (SC t fa pl tk le e) tv m0 D) (hnd : 0 ≤ nd ∧ nd ≤ 9) (ht : ∀ j, -128 ≤ t j ∧ t j ≤ 127) (hle : le ≤ 700) (hee : e ≤ le) {b : Nat} (hb : b < 512) : mSem yX2_takeOther cX2_takeOther 3 (some .int) 2 0 0 [.ref 5, iv b] 97 h (fun v n' h' => n' = 97 ∧ ((∃ b2 e2 tk2, pOt t le nd b e = .inr (b2, e2) ∧ b2 < 512 ∧ e ≤ e2 ∧ e2 ≤ le ∧ v = some (iv (b2 : Nat)) ∧ LW h0 h' t nd (SC t fa pl tk2 le e2) tv m0 D) ∨ (∃ f p tk2 ki st en, pOt t le nd b e = .inl (f, p) ∧ v = some (iv (-1)) ∧ LW h0 h' t nd (SCN f p tk2 le ki st en) tv m0 D))) noX := by
  obtain ⟨c1, c3, c5, c34, c35, c36, c37, c38, fr⟩ := id pw
  have hB := tk_B t hee
  refine mSem_of (own := RX2) (name := "takeOther") pn_X2 rfl rfl (Nat.le_of_ble_eq_true rfl) ?_
  refine r_aload_n dX2_takeOther_0 rfl rfl ?_
  refine r_get (fs := [_, _, _]) dX2_takeOther_1 fl_X2_9 (by decide) c5 rfl ?_
  refine r_iconst dX2_takeOther_4 ?_
  refine r_aload_n dX2_takeOther_5 rfl rfl ?_
  refine r_get (fs := [_, _, _]) dX2_takeOther_6 fl_X2_19 (by decide) c5 rfl ?_
  refine r_iconst dX2_takeOther_9 ?_
  refine r_isub dX2_takeOther_10 ?_
  refine r_callV 3 [_, _] (s_X6_holdsNumber c1 ht (by first | rfl | exact c3) hle (by omega) (by omega) (by omega)) dX2_takeOther_11 cs_X2_135 im_X6_holdsNumber (by decide) c3 rfl (by decide) (by decide) (by decide) rfl rfl (Nat.le_of_ble_eq_true rfl) (fun _ _ _ q => q.elim) (fun v n2 h2 q => ?_)
  obtain ⟨rfl, q⟩ := q
  rcases q with ⟨z1, rfl, hh⟩ | ⟨z1, rfl, hh⟩
  · obtain rfl := hh.symm
    refine ⟨rfl, ?_⟩
    dsimp only [Option.toList, List.cons_append, List.nil_append]
    refine r_if_ne (tgt := 19) dX2_takeOther_14 (by decide) ⟨by omega, by omega⟩ (fun g14 => ?_) (fun g14 => absurd g14 (by omega))
    have bn := pNum_ok (numOk z1)
    obtain ⟨u, hu⟩ : ∃ u : Nat, numAt t le e = u := ⟨(numAt t le e).toNat, by omega⟩
    have eO : pOt t le nd b e = if b &&& 2 ^ u = 0 then .inr (b ||| 2 ^ u, tkE t le e) else .inl (3, tkS t le e) := by
      unfold pOt
      rw [if_pos (of_decide_eq_true z1), hu, Int.toNat_natCast]
    have hand : b &&& 2 ^ u ≤ b := Nat.and_le_left
    have hu9 : (2 : Nat) ^ u < 2 ^ 9 := Nat.pow_lt_pow_right (by decide) (by omega)
    refine r_iconst dX2_takeOther_19 ?_
    refine r_aload_n dX2_takeOther_20 rfl rfl ?_
    refine r_get (fs := [_, _, _]) dX2_takeOther_21 fl_X2_9 (by decide) c5 rfl ?_
    refine r_get (fs := [_, _, _, _, _, _, _, _]) dX2_takeOther_24 fl_X2_118 (by decide) rfl rfl ?_
    rw [hu]
    refine r_ishl _ dX2_takeOther_27 (shl1 u (by omega)) ?_
    refine r_istore_n (lv2 := [(0, _), (1, _), (2, _)]) dX2_takeOther_28 rfl (by decide) rfl rfl ?_
    refine r_iload_n dX2_takeOther_29 rfl rfl ?_
    refine r_iload_n dX2_takeOther_30 rfl rfl ?_
    refine r_iand _ dX2_takeOther_31 (andI _ _) ?_
    refine r_if_eq (tgt := 46) dX2_takeOther_32 (by decide) ⟨by omega, by omega⟩ (fun g32 => ?_) (fun g32 => ?_)
    · refine r_aload_n dX2_takeOther_46 rfl rfl ?_
      refine r_get (fs := [_, _, _]) dX2_takeOther_47 fl_X2_9 (by decide) c5 rfl ?_
      refine r_callV 3 [] (s_X6_advance (by exact c1) ht (by first | rfl | exact c3) hle (by omega)) dX2_takeOther_50 cs_X2_101 im_X6_advance (by decide) rfl rfl (by decide) (by decide) (by decide) rfl rfl (Nat.le_of_ble_eq_true rfl) (fun _ _ _ q => q.elim) (fun v n2 h2 q => ?_)
      obtain ⟨rfl, rfl, hh⟩ := q
      obtain rfl := hh.symm
      refine ⟨rfl, ?_⟩
      dsimp only [Option.toList, List.cons_append, List.nil_append]
      refine r_iload_n dX2_takeOther_53 rfl rfl ?_
      refine r_iload_n dX2_takeOther_54 rfl rfl ?_
      refine r_ior _ dX2_takeOther_55 (orI _ _) ?_
      refine r_iret dX2_takeOther_56 ?_
      refine ⟨rfl, Or.inl ⟨b ||| 2 ^ u, tkE t le e, _, ?_, Nat.or_lt_two_pow (n := 9) hb hu9, by omega, by omega, rfl, ⟨(by first | rfl | exact c1), (by first | rfl | exact c3), (by first | rfl | exact c5), (by first | rfl | exact c34), (by first | rfl | exact c35), (by first | rfl | exact c36), (by first | rfl | exact c37), (by first | rfl | exact c38), (fun j hj => by obtain ⟨a1, a2, a3⟩ := hj; try simp only [va_up]; (repeat rw [if_neg (by omega)]); exact fr j ⟨a1, a2, a3⟩)⟩⟩⟩
      rw [eO, if_pos (by omega)]
    · refine r_aload_n dX2_takeOther_35 rfl rfl ?_
      refine r_get (fs := [_, _, _]) dX2_takeOther_36 fl_X2_9 (by decide) c5 rfl ?_
      refine r_iconst dX2_takeOther_39 ?_
      refine r_callV 3 [_] (s_X6_refuse (by rfl)) dX2_takeOther_40 cs_X2_38 im_X6_refuse (by decide) rfl rfl (by decide) (by decide) (by decide) rfl rfl (Nat.le_of_ble_eq_true rfl) (fun _ _ _ q => q.elim) (fun v n2 h2 q => ?_)
      obtain ⟨rfl, rfl, hh⟩ := q
      obtain rfl := hh.symm
      refine ⟨rfl, ?_⟩
      dsimp only [Option.toList, List.cons_append, List.nil_append]
      refine r_pop dX2_takeOther_43 rfl ?_
      refine r_iconst dX2_takeOther_44 ?_
      refine r_iret dX2_takeOther_45 ?_
      refine ⟨rfl, Or.inr ⟨_, _, _, _, _, _, ?_, rfl, ⟨(by first | rfl | exact c1), (by first | rfl | exact c3), (by first | rfl | exact c5), (by first | rfl | exact c34), (by first | rfl | exact c35), (by first | rfl | exact c36), (by first | rfl | exact c37), (by first | rfl | exact c38), (fun j hj => by obtain ⟨a1, a2, a3⟩ := hj; try simp only [va_up]; (repeat rw [if_neg (by omega)]); exact fr j ⟨a1, a2, a3⟩)⟩⟩⟩
      rw [eO, if_neg (by omega)]
  · obtain rfl := hh.symm
    refine ⟨rfl, ?_⟩
    dsimp only [Option.toList, List.cons_append, List.nil_append]
    refine r_if_ne (tgt := 19) dX2_takeOther_14 (by decide) ⟨by omega, by omega⟩ (fun g14 => absurd g14 (by omega)) (fun g14 => ?_)
    refine r_iconst dX2_takeOther_17 ?_
    refine r_iret dX2_takeOther_18 ?_
    refine ⟨rfl, Or.inr ⟨_, _, _, _, _, _, ?_, rfl, ⟨(by first | rfl | exact c1), (by first | rfl | exact c3), (by first | rfl | exact c5), (by first | rfl | exact c34), (by first | rfl | exact c35), (by first | rfl | exact c36), (by first | rfl | exact c37), (by first | rfl | exact c38), (fun j hj => by obtain ⟨a1, a2, a3⟩ := hj; try simp only [va_up]; (repeat rw [if_neg (by omega)]); exact fr j ⟨a1, a2, a3⟩)⟩⟩⟩
    unfold pOt
    rw [if_neg (of_decide_eq_false z1)]

theorem l_X2_rmFail {h : aH} {d : Nat} {p i : Int} (hi : 0 ≤ i ∧ i ≤ 10) {Q : Option Value → Nat → aH → Prop} (hq : Q (some (iv (-1))) 97 h) : Ev RX2 "readMiddle" cX2_readMiddle 4 (some .int) d 0 0 Q noX 97 h 28 [(0, .ref 5), (1, iv p), (2, iv (-1)), (3, iv i)] [] := by
  refine r_iload_n dX2_readMiddle_28 rfl rfl ?_
  refine r_bipush dX2_readMiddle_29 rfl ?_
  refine r_icmp_ge (tgt := 70) dX2_readMiddle_31 (by decide) ⟨by omega, by omega⟩ ⟨by omega, by omega⟩ (fun g31 => ?_) (fun g31 => ?_)
  · refine r_iload_n dX2_readMiddle_70 rfl rfl ?_
    refine r_iconst dX2_readMiddle_71 ?_
    refine r_icmp_eq (tgt := 87) dX2_readMiddle_72 (by decide) ⟨by omega, by omega⟩ ⟨by omega, by omega⟩ (fun g72 => ?_) (fun g72 => absurd g72 (by omega))
    refine r_iconst dX2_readMiddle_87 ?_
    refine r_iret dX2_readMiddle_88 ?_
    exact hq
  · refine r_iload_n dX2_readMiddle_34 rfl rfl ?_
    refine r_iconst dX2_readMiddle_35 ?_
    refine r_icmp_eq (tgt := 70) dX2_readMiddle_36 (by decide) ⟨by omega, by omega⟩ ⟨by omega, by omega⟩ (fun g36 => ?_) (fun g36 => absurd g36 (by omega))
    refine r_iload_n dX2_readMiddle_70 rfl rfl ?_
    refine r_iconst dX2_readMiddle_71 ?_
    refine r_icmp_eq (tgt := 87) dX2_readMiddle_72 (by decide) ⟨by omega, by omega⟩ ⟨by omega, by omega⟩ (fun g72 => ?_) (fun g72 => absurd g72 (by omega))
    refine r_iconst dX2_readMiddle_87 ?_
    refine r_iret dX2_readMiddle_88 ?_
    exact hq

theorem l_X2_readMiddle {h0 : aH} {t : Nat → Int} {nd fa pl m0 : Int} {le k : Nat} {tv : Value} {D : LDt} (lo : LOK (opD D 1)) (hnd : 0 ≤ nd ∧ nd ≤ 9) (ht : ∀ j, -128 ≤ t j ∧ t j ≤ 127) (hle : le ≤ 700) {d : Nat} (hd : 6 ≤ d) : ∀ (w i : Nat) (h : aH) (b e : Nat) (tk : Int), i + w = 9 → LW h0 h t nd (SC t fa pl tk le e) tv m0 (opD D 1) → b < 512 → e ≤ le → 2 * (D.1 + 1) ≤ e →
    Ev RX2 "readMiddle" cX2_readMiddle 4 (some .int) d 0 0 (LQ h0 t nd fa pl le tv m0 D (k + 1) true (match pMs t le nd w b e with | .inl x => .inl x | .inr (b3, e3) => .inr (fun tf _ => midI (midL tf b3 9), e3))) noX 97 h 28 [(0, .ref 5), (1, iv (D.1 : Int)), (2, iv b), (3, iv i)] [] := by
  intro w
  induction w with
  | zero =>
    intro i h b e tk hi pw hb hee h2N
    obtain ⟨c1, c3, c5, c34, c35, c36, c37, c38, fr⟩ := id pw
    have hB := tk_B t hee
    refine r_iload_n dX2_readMiddle_28 rfl rfl ?_
    refine r_bipush dX2_readMiddle_29 rfl ?_
    refine r_icmp_ge (tgt := 70) dX2_readMiddle_31 (by decide) ⟨by omega, by omega⟩ ⟨by omega, by omega⟩ (fun g31 => ?_) (fun g31 => absurd g31 (by omega))
    refine r_iload_n dX2_readMiddle_70 rfl rfl ?_
    refine r_iconst dX2_readMiddle_71 ?_
    refine r_icmp_eq (tgt := 87) dX2_readMiddle_72 (by decide) ⟨by omega, by omega⟩ ⟨by omega, by omega⟩ (fun g72 => absurd g72 (by omega)) (fun g72 => ?_)
    refine r_aload_n dX2_readMiddle_75 rfl rfl ?_
    refine r_get (fs := [_, _, _]) dX2_readMiddle_76 fl_X2_9 (by decide) c5 rfl ?_
    refine r_bipush dX2_readMiddle_79 rfl ?_
    refine r_callV 3 [_] (s_X6_takeSign c1 ht (by first | rfl | exact c3) hle (by omega) (by omega)) dX2_readMiddle_81 cs_X2_125 im_X6_takeSign (by decide) c3 rfl (by omega) (by decide) (by decide) rfl rfl (Nat.le_of_ble_eq_true rfl) (fun _ _ _ q => q.elim) (fun v n2 h2 q => ?_)
    obtain ⟨rfl, q⟩ := q
    rcases q with ⟨z9, rfl, hh⟩ | ⟨z9, rfl, hh⟩
    · obtain rfl := hh.symm
      refine ⟨rfl, ?_⟩
      dsimp only [Option.toList, List.cons_append, List.nil_append]
      refine r_if_ne (tgt := 89) dX2_readMiddle_84 (by decide) ⟨by omega, by omega⟩ (fun g84 => ?_) (fun g84 => absurd g84 (by omega))
      refine r_aload_n dX2_readMiddle_89 rfl rfl ?_
      refine r_get (fs := [_, _, _]) dX2_readMiddle_90 fl_X2_15 (by decide) c5 rfl ?_
      refine r_iload_n dX2_readMiddle_93 rfl rfl ?_
      refine r_iload_n dX2_readMiddle_94 rfl rfl ?_
      refine r_callV 34 [_, _] (s_X1_setValue (by exact c34) (by exact c36) (Nat.lt_succ_self _) (by show D.1 + 1 ≤ 350; omega)) dX2_readMiddle_95 cs_X2_121 im_X1_setValue (by decide) c34 rfl (by omega) (by decide) (by decide) rfl rfl (Nat.le_of_ble_eq_true rfl) (fun _ _ _ q => q.elim) (fun v n2 h2 q => ?_)
      obtain ⟨rfl, rfl, hh⟩ := q
      obtain rfl := hh.symm
      refine ⟨rfl, ?_⟩
      dsimp only [Option.toList, List.cons_append, List.nil_append]
      refine r_iload_n dX2_readMiddle_98 rfl rfl ?_
      refine r_iret dX2_readMiddle_99 ?_
      first
        | (rw [e1, if_neg (by rw [g48]; decide)]
           unfold pCl
           rw [if_pos z9])
        | (dsimp only [pMs]
           unfold pCl
           rw [if_pos z9])
      refine ⟨rfl, Or.inl ⟨_, _, svD (opD D 1) D.1 (b : Int), _, rfl, by omega, rfl, ⟨(by first | rfl | exact c1), (by first | rfl | exact c3), (by first | rfl | exact c5), (by first | rfl | exact c34), (by first | rfl | exact c35), (by first | rfl | exact c36), (by first | rfl | exact c37), (by first | rfl | exact c38), (fun j hj => by obtain ⟨a1, a2, a3⟩ := hj; try simp only [va_up]; (repeat rw [if_neg (by omega)]); exact fr j ⟨a1, a2, a3⟩)⟩, lok_sv lo (by omega) (fun _ => by omega), kp_sv (kp_op D 1) (Nat.le_refl _), den_mid (va_up_self _ _ _) (va_up_self _ _ _), va_up_self _ _ _, ?_⟩⟩
      show 2 * (D.1 + 1) ≤ _
      omega
    · obtain rfl := hh.symm
      refine ⟨rfl, ?_⟩
      dsimp only [Option.toList, List.cons_append, List.nil_append]
      refine r_if_ne (tgt := 89) dX2_readMiddle_84 (by decide) ⟨by omega, by omega⟩ (fun g84 => absurd g84 (by omega)) (fun g84 => ?_)
      refine r_iconst dX2_readMiddle_87 ?_
      refine r_iret dX2_readMiddle_88 ?_
      first
        | (rw [e1, if_neg (by rw [g48]; decide)]
           unfold pCl
           rw [if_neg (by rw [z9]; decide)]
           exact ⟨rfl, Or.inr ⟨_, _, opD D 1, _, _, _, _, rfl, rfl, ⟨(by first | rfl | exact c1), (by first | rfl | exact c3), (by first | rfl | exact c5), (by first | rfl | exact c34), (by first | rfl | exact c35), (by first | rfl | exact c36), (by first | rfl | exact c37), (by first | rfl | exact c38), (fun j hj => by obtain ⟨a1, a2, a3⟩ := hj; try simp only [va_up]; (repeat rw [if_neg (by omega)]); exact fr j ⟨a1, a2, a3⟩)⟩, lo⟩⟩)
        | (dsimp only [pMs]
           unfold pCl
           rw [if_neg (by rw [z9]; decide)]
           exact ⟨rfl, Or.inr ⟨_, _, opD D 1, _, _, _, _, rfl, rfl, ⟨(by first | rfl | exact c1), (by first | rfl | exact c3), (by first | rfl | exact c5), (by first | rfl | exact c34), (by first | rfl | exact c35), (by first | rfl | exact c36), (by first | rfl | exact c37), (by first | rfl | exact c38), (fun j hj => by obtain ⟨a1, a2, a3⟩ := hj; try simp only [va_up]; (repeat rw [if_neg (by omega)]); exact fr j ⟨a1, a2, a3⟩)⟩, lo⟩⟩)
  | succ w ih =>
    intro i h b e tk hi pw hb hee h2N
    obtain ⟨c1, c3, c5, c34, c35, c36, c37, c38, fr⟩ := id pw
    have hB := tk_B t hee
    have hB1 := tk_B t hB.2.2.2.1
    have kb := b2i_01 (signAt t le e 44)
    have e1 : pMs t le nd (w + 1) b e = if signAt t le e 44 = true then (match pOt t le nd b (tkE t le e) with | .inl x => .inl x | .inr (b2, e2) => pMs t le nd w b2 e2) else pCl t le b e := rfl
    refine r_iload_n dX2_readMiddle_28 rfl rfl ?_
    refine r_bipush dX2_readMiddle_29 rfl ?_
    refine r_icmp_ge (tgt := 70) dX2_readMiddle_31 (by decide) ⟨by omega, by omega⟩ ⟨by omega, by omega⟩ (fun g31 => absurd g31 (by omega)) (fun g31 => ?_)
    refine r_iload_n dX2_readMiddle_34 rfl rfl ?_
    refine r_iconst dX2_readMiddle_35 ?_
    refine r_icmp_eq (tgt := 70) dX2_readMiddle_36 (by decide) ⟨by omega, by omega⟩ ⟨by omega, by omega⟩ (fun g36 => absurd g36 (by omega)) (fun g36 => ?_)
    refine r_aload_n dX2_readMiddle_39 rfl rfl ?_
    refine r_get (fs := [_, _, _]) dX2_readMiddle_40 fl_X2_9 (by decide) c5 rfl ?_
    refine r_bipush dX2_readMiddle_43 rfl ?_
    refine r_callV 3 [_] (s_X6_isSign c1 ht (by first | rfl | exact c3) hle (by omega) (by omega)) dX2_readMiddle_45 cs_X2_132 im_X6_isSign (by decide) c3 rfl (by omega) (by decide) (by decide) rfl rfl (Nat.le_of_ble_eq_true rfl) (fun _ _ _ q => q.elim) (fun v n2 h2 q => ?_)
    obtain ⟨rfl, rfl, hh⟩ := q
    obtain rfl := hh.symm
    refine ⟨rfl, ?_⟩
    dsimp only [Option.toList, List.cons_append, List.nil_append]
    refine r_if_eq (tgt := 70) dX2_readMiddle_48 (by decide) ⟨by omega, by omega⟩ (fun g48 => ?_) (fun g48 => ?_)
    · rw [b2i_0] at g48
      refine r_iload_n dX2_readMiddle_70 rfl rfl ?_
      refine r_iconst dX2_readMiddle_71 ?_
      refine r_icmp_eq (tgt := 87) dX2_readMiddle_72 (by decide) ⟨by omega, by omega⟩ ⟨by omega, by omega⟩ (fun g72 => absurd g72 (by omega)) (fun g72 => ?_)
      refine r_aload_n dX2_readMiddle_75 rfl rfl ?_
      refine r_get (fs := [_, _, _]) dX2_readMiddle_76 fl_X2_9 (by decide) c5 rfl ?_
      refine r_bipush dX2_readMiddle_79 rfl ?_
      refine r_callV 3 [_] (s_X6_takeSign c1 ht (by first | rfl | exact c3) hle (by omega) (by omega)) dX2_readMiddle_81 cs_X2_125 im_X6_takeSign (by decide) c3 rfl (by omega) (by decide) (by decide) rfl rfl (Nat.le_of_ble_eq_true rfl) (fun _ _ _ q => q.elim) (fun v n2 h2 q => ?_)
      obtain ⟨rfl, q⟩ := q
      rcases q with ⟨z9, rfl, hh⟩ | ⟨z9, rfl, hh⟩
      · obtain rfl := hh.symm
        refine ⟨rfl, ?_⟩
        dsimp only [Option.toList, List.cons_append, List.nil_append]
        refine r_if_ne (tgt := 89) dX2_readMiddle_84 (by decide) ⟨by omega, by omega⟩ (fun g84 => ?_) (fun g84 => absurd g84 (by omega))
        refine r_aload_n dX2_readMiddle_89 rfl rfl ?_
        refine r_get (fs := [_, _, _]) dX2_readMiddle_90 fl_X2_15 (by decide) c5 rfl ?_
        refine r_iload_n dX2_readMiddle_93 rfl rfl ?_
        refine r_iload_n dX2_readMiddle_94 rfl rfl ?_
        refine r_callV 34 [_, _] (s_X1_setValue (by exact c34) (by exact c36) (Nat.lt_succ_self _) (by show D.1 + 1 ≤ 350; omega)) dX2_readMiddle_95 cs_X2_121 im_X1_setValue (by decide) c34 rfl (by omega) (by decide) (by decide) rfl rfl (Nat.le_of_ble_eq_true rfl) (fun _ _ _ q => q.elim) (fun v n2 h2 q => ?_)
        obtain ⟨rfl, rfl, hh⟩ := q
        obtain rfl := hh.symm
        refine ⟨rfl, ?_⟩
        dsimp only [Option.toList, List.cons_append, List.nil_append]
        refine r_iload_n dX2_readMiddle_98 rfl rfl ?_
        refine r_iret dX2_readMiddle_99 ?_
        first
          | (rw [e1, if_neg (by rw [g48]; decide)]
             unfold pCl
             rw [if_pos z9])
          | (dsimp only [pMs]
             unfold pCl
             rw [if_pos z9])
        refine ⟨rfl, Or.inl ⟨_, _, svD (opD D 1) D.1 (b : Int), _, rfl, by omega, rfl, ⟨(by first | rfl | exact c1), (by first | rfl | exact c3), (by first | rfl | exact c5), (by first | rfl | exact c34), (by first | rfl | exact c35), (by first | rfl | exact c36), (by first | rfl | exact c37), (by first | rfl | exact c38), (fun j hj => by obtain ⟨a1, a2, a3⟩ := hj; try simp only [va_up]; (repeat rw [if_neg (by omega)]); exact fr j ⟨a1, a2, a3⟩)⟩, lok_sv lo (by omega) (fun _ => by omega), kp_sv (kp_op D 1) (Nat.le_refl _), den_mid (va_up_self _ _ _) (va_up_self _ _ _), va_up_self _ _ _, ?_⟩⟩
        show 2 * (D.1 + 1) ≤ _
        omega
      · obtain rfl := hh.symm
        refine ⟨rfl, ?_⟩
        dsimp only [Option.toList, List.cons_append, List.nil_append]
        refine r_if_ne (tgt := 89) dX2_readMiddle_84 (by decide) ⟨by omega, by omega⟩ (fun g84 => absurd g84 (by omega)) (fun g84 => ?_)
        refine r_iconst dX2_readMiddle_87 ?_
        refine r_iret dX2_readMiddle_88 ?_
        first
          | (rw [e1, if_neg (by rw [g48]; decide)]
             unfold pCl
             rw [if_neg (by rw [z9]; decide)]
             exact ⟨rfl, Or.inr ⟨_, _, opD D 1, _, _, _, _, rfl, rfl, ⟨(by first | rfl | exact c1), (by first | rfl | exact c3), (by first | rfl | exact c5), (by first | rfl | exact c34), (by first | rfl | exact c35), (by first | rfl | exact c36), (by first | rfl | exact c37), (by first | rfl | exact c38), (fun j hj => by obtain ⟨a1, a2, a3⟩ := hj; try simp only [va_up]; (repeat rw [if_neg (by omega)]); exact fr j ⟨a1, a2, a3⟩)⟩, lo⟩⟩)
          | (dsimp only [pMs]
             unfold pCl
             rw [if_neg (by rw [z9]; decide)]
             exact ⟨rfl, Or.inr ⟨_, _, opD D 1, _, _, _, _, rfl, rfl, ⟨(by first | rfl | exact c1), (by first | rfl | exact c3), (by first | rfl | exact c5), (by first | rfl | exact c34), (by first | rfl | exact c35), (by first | rfl | exact c36), (by first | rfl | exact c37), (by first | rfl | exact c38), (fun j hj => by obtain ⟨a1, a2, a3⟩ := hj; try simp only [va_up]; (repeat rw [if_neg (by omega)]); exact fr j ⟨a1, a2, a3⟩)⟩, lo⟩⟩)
    · rw [b2i_0, Bool.not_eq_false] at g48
      refine r_aload_n dX2_readMiddle_51 rfl rfl ?_
      refine r_get (fs := [_, _, _]) dX2_readMiddle_52 fl_X2_9 (by decide) c5 rfl ?_
      refine r_callV 3 [] (s_X6_advance c1 ht (by first | rfl | exact c3) hle (by omega)) dX2_readMiddle_55 cs_X2_101 im_X6_advance (by decide) c3 rfl (by omega) (by decide) (by decide) rfl rfl (Nat.le_of_ble_eq_true rfl) (fun _ _ _ q => q.elim) (fun v n2 h2 q => ?_)
      obtain ⟨rfl, rfl, hh⟩ := q
      obtain rfl := hh.symm
      refine ⟨rfl, ?_⟩
      dsimp only [Option.toList, List.cons_append, List.nil_append]
      refine r_aload_n dX2_readMiddle_58 rfl rfl ?_
      refine r_iload_n dX2_readMiddle_59 rfl rfl ?_
      refine r_callV 5 [_] (s_X2_takeOther  (h0 := h0) (D := opD D 1) (tv := tv) (m0 := m0) ⟨(by first | rfl | exact c1), (by first | rfl | exact c3), (by first | rfl | exact c5), (by first | rfl | exact c34), (by first | rfl | exact c35), (by first | rfl | exact c36), (by first | rfl | exact c37), (by first | rfl | exact c38), (fun j hj => by obtain ⟨a1, a2, a3⟩ := hj; try simp only [va_up]; (repeat rw [if_neg (by omega)]); exact fr j ⟨a1, a2, a3⟩)⟩ hnd ht hle (by omega) (by omega)) dX2_readMiddle_60 cs_X2_129 im_X2_takeOther (by decide) c5 rfl (by omega) (by decide) (by decide) rfl rfl (Nat.le_of_ble_eq_true rfl) (fun _ _ _ q => q.elim) (fun v n2 h2 q => ?_)
      obtain ⟨rfl, q⟩ := q
      rcases q with ⟨b2, e2, tk2, er2, hb2, hx2, hl2, rfl, pw2⟩ | ⟨f2, p2, tk2, ki2, st2, en2, er2, rfl, pw2⟩
      · obtain ⟨c1, c3, c5, c34, c35, c36, c37, c38, fr⟩ := id pw2
        refine ⟨rfl, ?_⟩
        dsimp only [Option.toList, List.cons_append, List.nil_append]
        refine r_istore_n (lv2 := [(0, _), (1, _), (2, _), (3, _)]) dX2_readMiddle_63 rfl (by decide) rfl rfl ?_
        refine r_iinc (lv2 := [(0, _), (1, _), (2, _), (3, _)]) dX2_readMiddle_64 (by decide) rfl rfl rfl ?_
        refine r_goto (tgt := 28) dX2_readMiddle_67 (by decide) ?_
        rw [e1, if_pos g48, er2, show (i : Int) + 1 = ((i + 1 : Nat) : Int) by omega]
        dsimp only
        first
          | exact ih (i + 1) _ b2 e2 tk2 (by omega) pw2 hb2 hl2 (by omega)
          | exact l_X2_rmFail (by omega) ⟨rfl, Or.inr ⟨f2, p2, opD D 1, tk2, ki2, st2, en2, rfl, rfl, pw2, lo⟩⟩
      · obtain ⟨c1, c3, c5, c34, c35, c36, c37, c38, fr⟩ := id pw2
        refine ⟨rfl, ?_⟩
        dsimp only [Option.toList, List.cons_append, List.nil_append]
        refine r_istore_n (lv2 := [(0, _), (1, _), (2, _), (3, _)]) dX2_readMiddle_63 rfl (by decide) rfl rfl ?_
        refine r_iinc (lv2 := [(0, _), (1, _), (2, _), (3, _)]) dX2_readMiddle_64 (by decide) rfl rfl rfl ?_
        refine r_goto (tgt := 28) dX2_readMiddle_67 (by decide) ?_
        rw [e1, if_pos g48, er2, show (i : Int) + 1 = ((i + 1 : Nat) : Int) by omega]
        dsimp only
        first
          | exact ih (i + 1) _ b2 e2 tk2 (by omega) pw2 hb2 hl2 (by omega)
          | exact l_X2_rmFail (by omega) ⟨rfl, Or.inr ⟨f2, p2, opD D 1, tk2, ki2, st2, en2, rfl, rfl, pw2, lo⟩⟩

theorem s_X2_readMiddle {h0 h : aH} {t : Nat → Int} {nd fa pl tk m0 : Int} {le e : Nat} {tv : Value} {D : LDt} (pw : LW h0 h t nd (SC t fa pl tk le e) tv m0 D) (lo : LOK D) (hnd : 0 ≤ nd ∧ nd ≤ 9) (ht : ∀ j, -128 ≤ t j ∧ t j ≤ 127) (hle : le ≤ 700) (hee : e ≤ le) (h2N : 2 * D.1 ≤ e) (hw : e + 2 ≤ tkE t le e) {k : Nat}  : mSem yX2_readMiddle cX2_readMiddle 4 (some .int) 6 0 0 [.ref 5] 97 h (LQ h0 t nd fa pl le tv m0 D (k + 1) true (pMd t le nd e)) noX := by
  obtain ⟨c1, c3, c5, c34, c35, c36, c37, c38, fr⟩ := id pw
  have hB := tk_B t hee
  have hB1 := tk_B t hB.2.2.2.1
  have hB2 := tk_B t hB1.2.2.2.1
  have pN := lo.1
  refine mSem_of (own := RX2) (name := "readMiddle") pn_X2 rfl rfl (Nat.le_of_ble_eq_true rfl) ?_
  have eM : pMd t le nd e = if signAt t le (tkE t le e) 40 = true then (match pOt t le nd 0 (tkE t le (tkE t le e)) with | .inl x => .inl x | .inr (b, e2) => match pMs t le nd 9 b e2 with | .inl x => .inl x | .inr (b3, e3) => .inr (fun tf _ => midI (midL tf b3 9), e3)) else .inl (1, tkS t le (tkE t le e)) := rfl
  refine r_aload_n dX2_readMiddle_0 rfl rfl ?_
  refine r_iconst dX2_readMiddle_1 ?_
  refine r_callV 5 [_] (s_X2_open pw lo hnd ht hle hee h2N hw) dX2_readMiddle_2 cs_X2_111 im_X2_open (by decide) c5 rfl (by decide) (by decide) (by decide) rfl rfl (Nat.le_of_ble_eq_true rfl) (fun _ _ _ q => q.elim) (fun v n2 h2 q => ?_)
  obtain ⟨rfl, rfl, pwa⟩ := q
  obtain ⟨c1, c3, c5, c34, c35, c36, c37, c38, fr⟩ := id pwa
  refine ⟨rfl, ?_⟩
  dsimp only [Option.toList, List.cons_append, List.nil_append]
  refine r_istore_n (lv2 := [(0, _), (1, _)]) dX2_readMiddle_5 rfl (by decide) rfl rfl ?_
  refine r_aload_n dX2_readMiddle_6 rfl rfl ?_
  refine r_get (fs := [_, _, _]) dX2_readMiddle_7 fl_X2_9 (by decide) c5 rfl ?_
  refine r_bipush dX2_readMiddle_10 rfl ?_
  refine r_callV 3 [_] (s_X6_takeSign c1 ht (by first | rfl | exact c3) hle (by omega) (by omega)) dX2_readMiddle_12 cs_X2_125 im_X6_takeSign (by decide) c3 rfl (by decide) (by decide) (by decide) rfl rfl (Nat.le_of_ble_eq_true rfl) (fun _ _ _ q => q.elim) (fun v n2 h2 q => ?_)
  obtain ⟨rfl, q⟩ := q
  rcases q with ⟨z1, rfl, hh⟩ | ⟨z1, rfl, hh⟩
  · obtain rfl := hh.symm
    refine ⟨rfl, ?_⟩
    dsimp only [Option.toList, List.cons_append, List.nil_append]
    refine r_if_ne (tgt := 20) dX2_readMiddle_15 (by decide) ⟨by omega, by omega⟩ (fun g15 => ?_) (fun g15 => absurd g15 (by omega))
    refine r_aload_n dX2_readMiddle_20 rfl rfl ?_
    refine r_iconst dX2_readMiddle_21 ?_
    refine r_callV 5 [_] (s_X2_takeOther (b := 0) (h0 := h0) (D := opD D 1) (tv := tv) (m0 := m0) ⟨(by first | rfl | exact c1), (by first | rfl | exact c3), (by first | rfl | exact c5), (by first | rfl | exact c34), (by first | rfl | exact c35), (by first | rfl | exact c36), (by first | rfl | exact c37), (by first | rfl | exact c38), (fun j hj => by obtain ⟨a1, a2, a3⟩ := hj; try simp only [va_up]; (repeat rw [if_neg (by omega)]); exact fr j ⟨a1, a2, a3⟩)⟩ hnd ht hle (by omega) (by omega)) dX2_readMiddle_22 cs_X2_129 im_X2_takeOther (by decide) c5 rfl (by decide) (by decide) (by decide) rfl rfl (Nat.le_of_ble_eq_true rfl) (fun _ _ _ q => q.elim) (fun v n2 h2 q => ?_)
    obtain ⟨rfl, q⟩ := q
    rcases q with ⟨b2, e2, tk2, er2, hb2, hx2, hl2, rfl, pw2⟩ | ⟨f2, p2, tk2, ki2, st2, en2, er2, rfl, pw2⟩
    · obtain ⟨c1, c3, c5, c34, c35, c36, c37, c38, fr⟩ := id pw2
      refine ⟨rfl, ?_⟩
      dsimp only [Option.toList, List.cons_append, List.nil_append]
      refine r_istore_n (lv2 := [(0, _), (1, _), (2, _)]) dX2_readMiddle_25 rfl (by decide) rfl rfl ?_
      refine r_iconst dX2_readMiddle_26 ?_
      refine r_istore_n (lv2 := [(0, _), (1, _), (2, _), (3, _)]) dX2_readMiddle_27 rfl (by decide) rfl rfl ?_
      rw [eM, if_pos z1, er2]
      dsimp only
      first
        | exact l_X2_readMiddle (lok_op lo (by omega) ⟨by decide, by decide⟩) hnd ht hle (by decide) 9 0 _ b2 e2 tk2 (by decide) pw2 hb2 hl2 (by omega)
        | exact l_X2_rmFail (by omega) ⟨rfl, Or.inr ⟨f2, p2, opD D 1, tk2, ki2, st2, en2, rfl, rfl, pw2, (lok_op lo (by omega) ⟨by decide, by decide⟩)⟩⟩
    · obtain ⟨c1, c3, c5, c34, c35, c36, c37, c38, fr⟩ := id pw2
      refine ⟨rfl, ?_⟩
      dsimp only [Option.toList, List.cons_append, List.nil_append]
      refine r_istore_n (lv2 := [(0, _), (1, _), (2, _)]) dX2_readMiddle_25 rfl (by decide) rfl rfl ?_
      refine r_iconst dX2_readMiddle_26 ?_
      refine r_istore_n (lv2 := [(0, _), (1, _), (2, _), (3, _)]) dX2_readMiddle_27 rfl (by decide) rfl rfl ?_
      rw [eM, if_pos z1, er2]
      dsimp only
      first
        | exact l_X2_readMiddle (lok_op lo (by omega) ⟨by decide, by decide⟩) hnd ht hle (by decide) 9 0 _ b2 e2 tk2 (by decide) pw2 hb2 hl2 (by omega)
        | exact l_X2_rmFail (by omega) ⟨rfl, Or.inr ⟨f2, p2, opD D 1, tk2, ki2, st2, en2, rfl, rfl, pw2, (lok_op lo (by omega) ⟨by decide, by decide⟩)⟩⟩
  · obtain rfl := hh.symm
    refine ⟨rfl, ?_⟩
    dsimp only [Option.toList, List.cons_append, List.nil_append]
    refine r_if_ne (tgt := 20) dX2_readMiddle_15 (by decide) ⟨by omega, by omega⟩ (fun g15 => absurd g15 (by omega)) (fun g15 => ?_)
    refine r_iconst dX2_readMiddle_18 ?_
    refine r_iret dX2_readMiddle_19 ?_
    refine ⟨rfl, Or.inr ⟨_, _, (opD D 1), _, _, _, _, ?_, rfl, ⟨(by first | rfl | exact c1), (by first | rfl | exact c3), (by first | rfl | exact c5), (by first | rfl | exact c34), (by first | rfl | exact c35), (by first | rfl | exact c36), (by first | rfl | exact c37), (by first | rfl | exact c38), (fun j hj => by obtain ⟨a1, a2, a3⟩ := hj; try simp only [va_up]; (repeat rw [if_neg (by omega)]); exact fr j ⟨a1, a2, a3⟩)⟩, (lok_op lo (by omega) ⟨by decide, by decide⟩)⟩⟩
    rw [eM, if_neg (by rw [z1]; decide)]
