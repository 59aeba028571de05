/-! ===== port and law ===== -/
def renE (s : Nat → Nat) (e : aE) : aE := match e with
  | .inl x => .inl x
  | .inr o => .inr (o.1, o.2.map (cV s))
theorem sw_at {a b : Bool} {h : aH} {i k : Nat} {e : aE} (hk : sg a b i = k) (c : h k = e) : swH a b h i = renE (sg a b) e := by
  unfold swH renE
  rw [hk, c]
  cases e <;> rfl
theorem ri_of {nd sw nc : Int} {K U I O G L cf ct fc nx cd : Nat → Int} (p : PInv nd sw nc K U I O G L cf ct fc nx cd) : RInv K U I O G L cf ct := ⟨p.2.2.2.1, p.2.2.2.2.1, p.2.2.2.2.2.1, p.2.2.2.2.2.2.1, p.2.2.2.2.2.2.2.1, p.2.2.2.2.2.2.2.2.1, p.2.2.2.2.2.2.2.2.2.1, p.2.2.2.2.2.2.2.2.2.2.1⟩

theorem pw_eq {h0 h : aH} {e3 e4 e17 e18 e19 e20 e21 e22 e23 e24 e25 e26 e27 : aE} (c3 : h 3 = e3) (c4 : h 4 = e4) (c17 : h 17 = e17) (c18 : h 18 = e18) (c19 : h 19 = e19) (c20 : h 20 = e20) (c21 : h 21 = e21) (c22 : h 22 = e22) (c23 : h 23 = e23) (c24 : h 24 = e24) (c25 : h 25 = e25) (c26 : h 26 = e26) (c27 : h 27 = e27) (fr : ∀ j, (j ≠ 3 ∧ j ≠ 4 ∧ (j < 17 ∨ 27 < j)) → h j = h0 j) : h = (va_up (va_up (va_up (va_up (va_up (va_up (va_up (va_up (va_up (va_up (va_up (va_up (va_up h0 3 e3) 4 e4) 17 e17) 18 e18) 19 e19) 20 e20) 21 e21) 22 e22) 23 e23) 24 e24) 25 e25) 26 e26) 27 e27) := by
  funext j
  unfold va_up
  by_cases q27 : j = 27
  · rw [if_pos q27, q27, c27]
  rw [if_neg q27]
  by_cases q26 : j = 26
  · rw [if_pos q26, q26, c26]
  rw [if_neg q26]
  by_cases q25 : j = 25
  · rw [if_pos q25, q25, c25]
  rw [if_neg q25]
  by_cases q24 : j = 24
  · rw [if_pos q24, q24, c24]
  rw [if_neg q24]
  by_cases q23 : j = 23
  · rw [if_pos q23, q23, c23]
  rw [if_neg q23]
  by_cases q22 : j = 22
  · rw [if_pos q22, q22, c22]
  rw [if_neg q22]
  by_cases q21 : j = 21
  · rw [if_pos q21, q21, c21]
  rw [if_neg q21]
  by_cases q20 : j = 20
  · rw [if_pos q20, q20, c20]
  rw [if_neg q20]
  by_cases q19 : j = 19
  · rw [if_pos q19, q19, c19]
  rw [if_neg q19]
  by_cases q18 : j = 18
  · rw [if_pos q18, q18, c18]
  rw [if_neg q18]
  by_cases q17 : j = 17
  · rw [if_pos q17, q17, c17]
  rw [if_neg q17]
  by_cases q4 : j = 4
  · rw [if_pos q4, q4, c4]
  rw [if_neg q4]
  by_cases q3 : j = 3
  · rw [if_pos q3, q3, c3]
  rw [if_neg q3]
  exact fr j (by omega)

theorem lw_eq {h0 h : aH} {e3 e5 e34 e35 e36 e37 e38 : aE} (c3 : h 3 = e3) (c5 : h 5 = e5) (c34 : h 34 = e34) (c35 : h 35 = e35) (c36 : h 36 = e36) (c37 : h 37 = e37) (c38 : h 38 = e38) (fr : ∀ j, (j ≠ 3 ∧ j ≠ 5 ∧ (j < 34 ∨ 38 < j)) → h j = h0 j) : h = (va_up (va_up (va_up (va_up (va_up (va_up (va_up h0 3 e3) 5 e5) 34 e34) 35 e35) 36 e36) 37 e37) 38 e38) := by
  funext j
  unfold va_up
  by_cases q38 : j = 38
  · rw [if_pos q38, q38, c38]
  rw [if_neg q38]
  by_cases q37 : j = 37
  · rw [if_pos q37, q37, c37]
  rw [if_neg q37]
  by_cases q36 : j = 36
  · rw [if_pos q36, q36, c36]
  rw [if_neg q36]
  by_cases q35 : j = 35
  · rw [if_pos q35, q35, c35]
  rw [if_neg q35]
  by_cases q34 : j = 34
  · rw [if_pos q34, q34, c34]
  rw [if_neg q34]
  by_cases q5 : j = 5
  · rw [if_pos q5, q5, c5]
  rw [if_neg q5]
  by_cases q3 : j = 3
  · rw [if_pos q3, q3, c3]
  rw [if_neg q3]
  exact fr j (by omega)

/-- a port that nothing was read into -/
def FreshP (d : PD) : Prop := ∃ K U I O G L cf ct fc nx : Nat → Int, d = ((0, 120, 0), (0, 0), K, U, I, O, G, fillF L 0 12, cf, ct, fillF fc 0 365, nx, (fun _ => 0))
def clrN (N : ND) : ND := ((0, 0, 0), N.2.1, N.2.2.1, N.2.2.2.1, N.2.2.2.2.1, fillF N.2.2.2.2.2.1 (-1) 9, N.2.2.2.2.2.2.1, N.2.2.2.2.2.2.2.1, N.2.2.2.2.2.2.2.2)
def PortQ (oc : Nat) (h0 : aH) (S : CSt) (n : Nat) : Option Value → Nat → aH → Prop := fun v n' h' => oc = 0 ∧ n' = 97 ∧ FrC h0 h' ∧ (match S with
  | (t, _, _, rf, hlaw, himg, P, N, M, ls) => ∃ base : PD, FreshP base ∧ ((∃ f p, pLines t n 700 base 0 = .inl (f, p) ∧ v = some (iv f) ∧ Cls h' (t, 0, (p : Nat), va_up rf 0 (rf 0 + 1), hlaw, himg, P, N, M, ls)) ∨ (∃ P2, pLines t n 700 base 0 = .inr P2 ∧ v = some (iv 0) ∧ Cls h' (t, 0, -1, rf, 0, 0, P2, clrN N, M, ls))))
def lawS (S : CSt) (n : Nat) : Int × CSt := match S with
  | (t, _, _, rf, hlaw, himg, P, N, M, ls) => match pLaw t n P.1.1 with
    | .inl (f, p) => (f, (t, 0, (p : Nat), va_up rf 0 (rf 0 + 1), hlaw, himg, P, N, M, ls))
    | .inr s => (0, (t, 0, -1, rf, 1, himg, P, N, M, s))

theorem s_X8_port {h : aH} {t : Nat → Int} {tp : Nat} {fpl hlaw himg : Int} {rf : Nat → Int} {nd sw nc hl hs : Int} {K U I O G L cf ct fc nx cd : Nat → Int} {nr ns nm : Int} {rd ry rm rt se md my mt : Nat → Int} {nr2 ns2 nm2 : Int} {rd2 ry2 rm2 rt2 se2 md2 my2 mt2 : Nat → Int} {ls : LSm} (cc : CanC h (t, tp, fpl, rf, hlaw, himg, ((nd, sw, nc), (hl, hs), K, U, I, O, G, L, cf, ct, fc, nx, cd), ((nr, ns, nm), rd, ry, rm, rt, se, md, my, mt), ((nr2, ns2, nm2), rd2, ry2, rm2, rt2, se2, md2, my2, mt2), ls)) {x : Int} (ix : inR x)  : mSem yX8_port cX8_port 3 (some .int) 9 1 6 [.ref 0, iv x] 97 h (PortQ (ocL [(whaB x tp, 2)]) h (t, tp, fpl, rf, hlaw, himg, ((nd, sw, nc), (hl, hs), K, U, I, O, G, L, cf, ct, fc, nx, cd), ((nr, ns, nm), rd, ry, rm, rt, se, md, my, mt), ((nr2, ns2, nm2), rd2, ry2, rm2, rt2, se2, md2, my2, mt2), ls) x.toNat) (PubX (ocL [(whaB x tp, 2)]) h (t, tp, fpl, rf, hlaw, himg, ((nd, sw, nc), (hl, hs), K, U, I, O, G, L, cf, ct, fc, nx, cd), ((nr, ns, nm), rd, ry, rm, rt, se, md, my, mt), ((nr2, ns2, nm2), rd2, ry2, rm2, rt2, se2, md2, my2, mt2), ls)) := by
  obtain ⟨c0, c1, c2, ⟨ht, htp, phl, phi⟩, pC, nC, mC, lC, s3, s4, s5, s17, s34, s58, s62, s65, s66, s67⟩ := id cc
  obtain ⟨c6, c7, c8, c9, c10, c11, c12, c13, c14, c15, c16, pi⟩ := id pC
  obtain ⟨c40, c41, c42, c43, c44, c45, c46, c47, c48, ni, nsn⟩ := id nC
  obtain ⟨pnd, psw, pnc, pK, pU, pI, pO, pG, pL, pcf, pct, pfc, pnx⟩ := id pi
  obtain ⟨pnr, pns, pnm, prd, pry, prm, prt, pse, pmd, pmy, pmt⟩ := id ni
  unfold inR at ix
  obtain ⟨c49, c50, c51, c52, c53, c54, c55, c56, c57, mi, msn⟩ := id mC
  obtain ⟨qnr, qns, qnm, qrd, qry, qrm, qrt, qse, qmd, qmy, qmt⟩ := id mi
  obtain ⟨D, tv, m0, sgf, c28, c29, c30, c31, c32, c33, lo, lsem⟩ := id lC
  obtain ⟨tf, c65, htf⟩ := id s65
  obtain ⟨sfa, spl, stk, sl0, ski, sen, sst, stx, c3⟩ := id s3
  obtain ⟨shl, shs, sv1, sv2, c4⟩ := id s4
  obtain ⟨rv1, rv2, rn0, c5⟩ := id s5
  obtain ⟨nd7, sw7, nc7, K7, U7, I7, O7, G7, L7, cf7, ct7, fc7, nx7, c17, c18, c19, c20, c21, c22, c23, c24, c25, c26, c27, ri7⟩ := id s17
  obtain ⟨D8, tv8, m8, sg8, c34, c35, c36, c37, c38, c39, lo8⟩ := id s34
  obtain ⟨cp0, fr0, tq0, sf0, c58, c59, c60, c61⟩ := id s58
  obtain ⟨tt0, ss0, dr, f63, g64, c62, c63, c64⟩ := id s62
  obtain ⟨sf, c66⟩ := id s66
  obtain ⟨mf, c67⟩ := id s67
  refine mSem_of (own := RX8) (name := "port") pn_X8 rfl rfl (Nat.le_of_ble_eq_true rfl) ?_
  refine r_aload_n dX8_port_0 rfl rfl ?_
  refine r_iload_n dX8_port_1 rfl rfl ?_
  refine r_callV 0 [_] (s_X8_needTaped c0 ix ⟨by omega, by omega⟩) dX8_port_2 cs_X8_109 im_X8_needTaped (by decide) c0 rfl (by decide) (by decide) (by decide) rfl rfl (Nat.le_of_ble_eq_true rfl) (fun E n2 h2 q => by
    obtain ⟨rfl, nk, rfl, rfl⟩ := q
    exact ⟨rfl, Or.inr ⟨by simp [ocL, nk], rfl⟩, rfl, cls_of cc, fun _ _ => rfl⟩) (fun v n2 h2 q => ?_)
  obtain ⟨k1, rfl, rfl, hh⟩ := q
  obtain rfl := hh.symm
  have bx := of_decide_eq_true k1
  refine ⟨rfl, ?_⟩
  dsimp only [Option.toList, List.cons_append, List.nil_append]
  obtain ⟨xn, rfl⟩ : ∃ k : Nat, x = k := ⟨x.toNat, by omega⟩
  have exn : (xn : Int).toNat = xn := rfl
  refine r_aload_n dX8_port_5 rfl rfl ?_
  refine r_iconst dX8_port_6 ?_
  skip
  refine r_put (fs := [_, _, _, _, _, _, _, _, _, _, _, _, _, _, _, _, _, _, _, _]) (fs2 := [_, _, _, _, _, _, _, _, _, _, _, _, _, _, _, _, _, _, _, _]) dX8_port_7 fp_X8_13 (by decide) c0 (nar_int _) (Nat.le_of_ble_eq_true rfl) rfl ?_
  refine r_aload_n dX8_port_10 rfl rfl ?_
  refine r_get (fs := [_, _, _, _, _, _, _, _, _, _, _, _, _, _, _, _, _, _, _, _]) dX8_port_11 fl_X8_27 (by decide) rfl rfl ?_
  refine r_aload_n dX8_port_14 rfl rfl ?_
  refine r_get (fs := [_, _, _, _, _, _, _, _, _, _, _, _, _, _, _, _, _, _, _, _]) dX8_port_15 fl_X8_9 (by decide) rfl rfl ?_
  refine r_iload_n dX8_port_18 rfl rfl ?_
  refine r_callV 3 [.ref 1, _] (s_X6_begin (by exact c1) ht (by first | rfl | exact c3) (by omega)) dX8_port_19 cs_X8_112 im_X6_begin (by decide) c3 rfl (by decide) (by decide) (by decide) rfl rfl (Nat.le_of_ble_eq_true rfl) (fun _ _ _ q => q.elim) (fun v n2 h2 q => ?_)
  obtain ⟨rfl, rfl, hh⟩ := q
  obtain rfl := hh.symm
  refine ⟨rfl, ?_⟩
  dsimp only [Option.toList, List.cons_append, List.nil_append]
  refine r_aload_n dX8_port_22 rfl rfl ?_
  refine r_get (fs := [_, _, _, _, _, _, _, _, _, _, _, _, _, _, _, _, _, _, _, _]) dX8_port_23 fl_X8_34 (by decide) rfl rfl ?_
  refine r_aload_n dX8_port_26 rfl rfl ?_
  refine r_get (fs := [_, _, _, _, _, _, _, _, _, _, _, _, _, _, _, _, _, _, _, _]) dX8_port_27 fl_X8_52 (by decide) rfl rfl ?_
  refine r_aload_n dX8_port_30 rfl rfl ?_
  refine r_get (fs := [_, _, _, _, _, _, _, _, _, _, _, _, _, _, _, _, _, _, _, _]) dX8_port_31 fl_X8_27 (by decide) rfl rfl ?_
  refine r_callV 4 [.ref 17, .ref 3] (s_X5_readInto (by first | rfl | exact c1) (by first | rfl | exact c3) (by first | rfl | exact c4) (by first | rfl | exact c17) (by first | rfl | exact c18) (by first | rfl | exact c19) (by first | rfl | exact c20) (by first | rfl | exact c21) (by first | rfl | exact c22) (by first | rfl | exact c23) (by first | rfl | exact c24) (by first | rfl | exact c25) (by first | rfl | exact c26) (by first | rfl | exact c27) ri7 ht (by omega) (by omega)) dX8_port_34 cs_X8_116 im_X5_readInto (by decide) c4 rfl (by decide) (by decide) (by decide) rfl rfl (Nat.le_of_ble_eq_true rfl) (fun _ _ _ q => q.elim) (fun v n2 h2 q => ?_)
  obtain ⟨rfl, q⟩ := q
  rcases q with ⟨d2, e2, tk2, er, hle2, dr2, rfl, pw2⟩ | ⟨f2, p2, d2, tk2, ki2, st2, en2, er, dr2, rfl, pw2⟩
  · obtain ⟨⟨nd2, sw2, nc2⟩, ⟨hl2, hs2⟩, K2, U2, I2, O2, G2, L2, cf2, ct2, fc2, nx2, cd2⟩ := d2
    obtain ⟨c1n, c3n, c4n, c17n, c18n, c19n, c20n, c21n, c22n, c23n, c24n, c25n, c26n, c27n, frn⟩ := pw2
    obtain rfl := pw_eq c3n c4n c17n c18n c19n c20n c21n c22n c23n c24n c25n c26n c27n frn
    refine ⟨rfl, ?_⟩
    dsimp only [Option.toList, List.cons_append, List.nil_append]
    refine r_if_ne (tgt := 45) dX8_port_37 (by decide) ⟨by omega, by omega⟩ (fun g37 => ?_) (fun g37 => absurd g37 (by omega))
    refine r_aload_n dX8_port_45 rfl rfl ?_
    refine r_get (fs := [_, _, _, _, _, _, _, _, _, _, _, _, _, _, _, _, _, _, _, _]) dX8_port_46 fl_X8_52 (by decide) rfl rfl ?_
    refine r_astore_n (lv2 := [(0, _), (1, _), (2, _)]) dX8_port_49 rfl (by decide) rfl rfl ?_
    refine r_aload_n dX8_port_50 rfl rfl ?_
    refine r_aload_n dX8_port_51 rfl rfl ?_
    refine r_get (fs := [_, _, _, _, _, _, _, _, _, _, _, _, _, _, _, _, _, _, _, _]) dX8_port_52 fl_X8_48 (by decide) rfl rfl ?_
    refine r_put (fs := [_, _, _, _, _, _, _, _, _, _, _, _, _, _, _, _, _, _, _, _]) (fs2 := [_, _, _, _, _, _, _, _, _, _, _, _, _, _, _, _, _, _, _, _]) dX8_port_55 fp_X8_52 (by decide) rfl (nar_ref _ _) (Nat.le_of_ble_eq_true rfl) rfl ?_
    refine r_aload_n dX8_port_58 rfl rfl ?_
    refine r_aload_n dX8_port_59 rfl rfl ?_
    refine r_put (fs := [_, _, _, _, _, _, _, _, _, _, _, _, _, _, _, _, _, _, _, _]) (fs2 := [_, _, _, _, _, _, _, _, _, _, _, _, _, _, _, _, _, _, _, _]) dX8_port_60 fp_X8_48 (by decide) rfl (nar_ref _ _) (Nat.le_of_ble_eq_true rfl) rfl ?_
    refine r_aload_n dX8_port_63 rfl rfl ?_
    refine r_get (fs := [_, _, _, _, _, _, _, _, _, _, _, _, _, _, _, _, _, _, _, _]) dX8_port_64 fl_X8_72 (by decide) rfl rfl ?_
    refine r_callV 40 [] (s_X3_clear (by exact c40) (by exact c41) (by exact c42) (by exact c43) (by exact c44) (by exact c45) (by exact c46) (by exact c47) (by exact c48) ni) dX8_port_67 cs_X8_124 im_X3_clear (by decide) c40 rfl (by decide) (by decide) (by decide) rfl rfl (Nat.le_of_ble_eq_true rfl) (fun _ _ _ q => q.elim) (fun v n2 h2 q => ?_)
    obtain ⟨rfl, rfl, hh⟩ := q
    obtain rfl := hh.symm
    refine ⟨rfl, ?_⟩
    dsimp only [Option.toList, List.cons_append, List.nil_append]
    refine r_aload_n dX8_port_70 rfl rfl ?_
    refine r_iconst dX8_port_71 ?_
    refine r_put (fs := [_, _, _, _, _, _, _, _, _, _, _, _, _, _, _, _, _, _, _, _]) (fs2 := [_, _, _, _, _, _, _, _, _, _, _, _, _, _, _, _, _, _, _, _]) dX8_port_72 fp_X8_79 (by decide) rfl (nar_bool (by omega)) (Nat.le_of_ble_eq_true rfl) rfl ?_
    refine r_aload_n dX8_port_75 rfl rfl ?_
    refine r_iconst dX8_port_76 ?_
    refine r_put (fs := [_, _, _, _, _, _, _, _, _, _, _, _, _, _, _, _, _, _, _, _]) (fs2 := [_, _, _, _, _, _, _, _, _, _, _, _, _, _, _, _, _, _, _, _]) dX8_port_77 fp_X8_65 (by decide) rfl (nar_bool (by omega)) (Nat.le_of_ble_eq_true rfl) rfl ?_
    refine r_aload_n dX8_port_80 rfl rfl ?_
    refine r_iconst dX8_port_81 ?_
    refine r_put (fs := [_, _, _, _, _, _, _, _, _, _, _, _, _, _, _, _, _, _, _, _]) (fs2 := [_, _, _, _, _, _, _, _, _, _, _, _, _, _, _, _, _, _, _, _]) dX8_port_82 fp_X8_17 (by decide) rfl (nar_int _) (Nat.le_of_ble_eq_true rfl) rfl ?_
    refine r_iconst dX8_port_85 ?_
    refine r_iret dX8_port_86 ?_
    exact ⟨(by simp [ocL, k1]), rfl, (by repeat (first | exact fun _ _ => rfl | refine fr_up ?_ (by decide))), ((0, 120, 0), (0, 0), K7, U7, I7, O7, G7, fillF L7 0 12, cf7, ct7, fillF fc7 0 365, nx7, (fun _ => 0)), ⟨K7, U7, I7, O7, G7, L7, cf7, ct7, fc7, nx7, rfl⟩, Or.inr ⟨_, er, rfl, ⟨true, false, ⟨(by first | exact sw_at (k := 0) rfl c0 | exact sw_at (k := 0) rfl rfl), (by first | exact sw_at (k := 1) rfl c1 | exact sw_at (k := 1) rfl rfl), (by first | exact sw_at (k := 2) rfl c2 | exact sw_at (k := 2) rfl rfl), ⟨ht, by omega, Or.inl rfl, Or.inl rfl⟩, ⟨(by first | exact sw_at (k := 17) rfl c17 | exact sw_at (k := 17) rfl rfl), (by first | exact sw_at (k := 18) rfl c18 | exact sw_at (k := 18) rfl rfl), (by first | exact sw_at (k := 19) rfl c19 | exact sw_at (k := 19) rfl rfl), (by first | exact sw_at (k := 20) rfl c20 | exact sw_at (k := 20) rfl rfl), (by first | exact sw_at (k := 21) rfl c21 | exact sw_at (k := 21) rfl rfl), (by first | exact sw_at (k := 22) rfl c22 | exact sw_at (k := 22) rfl rfl), (by first | exact sw_at (k := 23) rfl c23 | exact sw_at (k := 23) rfl rfl), (by first | exact sw_at (k := 24) rfl c24 | exact sw_at (k := 24) rfl rfl), (by first | exact sw_at (k := 25) rfl c25 | exact sw_at (k := 25) rfl rfl), (by first | exact sw_at (k := 26) rfl c26 | exact sw_at (k := 26) rfl rfl), (by first | exact sw_at (k := 27) rfl c27 | exact sw_at (k := 27) rfl rfl), dr2.1⟩, ⟨(by first | exact sw_at (k := 40) rfl c40 | exact sw_at (k := 40) rfl rfl), (by first | exact sw_at (k := 41) rfl c41 | exact sw_at (k := 41) rfl rfl), (by first | exact sw_at (k := 42) rfl c42 | exact sw_at (k := 42) rfl rfl), (by first | exact sw_at (k := 43) rfl c43 | exact sw_at (k := 43) rfl rfl), (by first | exact sw_at (k := 44) rfl c44 | exact sw_at (k := 44) rfl rfl), (by first | exact sw_at (k := 45) rfl c45 | exact sw_at (k := 45) rfl rfl), (by first | exact sw_at (k := 46) rfl c46 | exact sw_at (k := 46) rfl rfl), (by first | exact sw_at (k := 47) rfl c47 | exact sw_at (k := 47) rfl rfl), (by first | exact sw_at (k := 48) rfl c48 | exact sw_at (k := 48) rfl rfl), ⟨⟨Int.le_refl 0, by show (0 : Int) ≤ 12; decide⟩, ⟨Int.le_refl 0, by show (0 : Int) ≤ 9; decide⟩, ⟨Int.le_refl 0, by show (0 : Int) ≤ 40; decide⟩, prd, pry, prm, prt, (fill_L pse (by decide)), pmd, pmy, pmt⟩, (snc_fill se 9 (Nat.le_refl _)).symm⟩, ⟨(by first | exact sw_at (k := 49) rfl c49 | exact sw_at (k := 49) rfl rfl), (by first | exact sw_at (k := 50) rfl c50 | exact sw_at (k := 50) rfl rfl), (by first | exact sw_at (k := 51) rfl c51 | exact sw_at (k := 51) rfl rfl), (by first | exact sw_at (k := 52) rfl c52 | exact sw_at (k := 52) rfl rfl), (by first | exact sw_at (k := 53) rfl c53 | exact sw_at (k := 53) rfl rfl), (by first | exact sw_at (k := 54) rfl c54 | exact sw_at (k := 54) rfl rfl), (by first | exact sw_at (k := 55) rfl c55 | exact sw_at (k := 55) rfl rfl), (by first | exact sw_at (k := 56) rfl c56 | exact sw_at (k := 56) rfl rfl), (by first | exact sw_at (k := 57) rfl c57 | exact sw_at (k := 57) rfl rfl), mi, msn⟩, ⟨D, _, _, _, (by first | exact sw_at (k := 28) rfl c28 | exact sw_at (k := 28) rfl rfl), (by first | exact sw_at (k := 29) rfl c29 | exact sw_at (k := 29) rfl rfl), (by first | exact sw_at (k := 30) rfl c30 | exact sw_at (k := 30) rfl rfl), (by first | exact sw_at (k := 31) rfl c31 | exact sw_at (k := 31) rfl rfl), (by first | exact sw_at (k := 32) rfl c32 | exact sw_at (k := 32) rfl rfl), (by first | exact sw_at (k := 33) rfl c33 | exact sw_at (k := 33) rfl rfl), lo, (fun z => absurd z (by decide))⟩, ⟨_, _, _, _, _, _, _, _, (by first | exact sw_at (k := 3) rfl c3 | exact sw_at (k := 3) rfl rfl)⟩, ⟨_, _, _, _, (by first | exact sw_at (k := 4) rfl c4 | exact sw_at (k := 4) rfl rfl)⟩, ⟨_, _, _, (by first | exact sw_at (k := 5) rfl c5 | exact sw_at (k := 5) rfl rfl)⟩, ⟨_, _, _, _, _, _, _, _, _, _, _, _, _, (by first | exact sw_at (k := 6) rfl c6 | exact sw_at (k := 6) rfl rfl), (by first | exact sw_at (k := 7) rfl c7 | exact sw_at (k := 7) rfl rfl), (by first | exact sw_at (k := 8) rfl c8 | exact sw_at (k := 8) rfl rfl), (by first | exact sw_at (k := 9) rfl c9 | exact sw_at (k := 9) rfl rfl), (by first | exact sw_at (k := 10) rfl c10 | exact sw_at (k := 10) rfl rfl), (by first | exact sw_at (k := 11) rfl c11 | exact sw_at (k := 11) rfl rfl), (by first | exact sw_at (k := 12) rfl c12 | exact sw_at (k := 12) rfl rfl), (by first | exact sw_at (k := 13) rfl c13 | exact sw_at (k := 13) rfl rfl), (by first | exact sw_at (k := 14) rfl c14 | exact sw_at (k := 14) rfl rfl), (by first | exact sw_at (k := 15) rfl c15 | exact sw_at (k := 15) rfl rfl), (by first | exact sw_at (k := 16) rfl c16 | exact sw_at (k := 16) rfl rfl), (ri_of pi)⟩, ⟨D8, _, _, _, (by first | exact sw_at (k := 34) rfl c34 | exact sw_at (k := 34) rfl rfl), (by first | exact sw_at (k := 35) rfl c35 | exact sw_at (k := 35) rfl rfl), (by first | exact sw_at (k := 36) rfl c36 | exact sw_at (k := 36) rfl rfl), (by first | exact sw_at (k := 37) rfl c37 | exact sw_at (k := 37) rfl rfl), (by first | exact sw_at (k := 38) rfl c38 | exact sw_at (k := 38) rfl rfl), (by first | exact sw_at (k := 39) rfl c39 | exact sw_at (k := 39) rfl rfl), lo8⟩, ⟨_, _, _, _, (by first | exact sw_at (k := 58) rfl c58 | exact sw_at (k := 58) rfl rfl), (by first | exact sw_at (k := 59) rfl c59 | exact sw_at (k := 59) rfl rfl), (by first | exact sw_at (k := 60) rfl c60 | exact sw_at (k := 60) rfl rfl), (by first | exact sw_at (k := 61) rfl c61 | exact sw_at (k := 61) rfl rfl)⟩, ⟨_, _, _, _, _, (by first | exact sw_at (k := 62) rfl c62 | exact sw_at (k := 62) rfl rfl), (by first | exact sw_at (k := 63) rfl c63 | exact sw_at (k := 63) rfl rfl), (by first | exact sw_at (k := 64) rfl c64 | exact sw_at (k := 64) rfl rfl)⟩, ⟨_, (by first | exact sw_at (k := 65) rfl c65 | exact sw_at (k := 65) rfl rfl), htf⟩, ⟨_, (by first | exact sw_at (k := 66) rfl c66 | exact sw_at (k := 66) rfl rfl)⟩, ⟨_, (by first | exact sw_at (k := 67) rfl c67 | exact sw_at (k := 67) rfl rfl)⟩⟩⟩⟩⟩
  · obtain ⟨⟨nd2, sw2, nc2⟩, ⟨hl2, hs2⟩, K2, U2, I2, O2, G2, L2, cf2, ct2, fc2, nx2, cd2⟩ := d2
    obtain ⟨c1n, c3n, c4n, c17n, c18n, c19n, c20n, c21n, c22n, c23n, c24n, c25n, c26n, c27n, frn⟩ := pw2
    obtain rfl := pw_eq c3n c4n c17n c18n c19n c20n c21n c22n c23n c24n c25n c26n c27n frn
    refine ⟨rfl, ?_⟩
    dsimp only [Option.toList, List.cons_append, List.nil_append]
    refine r_if_ne (tgt := 45) dX8_port_37 (by decide) ⟨by omega, by omega⟩ (fun g37 => absurd g37 (by omega)) (fun g37 => ?_)
    refine r_aload_n dX8_port_40 rfl rfl ?_
    refine r_callV 0 [] (s_X8_refuseText (by rfl) (by exact c2) (by first | rfl | exact c3)) dX8_port_41 cs_X8_120 im_X8_refuseText (by decide) rfl rfl (by decide) (by decide) (by decide) rfl rfl (Nat.le_of_ble_eq_true rfl) (fun _ _ _ q => q.elim) (fun v n2 h2 q => ?_)
    obtain ⟨rfl, rfl, hh⟩ := q
    obtain rfl := hh.symm
    refine ⟨rfl, ?_⟩
    dsimp only [Option.toList, List.cons_append, List.nil_append]
    refine r_iret dX8_port_44 ?_
    exact ⟨(by simp [ocL, k1]), rfl, (by repeat (first | exact fun _ _ => rfl | refine fr_up ?_ (by decide))), ((0, 120, 0), (0, 0), K7, U7, I7, O7, G7, fillF L7 0 12, cf7, ct7, fillF fc7 0 365, nx7, (fun _ => 0)), ⟨K7, U7, I7, O7, G7, L7, cf7, ct7, fc7, nx7, rfl⟩, Or.inl ⟨f2, p2, er, rfl, cls_of ⟨rfl, (by first | rfl | exact c1), rfl, ⟨ht, by omega, phl, phi⟩, (by exact pC), (by exact nC), (by exact mC), (by exact lC), ⟨_, _, _, _, _, _, _, _, (by first | rfl | exact c3)⟩, ⟨_, _, _, _, rfl⟩, (by exact s5), ⟨_, _, _, _, _, _, _, _, _, _, _, _, _, rfl, rfl, rfl, rfl, rfl, rfl, rfl, rfl, rfl, rfl, rfl, (ri_of dr2.1)⟩, (by exact s34), (by exact s58), (by exact s62), (by exact s65), (by exact s66), (by exact s67)⟩⟩⟩

theorem s_X8_law {h : aH} {t : Nat → Int} {tp : Nat} {fpl hlaw himg : Int} {rf : Nat → Int} {nd sw nc hl hs : Int} {K U I O G L cf ct fc nx cd : Nat → Int} {nr ns nm : Int} {rd ry rm rt se md my mt : Nat → Int} {nr2 ns2 nm2 : Int} {rd2 ry2 rm2 rt2 se2 md2 my2 mt2 : Nat → Int} {ls : LSm} (cc : CanC h (t, tp, fpl, rf, hlaw, himg, ((nd, sw, nc), (hl, hs), K, U, I, O, G, L, cf, ct, fc, nx, cd), ((nr, ns, nm), rd, ry, rm, rt, se, md, my, mt), ((nr2, ns2, nm2), rd2, ry2, rm2, rt2, se2, md2, my2, mt2), ls)) {x : Int} (ix : inR x)  : mSem yX8_law cX8_law 3 (some .int) 33 1 6 [.ref 0, iv x] 97 h (PubQ (ocL [(whaB x tp, 2)]) (some (iv (lawS (t, tp, fpl, rf, hlaw, himg, ((nd, sw, nc), (hl, hs), K, U, I, O, G, L, cf, ct, fc, nx, cd), ((nr, ns, nm), rd, ry, rm, rt, se, md, my, mt), ((nr2, ns2, nm2), rd2, ry2, rm2, rt2, se2, md2, my2, mt2), ls) x.toNat).1)) h (lawS (t, tp, fpl, rf, hlaw, himg, ((nd, sw, nc), (hl, hs), K, U, I, O, G, L, cf, ct, fc, nx, cd), ((nr, ns, nm), rd, ry, rm, rt, se, md, my, mt), ((nr2, ns2, nm2), rd2, ry2, rm2, rt2, se2, md2, my2, mt2), ls) x.toNat).2) (PubX (ocL [(whaB x tp, 2)]) h (t, tp, fpl, rf, hlaw, himg, ((nd, sw, nc), (hl, hs), K, U, I, O, G, L, cf, ct, fc, nx, cd), ((nr, ns, nm), rd, ry, rm, rt, se, md, my, mt), ((nr2, ns2, nm2), rd2, ry2, rm2, rt2, se2, md2, my2, mt2), ls)) := by
  obtain ⟨c0, c1, c2, ⟨ht, htp, phl, phi⟩, pC, nC, mC, lC, s3, s4, s5, s17, s34, s58, s62, s65, s66, s67⟩ := id cc
  obtain ⟨c6, c7, c8, c9, c10, c11, c12, c13, c14, c15, c16, pi⟩ := id pC
  obtain ⟨c40, c41, c42, c43, c44, c45, c46, c47, c48, ni, nsn⟩ := id nC
  obtain ⟨pnd, psw, pnc, pK, pU, pI, pO, pG, pL, pcf, pct, pfc, pnx⟩ := id pi
  obtain ⟨pnr, pns, pnm, prd, pry, prm, prt, pse, pmd, pmy, pmt⟩ := id ni
  unfold inR at ix
  obtain ⟨c49, c50, c51, c52, c53, c54, c55, c56, c57, mi, msn⟩ := id mC
  obtain ⟨qnr, qns, qnm, qrd, qry, qrm, qrt, qse, qmd, qmy, qmt⟩ := id mi
  obtain ⟨D, tv, m0, sgf, c28, c29, c30, c31, c32, c33, lo, lsem⟩ := id lC
  obtain ⟨tf, c65, htf⟩ := id s65
  obtain ⟨sfa, spl, stk, sl0, ski, sen, sst, stx, c3⟩ := id s3
  obtain ⟨shl, shs, sv1, sv2, c4⟩ := id s4
  obtain ⟨rv1, rv2, rn0, c5⟩ := id s5
  obtain ⟨nd7, sw7, nc7, K7, U7, I7, O7, G7, L7, cf7, ct7, fc7, nx7, c17, c18, c19, c20, c21, c22, c23, c24, c25, c26, c27, ri7⟩ := id s17
  obtain ⟨D8, tv8, m8, sg8, c34, c35, c36, c37, c38, c39, lo8⟩ := id s34
  obtain ⟨cp0, fr0, tq0, sf0, c58, c59, c60, c61⟩ := id s58
  obtain ⟨tt0, ss0, dr, f63, g64, c62, c63, c64⟩ := id s62
  obtain ⟨sf, c66⟩ := id s66
  obtain ⟨mf, c67⟩ := id s67
  refine mSem_of (own := RX8) (name := "law") pn_X8 rfl rfl (Nat.le_of_ble_eq_true rfl) ?_
  refine r_aload_n dX8_law_0 rfl rfl ?_
  refine r_iload_n dX8_law_1 rfl rfl ?_
  refine r_callV 0 [_] (s_X8_needTaped c0 ix ⟨by omega, by omega⟩) dX8_law_2 cs_X8_109 im_X8_needTaped (by decide) c0 rfl (by decide) (by decide) (by decide) rfl rfl (Nat.le_of_ble_eq_true rfl) (fun E n2 h2 q => by
    obtain ⟨rfl, nk, rfl, rfl⟩ := q
    exact ⟨rfl, Or.inr ⟨by simp [ocL, nk], rfl⟩, rfl, cls_of cc, fun _ _ => rfl⟩) (fun v n2 h2 q => ?_)
  obtain ⟨k1, rfl, rfl, hh⟩ := q
  obtain rfl := hh.symm
  have bx := of_decide_eq_true k1
  refine ⟨rfl, ?_⟩
  dsimp only [Option.toList, List.cons_append, List.nil_append]
  obtain ⟨xn, rfl⟩ : ∃ k : Nat, x = k := ⟨x.toNat, by omega⟩
  have exn : (xn : Int).toNat = xn := rfl
  have eL : lawS (t, tp, fpl, rf, hlaw, himg, ((nd, sw, nc), (hl, hs), K, U, I, O, G, L, cf, ct, fc, nx, cd), ((nr, ns, nm), rd, ry, rm, rt, se, md, my, mt), ((nr2, ns2, nm2), rd2, ry2, rm2, rt2, se2, md2, my2, mt2), ls) xn = match pLaw t xn nd with | .inl (f, p) => (f, (t, 0, ((p : Nat) : Int), (va_up rf 0 (rf 0 + 1)), hlaw, himg, ((nd, sw, nc), (hl, hs), K, U, I, O, G, L, cf, ct, fc, nx, cd), ((nr, ns, nm), rd, ry, rm, rt, se, md, my, mt), ((nr2, ns2, nm2), rd2, ry2, rm2, rt2, se2, md2, my2, mt2), ls)) | .inr s => (0, (t, 0, -1, rf, 1, himg, ((nd, sw, nc), (hl, hs), K, U, I, O, G, L, cf, ct, fc, nx, cd), ((nr, ns, nm), rd, ry, rm, rt, se, md, my, mt), ((nr2, ns2, nm2), rd2, ry2, rm2, rt2, se2, md2, my2, mt2), s)) := rfl
  refine r_aload_n dX8_law_5 rfl rfl ?_
  refine r_iconst dX8_law_6 ?_
  refine r_put (fs := [_, _, _, _, _, _, _, _, _, _, _, _, _, _, _, _, _, _, _, _]) (fs2 := [_, _, _, _, _, _, _, _, _, _, _, _, _, _, _, _, _, _, _, _]) dX8_law_7 fp_X8_13 (by decide) c0 (nar_int _) (Nat.le_of_ble_eq_true rfl) rfl ?_
  refine r_aload_n dX8_law_10 rfl rfl ?_
  refine r_get (fs := [_, _, _, _, _, _, _, _, _, _, _, _, _, _, _, _, _, _, _, _]) dX8_law_11 fl_X8_27 (by decide) rfl rfl ?_
  refine r_aload_n dX8_law_14 rfl rfl ?_
  refine r_get (fs := [_, _, _, _, _, _, _, _, _, _, _, _, _, _, _, _, _, _, _, _]) dX8_law_15 fl_X8_9 (by decide) rfl rfl ?_
  refine r_iload_n dX8_law_18 rfl rfl ?_
  refine r_callV 3 [.ref 1, _] (s_X6_begin (by exact c1) ht (by first | rfl | exact c3) (by omega)) dX8_law_19 cs_X8_112 im_X6_begin (by decide) c3 rfl (by decide) (by decide) (by decide) rfl rfl (Nat.le_of_ble_eq_true rfl) (fun _ _ _ q => q.elim) (fun v n2 h2 q => ?_)
  obtain ⟨rfl, rfl, hh⟩ := q
  obtain rfl := hh.symm
  refine ⟨rfl, ?_⟩
  dsimp only [Option.toList, List.cons_append, List.nil_append]
  refine r_aload_n dX8_law_22 rfl rfl ?_
  refine r_get (fs := [_, _, _, _, _, _, _, _, _, _, _, _, _, _, _, _, _, _, _, _]) dX8_law_23 fl_X8_41 (by decide) rfl rfl ?_
  refine r_aload_n dX8_law_26 rfl rfl ?_
  refine r_get (fs := [_, _, _, _, _, _, _, _, _, _, _, _, _, _, _, _, _, _, _, _]) dX8_law_27 fl_X8_62 (by decide) rfl rfl ?_
  refine r_aload_n dX8_law_30 rfl rfl ?_
  refine r_get (fs := [_, _, _, _, _, _, _, _, _, _, _, _, _, _, _, _, _, _, _, _]) dX8_law_31 fl_X8_27 (by decide) rfl rfl ?_
  refine r_aload_n dX8_law_34 rfl rfl ?_
  refine r_get (fs := [_, _, _, _, _, _, _, _, _, _, _, _, _, _, _, _, _, _, _, _]) dX8_law_35 fl_X8_48 (by decide) rfl rfl ?_
  refine r_get (fs := [_, _, _, _, _, _, _, _, _, _, _, _, _]) dX8_law_38 fl_X8_127 (by decide) c6 rfl ?_
  refine r_callV 5 [.ref 34, .ref 3, _] (s_X2_readInto (D := D8) (tv := tv8) (m0 := m8) (by first | rfl | exact c1) (by first | rfl | exact c3) (by first | rfl | exact c5) (by first | rfl | exact c34) (by first | rfl | exact c35) (by first | rfl | exact c36) (by first | rfl | exact c37) (by first | rfl | exact c38) lo8 pnd ht (by omega)) dX8_law_41 cs_X8_130 im_X2_readInto (by decide) c5 rfl (by decide) (by decide) (by decide) rfl rfl (Nat.le_of_ble_eq_true rfl) (fun _ _ _ q => q.elim) (fun v n2 h2 q => ?_)
  obtain ⟨rfl, q⟩ := q
  rcases q with ⟨s2, e2, D2, tk2, er, hle2, rfl, pw2, lo2, hev⟩ | ⟨f2, p2, D2, tk2, ki2, st2, en2, er, rfl, pw2, lo2⟩
  · obtain ⟨c1n, c3n, c5n, c34n, c35n, c36n, c37n, c38n, frn⟩ := pw2
    obtain rfl := lw_eq c3n c5n c34n c35n c36n c37n c38n frn
    refine ⟨rfl, ?_⟩
    dsimp only [Option.toList, List.cons_append, List.nil_append]
    refine r_if_ne (tgt := 52) dX8_law_44 (by decide) ⟨by omega, by omega⟩ (fun g44 => ?_) (fun g44 => absurd g44 (by omega))
    refine r_aload_n dX8_law_52 rfl rfl ?_
    refine r_get (fs := [_, _, _, _, _, _, _, _, _, _, _, _, _, _, _, _, _, _, _, _]) dX8_law_53 fl_X8_62 (by decide) rfl rfl ?_
    refine r_astore_n (lv2 := [(0, _), (1, _), (2, _)]) dX8_law_56 rfl (by decide) rfl rfl ?_
    refine r_aload_n dX8_law_57 rfl rfl ?_
    refine r_aload_n dX8_law_58 rfl rfl ?_
    refine r_get (fs := [_, _, _, _, _, _, _, _, _, _, _, _, _, _, _, _, _, _, _, _]) dX8_law_59 fl_X8_58 (by decide) rfl rfl ?_
    refine r_put (fs := [_, _, _, _, _, _, _, _, _, _, _, _, _, _, _, _, _, _, _, _]) (fs2 := [_, _, _, _, _, _, _, _, _, _, _, _, _, _, _, _, _, _, _, _]) dX8_law_62 fp_X8_62 (by decide) rfl (nar_ref _ _) (Nat.le_of_ble_eq_true rfl) rfl ?_
    refine r_aload_n dX8_law_65 rfl rfl ?_
    refine r_aload_n dX8_law_66 rfl rfl ?_
    refine r_put (fs := [_, _, _, _, _, _, _, _, _, _, _, _, _, _, _, _, _, _, _, _]) (fs2 := [_, _, _, _, _, _, _, _, _, _, _, _, _, _, _, _, _, _, _, _]) dX8_law_67 fp_X8_58 (by decide) rfl (nar_ref _ _) (Nat.le_of_ble_eq_true rfl) rfl ?_
    refine r_aload_n dX8_law_70 rfl rfl ?_
    refine r_iconst dX8_law_71 ?_
    refine r_put (fs := [_, _, _, _, _, _, _, _, _, _, _, _, _, _, _, _, _, _, _, _]) (fs2 := [_, _, _, _, _, _, _, _, _, _, _, _, _, _, _, _, _, _, _, _]) dX8_law_72 fp_X8_65 (by decide) rfl (nar_bool (by omega)) (Nat.le_of_ble_eq_true rfl) rfl ?_
    refine r_aload_n dX8_law_75 rfl rfl ?_
    refine r_iconst dX8_law_76 ?_
    refine r_put (fs := [_, _, _, _, _, _, _, _, _, _, _, _, _, _, _, _, _, _, _, _]) (fs2 := [_, _, _, _, _, _, _, _, _, _, _, _, _, _, _, _, _, _, _, _]) dX8_law_77 fp_X8_17 (by decide) rfl (nar_int _) (Nat.le_of_ble_eq_true rfl) rfl ?_
    refine r_iconst dX8_law_80 ?_
    refine r_iret dX8_law_81 ?_
    rw [exn, eL, er]
    exact ⟨(by simp [ocL, k1]), rfl, rfl, ⟨false, true, ⟨(by first | exact sw_at (k := 0) rfl c0 | exact sw_at (k := 0) rfl rfl), (by first | exact sw_at (k := 1) rfl c1 | exact sw_at (k := 1) rfl rfl), (by first | exact sw_at (k := 2) rfl c2 | exact sw_at (k := 2) rfl rfl), ⟨ht, by omega, Or.inr rfl, phi⟩, ⟨(by first | exact sw_at (k := 6) rfl c6 | exact sw_at (k := 6) rfl rfl), (by first | exact sw_at (k := 7) rfl c7 | exact sw_at (k := 7) rfl rfl), (by first | exact sw_at (k := 8) rfl c8 | exact sw_at (k := 8) rfl rfl), (by first | exact sw_at (k := 9) rfl c9 | exact sw_at (k := 9) rfl rfl), (by first | exact sw_at (k := 10) rfl c10 | exact sw_at (k := 10) rfl rfl), (by first | exact sw_at (k := 11) rfl c11 | exact sw_at (k := 11) rfl rfl), (by first | exact sw_at (k := 12) rfl c12 | exact sw_at (k := 12) rfl rfl), (by first | exact sw_at (k := 13) rfl c13 | exact sw_at (k := 13) rfl rfl), (by first | exact sw_at (k := 14) rfl c14 | exact sw_at (k := 14) rfl rfl), (by first | exact sw_at (k := 15) rfl c15 | exact sw_at (k := 15) rfl rfl), (by first | exact sw_at (k := 16) rfl c16 | exact sw_at (k := 16) rfl rfl), pi⟩, ⟨(by first | exact sw_at (k := 40) rfl c40 | exact sw_at (k := 40) rfl rfl), (by first | exact sw_at (k := 41) rfl c41 | exact sw_at (k := 41) rfl rfl), (by first | exact sw_at (k := 42) rfl c42 | exact sw_at (k := 42) rfl rfl), (by first | exact sw_at (k := 43) rfl c43 | exact sw_at (k := 43) rfl rfl), (by first | exact sw_at (k := 44) rfl c44 | exact sw_at (k := 44) rfl rfl), (by first | exact sw_at (k := 45) rfl c45 | exact sw_at (k := 45) rfl rfl), (by first | exact sw_at (k := 46) rfl c46 | exact sw_at (k := 46) rfl rfl), (by first | exact sw_at (k := 47) rfl c47 | exact sw_at (k := 47) rfl rfl), (by first | exact sw_at (k := 48) rfl c48 | exact sw_at (k := 48) rfl rfl), ni, nsn⟩, ⟨(by first | exact sw_at (k := 49) rfl c49 | exact sw_at (k := 49) rfl rfl), (by first | exact sw_at (k := 50) rfl c50 | exact sw_at (k := 50) rfl rfl), (by first | exact sw_at (k := 51) rfl c51 | exact sw_at (k := 51) rfl rfl), (by first | exact sw_at (k := 52) rfl c52 | exact sw_at (k := 52) rfl rfl), (by first | exact sw_at (k := 53) rfl c53 | exact sw_at (k := 53) rfl rfl), (by first | exact sw_at (k := 54) rfl c54 | exact sw_at (k := 54) rfl rfl), (by first | exact sw_at (k := 55) rfl c55 | exact sw_at (k := 55) rfl rfl), (by first | exact sw_at (k := 56) rfl c56 | exact sw_at (k := 56) rfl rfl), (by first | exact sw_at (k := 57) rfl c57 | exact sw_at (k := 57) rfl rfl), mi, msn⟩, ⟨D2, _, _, _, (by first | exact sw_at (k := 34) rfl c34 | exact sw_at (k := 34) rfl rfl), (by first | exact sw_at (k := 35) rfl c35 | exact sw_at (k := 35) rfl rfl), (by first | exact sw_at (k := 36) rfl c36 | exact sw_at (k := 36) rfl rfl), (by first | exact sw_at (k := 37) rfl c37 | exact sw_at (k := 37) rfl rfl), (by first | exact sw_at (k := 38) rfl c38 | exact sw_at (k := 38) rfl rfl), (by first | exact sw_at (k := 39) rfl c39 | exact sw_at (k := 39) rfl rfl), lo2, (fun _ => ⟨hev, pLaw_loc pnd.1 er⟩)⟩, ⟨_, _, _, _, _, _, _, _, (by first | exact sw_at (k := 3) rfl c3 | exact sw_at (k := 3) rfl rfl)⟩, ⟨_, _, _, _, (by first | exact sw_at (k := 4) rfl c4 | exact sw_at (k := 4) rfl rfl)⟩, ⟨_, _, _, (by first | exact sw_at (k := 5) rfl c5 | exact sw_at (k := 5) rfl rfl)⟩, ⟨_, _, _, _, _, _, _, _, _, _, _, _, _, (by first | exact sw_at (k := 17) rfl c17 | exact sw_at (k := 17) rfl rfl), (by first | exact sw_at (k := 18) rfl c18 | exact sw_at (k := 18) rfl rfl), (by first | exact sw_at (k := 19) rfl c19 | exact sw_at (k := 19) rfl rfl), (by first | exact sw_at (k := 20) rfl c20 | exact sw_at (k := 20) rfl rfl), (by first | exact sw_at (k := 21) rfl c21 | exact sw_at (k := 21) rfl rfl), (by first | exact sw_at (k := 22) rfl c22 | exact sw_at (k := 22) rfl rfl), (by first | exact sw_at (k := 23) rfl c23 | exact sw_at (k := 23) rfl rfl), (by first | exact sw_at (k := 24) rfl c24 | exact sw_at (k := 24) rfl rfl), (by first | exact sw_at (k := 25) rfl c25 | exact sw_at (k := 25) rfl rfl), (by first | exact sw_at (k := 26) rfl c26 | exact sw_at (k := 26) rfl rfl), (by first | exact sw_at (k := 27) rfl c27 | exact sw_at (k := 27) rfl rfl), ri7⟩, ⟨D, _, _, _, (by first | exact sw_at (k := 28) rfl c28 | exact sw_at (k := 28) rfl rfl), (by first | exact sw_at (k := 29) rfl c29 | exact sw_at (k := 29) rfl rfl), (by first | exact sw_at (k := 30) rfl c30 | exact sw_at (k := 30) rfl rfl), (by first | exact sw_at (k := 31) rfl c31 | exact sw_at (k := 31) rfl rfl), (by first | exact sw_at (k := 32) rfl c32 | exact sw_at (k := 32) rfl rfl), (by first | exact sw_at (k := 33) rfl c33 | exact sw_at (k := 33) rfl rfl), lo⟩, ⟨_, _, _, _, (by first | exact sw_at (k := 58) rfl c58 | exact sw_at (k := 58) rfl rfl), (by first | exact sw_at (k := 59) rfl c59 | exact sw_at (k := 59) rfl rfl), (by first | exact sw_at (k := 60) rfl c60 | exact sw_at (k := 60) rfl rfl), (by first | exact sw_at (k := 61) rfl c61 | exact sw_at (k := 61) rfl rfl)⟩, ⟨_, _, _, _, _, (by first | exact sw_at (k := 62) rfl c62 | exact sw_at (k := 62) rfl rfl), (by first | exact sw_at (k := 63) rfl c63 | exact sw_at (k := 63) rfl rfl), (by first | exact sw_at (k := 64) rfl c64 | exact sw_at (k := 64) rfl rfl)⟩, ⟨_, (by first | exact sw_at (k := 65) rfl c65 | exact sw_at (k := 65) rfl rfl), htf⟩, ⟨_, (by first | exact sw_at (k := 66) rfl c66 | exact sw_at (k := 66) rfl rfl)⟩, ⟨_, (by first | exact sw_at (k := 67) rfl c67 | exact sw_at (k := 67) rfl rfl)⟩⟩⟩, (by repeat (first | exact fun _ _ => rfl | refine fr_up ?_ (by decide)))⟩
  · obtain ⟨c1n, c3n, c5n, c34n, c35n, c36n, c37n, c38n, frn⟩ := pw2
    obtain rfl := lw_eq c3n c5n c34n c35n c36n c37n c38n frn
    refine ⟨rfl, ?_⟩
    dsimp only [Option.toList, List.cons_append, List.nil_append]
    refine r_if_ne (tgt := 52) dX8_law_44 (by decide) ⟨by omega, by omega⟩ (fun g44 => absurd g44 (by omega)) (fun g44 => ?_)
    refine r_aload_n dX8_law_47 rfl rfl ?_
    refine r_callV 0 [] (s_X8_refuseText (by rfl) (by exact c2) (by first | rfl | exact c3)) dX8_law_48 cs_X8_120 im_X8_refuseText (by decide) rfl rfl (by decide) (by decide) (by decide) rfl rfl (Nat.le_of_ble_eq_true rfl) (fun _ _ _ q => q.elim) (fun v n2 h2 q => ?_)
    obtain ⟨rfl, rfl, hh⟩ := q
    obtain rfl := hh.symm
    refine ⟨rfl, ?_⟩
    dsimp only [Option.toList, List.cons_append, List.nil_append]
    refine r_iret dX8_law_51 ?_
    rw [exn, eL, er]
    exact ⟨(by simp [ocL, k1]), rfl, rfl, cls_of ⟨rfl, (by first | rfl | exact c1), rfl, ⟨ht, by omega, phl, phi⟩, (by exact pC), (by exact nC), (by exact mC), (by exact lC), ⟨_, _, _, _, _, _, _, _, (by first | rfl | exact c3)⟩, (by exact s4), ⟨_, _, _, rfl⟩, (by exact s17), ⟨D2, _, _, _, (by first | rfl | exact c34), (by first | rfl | exact c35), (by first | rfl | exact c36), (by first | rfl | exact c37), (by first | rfl | exact c38), (by first | rfl | exact c39), lo2⟩, (by exact s58), (by exact s62), (by exact s65), (by exact s66), (by exact s67)⟩, (by repeat (first | exact fun _ _ => rfl | refine fr_up ?_ (by decide)))⟩
