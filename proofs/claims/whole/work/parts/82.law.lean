/-! ===== the reference's law ===== -/
theorem lw_end {Q : Option Value → Nat → aH → Prop} {h : aH} {x : Int} {gg : Nat → Int} {ww : Int} {NC OP SG BS : Nat → Int} (n9 : gg 9 = 0) (n52 : gg 52 = 0) (kk : LwE Q h x gg ww NC OP SG BS 1 118) : LwE Q h x gg ww NC OP SG BS 1 77 := by
  refine r_aload_n dX9_law_77 rfl rfl ?_
  refine r_callV 68 [] (s_X9_good1 (g := gg) (by rfl) n9) dX9_law_78 cs_X9_161 im_X9_isGood (by decide) rfl rfl (by decide) (by decide) (by decide) rfl rfl (Nat.le_of_ble_eq_true rfl) (fun _ _ _ q => q.elim) (fun v n2 h2 q => ?_)
  obtain ⟨rfl, rfl, hh⟩ := q
  obtain rfl := hh.symm
  refine ⟨rfl, ?_⟩
  dsimp only [Option.toList, List.cons_append, List.nil_append]
  refine r_if_eq (tgt := 118) dX9_law_81 (by decide) ⟨by omega, by omega⟩ (fun g81 => absurd g81 (by omega)) (fun g81 => ?_)
  refine r_aload_n dX9_law_84 rfl rfl ?_
  refine r_getR (z := (gg 52)) dX9_law_85 fl_X9_326 (by decide) rfl rfl ?_
  refine r_if_gt (tgt := 95) dX9_law_88 (by decide) ⟨by omega, by omega⟩ (fun g88 => absurd g88 (by omega)) (fun g88 => ?_)
  refine r_iload_n dX9_law_91 rfl rfl ?_
  refine r_if_ne (tgt := 118) dX9_law_92 (by decide) ⟨by omega, by omega⟩ (fun g92 => ?_) (fun g92 => absurd g92 (by omega))
  exact kk
theorem lw_all {Q : Option Value → Nat → aH → Prop} {h : aH} {x : Int} {gg : Nat → Int} {ww : Int} {NC OP SG BS : Nat → Int} {trr : Nat → Int} (c72 : h 72 = .inl (0, 700, trr)) {t : Nat → Int} (ht : ∀ j, -128 ≤ t j ∧ t j ≤ 127) {le : Nat} (hle : le ≤ 700) (htt : ∀ j, j < le → trr j = t j % 256) {g : Nat → Int} {nd : Int} (e1 : g 1 = nd) (hnd : 0 ≤ nd ∧ nd ≤ 9) (I : LwI t le g 0 0 0 gg ww) (gk : ∀ (gg : Nat → Int) (ww : Int) (NC OP SG BS : Nat → Int) (s : LSm) (e2 tp2 : Nat), pT t le nd 12 true 0 = .inr (s, e2) → LwI t le g e2 tp2 0 gg ww → tp2 ≤ e2 → CSg nd NC 0 tp2 true s → LwE Q h x gg ww NC OP SG BS 1 118) (fk : FKp Q h g x (pT t le nd 12 true 0)) : Ev RX9 "law" cX9_law 3 (some .int) 6 0 0 Q noX 97 (WT h gg ww NC OP SG BS) 71 [(0, .ref 68), (1, iv x)] [] := by
  have gk2 : ∀ NC0 OP0 SG0 BS0 : Nat → Int, GKp Q h t le nd g x (pT t le nd 12 true 0) true 0 0 0 NC0 OP0 SG0 BS0 := by
    intro NC0 OP0 SG0 BS0 g2 w2 N2 O2 S2 B2 s e2 tp2 hr I2 h1 h2 hN hA hC
    exact lw_end I2.2.1 I2.2.2.2.2.1 (gk g2 w2 N2 O2 S2 B2 s e2 tp2 hr I2 (by omega) hC)
  have hle1 := I.1.1
  rw [pT_bg (show ¬ 0 = 12 by decide)] at gk2 fk
  refine lw_beg0 c72 ht hle htt e1 hnd rfl I (by decide) (by decide) (fun f p hr g2 w2 N2 O2 S2 B2 z hf m9 m10 fr => ?_) (fun a c e2 hr ha2 g2 w2 I2 => ?_) (fun a c e2 hr g2 w2 I2 => ?_)
  · exact fk g2 w2 N2 O2 S2 B2 z f p (by rw [hr]; rfl) hf m9 m10 fr
  · rcases bg_cases hle1 hr with ⟨y, hy⟩ | ⟨a2, c2, e3, hy, hl, hcs⟩ | ⟨a2, c2, e3, hy, hl, hcs⟩
    · exact absurd hy (by simp)
    · simp only [Sum.inr.injEq, Sum.inl.injEq, Prod.mk.injEq] at hy
      obtain ⟨rfl, rfl, rfl⟩ := hy
      refine gk2 NC OP SG BS g2 w2 _ OP SG BS (leafS a c) e2 (0 + 2) (by rw [hr]; rfl) I2 (by omega) (by omega) (fun j hj => by rw [va_up_ne _ _ (by omega), va_up_ne _ _ (by omega)]) (fun j hj => ⟨rfl, rfl, rfl⟩) ?_
      unfold leafS
      rcases hcs with ⟨_, rfl, h1, h2⟩ | ⟨_, rfl⟩ | ⟨hb, _⟩
      · rw [if_pos rfl]
        exact csg_dial hnd (by rw [va_up_ne _ _ (by omega), va_up_self]) (va_up_self _ _ _) ⟨h1, h2⟩
      · rw [if_neg (by decide), if_pos rfl]
        have hc := ha2 rfl
        exact csg_mid hnd (by rw [va_up_ne _ _ (by omega), va_up_self]) (by rw [va_up_self]; omega) (by omega)
      · exact absurd hb (by decide)
    · exact absurd hy (by simp)
  · rcases bg_cases hle1 hr with ⟨y, hy⟩ | ⟨a2, c2, e3, hy, hl, hcs⟩ | ⟨a2, c2, e3, hy, hl, hcs⟩
    · exact absurd hy (by simp)
    · exact absurd hy (by simp)
    · simp only [Sum.inr.injEq, Prod.mk.injEq] at hy
      obtain ⟨rfl, rfl, rfl⟩ := hy
      rw [hr] at fk
      have gk3 := gk2 NC OP SG BS
      rw [hr] at gk3
      exact lw_open c72 ht hle htt e1 hnd (lw_ib c72 ht hle htt e1 hnd 11) hcs (by decide) hl I2 (by omega) (va_up_self _ _ _) (va_up_self _ _ _) (va_up_self _ _ _) (fun j hj => absurd hj (Nat.not_lt_zero j)) gk3 fk
theorem csg_cpy {nd : Int} {NC cod : Nat → Int} {m : Nat} {s : LSm} (h : CSg nd NC 0 m true s) (hm9 : m ≤ 700) : CodR nd (cpyF (va_up NC m 0) cod 1500) s := by
  refine csg_cod (m := m) (csg_kp h (fun j _ hj => ?_)) (by omega) ?_
  · unfold cpyF
    rw [if_pos (by omega), va_up_ne _ _ (by omega)]
  · unfold cpyF
    rw [if_pos (by omega), va_up_self]

theorem s_X9_law {h : aH} {th : Int} {t : Nat → Int} {tp : Nat} {fpl hlaw himg : Int} {rf : Nat → Int} {nd sw nc hl hs : Int} {K U I O G L cf ct fc nx cd : Nat → Int} {nr ns nm : Int} {rd ry rm rt se md my mt : Nat → Int} {M : ND} {ls : LSm} (cr : RefC h (t, tp, fpl, rf, hlaw, himg, ((nd, sw, nc), (hl, hs), K, U, I, O, G, L, cf, ct, fc, nx, cd), ((nr, ns, nm), rd, ry, rm, rt, se, md, my, mt), M, ls) th) {x : Int} (ix : inR x) : mSem yX9_law cX9_law 3 (some .int) 6 0 0 [.ref 68, iv x] 97 h (RefQ (ocL [(whaB x tp, 1)]) (lawS (t, tp, fpl, rf, hlaw, himg, ((nd, sw, nc), (hl, hs), K, U, I, O, G, L, cf, ct, fc, nx, cd), ((nr, ns, nm), rd, ry, rm, rt, se, md, my, mt), M, ls) x.toNat).1 h (if (ocL [(whaB x tp, 1)]) = 0 then (lawS (t, tp, fpl, rf, hlaw, himg, ((nd, sw, nc), (hl, hs), K, U, I, O, G, L, cf, ct, fc, nx, cd), ((nr, ns, nm), rd, ry, rm, rt, se, md, my, mt), M, ls) x.toNat).2 else (t, tp, fpl, rf, hlaw, himg, ((nd, sw, nc), (hl, hs), K, U, I, O, G, L, cf, ct, fc, nx, cd), ((nr, ns, nm), rd, ry, rm, rt, se, md, my, mt), M, ls))) noX := by
  refine RefC_elim cr (fun g dl cl lm trr rfr nD nC nL lt lgt mn rdg cpl grp sea rts row cod ncod pil opn stg bsd imo imr ims imm w c68 c69 c70 c71 c72 c73 c74 c75 c76 c77 c78 c79 c80 c81 c82 c83 c84 c85 c86 c87 c88 c89 c90 c91 c92 c93 c94 c95 hth rr => ?_)
  refine RR_elim rr (fun e8 e10 e33 e38 e44 e53 tr pi ni li rrf rtp htp rrd rse phl phi rim rco ht nM nsn => ?_)
  obtain ⟨t1, t2, t3, t31, pnm, tdl, tcl, tlm, tmd, pmt, pmd, pmy⟩ := id tr
  obtain ⟨pnd, psw, pnc, pK, pU, pI, pO, pG, pL, pcf, pct, pfc, pnx⟩ := id pi
  obtain ⟨pnr, pns, pnm2, prd, pry, prm, prt, pse, pmd2, pmy2, pmt2⟩ := id ni
  unfold inR at ix
  refine mSem_of (own := RX9) (name := "law") pn_X9 rfl rfl (Nat.le_of_ble_eq_true rfl) ?_
  refine r_aload_n dX9_law_0 rfl rfl ?_
  refine r_iconst dX9_law_1 ?_
  refine r_putR dX9_law_2 fp_X9_102 (by decide) c68 (nar_int _) (Nat.le_of_ble_eq_true rfl) setR_0 (fun z0 hz0 => ?_)
  refine r_aload_n dX9_law_5 rfl rfl ?_
  refine r_iload_n dX9_law_6 rfl rfl ?_
  refine r_if_lt (tgt := 22) dX9_law_7 (by decide) ⟨by omega, by omega⟩ (fun g7 => ?_) (fun g7 => ?_)
  · have hwf : whaB x tp = false := decide_eq_false (by omega)
    refine r_iconst dX9_law_22 ?_
    refine r_iconst dX9_law_23 ?_
    refine r_callV 68 [_, _] (s_X9_right (b := false) (g := (va_up g 0 z0)) (by rfl) (by exact hz0) (by decide)) dX9_law_24 cs_X9_207 im_X9_right (by decide) rfl rfl (by decide) (by decide) (by decide) rfl rfl (Nat.le_of_ble_eq_true rfl) (fun _ _ _ q => q.elim) (fun v n2 h2 q => ?_)
    obtain ⟨rfl, q⟩ := q
    rcases q with ⟨kb0, rfl, hh⟩ | ⟨kb0, rfl, hh⟩
    · exact absurd kb0 (by decide)
    · obtain rfl := hh.symm
      refine ⟨rfl, ?_⟩
      dsimp only [Option.toList, List.cons_append, List.nil_append]
      refine r_if_ne (tgt := 32) dX9_law_27 (by decide) ⟨by omega, by omega⟩ (fun g27 => absurd g27 (by omega)) (fun g27 => ?_)
      refine r_iconst dX9_law_30 ?_
      refine r_iret dX9_law_31 ?_
      exact ⟨rfl, ⟨0, rfl, fun z => absurd ((ocF hwf).symm.trans z) (by decide)⟩, by rw [if_neg (by rw [ocF hwf]; decide)]; exact (RefC_mk (g := (va_up (va_up g 0 z0) 0 1)) rfl (by exact c69) (by exact c70) (by exact c71) (by exact c72) (by exact c73) (by exact c74) (by exact c75) (by exact c76) (by exact c77) (by exact c78) (by exact c79) (by exact c80) (by exact c81) (by exact c82) (by exact c83) (by exact c84) (by exact c85) (by exact c86) (by exact c87) (by exact c88) (by exact c89) (by exact c90) (by exact c91) (by exact c92) (by exact c93) (by exact c94) (by exact c95) (congrArg (fun n : Nat => (n : Int)) (ocF hwf).symm) (RR_mk (by first | exact e8 | exact (kp2 8 (by decide)).trans e8) (by first | exact e10 | exact (kp2 10 (by decide)).trans e10) (by first | exact e33 | exact (kp2 33 (by decide)).trans e33) (by first | exact e38 | exact (kp2 38 (by decide)).trans e38) (by first | exact e44 | exact (kp2 44 (by decide)).trans e44) (by first | exact e53 | exact (kp2 53 (by decide)).trans e53) (by first | exact tr | exact tell_kp (by exact tr) kp2) pi ni (by first | exact li | exact li2) rrf rtp htp rrd rse phl phi rim rco ht nM nsn)), (by repeat (first | exact fun _ _ => rfl | refine frr_up ?_ (by decide)))⟩
  · refine r_iload_n dX9_law_10 rfl rfl ?_
    refine r_aload_n dX9_law_11 rfl rfl ?_
    refine r_getR (z := (g 8)) dX9_law_12 fl_X9_105 (by decide) rfl rfl ?_
    rw [e8]
    refine r_icmp_gt (tgt := 22) dX9_law_15 (by decide) ⟨by omega, by omega⟩ ⟨by omega, by omega⟩ (fun g15 => ?_) (fun g15 => ?_)
    · have hwf : whaB x tp = false := decide_eq_false (by omega)
      refine r_iconst dX9_law_22 ?_
      refine r_iconst dX9_law_23 ?_
      refine r_callV 68 [_, _] (s_X9_right (b := false) (g := (va_up g 0 z0)) (by rfl) (by exact hz0) (by decide)) dX9_law_24 cs_X9_207 im_X9_right (by decide) rfl rfl (by decide) (by decide) (by decide) rfl rfl (Nat.le_of_ble_eq_true rfl) (fun _ _ _ q => q.elim) (fun v n2 h2 q => ?_)
      obtain ⟨rfl, q⟩ := q
      rcases q with ⟨kb0, rfl, hh⟩ | ⟨kb0, rfl, hh⟩
      · exact absurd kb0 (by decide)
      · obtain rfl := hh.symm
        refine ⟨rfl, ?_⟩
        dsimp only [Option.toList, List.cons_append, List.nil_append]
        refine r_if_ne (tgt := 32) dX9_law_27 (by decide) ⟨by omega, by omega⟩ (fun g27 => absurd g27 (by omega)) (fun g27 => ?_)
        refine r_iconst dX9_law_30 ?_
        refine r_iret dX9_law_31 ?_
        exact ⟨rfl, ⟨0, rfl, fun z => absurd ((ocF hwf).symm.trans z) (by decide)⟩, by rw [if_neg (by rw [ocF hwf]; decide)]; exact (RefC_mk (g := (va_up (va_up g 0 z0) 0 1)) rfl (by exact c69) (by exact c70) (by exact c71) (by exact c72) (by exact c73) (by exact c74) (by exact c75) (by exact c76) (by exact c77) (by exact c78) (by exact c79) (by exact c80) (by exact c81) (by exact c82) (by exact c83) (by exact c84) (by exact c85) (by exact c86) (by exact c87) (by exact c88) (by exact c89) (by exact c90) (by exact c91) (by exact c92) (by exact c93) (by exact c94) (by exact c95) (congrArg (fun n : Nat => (n : Int)) (ocF hwf).symm) (RR_mk (by first | exact e8 | exact (kp2 8 (by decide)).trans e8) (by first | exact e10 | exact (kp2 10 (by decide)).trans e10) (by first | exact e33 | exact (kp2 33 (by decide)).trans e33) (by first | exact e38 | exact (kp2 38 (by decide)).trans e38) (by first | exact e44 | exact (kp2 44 (by decide)).trans e44) (by first | exact e53 | exact (kp2 53 (by decide)).trans e53) (by first | exact tr | exact tell_kp (by exact tr) kp2) pi ni (by first | exact li | exact li2) rrf rtp htp rrd rse phl phi rim rco ht nM nsn)), (by repeat (first | exact fun _ _ => rfl | refine frr_up ?_ (by decide)))⟩
    · refine r_iconst dX9_law_18 ?_
      refine r_goto (tgt := 23) dX9_law_19 (by decide) ?_
      refine r_iconst dX9_law_23 ?_
      refine r_callV 68 [_, _] (s_X9_right (b := true) (g := (va_up g 0 z0)) (by rfl) (by exact hz0) (by decide)) dX9_law_24 cs_X9_207 im_X9_right (by decide) rfl rfl (by decide) (by decide) (by decide) rfl rfl (Nat.le_of_ble_eq_true rfl) (fun _ _ _ q => q.elim) (fun v n2 h2 q => ?_)
      obtain ⟨rfl, q⟩ := q
      rcases q with ⟨kb0, rfl, hh⟩ | ⟨kb0, rfl, hh⟩
      · obtain rfl := hh.symm
        refine ⟨rfl, ?_⟩
        dsimp only [Option.toList, List.cons_append, List.nil_append]
        refine r_if_ne (tgt := 32) dX9_law_27 (by decide) ⟨by omega, by omega⟩ (fun g27 => ?_) (fun g27 => absurd g27 (by omega))
        obtain ⟨le, hle0⟩ : ∃ q : Nat, x = q := ⟨x.toNat, by omega⟩
        rw [show x.toNat = le by omega]
        have hle : le ≤ 700 := by omega
        have htt : ∀ j, j < le → trr j = t j % 256 := fun j hj => rtp j (by omega)
        refine r_aload_n dX9_law_32 rfl rfl ?_
        refine r_iconst dX9_law_33 ?_
        refine r_putR dX9_law_34 fp_X9_105 (by decide) rfl (nar_int _) (Nat.le_of_ble_eq_true rfl) setR_8 (fun z1 hz1 => ?_)
        refine r_aload_n dX9_law_37 rfl rfl ?_
        refine r_iconst dX9_law_38 ?_
        refine r_putR dX9_law_39 fp_X9_26 (by decide) rfl (nar_int _) (Nat.le_of_ble_eq_true rfl) setR_10 (fun z2 hz2 => ?_)
        refine r_aload_n dX9_law_42 rfl rfl ?_
        refine r_iconst dX9_law_43 ?_
        refine r_putR dX9_law_44 fp_X9_158 (by decide) rfl (nar_int _) (Nat.le_of_ble_eq_true rfl) setR_9 (fun z3 hz3 => ?_)
        refine r_aload_n dX9_law_47 rfl rfl ?_
        refine r_iload_n dX9_law_48 rfl rfl ?_
        refine r_putR dX9_law_49 fp_X9_112 (by decide) rfl (nar_int _) (Nat.le_of_ble_eq_true rfl) setR_12 (fun z4 hz4 => ?_)
        refine r_aload_n dX9_law_52 rfl rfl ?_
        refine r_iconst dX9_law_53 ?_
        refine r_putR dX9_law_54 fp_X9_115 (by decide) rfl (nar_int _) (Nat.le_of_ble_eq_true rfl) setR_13 (fun z5 hz5 => ?_)
        refine r_aload_n dX9_law_57 rfl rfl ?_
        refine r_iconst dX9_law_58 ?_
        refine r_putR dX9_law_59 fp_X9_323 (by decide) rfl (nar_int _) (Nat.le_of_ble_eq_true rfl) setR_51 (fun z6 hz6 => ?_)
        refine r_aload_n dX9_law_62 rfl rfl ?_
        refine r_iconst dX9_law_63 ?_
        refine r_putR dX9_law_64 fp_X9_326 (by decide) rfl (nar_int _) (Nat.le_of_ble_eq_true rfl) setR_52 (fun z7 hz7 => ?_)
        refine r_aload_n dX9_law_67 rfl rfl ?_
        refine r_callV 68 [] (s_X9_steps (g := (va_up (va_up (va_up (va_up (va_up (va_up (va_up (va_up g 0 z0) 8 z1) 10 z2) 9 z3) 12 z4) 13 z5) 51 z6) 52 z7)) (e := 0) (by rfl) (by exact c72) ht hle htt (Nat.zero_le _) (by show z4 = (le : Int); omega) (by show z5 = ((0 : Nat) : Int); omega)) dX9_law_68 cs_X9_165 im_X9_steps (by decide) rfl rfl (by decide) (by decide) (by decide) rfl rfl (Nat.le_of_ble_eq_true rfl) (fun _ _ _ q => q.elim) (fun v n2 h2 q => ?_)
        obtain ⟨rfl, rfl, g68, w68, rfl, rs68, kp68⟩ := q
        refine ⟨rfl, ?_⟩
        dsimp only [Option.toList, List.cons_append, List.nil_append]
        have hwt : whaB x tp = true := decide_eq_true (by omega)
        have hoc : ocL [(whaB x tp, 1)] = 0 := (ocT hwt).trans ocE
        rw [if_pos hoc]
        have q68 : ∀ k, ¬ (13 ≤ k ∧ k ≤ 18) → g68 k = (va_up (va_up (va_up (va_up (va_up (va_up (va_up (va_up g 0 z0) 8 z1) 10 z2) 9 z3) 12 z4) 13 z5) 51 z6) 52 z7) k := kp68
        have e1 : g68 1 = nd := (q68 1 (by decide)).trans t1
        refine ev_h (wt_mk (h := h) (g := g68) (w := w68) (NC := ncod) (OP := opn) (SG := stg) (BS := bsd) rfl (by exact c87) (by exact c89) (by exact c90) (by exact c91) (fun j a b c d e => by simp only [va_up, a, b, c, d, e, if_false])) ?_
        refine lw_all c72 ht hle htt (g := g68) e1 pnd ⟨rs68, (q68 9 (by decide)).trans (by show z3 = (0 : Int); omega), rfl, (q68 51 (by decide)).trans (by show z6 = ((0 : Nat) : Int); omega), (q68 52 (by decide)).trans (by show z7 = ((0 : Nat) : Int); omega), fun _ _ _ _ => rfl⟩ (fun gg ww NC OP SG BS s e2 tp2 hr I2 htp2 hC => ?_) (fun gg ww NC OP SG BS z f p hr hf g9 g10 fr => ?_)
        · obtain ⟨rs, n9, n10, n51, n52, fr⟩ := id I2
          have hsb := sort_B rs
          have hle2 := rs.1
          have f10 : g68 10 = -1 := (q68 10 (by decide)).trans (by show z2 = (-1 : Int); omega)
          have f0 : gg 0 = 0 := (fr 0 (by decide) (by decide) (by decide)).trans ((q68 0 (by decide)).trans (by show z0 = (0 : Int); omega))
          have f8 : gg 8 = 0 := (fr 8 (by decide) (by decide) (by decide)).trans ((q68 8 (by decide)).trans (by show z1 = (0 : Int); omega))
          have fk : ∀ k, ¬ k = 0 → ¬ (8 ≤ k ∧ k ≤ 18) → ¬ (51 ≤ k ∧ k ≤ 52) → gg k = g k := fun k a b c => (fr k (by omega) (by omega) (by omega)).trans ((q68 k (by omega)).trans (by (repeat rw [va_up_ne _ _ (by omega)])))
          refine r_aload_n dX9_law_118 rfl rfl ?_
          refine r_callV 68 [] (s_X9_good1 (g := gg) (by rfl) n9) dX9_law_119 cs_X9_161 im_X9_isGood (by decide) rfl rfl (by decide) (by decide) (by decide) rfl rfl (Nat.le_of_ble_eq_true rfl) (fun _ _ _ q => q.elim) (fun v n2 h2 q => ?_)
          obtain ⟨rfl, rfl, hh⟩ := q
          obtain rfl := hh.symm
          refine ⟨rfl, ?_⟩
          dsimp only [Option.toList, List.cons_append, List.nil_append]
          refine r_if_eq (tgt := 137) dX9_law_122 (by decide) ⟨by omega, by omega⟩ (fun g122 => absurd g122 (by omega)) (fun g122 => ?_)
          refine r_aload_n dX9_law_125 rfl rfl ?_
          refine r_getR (z := (gg 14)) dX9_law_126 fl_X9_135 (by decide) rfl rfl ?_
          refine r_if_eq (tgt := 137) dX9_law_129 (by decide) ⟨by omega, by omega⟩ (fun g129 => ?_) (fun g129 => ?_)
          · have hlS : lawS (t, tp, fpl, rf, hlaw, himg, ((nd, sw, nc), (hl, hs), K, U, I, O, G, L, cf, ct, fc, nx, cd), ((nr, ns, nm), rd, ry, rm, rt, se, md, my, mt), M, ls) le = (0, (t, 0, -1, rf, 1, himg, ((nd, sw, nc), (hl, hs), K, U, I, O, G, L, cf, ct, fc, nx, cd), ((nr, ns, nm), rd, ry, rm, rt, se, md, my, mt), M, s)) := by
              show (match pLaw t le nd with | .inl (f, p) => _ | .inr s => _) = _
              unfold pLaw
              rw [hr]
              dsimp only
              rw [if_pos (by omega)]
            refine r_aload_n dX9_law_137 rfl rfl ?_
            refine r_callV 68 [] (s_X9_good1 (g := gg) (by rfl) n9) dX9_law_138 cs_X9_161 im_X9_isGood (by decide) rfl rfl (by decide) (by decide) (by decide) rfl rfl (Nat.le_of_ble_eq_true rfl) (fun _ _ _ q => q.elim) (fun v n2 h2 q => ?_)
            obtain ⟨rfl, rfl, hh⟩ := q
            obtain rfl := hh.symm
            refine ⟨rfl, ?_⟩
            dsimp only [Option.toList, List.cons_append, List.nil_append]
            refine r_if_ne (tgt := 159) dX9_law_141 (by decide) ⟨by omega, by omega⟩ (fun g141 => ?_) (fun g141 => absurd g141 (by omega))
            refine r_aload_n dX9_law_159 rfl rfl ?_
            refine r_iconst dX9_law_160 ?_
            refine r_callV 68 [_] (s_X9_puts (g := gg) (tp := tp2) (by rfl) (by rfl) n51 (by omega)) dX9_law_161 cs_X9_332 im_X9_puts (by decide) rfl rfl (by decide) (by decide) (by decide) rfl rfl (Nat.le_of_ble_eq_true rfl) (fun _ _ _ q => q.elim) (fun v n2 h2 q => ?_)
            obtain ⟨rfl, rfl, hh⟩ := q
            obtain rfl := hh.symm
            refine ⟨rfl, ?_⟩
            dsimp only [Option.toList, List.cons_append, List.nil_append]
            refine r_aload_n dX9_law_164 rfl rfl ?_
            refine r_aload_n dX9_law_165 rfl rfl ?_
            refine r_get (fs := RGL _ _) dX9_law_166 fl_X9_75 (by decide) rfl rfl ?_
            refine r_aload_n dX9_law_169 rfl rfl ?_
            refine r_get (fs := RGL _ _) dX9_law_170 fl_X9_72 (by decide) rfl rfl ?_
            refine r_callV 68 [.ref 87, .ref 86] (s_X9_copies_87 (by rfl) (by exact c86)) dX9_law_173 cs_X9_220 im_X9_copies (by decide) rfl rfl (by decide) (by decide) (by decide) rfl rfl (Nat.le_of_ble_eq_true rfl) (fun _ _ _ q => q.elim) (fun v n2 h2 q => ?_)
            obtain ⟨rfl, rfl, hh⟩ := q
            obtain rfl := hh.symm
            refine ⟨rfl, ?_⟩
            dsimp only [Option.toList, List.cons_append, List.nil_append]
            refine r_aload_n dX9_law_176 rfl rfl ?_
            refine r_iconst dX9_law_177 ?_
            refine r_putR dX9_law_178 fp_X9_233 (by decide) rfl (nar_bool (by omega)) (Nat.le_of_ble_eq_true rfl) setR_44 (fun z0 hz0 => ?_)
            refine r_iconst dX9_law_181 ?_
            refine r_iret dX9_law_182 ?_
            exact ⟨rfl, ⟨_, rfl, fun _ => by rw [hlS]⟩, by rw [hlS]; exact (RefC_mk (g := (va_up (va_up gg 51 ((tp2 : Int) + 1)) 44 z0)) rfl (by exact c69) (by exact c70) (by exact c71) (by exact c72) (by exact c73) (by exact c74) (by exact c75) (by exact c76) (by exact c77) (by exact c78) (by exact c79) (by exact c80) (by exact c81) (by exact c82) (by exact c83) (by exact c84) (by exact c85) rfl rfl (by exact c88) rfl rfl rfl (by exact c92) (by exact c93) (by exact c94) (by exact c95) (f0.trans (congrArg (fun n : Nat => (n : Int)) hoc.symm)) (RR_mk f8 (n10.trans f10) ((fk 33 (by decide) (by decide) (by decide)).trans e33) ((fk 38 (by decide) (by decide) (by decide)).trans e38) (by show z0 = (1 : Int); omega) ((fk 53 (by decide) (by decide) (by decide)).trans e53) (tell_k4 tr (fk 1 (by decide) (by decide) (by decide)) (fk 2 (by decide) (by decide) (by decide)) (fk 3 (by decide) (by decide) (by decide)) (fk 31 (by decide) (by decide) (by decide))) pi ni (by show LitR (gg 30) _ _ _ _ _ _ _ _; rw [(fk 30 (by decide) (by decide) (by decide))]; exact li) rrf (fun j hj => absurd hj (Nat.not_lt_zero j)) (Nat.zero_le _) rrd rse (Or.inr rfl) phi rim (fun _ => csg_cpy hC (by omega)) ht nM nsn)), (by repeat (first | exact fun _ _ => rfl | refine frr_up ?_ (by decide)))⟩
          · have hlS : lawS (t, tp, fpl, rf, hlaw, himg, ((nd, sw, nc), (hl, hs), K, U, I, O, G, L, cf, ct, fc, nx, cd), ((nr, ns, nm), rd, ry, rm, rt, se, md, my, mt), M, ls) le = (1, (t, 0, ((tkS t le e2 : Nat) : Int), va_up rf 0 (rf 0 + 1), hlaw, himg, ((nd, sw, nc), (hl, hs), K, U, I, O, G, L, cf, ct, fc, nx, cd), ((nr, ns, nm), rd, ry, rm, rt, se, md, my, mt), M, ls)) := by
              show (match pLaw t le nd with | .inl (f, p) => _ | .inr s => _) = _
              unfold pLaw
              rw [hr]
              dsimp only
              rw [if_neg (by omega)]
            refine r_aload_n dX9_law_132 rfl rfl ?_
            refine r_iconst dX9_law_133 ?_
            refine r_callV 68 [_] (s_X9_wrong1 (g := gg) (by rfl) n9) dX9_law_134 cs_X9_168 im_X9_wrong (by decide) rfl rfl (by decide) (by decide) (by decide) rfl rfl (Nat.le_of_ble_eq_true rfl) (fun _ _ _ q => q.elim) (fun v n2 h2 q => ?_)
            obtain ⟨rfl, rfl, hh⟩ := q
            obtain rfl := hh.symm
            refine ⟨rfl, ?_⟩
            dsimp only [Option.toList, List.cons_append, List.nil_append]
            refine r_aload_n dX9_law_137 rfl rfl ?_
            refine r_callV 68 [] (s_X9_good0 (g := (va_up (va_up gg 9 1) 10 (gg 15))) (by rfl) ⟨by show (1 : Int) ≤ 1; decide, by show (1 : Int) ≤ 9; decide⟩) dX9_law_138 cs_X9_161 im_X9_isGood (by decide) rfl rfl (by decide) (by decide) (by decide) rfl rfl (Nat.le_of_ble_eq_true rfl) (fun _ _ _ q => q.elim) (fun v n2 h2 q => ?_)
            obtain ⟨rfl, rfl, hh⟩ := q
            obtain rfl := hh.symm
            refine ⟨rfl, ?_⟩
            dsimp only [Option.toList, List.cons_append, List.nil_append]
            refine r_if_ne (tgt := 159) dX9_law_141 (by decide) ⟨by omega, by omega⟩ (fun g141 => absurd g141 (by omega)) (fun g141 => ?_)
            refine r_aload_n dX9_law_144 rfl rfl ?_
            refine r_get (fs := RGL _ _) dX9_law_145 fl_X9_29 (by decide) rfl rfl ?_
            refine r_iconst dX9_law_148 ?_
            refine r_dup2 dX9_law_149 rfl rfl ?_
            refine r_ald dX9_law_150 (by decide) c73 (by omega) (by omega) (by decide) ?_
            refine r_iconst dX9_law_151 ?_
            refine r_iadd dX9_law_152 ?_
            refine r_ast dX9_law_153 (by decide) c73 (by omega) (by omega) (by decide) ?_
            refine r_aload_n dX9_law_154 rfl rfl ?_
            refine r_getR (z := 1) dX9_law_155 fl_X9_158 (by decide) rfl rfl ?_
            refine r_iret dX9_law_158 ?_
            exact ⟨rfl, ⟨_, rfl, fun _ => by first | (rw [hlS]; exact rfl) | rw [hlS]⟩, by rw [hlS]; exact (RefC_mk (g := (va_up (va_up gg 9 1) 10 (gg 15))) rfl (by exact c69) (by exact c70) (by exact c71) (by exact c72) rfl (by exact c74) (by exact c75) (by exact c76) (by exact c77) (by exact c78) (by exact c79) (by exact c80) (by exact c81) (by exact c82) (by exact c83) (by exact c84) (by exact c85) (by exact c86) rfl (by exact c88) rfl rfl rfl (by exact c92) (by exact c93) (by exact c94) (by exact c95) (f0.trans (congrArg (fun n : Nat => (n : Int)) hoc.symm)) (RR_mk f8 rs.2.2.2.2.1 ((fk 33 (by decide) (by decide) (by decide)).trans e33) ((fk 38 (by decide) (by decide) (by decide)).trans e38) ((fk 44 (by decide) (by decide) (by decide)).trans e44) ((fk 53 (by decide) (by decide) (by decide)).trans e53) (tell_k4 tr (fk 1 (by decide) (by decide) (by decide)) (fk 2 (by decide) (by decide) (by decide)) (fk 3 (by decide) (by decide) (by decide)) (fk 31 (by decide) (by decide) (by decide))) pi ni (by show LitR (gg 30) _ _ _ _ _ _ _ _; rw [(fk 30 (by decide) (by decide) (by decide))]; exact li) (fun j hj => by show va_up rfr 0 (rfr 0 + 1) j = va_up rf 0 (rf 0 + 1) j; by_cases q : j = 0; (subst q; rw [va_up_self, va_up_self, rrf _ (by decide)]); (rw [va_up_ne _ _ q, va_up_ne _ _ q]; exact rrf j hj)) (fun j hj => absurd hj (Nat.not_lt_zero j)) (Nat.zero_le _) rrd rse phl phi rim rco ht nM nsn)), (by repeat (first | exact fun _ _ => rfl | refine frr_up ?_ (by decide)))⟩
        · have f10 : g68 10 = -1 := (q68 10 (by decide)).trans (by show z2 = (-1 : Int); omega)
          have f0 : gg 0 = 0 := (fr 0 (by decide) (by decide) (by decide)).trans ((q68 0 (by decide)).trans (by show z0 = (0 : Int); omega))
          have f8 : gg 8 = 0 := (fr 8 (by decide) (by decide) (by decide)).trans ((q68 8 (by decide)).trans (by show z1 = (0 : Int); omega))
          have fk : ∀ k, ¬ k = 0 → ¬ (8 ≤ k ∧ k ≤ 18) → ¬ (51 ≤ k ∧ k ≤ 52) → gg k = g k := fun k a b c => (fr k (by omega) (by omega) (by omega)).trans ((q68 k (by omega)).trans (by (repeat rw [va_up_ne _ _ (by omega)])))
          have hlS : lawS (t, tp, fpl, rf, hlaw, himg, ((nd, sw, nc), (hl, hs), K, U, I, O, G, L, cf, ct, fc, nx, cd), ((nr, ns, nm), rd, ry, rm, rt, se, md, my, mt), M, ls) le = (f, (t, 0, ((p : Nat) : Int), va_up rf 0 (rf 0 + 1), hlaw, himg, ((nd, sw, nc), (hl, hs), K, U, I, O, G, L, cf, ct, fc, nx, cd), ((nr, ns, nm), rd, ry, rm, rt, se, md, my, mt), M, ls)) := by
            show (match pLaw t le nd with | .inl (f, p) => _ | .inr s => _) = _
            unfold pLaw
            rw [hr]
          refine r_aload_n dX9_law_118 rfl rfl ?_
          refine r_callV 68 [] (s_X9_good0 (g := gg) (by rfl) ⟨by omega, by omega⟩) dX9_law_119 cs_X9_161 im_X9_isGood (by decide) rfl rfl (by decide) (by decide) (by decide) rfl rfl (Nat.le_of_ble_eq_true rfl) (fun _ _ _ q => q.elim) (fun v n2 h2 q => ?_)
          obtain ⟨rfl, rfl, hh⟩ := q
          obtain rfl := hh.symm
          refine ⟨rfl, ?_⟩
          dsimp only [Option.toList, List.cons_append, List.nil_append]
          refine r_if_eq (tgt := 137) dX9_law_122 (by decide) ⟨by omega, by omega⟩ (fun g122 => ?_) (fun g122 => absurd g122 (by omega))
          refine r_aload_n dX9_law_137 rfl rfl ?_
          refine r_callV 68 [] (s_X9_good0 (g := gg) (by rfl) ⟨by omega, by omega⟩) dX9_law_138 cs_X9_161 im_X9_isGood (by decide) rfl rfl (by decide) (by decide) (by decide) rfl rfl (Nat.le_of_ble_eq_true rfl) (fun _ _ _ q => q.elim) (fun v n2 h2 q => ?_)
          obtain ⟨rfl, rfl, hh⟩ := q
          obtain rfl := hh.symm
          refine ⟨rfl, ?_⟩
          dsimp only [Option.toList, List.cons_append, List.nil_append]
          refine r_if_ne (tgt := 159) dX9_law_141 (by decide) ⟨by omega, by omega⟩ (fun g141 => absurd g141 (by omega)) (fun g141 => ?_)
          refine r_aload_n dX9_law_144 rfl rfl ?_
          refine r_get (fs := RGL _ _) dX9_law_145 fl_X9_29 (by decide) rfl rfl ?_
          refine r_iconst dX9_law_148 ?_
          refine r_dup2 dX9_law_149 rfl rfl ?_
          refine r_ald dX9_law_150 (by decide) c73 (by omega) (by omega) (by decide) ?_
          refine r_iconst dX9_law_151 ?_
          refine r_iadd dX9_law_152 ?_
          refine r_ast dX9_law_153 (by decide) c73 (by omega) (by omega) (by decide) ?_
          refine r_aload_n dX9_law_154 rfl rfl ?_
          refine r_getR (z := (gg 9)) dX9_law_155 fl_X9_158 (by decide) rfl rfl ?_
          refine r_iret dX9_law_158 ?_
          exact ⟨rfl, ⟨_, rfl, fun _ => by first | (rw [hlS]; exact g9) | rw [hlS]⟩, by rw [hlS]; exact (RefC_mk (g := gg) rfl (by exact c69) (by exact c70) (by exact c71) (by exact c72) rfl (by exact c74) (by exact c75) (by exact c76) (by exact c77) (by exact c78) (by exact c79) (by exact c80) (by exact c81) (by exact c82) (by exact c83) (by exact c84) (by exact c85) (by exact c86) rfl (by exact c88) rfl rfl rfl (by exact c92) (by exact c93) (by exact c94) (by exact c95) (f0.trans (congrArg (fun n : Nat => (n : Int)) hoc.symm)) (RR_mk f8 g10 ((fk 33 (by decide) (by decide) (by decide)).trans e33) ((fk 38 (by decide) (by decide) (by decide)).trans e38) ((fk 44 (by decide) (by decide) (by decide)).trans e44) ((fk 53 (by decide) (by decide) (by decide)).trans e53) (tell_k4 tr (fk 1 (by decide) (by decide) (by decide)) (fk 2 (by decide) (by decide) (by decide)) (fk 3 (by decide) (by decide) (by decide)) (fk 31 (by decide) (by decide) (by decide))) pi ni (by show LitR (gg 30) _ _ _ _ _ _ _ _; rw [(fk 30 (by decide) (by decide) (by decide))]; exact li) (fun j hj => by show va_up rfr 0 (rfr 0 + 1) j = va_up rf 0 (rf 0 + 1) j; by_cases q : j = 0; (subst q; rw [va_up_self, va_up_self, rrf _ (by decide)]); (rw [va_up_ne _ _ q, va_up_ne _ _ q]; exact rrf j hj)) (fun j hj => absurd hj (Nat.not_lt_zero j)) (Nat.zero_le _) rrd rse phl phi rim rco ht nM nsn)), (by repeat (first | exact fun _ _ => rfl | refine frr_up ?_ (by decide)))⟩
      · exact absurd kb0 (by decide)

