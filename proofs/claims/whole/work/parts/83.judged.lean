/-! ===== the reference: lawful, judged ===== -/
theorem s_X9_lawful {h : aH} {th : Int} {t : Nat → Int} {tp : Nat} {fpl hlaw himg : Int} {rf : Nat → Int} {nd sw nc hl hs : Int} {K U I O G L cf ct fc nx cd : Nat → Int} {nr ns nm : Int} {rd ry rm rt se md my mt : Nat → Int} {M : ND} {ls : LSm} (cr : RefC h (t, tp, fpl, rf, hlaw, himg, ((nd, sw, nc), (hl, hs), K, U, I, O, G, L, cf, ct, fc, nx, cd), ((nr, ns, nm), rd, ry, rm, rt, se, md, my, mt), M, ls) th) {day m : Int} (iday : inR day) (im : inR m)  : mSem yX9_lawful cX9_lawful 3 (some .int) 7 0 0 [.ref 68, iv day, iv m] 97 h (RefQ (ocL [(dayB day, 1), (minB m, 1), (decide (hlaw = 1), 2)]) (ls (fun j => nowI sw nc nm K U I O G L cf ct cd md my mt ((j : Nat) : Int) day m) (day / 31)) h (t, tp, fpl, rf, hlaw, himg, ((nd, sw, nc), (hl, hs), K, U, I, O, G, L, cf, ct, fc, nx, cd), ((nr, ns, nm), rd, ry, rm, rt, se, md, my, mt), M, ls)) noX := by
  refine RefC_elim cr (fun g dl cl lm trr rfr nD nC nL lt lgt mn rdg cpl grp sea rts row cod ncod pil opn stg bsd imo imr ims imm w c68 c69 c70 c71 c72 c73 c74 c75 c76 c77 c78 c79 c80 c81 c82 c83 c84 c85 c86 c87 c88 c89 c90 c91 c92 c93 c94 c95 hth rr => ?_)
  refine RR_elim rr (fun e8 e10 e33 e38 e44 e53 tr pi ni li rrf rtp htp rrd rse phl phi rim rco ht nM nsn => ?_)
  obtain ⟨t1, t2, t3, t31, pnm, tdl, tcl, tlm, tmd, pmt, pmd, pmy⟩ := id tr
  obtain ⟨pnd, psw, pnc, pK, pU, pI, pO, pG, pL, pcf, pct, pfc, pnx⟩ := id pi
  obtain ⟨pnr, pns, pnm2, prd, pry, prm, prt, pse, pmd2, pmy2, pmt2⟩ := id ni
  unfold inR at iday im
  refine mSem_of (own := RX9) (name := "lawful") pn_X9 rfl rfl (Nat.le_of_ble_eq_true rfl) ?_
  refine r_aload_n dX9_lawful_0 rfl rfl ?_
  refine r_iconst dX9_lawful_1 ?_
  refine r_putR dX9_lawful_2 fp_X9_102 (by decide) c68 (nar_int _) (Nat.le_of_ble_eq_true rfl) setR_0 (fun z0 hz0 => ?_)
  refine r_aload_n dX9_lawful_5 rfl rfl ?_
  refine r_iload_n dX9_lawful_6 rfl rfl ?_
  refine r_callV 68 [_] (s_X9_isDay (by rfl) (by first | rfl | exact hz0) iday) dX9_lawful_7 cs_X9_259 im_X9_isDay (by decide) rfl rfl (by decide) (by decide) (by decide) rfl rfl (Nat.le_of_ble_eq_true rfl) (fun _ _ _ q => q.elim) (fun v n2 h2 q => ?_)
  obtain ⟨rfl, q⟩ := q
  rcases q with ⟨kb1, rfl, hh⟩ | ⟨kb1, rfl, hh⟩
  · obtain rfl := hh.symm
    have bday := of_decide_eq_true kb1
    refine ⟨rfl, ?_⟩
    dsimp only [Option.toList, List.cons_append, List.nil_append]
    refine r_if_eq (tgt := 42) dX9_lawful_10 (by decide) ⟨by omega, by omega⟩ (fun g10 => absurd g10 (by omega)) (fun g10 => ?_)
    refine r_aload_n dX9_lawful_13 rfl rfl ?_
    refine r_iload_n dX9_lawful_14 rfl rfl ?_
    refine r_callV 68 [_] (s_X9_isMinute (by rfl) (by first | rfl | exact hz0) im) dX9_lawful_15 cs_X9_275 im_X9_isMinute (by decide) rfl rfl (by decide) (by decide) (by decide) rfl rfl (Nat.le_of_ble_eq_true rfl) (fun _ _ _ q => q.elim) (fun v n2 h2 q => ?_)
    obtain ⟨rfl, q⟩ := q
    rcases q with ⟨kb2, rfl, hh⟩ | ⟨kb2, rfl, hh⟩
    · obtain rfl := hh.symm
      have bm := of_decide_eq_true kb2
      refine ⟨rfl, ?_⟩
      dsimp only [Option.toList, List.cons_append, List.nil_append]
      refine r_if_eq (tgt := 42) dX9_lawful_18 (by decide) ⟨by omega, by omega⟩ (fun g18 => absurd g18 (by omega)) (fun g18 => ?_)
      refine r_aload_n dX9_lawful_21 rfl rfl ?_
      refine r_aload_n dX9_lawful_22 rfl rfl ?_
      refine r_getR (z := (g 44)) dX9_lawful_23 fl_X9_233 (by decide) rfl rfl ?_
      have q44 : g 44 = b2i (decide (hlaw = 1)) := by rw [e44]; rcases phl with q | q <;> rw [q] <;> rfl
      rw [q44]
      refine r_iconst dX9_lawful_26 ?_
      refine r_callV 68 [_, _] (s_X9_right (b := decide (hlaw = 1)) (g := (va_up g 0 z0)) (by rfl) (by exact hz0) (by decide)) dX9_lawful_27 cs_X9_207 im_X9_right (by decide) rfl rfl (by decide) (by decide) (by decide) rfl rfl (Nat.le_of_ble_eq_true rfl) (fun _ _ _ q => q.elim) (fun v n2 h2 q => ?_)
      obtain ⟨rfl, q⟩ := q
      rcases q with ⟨kb3, rfl, hh⟩ | ⟨kb3, rfl, hh⟩
      · obtain rfl := hh.symm
        refine ⟨rfl, ?_⟩
        dsimp only [Option.toList, List.cons_append, List.nil_append]
        refine r_if_eq (tgt := 42) dX9_lawful_30 (by decide) ⟨by omega, by omega⟩ (fun g30 => absurd g30 (by omega)) (fun g30 => ?_)
        refine r_aload_n dX9_lawful_33 rfl rfl ?_
        refine r_iload_n dX9_lawful_34 rfl rfl ?_
        refine r_iload_n dX9_lawful_35 rfl rfl ?_
        refine r_callV 68 [_, _] (s_X9_toldBy (g := (va_up g 0 z0)) (by rfl) (by exact c69) (by exact c70) (by exact c71) (by exact c77) (by exact c78) (by exact c79) (by exact tr) pi (by exact c85) (by exact c86) (by exact c88) (by exact li) (rco (of_decide_eq_true kb3)) bday bm) dX9_lawful_36 cs_X9_354 im_X9_toldBy (by decide) rfl rfl (by decide) (by decide) (by decide) rfl rfl (Nat.le_of_ble_eq_true rfl) (fun _ _ _ q => q.elim) (fun v n2 h2 q => ?_)
        obtain ⟨rfl, rfl, rw2, pl2, gn, lt2, lg2, rfl, li2, kp2⟩ := q
        refine ⟨rfl, ?_⟩
        dsimp only [Option.toList, List.cons_append, List.nil_append]
        refine r_goto (tgt := 43) dX9_lawful_39 (by decide) ?_
        refine r_iret dX9_lawful_43 ?_
        first
          | exact ⟨rfl, ⟨0, rfl, fun z => absurd ((ocF kb1).symm.trans z) (by decide)⟩, (RefC_mk (g := gn) rfl (by exact c69) (by exact c70) (by exact c71) (by exact c72) (by exact c73) (by exact c74) (by exact c75) (by exact c76) rfl rfl (by exact c79) (by exact c80) (by exact c81) (by exact c82) (by exact c83) (by exact c84) rfl (by exact c86) (by exact c87) rfl (by exact c89) (by exact c90) (by exact c91) (by exact c92) (by exact c93) (by exact c94) (by exact c95) (congrArg (fun n : Nat => (n : Int)) (ocF kb1).symm) (RR_mk (by first | exact e8 | exact (kp2 8 (by decide)).trans e8) (by first | exact e10 | exact (kp2 10 (by decide)).trans e10) (by first | exact e33 | exact (kp2 33 (by decide)).trans e33) (by first | exact e38 | exact (kp2 38 (by decide)).trans e38) (by first | exact e44 | exact (kp2 44 (by decide)).trans e44) (by first | exact e53 | exact (kp2 53 (by decide)).trans e53) (by first | exact tr | exact tell_kp (by exact tr) kp2) pi ni (by first | exact li | exact li2) rrf rtp htp rrd rse phl phi rim rco ht nM nsn)), (by repeat (first | exact fun _ _ => rfl | refine frr_up ?_ (by decide)))⟩
          | exact ⟨rfl, ⟨0, rfl, fun z => absurd (((ocT kb1).trans (ocF kb2)).symm.trans z) (by decide)⟩, (RefC_mk (g := gn) rfl (by exact c69) (by exact c70) (by exact c71) (by exact c72) (by exact c73) (by exact c74) (by exact c75) (by exact c76) rfl rfl (by exact c79) (by exact c80) (by exact c81) (by exact c82) (by exact c83) (by exact c84) rfl (by exact c86) (by exact c87) rfl (by exact c89) (by exact c90) (by exact c91) (by exact c92) (by exact c93) (by exact c94) (by exact c95) (congrArg (fun n : Nat => (n : Int)) ((ocT kb1).trans (ocF kb2)).symm) (RR_mk (by first | exact e8 | exact (kp2 8 (by decide)).trans e8) (by first | exact e10 | exact (kp2 10 (by decide)).trans e10) (by first | exact e33 | exact (kp2 33 (by decide)).trans e33) (by first | exact e38 | exact (kp2 38 (by decide)).trans e38) (by first | exact e44 | exact (kp2 44 (by decide)).trans e44) (by first | exact e53 | exact (kp2 53 (by decide)).trans e53) (by first | exact tr | exact tell_kp (by exact tr) kp2) pi ni (by first | exact li | exact li2) rrf rtp htp rrd rse phl phi rim rco ht nM nsn)), (by repeat (first | exact fun _ _ => rfl | refine frr_up ?_ (by decide)))⟩
          | exact ⟨rfl, ⟨0, rfl, fun z => absurd (((ocT kb1).trans ((ocT kb2).trans (ocF kb3))).symm.trans z) (by decide)⟩, (RefC_mk (g := gn) rfl (by exact c69) (by exact c70) (by exact c71) (by exact c72) (by exact c73) (by exact c74) (by exact c75) (by exact c76) rfl rfl (by exact c79) (by exact c80) (by exact c81) (by exact c82) (by exact c83) (by exact c84) rfl (by exact c86) (by exact c87) rfl (by exact c89) (by exact c90) (by exact c91) (by exact c92) (by exact c93) (by exact c94) (by exact c95) (congrArg (fun n : Nat => (n : Int)) ((ocT kb1).trans ((ocT kb2).trans (ocF kb3))).symm) (RR_mk (by first | exact e8 | exact (kp2 8 (by decide)).trans e8) (by first | exact e10 | exact (kp2 10 (by decide)).trans e10) (by first | exact e33 | exact (kp2 33 (by decide)).trans e33) (by first | exact e38 | exact (kp2 38 (by decide)).trans e38) (by first | exact e44 | exact (kp2 44 (by decide)).trans e44) (by first | exact e53 | exact (kp2 53 (by decide)).trans e53) (by first | exact tr | exact tell_kp (by exact tr) kp2) pi ni (by first | exact li | exact li2) rrf rtp htp rrd rse phl phi rim rco ht nM nsn)), (by repeat (first | exact fun _ _ => rfl | refine frr_up ?_ (by decide)))⟩
          | exact ⟨rfl, ⟨_, rfl, fun _ => rfl⟩, (RefC_mk (g := gn) rfl (by exact c69) (by exact c70) (by exact c71) (by exact c72) (by exact c73) (by exact c74) (by exact c75) (by exact c76) rfl rfl (by exact c79) (by exact c80) (by exact c81) (by exact c82) (by exact c83) (by exact c84) rfl (by exact c86) (by exact c87) rfl (by exact c89) (by exact c90) (by exact c91) (by exact c92) (by exact c93) (by exact c94) (by exact c95) (by first | exact (hz0.trans (congrArg (fun n : Nat => (n : Int)) ((ocT kb1).trans ((ocT kb2).trans ((ocT kb3).trans ocE))).symm)) | exact (kp2 0 (by decide)).trans (hz0.trans (congrArg (fun n : Nat => (n : Int)) ((ocT kb1).trans ((ocT kb2).trans ((ocT kb3).trans ocE))).symm))) (RR_mk (by first | exact e8 | exact (kp2 8 (by decide)).trans e8) (by first | exact e10 | exact (kp2 10 (by decide)).trans e10) (by first | exact e33 | exact (kp2 33 (by decide)).trans e33) (by first | exact e38 | exact (kp2 38 (by decide)).trans e38) (by first | exact e44 | exact (kp2 44 (by decide)).trans e44) (by first | exact e53 | exact (kp2 53 (by decide)).trans e53) (by first | exact tr | exact tell_kp (by exact tr) kp2) pi ni (by first | exact li | exact li2) rrf rtp htp rrd rse phl phi rim rco ht nM nsn)), (by repeat (first | exact fun _ _ => rfl | refine frr_up ?_ (by decide)))⟩
      · obtain rfl := hh.symm
        refine ⟨rfl, ?_⟩
        dsimp only [Option.toList, List.cons_append, List.nil_append]
        refine r_if_eq (tgt := 42) dX9_lawful_30 (by decide) ⟨by omega, by omega⟩ (fun g30 => ?_) (fun g30 => absurd g30 (by omega))
        refine r_iconst dX9_lawful_42 ?_
        refine r_iret dX9_lawful_43 ?_
        first
          | exact ⟨rfl, ⟨0, rfl, fun z => absurd ((ocF kb1).symm.trans z) (by decide)⟩, (RefC_mk (g := (va_up (va_up g 0 z0) 0 2)) rfl (by exact c69) (by exact c70) (by exact c71) (by exact c72) (by exact c73) (by exact c74) (by exact c75) (by exact c76) (by exact c77) (by exact c78) (by exact c79) (by exact c80) (by exact c81) (by exact c82) (by exact c83) (by exact c84) (by exact c85) (by exact c86) (by exact c87) (by exact c88) (by exact c89) (by exact c90) (by exact c91) (by exact c92) (by exact c93) (by exact c94) (by exact c95) (congrArg (fun n : Nat => (n : Int)) (ocF kb1).symm) (RR_mk (by first | exact e8 | exact (kp2 8 (by decide)).trans e8) (by first | exact e10 | exact (kp2 10 (by decide)).trans e10) (by first | exact e33 | exact (kp2 33 (by decide)).trans e33) (by first | exact e38 | exact (kp2 38 (by decide)).trans e38) (by first | exact e44 | exact (kp2 44 (by decide)).trans e44) (by first | exact e53 | exact (kp2 53 (by decide)).trans e53) (by first | exact tr | exact tell_kp (by exact tr) kp2) pi ni (by first | exact li | exact li2) rrf rtp htp rrd rse phl phi rim rco ht nM nsn)), (by repeat (first | exact fun _ _ => rfl | refine frr_up ?_ (by decide)))⟩
          | exact ⟨rfl, ⟨0, rfl, fun z => absurd (((ocT kb1).trans (ocF kb2)).symm.trans z) (by decide)⟩, (RefC_mk (g := (va_up (va_up g 0 z0) 0 2)) rfl (by exact c69) (by exact c70) (by exact c71) (by exact c72) (by exact c73) (by exact c74) (by exact c75) (by exact c76) (by exact c77) (by exact c78) (by exact c79) (by exact c80) (by exact c81) (by exact c82) (by exact c83) (by exact c84) (by exact c85) (by exact c86) (by exact c87) (by exact c88) (by exact c89) (by exact c90) (by exact c91) (by exact c92) (by exact c93) (by exact c94) (by exact c95) (congrArg (fun n : Nat => (n : Int)) ((ocT kb1).trans (ocF kb2)).symm) (RR_mk (by first | exact e8 | exact (kp2 8 (by decide)).trans e8) (by first | exact e10 | exact (kp2 10 (by decide)).trans e10) (by first | exact e33 | exact (kp2 33 (by decide)).trans e33) (by first | exact e38 | exact (kp2 38 (by decide)).trans e38) (by first | exact e44 | exact (kp2 44 (by decide)).trans e44) (by first | exact e53 | exact (kp2 53 (by decide)).trans e53) (by first | exact tr | exact tell_kp (by exact tr) kp2) pi ni (by first | exact li | exact li2) rrf rtp htp rrd rse phl phi rim rco ht nM nsn)), (by repeat (first | exact fun _ _ => rfl | refine frr_up ?_ (by decide)))⟩
          | exact ⟨rfl, ⟨0, rfl, fun z => absurd (((ocT kb1).trans ((ocT kb2).trans (ocF kb3))).symm.trans z) (by decide)⟩, (RefC_mk (g := (va_up (va_up g 0 z0) 0 2)) rfl (by exact c69) (by exact c70) (by exact c71) (by exact c72) (by exact c73) (by exact c74) (by exact c75) (by exact c76) (by exact c77) (by exact c78) (by exact c79) (by exact c80) (by exact c81) (by exact c82) (by exact c83) (by exact c84) (by exact c85) (by exact c86) (by exact c87) (by exact c88) (by exact c89) (by exact c90) (by exact c91) (by exact c92) (by exact c93) (by exact c94) (by exact c95) (congrArg (fun n : Nat => (n : Int)) ((ocT kb1).trans ((ocT kb2).trans (ocF kb3))).symm) (RR_mk (by first | exact e8 | exact (kp2 8 (by decide)).trans e8) (by first | exact e10 | exact (kp2 10 (by decide)).trans e10) (by first | exact e33 | exact (kp2 33 (by decide)).trans e33) (by first | exact e38 | exact (kp2 38 (by decide)).trans e38) (by first | exact e44 | exact (kp2 44 (by decide)).trans e44) (by first | exact e53 | exact (kp2 53 (by decide)).trans e53) (by first | exact tr | exact tell_kp (by exact tr) kp2) pi ni (by first | exact li | exact li2) rrf rtp htp rrd rse phl phi rim rco ht nM nsn)), (by repeat (first | exact fun _ _ => rfl | refine frr_up ?_ (by decide)))⟩
          | exact ⟨rfl, ⟨_, rfl, fun _ => rfl⟩, (RefC_mk (g := (va_up (va_up g 0 z0) 0 2)) rfl (by exact c69) (by exact c70) (by exact c71) (by exact c72) (by exact c73) (by exact c74) (by exact c75) (by exact c76) (by exact c77) (by exact c78) (by exact c79) (by exact c80) (by exact c81) (by exact c82) (by exact c83) (by exact c84) (by exact c85) (by exact c86) (by exact c87) (by exact c88) (by exact c89) (by exact c90) (by exact c91) (by exact c92) (by exact c93) (by exact c94) (by exact c95) (by first | exact (hz0.trans (congrArg (fun n : Nat => (n : Int)) ((ocT kb1).trans ((ocT kb2).trans ((ocT kb3).trans ocE))).symm)) | exact (kp2 0 (by decide)).trans (hz0.trans (congrArg (fun n : Nat => (n : Int)) ((ocT kb1).trans ((ocT kb2).trans ((ocT kb3).trans ocE))).symm))) (RR_mk (by first | exact e8 | exact (kp2 8 (by decide)).trans e8) (by first | exact e10 | exact (kp2 10 (by decide)).trans e10) (by first | exact e33 | exact (kp2 33 (by decide)).trans e33) (by first | exact e38 | exact (kp2 38 (by decide)).trans e38) (by first | exact e44 | exact (kp2 44 (by decide)).trans e44) (by first | exact e53 | exact (kp2 53 (by decide)).trans e53) (by first | exact tr | exact tell_kp (by exact tr) kp2) pi ni (by first | exact li | exact li2) rrf rtp htp rrd rse phl phi rim rco ht nM nsn)), (by repeat (first | exact fun _ _ => rfl | refine frr_up ?_ (by decide)))⟩
    · obtain rfl := hh.symm
      refine ⟨rfl, ?_⟩
      dsimp only [Option.toList, List.cons_append, List.nil_append]
      refine r_if_eq (tgt := 42) dX9_lawful_18 (by decide) ⟨by omega, by omega⟩ (fun g18 => ?_) (fun g18 => absurd g18 (by omega))
      refine r_iconst dX9_lawful_42 ?_
      refine r_iret dX9_lawful_43 ?_
      first
        | exact ⟨rfl, ⟨0, rfl, fun z => absurd ((ocF kb1).symm.trans z) (by decide)⟩, (RefC_mk (g := (va_up (va_up g 0 z0) 0 1)) rfl (by exact c69) (by exact c70) (by exact c71) (by exact c72) (by exact c73) (by exact c74) (by exact c75) (by exact c76) (by exact c77) (by exact c78) (by exact c79) (by exact c80) (by exact c81) (by exact c82) (by exact c83) (by exact c84) (by exact c85) (by exact c86) (by exact c87) (by exact c88) (by exact c89) (by exact c90) (by exact c91) (by exact c92) (by exact c93) (by exact c94) (by exact c95) (congrArg (fun n : Nat => (n : Int)) (ocF kb1).symm) (RR_mk (by first | exact e8 | exact (kp2 8 (by decide)).trans e8) (by first | exact e10 | exact (kp2 10 (by decide)).trans e10) (by first | exact e33 | exact (kp2 33 (by decide)).trans e33) (by first | exact e38 | exact (kp2 38 (by decide)).trans e38) (by first | exact e44 | exact (kp2 44 (by decide)).trans e44) (by first | exact e53 | exact (kp2 53 (by decide)).trans e53) (by first | exact tr | exact tell_kp (by exact tr) kp2) pi ni (by first | exact li | exact li2) rrf rtp htp rrd rse phl phi rim rco ht nM nsn)), (by repeat (first | exact fun _ _ => rfl | refine frr_up ?_ (by decide)))⟩
        | exact ⟨rfl, ⟨0, rfl, fun z => absurd (((ocT kb1).trans (ocF kb2)).symm.trans z) (by decide)⟩, (RefC_mk (g := (va_up (va_up g 0 z0) 0 1)) rfl (by exact c69) (by exact c70) (by exact c71) (by exact c72) (by exact c73) (by exact c74) (by exact c75) (by exact c76) (by exact c77) (by exact c78) (by exact c79) (by exact c80) (by exact c81) (by exact c82) (by exact c83) (by exact c84) (by exact c85) (by exact c86) (by exact c87) (by exact c88) (by exact c89) (by exact c90) (by exact c91) (by exact c92) (by exact c93) (by exact c94) (by exact c95) (congrArg (fun n : Nat => (n : Int)) ((ocT kb1).trans (ocF kb2)).symm) (RR_mk (by first | exact e8 | exact (kp2 8 (by decide)).trans e8) (by first | exact e10 | exact (kp2 10 (by decide)).trans e10) (by first | exact e33 | exact (kp2 33 (by decide)).trans e33) (by first | exact e38 | exact (kp2 38 (by decide)).trans e38) (by first | exact e44 | exact (kp2 44 (by decide)).trans e44) (by first | exact e53 | exact (kp2 53 (by decide)).trans e53) (by first | exact tr | exact tell_kp (by exact tr) kp2) pi ni (by first | exact li | exact li2) rrf rtp htp rrd rse phl phi rim rco ht nM nsn)), (by repeat (first | exact fun _ _ => rfl | refine frr_up ?_ (by decide)))⟩
        | exact ⟨rfl, ⟨0, rfl, fun z => absurd (((ocT kb1).trans ((ocT kb2).trans (ocF kb3))).symm.trans z) (by decide)⟩, (RefC_mk (g := (va_up (va_up g 0 z0) 0 1)) rfl (by exact c69) (by exact c70) (by exact c71) (by exact c72) (by exact c73) (by exact c74) (by exact c75) (by exact c76) (by exact c77) (by exact c78) (by exact c79) (by exact c80) (by exact c81) (by exact c82) (by exact c83) (by exact c84) (by exact c85) (by exact c86) (by exact c87) (by exact c88) (by exact c89) (by exact c90) (by exact c91) (by exact c92) (by exact c93) (by exact c94) (by exact c95) (congrArg (fun n : Nat => (n : Int)) ((ocT kb1).trans ((ocT kb2).trans (ocF kb3))).symm) (RR_mk (by first | exact e8 | exact (kp2 8 (by decide)).trans e8) (by first | exact e10 | exact (kp2 10 (by decide)).trans e10) (by first | exact e33 | exact (kp2 33 (by decide)).trans e33) (by first | exact e38 | exact (kp2 38 (by decide)).trans e38) (by first | exact e44 | exact (kp2 44 (by decide)).trans e44) (by first | exact e53 | exact (kp2 53 (by decide)).trans e53) (by first | exact tr | exact tell_kp (by exact tr) kp2) pi ni (by first | exact li | exact li2) rrf rtp htp rrd rse phl phi rim rco ht nM nsn)), (by repeat (first | exact fun _ _ => rfl | refine frr_up ?_ (by decide)))⟩
        | exact ⟨rfl, ⟨_, rfl, fun _ => rfl⟩, (RefC_mk (g := (va_up (va_up g 0 z0) 0 1)) rfl (by exact c69) (by exact c70) (by exact c71) (by exact c72) (by exact c73) (by exact c74) (by exact c75) (by exact c76) (by exact c77) (by exact c78) (by exact c79) (by exact c80) (by exact c81) (by exact c82) (by exact c83) (by exact c84) (by exact c85) (by exact c86) (by exact c87) (by exact c88) (by exact c89) (by exact c90) (by exact c91) (by exact c92) (by exact c93) (by exact c94) (by exact c95) (by first | exact (hz0.trans (congrArg (fun n : Nat => (n : Int)) ((ocT kb1).trans ((ocT kb2).trans ((ocT kb3).trans ocE))).symm)) | exact (kp2 0 (by decide)).trans (hz0.trans (congrArg (fun n : Nat => (n : Int)) ((ocT kb1).trans ((ocT kb2).trans ((ocT kb3).trans ocE))).symm))) (RR_mk (by first | exact e8 | exact (kp2 8 (by decide)).trans e8) (by first | exact e10 | exact (kp2 10 (by decide)).trans e10) (by first | exact e33 | exact (kp2 33 (by decide)).trans e33) (by first | exact e38 | exact (kp2 38 (by decide)).trans e38) (by first | exact e44 | exact (kp2 44 (by decide)).trans e44) (by first | exact e53 | exact (kp2 53 (by decide)).trans e53) (by first | exact tr | exact tell_kp (by exact tr) kp2) pi ni (by first | exact li | exact li2) rrf rtp htp rrd rse phl phi rim rco ht nM nsn)), (by repeat (first | exact fun _ _ => rfl | refine frr_up ?_ (by decide)))⟩
  · obtain rfl := hh.symm
    refine ⟨rfl, ?_⟩
    dsimp only [Option.toList, List.cons_append, List.nil_append]
    refine r_if_eq (tgt := 42) dX9_lawful_10 (by decide) ⟨by omega, by omega⟩ (fun g10 => ?_) (fun g10 => absurd g10 (by omega))
    refine r_iconst dX9_lawful_42 ?_
    refine r_iret dX9_lawful_43 ?_
    first
      | exact ⟨rfl, ⟨0, rfl, fun z => absurd ((ocF kb1).symm.trans z) (by decide)⟩, (RefC_mk (g := (va_up (va_up g 0 z0) 0 1)) rfl (by exact c69) (by exact c70) (by exact c71) (by exact c72) (by exact c73) (by exact c74) (by exact c75) (by exact c76) (by exact c77) (by exact c78) (by exact c79) (by exact c80) (by exact c81) (by exact c82) (by exact c83) (by exact c84) (by exact c85) (by exact c86) (by exact c87) (by exact c88) (by exact c89) (by exact c90) (by exact c91) (by exact c92) (by exact c93) (by exact c94) (by exact c95) (congrArg (fun n : Nat => (n : Int)) (ocF kb1).symm) (RR_mk (by first | exact e8 | exact (kp2 8 (by decide)).trans e8) (by first | exact e10 | exact (kp2 10 (by decide)).trans e10) (by first | exact e33 | exact (kp2 33 (by decide)).trans e33) (by first | exact e38 | exact (kp2 38 (by decide)).trans e38) (by first | exact e44 | exact (kp2 44 (by decide)).trans e44) (by first | exact e53 | exact (kp2 53 (by decide)).trans e53) (by first | exact tr | exact tell_kp (by exact tr) kp2) pi ni (by first | exact li | exact li2) rrf rtp htp rrd rse phl phi rim rco ht nM nsn)), (by repeat (first | exact fun _ _ => rfl | refine frr_up ?_ (by decide)))⟩
      | exact ⟨rfl, ⟨0, rfl, fun z => absurd (((ocT kb1).trans (ocF kb2)).symm.trans z) (by decide)⟩, (RefC_mk (g := (va_up (va_up g 0 z0) 0 1)) rfl (by exact c69) (by exact c70) (by exact c71) (by exact c72) (by exact c73) (by exact c74) (by exact c75) (by exact c76) (by exact c77) (by exact c78) (by exact c79) (by exact c80) (by exact c81) (by exact c82) (by exact c83) (by exact c84) (by exact c85) (by exact c86) (by exact c87) (by exact c88) (by exact c89) (by exact c90) (by exact c91) (by exact c92) (by exact c93) (by exact c94) (by exact c95) (congrArg (fun n : Nat => (n : Int)) ((ocT kb1).trans (ocF kb2)).symm) (RR_mk (by first | exact e8 | exact (kp2 8 (by decide)).trans e8) (by first | exact e10 | exact (kp2 10 (by decide)).trans e10) (by first | exact e33 | exact (kp2 33 (by decide)).trans e33) (by first | exact e38 | exact (kp2 38 (by decide)).trans e38) (by first | exact e44 | exact (kp2 44 (by decide)).trans e44) (by first | exact e53 | exact (kp2 53 (by decide)).trans e53) (by first | exact tr | exact tell_kp (by exact tr) kp2) pi ni (by first | exact li | exact li2) rrf rtp htp rrd rse phl phi rim rco ht nM nsn)), (by repeat (first | exact fun _ _ => rfl | refine frr_up ?_ (by decide)))⟩
      | exact ⟨rfl, ⟨0, rfl, fun z => absurd (((ocT kb1).trans ((ocT kb2).trans (ocF kb3))).symm.trans z) (by decide)⟩, (RefC_mk (g := (va_up (va_up g 0 z0) 0 1)) rfl (by exact c69) (by exact c70) (by exact c71) (by exact c72) (by exact c73) (by exact c74) (by exact c75) (by exact c76) (by exact c77) (by exact c78) (by exact c79) (by exact c80) (by exact c81) (by exact c82) (by exact c83) (by exact c84) (by exact c85) (by exact c86) (by exact c87) (by exact c88) (by exact c89) (by exact c90) (by exact c91) (by exact c92) (by exact c93) (by exact c94) (by exact c95) (congrArg (fun n : Nat => (n : Int)) ((ocT kb1).trans ((ocT kb2).trans (ocF kb3))).symm) (RR_mk (by first | exact e8 | exact (kp2 8 (by decide)).trans e8) (by first | exact e10 | exact (kp2 10 (by decide)).trans e10) (by first | exact e33 | exact (kp2 33 (by decide)).trans e33) (by first | exact e38 | exact (kp2 38 (by decide)).trans e38) (by first | exact e44 | exact (kp2 44 (by decide)).trans e44) (by first | exact e53 | exact (kp2 53 (by decide)).trans e53) (by first | exact tr | exact tell_kp (by exact tr) kp2) pi ni (by first | exact li | exact li2) rrf rtp htp rrd rse phl phi rim rco ht nM nsn)), (by repeat (first | exact fun _ _ => rfl | refine frr_up ?_ (by decide)))⟩
      | exact ⟨rfl, ⟨_, rfl, fun _ => rfl⟩, (RefC_mk (g := (va_up (va_up g 0 z0) 0 1)) rfl (by exact c69) (by exact c70) (by exact c71) (by exact c72) (by exact c73) (by exact c74) (by exact c75) (by exact c76) (by exact c77) (by exact c78) (by exact c79) (by exact c80) (by exact c81) (by exact c82) (by exact c83) (by exact c84) (by exact c85) (by exact c86) (by exact c87) (by exact c88) (by exact c89) (by exact c90) (by exact c91) (by exact c92) (by exact c93) (by exact c94) (by exact c95) (by first | exact (hz0.trans (congrArg (fun n : Nat => (n : Int)) ((ocT kb1).trans ((ocT kb2).trans ((ocT kb3).trans ocE))).symm)) | exact (kp2 0 (by decide)).trans (hz0.trans (congrArg (fun n : Nat => (n : Int)) ((ocT kb1).trans ((ocT kb2).trans ((ocT kb3).trans ocE))).symm))) (RR_mk (by first | exact e8 | exact (kp2 8 (by decide)).trans e8) (by first | exact e10 | exact (kp2 10 (by decide)).trans e10) (by first | exact e33 | exact (kp2 33 (by decide)).trans e33) (by first | exact e38 | exact (kp2 38 (by decide)).trans e38) (by first | exact e44 | exact (kp2 44 (by decide)).trans e44) (by first | exact e53 | exact (kp2 53 (by decide)).trans e53) (by first | exact tr | exact tell_kp (by exact tr) kp2) pi ni (by first | exact li | exact li2) rrf rtp htp rrd rse phl phi rim rco ht nM nsn)), (by repeat (first | exact fun _ _ => rfl | refine frr_up ?_ (by decide)))⟩

theorem btn_s (f : Nat → Int) (to m : Int) (k : Nat) : btnI f to m (k + 1) = (btnI f to m k || decide (f k ≠ -1 ∧ wrongI (f k) m < mostI to m)) := by
  unfold btnI
  rw [Bool.eq_iff_iff, Bool.or_eq_true, decide_eq_true_eq, decide_eq_true_eq, decide_eq_true_eq]
  constructor
  · rintro ⟨j, hj, h⟩
    by_cases q : j = k
    · subst q; exact Or.inr h
    · exact Or.inl ⟨j, by omega, h⟩
  · rintro (⟨j, hj, h⟩ | h)
    · exact ⟨j, by omega, h⟩
    · exact ⟨k, by omega, h⟩
theorem btn_0 (f : Nat → Int) (to m : Int) : btnI f to m 0 = false := by
  unfold btnI
  rw [decide_eq_false_iff_not]
  rintro ⟨j, hj, _⟩
  exact absurd hj (Nat.not_lt_zero j)

theorem l_X9_jdial {h : aH} {w : Int} {dl cl lm mn : Nat → Int} (c69 : h 69 = .inl (0, 45, dl)) (c70 : h 70 = .inl (0, 60, cl)) (c71 : h 71 = .inl (0, 12, lm)) (c79 : h 79 = .inl (0, 120, mn)) {nd sw nc nm : Int} {K U I O G L cf ct fc nx cd md my mt : Nat → Int} (pi : PInv nd sw nc K U I O G L cf ct fc nx cd) {g : Nat → Int} {day : Int} (hd : 0 ≤ day ∧ day < 365) {m : Int} (hm : 0 ≤ m ∧ m < 1440) {Q : Option Value → Nat → aH → Prop} {row pl : Nat → Int} {w_ n al wd mo be v its : Int} {nf : Nat → Int} (hnf : ∀ j : Nat, nowI sw nc nm K U I O G L cf ct cd md my mt ((j : Nat) : Int) day m = nf j) (hv : -1 ≤ v ∧ v < 1440) (hits : its = mostI v m) (kk : ∀ gg lt lgt : Nat → Int, TellR gg dl cl lm mn nd sw nc nm K U I O G L cf ct cd md my mt → LitR (gg 30) lt lgt sw nc L cf ct cd → (∀ k, k ≠ 30 → gg k = g k) → Ev RX9 "judged" cX9_judged 14 (some .int) 7 0 0 Q noX 97 (UT (va_up (va_up h 85 (.inl (0, 9, row))) 88 (.inl (0, 800, pl))) gg w lt lgt) 151 [(0, .ref 68), (1, iv m), (2, iv w_), (3, iv n), (4, iv al), (5, iv wd), (6, iv mo), (7, iv be), (8, iv day), (9, iv v), (10, iv its), (11, iv (b2i (!btnI nf v m nd.toNat))), (12, iv (nd.toNat : Nat))] []) : ∀ (k j : Nat) (gg lt lgt : Nat → Int), j + k = nd.toNat → TellR gg dl cl lm mn nd sw nc nm K U I O G L cf ct cd md my mt → LitR (gg 30) lt lgt sw nc L cf ct cd → (∀ k, k ≠ 30 → gg k = g k) → Ev RX9 "judged" cX9_judged 14 (some .int) 7 0 0 Q noX 97 (UT (va_up (va_up h 85 (.inl (0, 9, row))) 88 (.inl (0, 800, pl))) gg w lt lgt) 96 [(0, .ref 68), (1, iv m), (2, iv w_), (3, iv n), (4, iv al), (5, iv wd), (6, iv mo), (7, iv be), (8, iv day), (9, iv v), (10, iv its), (11, iv (b2i (!btnI nf v m j))), (12, iv (j : Nat))] [] := by
  obtain ⟨pnd, psw, pnc, pK, pU, pI, pO, pG, pL, pcf, pct, pfc, pnx⟩ := id pi
  have bit : 0 ≤ its ∧ its ≤ 1440 := by
    rw [hits]
    unfold mostI
    split
    · exact ⟨by decide, by decide⟩
    · have := wrong_B (a := v) (b := m) (by omega) hm
      omega
  intro k
  induction k with
  | zero =>
    intro j gg lt lgt hj trg lig kp
    obtain rfl : j = nd.toNat := by omega
    have t1 := trg.1
    refine r_iload dX9_judged_96 rfl ?_
    refine r_aload_n dX9_judged_98 rfl rfl ?_
    refine r_getR (z := (gg 1)) dX9_judged_99 fl_X9_214 (by decide) rfl rfl ?_
    refine r_icmp_ge (tgt := 151) dX9_judged_102 (by decide) ⟨by omega, by omega⟩ ⟨by omega, by omega⟩ (fun g102 => ?_) (fun g102 => absurd g102 (by omega))
    exact kk gg lt lgt trg lig kp
  | succ k ih =>
    intro j gg lt lgt hj trg lig kp
    have t1 := trg.1
    have bnf := now_B sw nc nm K U I O G L cf ct cd md my mt ((j : Nat) : Int) day m
    have b11 := b2i_01 (!btnI nf v m j)
    have hnj := hnf j
    have bw : ¬ nf j = -1 → 0 ≤ wrongI (nf j) m ∧ wrongI (nf j) m ≤ 720 := fun q => wrong_B (by omega) hm
    have hi := ih (j + 1)
    rw [btn_s] at hi
    refine r_iload dX9_judged_96 rfl ?_
    refine r_aload_n dX9_judged_98 rfl rfl ?_
    refine r_getR (z := (gg 1)) dX9_judged_99 fl_X9_214 (by decide) rfl rfl ?_
    refine r_icmp_ge (tgt := 151) dX9_judged_102 (by decide) ⟨by omega, by omega⟩ ⟨by omega, by omega⟩ (fun g102 => absurd g102 (by omega)) (fun g102 => ?_)
    refine r_aload_n dX9_judged_105 rfl rfl ?_
    refine r_iload dX9_judged_106 rfl ?_
    refine r_iload dX9_judged_108 rfl ?_
    refine r_iload_n dX9_judged_110 rfl rfl ?_
    refine r_callV 68 [_, _, _] (s_X9_tellsNow (g := gg) (by rfl) (by exact c69) (by exact c70) (by exact c71) (by rfl) (by rfl) (by exact c79) trg pi lig (by omega) (by omega) (by omega)) dX9_judged_111 cs_X9_278 im_X9_tellsNow (by decide) rfl rfl (by decide) (by decide) (by decide) rfl rfl (Nat.le_of_ble_eq_true rfl) (fun _ _ _ q => q.elim) (fun v n2 h2 q => ?_)
    obtain ⟨rfl, rfl, gn, lt2, lg2, rfl, li2, kp2⟩ := q
    rw [ut_ut]
    have tr2 := tell_kp trg kp2
    rw [hnj]
    refine ⟨rfl, ?_⟩
    dsimp only [Option.toList, List.cons_append, List.nil_append]
    refine r_istore (lv2 := [(0, _), (1, _), (2, _), (3, _), (4, _), (5, _), (6, _), (7, _), (8, _), (9, _), (10, _), (11, _), (12, _), (13, _)]) dX9_judged_114 (by decide) rfl rfl ?_
    refine r_iload dX9_judged_116 rfl ?_
    refine r_if_eq (tgt := 142) dX9_judged_118 (by decide) ⟨by omega, by omega⟩ (fun g118 => ?_) (fun g118 => ?_)
    · refine r_iconst dX9_judged_142 ?_
      refine r_istore (lv2 := [(0, _), (1, _), (2, _), (3, _), (4, _), (5, _), (6, _), (7, _), (8, _), (9, _), (10, _), (11, _), (12, _), (13, _)]) dX9_judged_143 (by decide) rfl rfl ?_
      refine r_iinc (lv2 := [(0, _), (1, _), (2, _), (3, _), (4, _), (5, _), (6, _), (7, _), (8, _), (9, _), (10, _), (11, _), (12, _), (13, _)]) dX9_judged_145 (by decide) rfl rfl rfl ?_
      refine r_goto (tgt := 96) dX9_judged_148 (by decide) ?_
      refine r_lv (lv2 := [(0, _), (1, _), (2, _), (3, _), (4, _), (5, _), (6, _), (7, _), (8, _), (9, _), (10, _), (11, _), (12, _)]) rfl ?_
      rw [show (j : Int) + 1 = ((j + 1 : Nat) : Int) by omega]
      rw [b2i_0, Bool.not_eq_false'] at g118
      rw [g118, Bool.true_or, show b2i (!true) = 0 from rfl] at hi
      exact hi gn lt2 lg2 (by omega) tr2 li2 (fun k hk => (kp2 k hk).trans (kp k hk))
    · refine r_iload dX9_judged_121 rfl ?_
      refine r_iconst dX9_judged_123 ?_
      refine r_icmp_eq (tgt := 138) dX9_judged_124 (by decide) ⟨by omega, by omega⟩ ⟨by omega, by omega⟩ (fun g124 => ?_) (fun g124 => ?_)
      · refine r_iconst dX9_judged_138 ?_
        refine r_goto (tgt := 143) dX9_judged_139 (by decide) ?_
        refine r_istore (lv2 := [(0, _), (1, _), (2, _), (3, _), (4, _), (5, _), (6, _), (7, _), (8, _), (9, _), (10, _), (11, _), (12, _), (13, _)]) dX9_judged_143 (by decide) rfl rfl ?_
        refine r_iinc (lv2 := [(0, _), (1, _), (2, _), (3, _), (4, _), (5, _), (6, _), (7, _), (8, _), (9, _), (10, _), (11, _), (12, _), (13, _)]) dX9_judged_145 (by decide) rfl rfl rfl ?_
        refine r_goto (tgt := 96) dX9_judged_148 (by decide) ?_
        refine r_lv (lv2 := [(0, _), (1, _), (2, _), (3, _), (4, _), (5, _), (6, _), (7, _), (8, _), (9, _), (10, _), (11, _), (12, _)]) rfl ?_
        rw [show (j : Int) + 1 = ((j + 1 : Nat) : Int) by omega]
        have g118b : btnI nf v m j = false := by
          cases hq : btnI nf v m j
          · rfl
          · rw [hq] at g118; exact absurd rfl g118
        rw [g118b, decide_eq_false (by omega), show b2i (!(false || false)) = 1 from rfl] at hi
        exact hi gn lt2 lg2 (by omega) tr2 li2 (fun k hk => (kp2 k hk).trans (kp k hk))
      · refine r_iload dX9_judged_127 rfl ?_
        refine r_iload_n dX9_judged_129 rfl rfl ?_
        refine r_callS [_, _] (s_X9_wrongBy (by omega) hm) dX9_judged_130 cs_X9_307 sm_X9_wrongBy (by decide) (by decide) (by decide) rfl rfl (Nat.le_of_ble_eq_true rfl) (fun _ _ _ q => q.elim) (fun v n2 h2 q => ?_)
        obtain ⟨rfl, rfl, hh⟩ := q
        obtain rfl := hh.symm
        have bw2 := bw (by omega)
        refine ⟨rfl, ?_⟩
        dsimp only [Option.toList, List.cons_append, List.nil_append]
        refine r_iload dX9_judged_133 rfl ?_
        refine r_icmp_lt (tgt := 142) dX9_judged_135 (by decide) ⟨by omega, by omega⟩ ⟨by omega, by omega⟩ (fun g135 => ?_) (fun g135 => ?_)
        · refine r_iconst dX9_judged_142 ?_
          refine r_istore (lv2 := [(0, _), (1, _), (2, _), (3, _), (4, _), (5, _), (6, _), (7, _), (8, _), (9, _), (10, _), (11, _), (12, _), (13, _)]) dX9_judged_143 (by decide) rfl rfl ?_
          refine r_iinc (lv2 := [(0, _), (1, _), (2, _), (3, _), (4, _), (5, _), (6, _), (7, _), (8, _), (9, _), (10, _), (11, _), (12, _), (13, _)]) dX9_judged_145 (by decide) rfl rfl rfl ?_
          refine r_goto (tgt := 96) dX9_judged_148 (by decide) ?_
          refine r_lv (lv2 := [(0, _), (1, _), (2, _), (3, _), (4, _), (5, _), (6, _), (7, _), (8, _), (9, _), (10, _), (11, _), (12, _)]) rfl ?_
          rw [show (j : Int) + 1 = ((j + 1 : Nat) : Int) by omega]
          have g118b : btnI nf v m j = false := by
            cases hq : btnI nf v m j
            · rfl
            · rw [hq] at g118; exact absurd rfl g118
          rw [g118b, decide_eq_true ⟨by omega, by omega⟩, show b2i (!(false || true)) = 0 from rfl] at hi
          exact hi gn lt2 lg2 (by omega) tr2 li2 (fun k hk => (kp2 k hk).trans (kp k hk))
        · refine r_iconst dX9_judged_138 ?_
          refine r_goto (tgt := 143) dX9_judged_139 (by decide) ?_
          refine r_istore (lv2 := [(0, _), (1, _), (2, _), (3, _), (4, _), (5, _), (6, _), (7, _), (8, _), (9, _), (10, _), (11, _), (12, _), (13, _)]) dX9_judged_143 (by decide) rfl rfl ?_
          refine r_iinc (lv2 := [(0, _), (1, _), (2, _), (3, _), (4, _), (5, _), (6, _), (7, _), (8, _), (9, _), (10, _), (11, _), (12, _), (13, _)]) dX9_judged_145 (by decide) rfl rfl rfl ?_
          refine r_goto (tgt := 96) dX9_judged_148 (by decide) ?_
          refine r_lv (lv2 := [(0, _), (1, _), (2, _), (3, _), (4, _), (5, _), (6, _), (7, _), (8, _), (9, _), (10, _), (11, _), (12, _)]) rfl ?_
          rw [show (j : Int) + 1 = ((j + 1 : Nat) : Int) by omega]
          have g118b : btnI nf v m j = false := by
            cases hq : btnI nf v m j
            · rfl
            · rw [hq] at g118; exact absurd rfl g118
          rw [g118b, decide_eq_false (by omega), show b2i (!(false || false)) = 1 from rfl] at hi
          exact hi gn lt2 lg2 (by omega) tr2 li2 (fun k hk => (kp2 k hk).trans (kp k hk))

theorem ut_5858 (h : aH) (a b c d : aE) (g g2 : Nat → Int) (w w2 : Int) (lt lgt l3 l4 : Nat → Int) : UT (va_up (va_up (UT (va_up (va_up h 85 a) 88 b) g w lt lgt) 85 c) 88 d) g2 w2 l3 l4 = UT (va_up (va_up h 85 c) 88 d) g2 w2 l3 l4 := by
  funext j
  unfold UT va_up
  by_cases q1 : j = 78
  · simp [q1]
  · by_cases q2 : j = 77
    · simp [q2]
    · by_cases q3 : j = 68
      · simp [q3]
      · by_cases q4 : j = 85
        · simp [q4]
        · by_cases q5 : j = 88
          · simp [q5]
          · simp [q1, q2, q3, q4, q5]

theorem l_X9_judged {h : aH} {w : Int} {dl cl lm mn : Nat → Int} (c69 : h 69 = .inl (0, 45, dl)) (c70 : h 70 = .inl (0, 60, cl)) (c71 : h 71 = .inl (0, 12, lm)) (c79 : h 79 = .inl (0, 120, mn)) {nd sw nc nm : Int} {K U I O G L cf ct fc nx cd md my mt : Nat → Int} (pi : PInv nd sw nc K U I O G L cf ct fc nx cd) {cod : Nat → Int} (c86 : h 86 = .inl (0, 1500, cod)) {ls : LSm} (hls : CodR nd cod ls) (hLo : ∀ (tf : Nat → Int) (mo : Int), (∀ j, -1 ≤ tf j ∧ tf j < 1440) → (0 ≤ mo ∧ mo ≤ 11) → -1 ≤ ls tf mo ∧ ls tf mo < 1440) {g : Nat → Int}  {m : Int} (hm : 0 ≤ m ∧ m < 1440) {Q : Option Value → Nat → aH → Prop} {w_ : Int} {V : Int → Int} (hV : V = (fun d => ls (fun j => nowI sw nc nm K U I O G L cf ct cd md my mt ((j : Nat) : Int) d m) (d / 31))) {F : Int → Nat → Int} (hF : F = (fun d j => nowI sw nc nm K U I O G L cf ct cd md my mt ((j : Nat) : Int) d m)) (kk : ∀ (row pl gg lt lgt : Nat → Int) (mo : Int), TellR gg dl cl lm mn nd sw nc nm K U I O G L cf ct cd md my mt → LitR (gg 30) lt lgt sw nc L cf ct cd → (∀ k, k ≠ 30 → gg k = g k) → ∀ n al wd be : Int, n = (yT V m 365).1 → al = (yT V m 365).2.1 → wd = (yT V m 365).2.2.1 → be = ubS V F m nd.toNat 365 → Ev RX9 "judged" cX9_judged 14 (some .int) 7 0 0 Q noX 97 (UT (va_up (va_up h 85 (.inl (0, 9, row))) 88 (.inl (0, 800, pl))) gg w lt lgt) 215 [(0, .ref 68), (1, iv m), (2, iv w_), (3, iv n), (4, iv al), (5, iv wd), (6, iv mo), (7, iv be), (8, iv 365)] []) : ∀ (k j : Nat) (row pl gg lt lgt : Nat → Int) (n al wd mo be : Int), j + k = 365 → n = (yT V m j).1 → al = (yT V m j).2.1 → wd = (yT V m j).2.2.1 → ((wd = -1 ∧ (yT V m j).2.2.2 = -1 ∧ mo = 0) ∨ ((0 ≤ wd ∧ wd < 365) ∧ (0 ≤ mo ∧ mo ≤ 720) ∧ mo = (yT V m j).2.2.2)) → be = ubS V F m nd.toNat j → TellR gg dl cl lm mn nd sw nc nm K U I O G L cf ct cd md my mt → LitR (gg 30) lt lgt sw nc L cf ct cd → (∀ k, k ≠ 30 → gg k = g k) → Ev RX9 "judged" cX9_judged 14 (some .int) 7 0 0 Q noX 97 (UT (va_up (va_up h 85 (.inl (0, 9, row))) 88 (.inl (0, 800, pl))) gg w lt lgt) 53 [(0, .ref 68), (1, iv m), (2, iv w_), (3, iv n), (4, iv al), (5, iv wd), (6, iv mo), (7, iv be), (8, iv (j : Nat))] [] := by
  obtain ⟨pnd, psw, pnc, pK, pU, pI, pO, pG, pL, pcf, pct, pfc, pnx⟩ := id pi
  intro k
  induction k with
  | zero =>
    intro j row pl gg lt lgt n al wd mo be hj hn ha hw hinv hb trg lig kp
    obtain rfl : j = 365 := by omega
    refine r_iload dX9_judged_53 rfl ?_
    refine r_sipush dX9_judged_55 rfl ?_
    refine r_icmp_ge (tgt := 215) dX9_judged_58 (by decide) ⟨by omega, by omega⟩ ⟨by omega, by omega⟩ (fun g58 => ?_) (fun g58 => absurd g58 (by omega))
    exact kk row pl gg lt lgt mo trg lig kp n al wd be hn ha hw hb
  | succ k ih =>
    intro j row pl gg lt lgt n al wd mo be hj hn ha hw hinv hb trg lig kp
    have hVj : ls (fun i => nowI sw nc nm K U I O G L cf ct cd md my mt ((i : Nat) : Int) (j : Int) m) ((j : Int) / 31) = V j := by rw [hV]
    have bV := hLo (fun i => nowI sw nc nm K U I O G L cf ct cd md my mt ((i : Nat) : Int) (j : Int) m) ((j : Int) / 31) (fun i => now_B sw nc nm K U I O G L cf ct cd md my mt ((i : Nat) : Int) (j : Int) m) (by omega)
    rw [hVj] at bV
    have bw : ¬ V j = -1 → 0 ≤ wrongI (V j) m ∧ wrongI (V j) m ≤ 720 := fun q => wrong_B (by omega) hm
    have ey : yT V m (j + 1) = tAdd (yT V m j) j (V j) m := rfl
    have eu := ubS_s V F m nd.toNat j
    unfold tAdd at ey
    have hFj : ∀ i : Nat, nowI sw nc nm K U I O G L cf ct cd md my mt ((i : Nat) : Int) (j : Int) m = F j i := fun i => by rw [hF]
    have b11 := b2i_01 (!btnI (F j) (V j) m nd.toNat)
    obtain ⟨⟨yl, yw, yd, yv⟩, hy⟩ : ∃ y, yT V m j = y := ⟨_, rfl⟩
    rw [hy] at hn ha hw hinv ey
    dsimp only at hn ha hw hinv ey
    have bwd : -1 ≤ wd ∧ wd < 365 := by omega
    have bmo : 0 ≤ mo ∧ mo ≤ 720 := by omega
    refine r_iload dX9_judged_53 rfl ?_
    refine r_sipush dX9_judged_55 rfl ?_
    refine r_icmp_ge (tgt := 215) dX9_judged_58 (by decide) ⟨by omega, by omega⟩ ⟨by omega, by omega⟩ (fun g58 => absurd g58 (by omega)) (fun g58 => ?_)
    refine r_aload_n dX9_judged_61 rfl rfl ?_
    refine r_iload dX9_judged_62 rfl ?_
    refine r_iload_n dX9_judged_64 rfl rfl ?_
    refine r_callV 68 [_, _] (s_X9_toldBy (g := gg) (by rfl) (by exact c69) (by exact c70) (by exact c71) (by rfl) (by rfl) (by exact c79) trg pi (by rfl) (by exact c86) (by rfl) lig hls (by omega) hm) dX9_judged_65 cs_X9_354 im_X9_toldBy (by decide) rfl rfl (by decide) (by decide) (by decide) rfl rfl (Nat.le_of_ble_eq_true rfl) (fun _ _ _ q => q.elim) (fun v n2 h2 q => ?_)
    obtain ⟨rfl, rfl, rw2, pl2, gn, lt2, lg2, rfl, li2, kp2⟩ := q
    rw [ut_5858, hVj]
    have tr2 := tell_kp trg kp2
    have kp3 : ∀ k, k ≠ 30 → gn k = g k := fun k hk => (kp2 k hk).trans (kp k hk)
    refine ⟨rfl, ?_⟩
    dsimp only [Option.toList, List.cons_append, List.nil_append]
    refine r_istore (lv2 := [(0, _), (1, _), (2, _), (3, _), (4, _), (5, _), (6, _), (7, _), (8, _), (9, _)]) dX9_judged_68 (by decide) rfl rfl ?_
    refine r_iload dX9_judged_70 rfl ?_
    refine r_iconst dX9_judged_72 ?_
    refine r_icmp_ne (tgt := 82) dX9_judged_73 (by decide) ⟨by omega, by omega⟩ ⟨by omega, by omega⟩ (fun g73 => ?_) (fun g73 => ?_)
    · refine r_iload dX9_judged_82 rfl ?_
      refine r_iload_n dX9_judged_84 rfl rfl ?_
      refine r_callS [_, _] (s_X9_wrongBy (by omega) hm) dX9_judged_85 cs_X9_307 sm_X9_wrongBy (by decide) (by decide) (by decide) rfl rfl (Nat.le_of_ble_eq_true rfl) (fun _ _ _ q => q.elim) (fun v n2 h2 q => ?_)
      obtain ⟨rfl, rfl, hh⟩ := q
      obtain rfl := hh.symm
      have bw2 := bw (by omega)
      refine ⟨rfl, ?_⟩
      dsimp only [Option.toList, List.cons_append, List.nil_append]
      refine r_istore (lv2 := [(0, _), (1, _), (2, _), (3, _), (4, _), (5, _), (6, _), (7, _), (8, _), (9, _), (10, _)]) dX9_judged_88 (by decide) rfl rfl ?_
      refine r_iconst dX9_judged_90 ?_
      refine r_istore (lv2 := [(0, _), (1, _), (2, _), (3, _), (4, _), (5, _), (6, _), (7, _), (8, _), (9, _), (10, _), (11, _)]) dX9_judged_91 (by decide) rfl rfl ?_
      refine r_iconst dX9_judged_93 ?_
      refine r_istore (lv2 := [(0, _), (1, _), (2, _), (3, _), (4, _), (5, _), (6, _), (7, _), (8, _), (9, _), (10, _), (11, _), (12, _)]) dX9_judged_94 (by decide) rfl rfl ?_
      rw [show (1 : Int) = b2i (!btnI (F j) (V j) m 0) by rw [btn_0]; rfl]
      refine l_X9_jdial c69 c70 c71 c79 pi (g := g) (day := (j : Int)) (by omega) hm (nf := F j) hFj bV (by unfold mostI; rw [if_neg (by omega)]) (fun gg3 lt3 lgt3 trg lig kp => ?_) nd.toNat 0 gn lt2 lg2 (by omega) tr2 li2 kp3
      refine r_iload dX9_judged_151 rfl ?_
      refine r_iload dX9_judged_153 rfl ?_
      refine r_if_eq (tgt := 162) dX9_judged_155 (by decide) ⟨by omega, by omega⟩ (fun g155 => ?_) (fun g155 => ?_)
      · refine r_iconst dX9_judged_162 ?_
        refine r_iadd dX9_judged_163 ?_
        refine r_istore (lv2 := [(0, _), (1, _), (2, _), (3, _), (4, _), (5, _), (6, _), (7, _), (8, _), (9, _), (10, _), (11, _), (12, _)]) dX9_judged_164 (by decide) rfl rfl ?_
        refine r_iload dX9_judged_166 rfl ?_
        refine r_iconst dX9_judged_168 ?_
        refine r_icmp_ne (tgt := 175) dX9_judged_169 (by decide) ⟨by omega, by omega⟩ ⟨by omega, by omega⟩ (fun g169 => ?_) (fun g169 => absurd g169 (by omega))
        refine r_iinc (lv2 := [(0, _), (1, _), (2, _), (3, _), (4, _), (5, _), (6, _), (7, _), (8, _), (9, _), (10, _), (11, _), (12, _)]) dX9_judged_175 (by decide) rfl rfl rfl ?_
        refine r_iload dX9_judged_178 rfl ?_
        refine r_iload dX9_judged_180 rfl ?_
        refine r_iadd dX9_judged_182 ?_
        refine r_istore (lv2 := [(0, _), (1, _), (2, _), (3, _), (4, _), (5, _), (6, _), (7, _), (8, _), (9, _), (10, _), (11, _), (12, _)]) dX9_judged_183 (by decide) rfl rfl ?_
        refine r_iload dX9_judged_185 rfl ?_
        refine r_iconst dX9_judged_187 ?_
        refine r_icmp_eq (tgt := 201) dX9_judged_188 (by decide) ⟨by omega, by omega⟩ ⟨by omega, by omega⟩ (fun g188 => ?_) (fun g188 => ?_)
        · refine r_iload dX9_judged_201 rfl ?_
          refine r_istore (lv2 := [(0, _), (1, _), (2, _), (3, _), (4, _), (5, _), (6, _), (7, _), (8, _), (9, _), (10, _), (11, _), (12, _)]) dX9_judged_203 (by decide) rfl rfl ?_
          refine r_iload dX9_judged_205 rfl ?_
          refine r_istore (lv2 := [(0, _), (1, _), (2, _), (3, _), (4, _), (5, _), (6, _), (7, _), (8, _), (9, _), (10, _), (11, _), (12, _)]) dX9_judged_207 (by decide) rfl rfl ?_
          refine r_iinc (lv2 := [(0, _), (1, _), (2, _), (3, _), (4, _), (5, _), (6, _), (7, _), (8, _), (9, _), (10, _), (11, _), (12, _)]) dX9_judged_209 (by decide) rfl rfl rfl ?_
          refine r_goto (tgt := 53) dX9_judged_212 (by decide) ?_
          refine r_lv (lv2 := [(0, _), (1, _), (2, _), (3, _), (4, _), (5, _), (6, _), (7, _), (8, _)]) rfl ?_
          rw [show (j : Int) + 1 = ((j + 1 : Nat) : Int) by omega]
          have hbt : btnI (F j) (V j) m nd.toNat = true := by rw [b2i_0, Bool.not_eq_false'] at g155; exact g155
          rw [if_pos hbt] at eu
          rw [if_neg (by omega)] at ey
          rw [if_pos (by omega), if_pos (by omega)] at ey
          exact ih (j + 1) rw2 pl2 gg3 lt3 lgt3 _ _ _ _ _ (by omega) (by rw [ey]; dsimp only; omega) (by rw [ey]; dsimp only; omega) (by first | (rw [ey]; exact hw) | rw [ey]) (by rw [ey]; dsimp only; omega) (by rw [eu]; omega) trg lig kp
        · refine r_iload dX9_judged_191 rfl ?_
          refine r_iload dX9_judged_193 rfl ?_
          refine r_icmp_gt (tgt := 201) dX9_judged_195 (by decide) ⟨by omega, by omega⟩ ⟨by omega, by omega⟩ (fun g195 => ?_) (fun g195 => ?_)
          · refine r_iload dX9_judged_201 rfl ?_
            refine r_istore (lv2 := [(0, _), (1, _), (2, _), (3, _), (4, _), (5, _), (6, _), (7, _), (8, _), (9, _), (10, _), (11, _), (12, _)]) dX9_judged_203 (by decide) rfl rfl ?_
            refine r_iload dX9_judged_205 rfl ?_
            refine r_istore (lv2 := [(0, _), (1, _), (2, _), (3, _), (4, _), (5, _), (6, _), (7, _), (8, _), (9, _), (10, _), (11, _), (12, _)]) dX9_judged_207 (by decide) rfl rfl ?_
            refine r_iinc (lv2 := [(0, _), (1, _), (2, _), (3, _), (4, _), (5, _), (6, _), (7, _), (8, _), (9, _), (10, _), (11, _), (12, _)]) dX9_judged_209 (by decide) rfl rfl rfl ?_
            refine r_goto (tgt := 53) dX9_judged_212 (by decide) ?_
            refine r_lv (lv2 := [(0, _), (1, _), (2, _), (3, _), (4, _), (5, _), (6, _), (7, _), (8, _)]) rfl ?_
            rw [show (j : Int) + 1 = ((j + 1 : Nat) : Int) by omega]
            have hbt : btnI (F j) (V j) m nd.toNat = true := by rw [b2i_0, Bool.not_eq_false'] at g155; exact g155
            rw [if_pos hbt] at eu
            rw [if_neg (by omega)] at ey
            rw [if_pos (by omega), if_pos (by omega)] at ey
            exact ih (j + 1) rw2 pl2 gg3 lt3 lgt3 _ _ _ _ _ (by omega) (by rw [ey]; dsimp only; omega) (by rw [ey]; dsimp only; omega) (by first | (rw [ey]; exact hw) | rw [ey]) (by rw [ey]; dsimp only; omega) (by rw [eu]; omega) trg lig kp
          · refine r_goto (tgt := 209) dX9_judged_198 (by decide) ?_
            refine r_iinc (lv2 := [(0, _), (1, _), (2, _), (3, _), (4, _), (5, _), (6, _), (7, _), (8, _), (9, _), (10, _), (11, _), (12, _)]) dX9_judged_209 (by decide) rfl rfl rfl ?_
            refine r_goto (tgt := 53) dX9_judged_212 (by decide) ?_
            refine r_lv (lv2 := [(0, _), (1, _), (2, _), (3, _), (4, _), (5, _), (6, _), (7, _), (8, _)]) rfl ?_
            rw [show (j : Int) + 1 = ((j + 1 : Nat) : Int) by omega]
            have hbt : btnI (F j) (V j) m nd.toNat = true := by rw [b2i_0, Bool.not_eq_false'] at g155; exact g155
            rw [if_pos hbt] at eu
            rw [if_neg (by omega)] at ey
            rw [if_neg (by omega), if_neg (by omega)] at ey
            exact ih (j + 1) rw2 pl2 gg3 lt3 lgt3 _ _ _ _ _ (by omega) (by rw [ey]; dsimp only; omega) (by rw [ey]; dsimp only; omega) (by first | (rw [ey]; exact hw) | rw [ey]) (by rw [ey]; dsimp only; omega) (by rw [eu]; omega) trg lig kp
      · refine r_iconst dX9_judged_158 ?_
        refine r_goto (tgt := 163) dX9_judged_159 (by decide) ?_
        refine r_iadd dX9_judged_163 ?_
        refine r_istore (lv2 := [(0, _), (1, _), (2, _), (3, _), (4, _), (5, _), (6, _), (7, _), (8, _), (9, _), (10, _), (11, _), (12, _)]) dX9_judged_164 (by decide) rfl rfl ?_
        refine r_iload dX9_judged_166 rfl ?_
        refine r_iconst dX9_judged_168 ?_
        refine r_icmp_ne (tgt := 175) dX9_judged_169 (by decide) ⟨by omega, by omega⟩ ⟨by omega, by omega⟩ (fun g169 => ?_) (fun g169 => absurd g169 (by omega))
        refine r_iinc (lv2 := [(0, _), (1, _), (2, _), (3, _), (4, _), (5, _), (6, _), (7, _), (8, _), (9, _), (10, _), (11, _), (12, _)]) dX9_judged_175 (by decide) rfl rfl rfl ?_
        refine r_iload dX9_judged_178 rfl ?_
        refine r_iload dX9_judged_180 rfl ?_
        refine r_iadd dX9_judged_182 ?_
        refine r_istore (lv2 := [(0, _), (1, _), (2, _), (3, _), (4, _), (5, _), (6, _), (7, _), (8, _), (9, _), (10, _), (11, _), (12, _)]) dX9_judged_183 (by decide) rfl rfl ?_
        refine r_iload dX9_judged_185 rfl ?_
        refine r_iconst dX9_judged_187 ?_
        refine r_icmp_eq (tgt := 201) dX9_judged_188 (by decide) ⟨by omega, by omega⟩ ⟨by omega, by omega⟩ (fun g188 => ?_) (fun g188 => ?_)
        · refine r_iload dX9_judged_201 rfl ?_
          refine r_istore (lv2 := [(0, _), (1, _), (2, _), (3, _), (4, _), (5, _), (6, _), (7, _), (8, _), (9, _), (10, _), (11, _), (12, _)]) dX9_judged_203 (by decide) rfl rfl ?_
          refine r_iload dX9_judged_205 rfl ?_
          refine r_istore (lv2 := [(0, _), (1, _), (2, _), (3, _), (4, _), (5, _), (6, _), (7, _), (8, _), (9, _), (10, _), (11, _), (12, _)]) dX9_judged_207 (by decide) rfl rfl ?_
          refine r_iinc (lv2 := [(0, _), (1, _), (2, _), (3, _), (4, _), (5, _), (6, _), (7, _), (8, _), (9, _), (10, _), (11, _), (12, _)]) dX9_judged_209 (by decide) rfl rfl rfl ?_
          refine r_goto (tgt := 53) dX9_judged_212 (by decide) ?_
          refine r_lv (lv2 := [(0, _), (1, _), (2, _), (3, _), (4, _), (5, _), (6, _), (7, _), (8, _)]) rfl ?_
          rw [show (j : Int) + 1 = ((j + 1 : Nat) : Int) by omega]
          have hbt : ¬ btnI (F j) (V j) m nd.toNat = true := by
            intro q
            rw [q] at g155
            exact g155 rfl
          rw [if_neg hbt] at eu
          rw [if_neg (by omega)] at ey
          rw [if_pos (by omega), if_pos (by omega)] at ey
          exact ih (j + 1) rw2 pl2 gg3 lt3 lgt3 _ _ _ _ _ (by omega) (by rw [ey]; dsimp only; omega) (by rw [ey]; dsimp only; omega) (by first | (rw [ey]; exact hw) | rw [ey]) (by rw [ey]; dsimp only; omega) (by rw [eu]; omega) trg lig kp
        · refine r_iload dX9_judged_191 rfl ?_
          refine r_iload dX9_judged_193 rfl ?_
          refine r_icmp_gt (tgt := 201) dX9_judged_195 (by decide) ⟨by omega, by omega⟩ ⟨by omega, by omega⟩ (fun g195 => ?_) (fun g195 => ?_)
          · refine r_iload dX9_judged_201 rfl ?_
            refine r_istore (lv2 := [(0, _), (1, _), (2, _), (3, _), (4, _), (5, _), (6, _), (7, _), (8, _), (9, _), (10, _), (11, _), (12, _)]) dX9_judged_203 (by decide) rfl rfl ?_
            refine r_iload dX9_judged_205 rfl ?_
            refine r_istore (lv2 := [(0, _), (1, _), (2, _), (3, _), (4, _), (5, _), (6, _), (7, _), (8, _), (9, _), (10, _), (11, _), (12, _)]) dX9_judged_207 (by decide) rfl rfl ?_
            refine r_iinc (lv2 := [(0, _), (1, _), (2, _), (3, _), (4, _), (5, _), (6, _), (7, _), (8, _), (9, _), (10, _), (11, _), (12, _)]) dX9_judged_209 (by decide) rfl rfl rfl ?_
            refine r_goto (tgt := 53) dX9_judged_212 (by decide) ?_
            refine r_lv (lv2 := [(0, _), (1, _), (2, _), (3, _), (4, _), (5, _), (6, _), (7, _), (8, _)]) rfl ?_
            rw [show (j : Int) + 1 = ((j + 1 : Nat) : Int) by omega]
            have hbt : ¬ btnI (F j) (V j) m nd.toNat = true := by
              intro q
              rw [q] at g155
              exact g155 rfl
            rw [if_neg hbt] at eu
            rw [if_neg (by omega)] at ey
            rw [if_pos (by omega), if_pos (by omega)] at ey
            exact ih (j + 1) rw2 pl2 gg3 lt3 lgt3 _ _ _ _ _ (by omega) (by rw [ey]; dsimp only; omega) (by rw [ey]; dsimp only; omega) (by first | (rw [ey]; exact hw) | rw [ey]) (by rw [ey]; dsimp only; omega) (by rw [eu]; omega) trg lig kp
          · refine r_goto (tgt := 209) dX9_judged_198 (by decide) ?_
            refine r_iinc (lv2 := [(0, _), (1, _), (2, _), (3, _), (4, _), (5, _), (6, _), (7, _), (8, _), (9, _), (10, _), (11, _), (12, _)]) dX9_judged_209 (by decide) rfl rfl rfl ?_
            refine r_goto (tgt := 53) dX9_judged_212 (by decide) ?_
            refine r_lv (lv2 := [(0, _), (1, _), (2, _), (3, _), (4, _), (5, _), (6, _), (7, _), (8, _)]) rfl ?_
            rw [show (j : Int) + 1 = ((j + 1 : Nat) : Int) by omega]
            have hbt : ¬ btnI (F j) (V j) m nd.toNat = true := by
              intro q
              rw [q] at g155
              exact g155 rfl
            rw [if_neg hbt] at eu
            rw [if_neg (by omega)] at ey
            rw [if_neg (by omega), if_neg (by omega)] at ey
            exact ih (j + 1) rw2 pl2 gg3 lt3 lgt3 _ _ _ _ _ (by omega) (by rw [ey]; dsimp only; omega) (by rw [ey]; dsimp only; omega) (by first | (rw [ey]; exact hw) | rw [ey]) (by rw [ey]; dsimp only; omega) (by rw [eu]; omega) trg lig kp
    · refine r_sipush dX9_judged_76 rfl ?_
      refine r_goto (tgt := 88) dX9_judged_79 (by decide) ?_
      refine r_istore (lv2 := [(0, _), (1, _), (2, _), (3, _), (4, _), (5, _), (6, _), (7, _), (8, _), (9, _), (10, _)]) dX9_judged_88 (by decide) rfl rfl ?_
      refine r_iconst dX9_judged_90 ?_
      refine r_istore (lv2 := [(0, _), (1, _), (2, _), (3, _), (4, _), (5, _), (6, _), (7, _), (8, _), (9, _), (10, _), (11, _)]) dX9_judged_91 (by decide) rfl rfl ?_
      refine r_iconst dX9_judged_93 ?_
      refine r_istore (lv2 := [(0, _), (1, _), (2, _), (3, _), (4, _), (5, _), (6, _), (7, _), (8, _), (9, _), (10, _), (11, _), (12, _)]) dX9_judged_94 (by decide) rfl rfl ?_
      rw [show (1 : Int) = b2i (!btnI (F j) (V j) m 0) by rw [btn_0]; rfl]
      refine l_X9_jdial c69 c70 c71 c79 pi (g := g) (day := (j : Int)) (by omega) hm (nf := F j) hFj bV (by unfold mostI; rw [if_pos (by omega)]) (fun gg3 lt3 lgt3 trg lig kp => ?_) nd.toNat 0 gn lt2 lg2 (by omega) tr2 li2 kp3
      refine r_iload dX9_judged_151 rfl ?_
      refine r_iload dX9_judged_153 rfl ?_
      refine r_if_eq (tgt := 162) dX9_judged_155 (by decide) ⟨by omega, by omega⟩ (fun g155 => ?_) (fun g155 => ?_)
      · refine r_iconst dX9_judged_162 ?_
        refine r_iadd dX9_judged_163 ?_
        refine r_istore (lv2 := [(0, _), (1, _), (2, _), (3, _), (4, _), (5, _), (6, _), (7, _), (8, _), (9, _), (10, _), (11, _), (12, _)]) dX9_judged_164 (by decide) rfl rfl ?_
        refine r_iload dX9_judged_166 rfl ?_
        refine r_iconst dX9_judged_168 ?_
        refine r_icmp_ne (tgt := 175) dX9_judged_169 (by decide) ⟨by omega, by omega⟩ ⟨by omega, by omega⟩ (fun g169 => absurd g169 (by omega)) (fun g169 => ?_)
        refine r_goto (tgt := 209) dX9_judged_172 (by decide) ?_
        refine r_iinc (lv2 := [(0, _), (1, _), (2, _), (3, _), (4, _), (5, _), (6, _), (7, _), (8, _), (9, _), (10, _), (11, _), (12, _)]) dX9_judged_209 (by decide) rfl rfl rfl ?_
        refine r_goto (tgt := 53) dX9_judged_212 (by decide) ?_
        refine r_lv (lv2 := [(0, _), (1, _), (2, _), (3, _), (4, _), (5, _), (6, _), (7, _), (8, _)]) rfl ?_
        rw [show (j : Int) + 1 = ((j + 1 : Nat) : Int) by omega]
        have hbt : btnI (F j) (V j) m nd.toNat = true := by rw [b2i_0, Bool.not_eq_false'] at g155; exact g155
        rw [if_pos hbt] at eu
        rw [if_pos (by omega)] at ey
        exact ih (j + 1) rw2 pl2 gg3 lt3 lgt3 _ _ _ _ _ (by omega) (by rw [ey]; exact hn) (by rw [ey]; exact ha) (by rw [ey]; exact hw) (by rw [ey]; exact hinv) (by rw [eu]; omega) trg lig kp
      · refine r_iconst dX9_judged_158 ?_
        refine r_goto (tgt := 163) dX9_judged_159 (by decide) ?_
        refine r_iadd dX9_judged_163 ?_
        refine r_istore (lv2 := [(0, _), (1, _), (2, _), (3, _), (4, _), (5, _), (6, _), (7, _), (8, _), (9, _), (10, _), (11, _), (12, _)]) dX9_judged_164 (by decide) rfl rfl ?_
        refine r_iload dX9_judged_166 rfl ?_
        refine r_iconst dX9_judged_168 ?_
        refine r_icmp_ne (tgt := 175) dX9_judged_169 (by decide) ⟨by omega, by omega⟩ ⟨by omega, by omega⟩ (fun g169 => absurd g169 (by omega)) (fun g169 => ?_)
        refine r_goto (tgt := 209) dX9_judged_172 (by decide) ?_
        refine r_iinc (lv2 := [(0, _), (1, _), (2, _), (3, _), (4, _), (5, _), (6, _), (7, _), (8, _), (9, _), (10, _), (11, _), (12, _)]) dX9_judged_209 (by decide) rfl rfl rfl ?_
        refine r_goto (tgt := 53) dX9_judged_212 (by decide) ?_
        refine r_lv (lv2 := [(0, _), (1, _), (2, _), (3, _), (4, _), (5, _), (6, _), (7, _), (8, _)]) rfl ?_
        rw [show (j : Int) + 1 = ((j + 1 : Nat) : Int) by omega]
        have hbt : ¬ btnI (F j) (V j) m nd.toNat = true := by
          intro q
          rw [q] at g155
          exact g155 rfl
        rw [if_neg hbt] at eu
        rw [if_pos (by omega)] at ey
        exact ih (j + 1) rw2 pl2 gg3 lt3 lgt3 _ _ _ _ _ (by omega) (by rw [ey]; exact hn) (by rw [ey]; exact ha) (by rw [ey]; exact hw) (by rw [ey]; exact hinv) (by rw [eu]; omega) trg lig kp

theorem ut_85_68 (h : aH) (a b e : aE) (g : Nat → Int) (w : Int) (lt lgt : Nat → Int) : UT (va_up (va_up (va_up h 68 e) 85 a) 88 b) g w lt lgt = UT (va_up (va_up h 85 a) 88 b) g w lt lgt := by
  funext j
  unfold UT va_up
  by_cases q1 : j = 78
  · simp [q1]
  · by_cases q2 : j = 77
    · simp [q2]
    · by_cases q3 : j = 68
      · simp [q3]
      · simp [q1, q2, q3]

theorem s_X9_judged {h : aH} {th : Int} {t : Nat → Int} {tp : Nat} {fpl hlaw himg : Int} {rf : Nat → Int} {nd sw nc hl hs : Int} {K U I O G L cf ct fc nx cd : Nat → Int} {nr ns nm : Int} {rd ry rm rt se md my mt : Nat → Int} {M : ND} {ls : LSm} (cr : RefC h (t, tp, fpl, rf, hlaw, himg, ((nd, sw, nc), (hl, hs), K, U, I, O, G, L, cf, ct, fc, nx, cd), ((nr, ns, nm), rd, ry, rm, rt, se, md, my, mt), M, ls) th) {m w_ : Int} (im : inR m) (iw_ : inR w_) (hLo : hlaw = 1 → ∀ (tf : Nat → Int) (mo : Int), (∀ j, -1 ≤ tf j ∧ tf j < 1440) → (0 ≤ mo ∧ mo ≤ 11) → -1 ≤ ls tf mo ∧ ls tf mo < 1440)  : mSem yX9_judged cX9_judged 14 (some .int) 7 0 0 [.ref 68, iv m, iv w_] 97 h (RefQ (ocL [(minB m, 1), (whaB w_ 3, 1), (decide (hlaw = 1), 2)]) (jdV (yT (fun d => ls (fun j => nowI sw nc nm K U I O G L cf ct cd md my mt ((j : Nat) : Int) d m) (d / 31)) m 365) (ubS (fun d => ls (fun j => nowI sw nc nm K U I O G L cf ct cd md my mt ((j : Nat) : Int) d m) (d / 31)) (fun d j => nowI sw nc nm K U I O G L cf ct cd md my mt ((j : Nat) : Int) d m) m nd.toNat 365) w_) h (t, tp, fpl, rf, hlaw, himg, ((nd, sw, nc), (hl, hs), K, U, I, O, G, L, cf, ct, fc, nx, cd), ((nr, ns, nm), rd, ry, rm, rt, se, md, my, mt), M, ls)) noX := by
  refine RefC_elim cr (fun g dl cl lm trr rfr nD nC nL lt lgt mn rdg cpl grp sea rts row cod ncod pil opn stg bsd imo imr ims imm w c68 c69 c70 c71 c72 c73 c74 c75 c76 c77 c78 c79 c80 c81 c82 c83 c84 c85 c86 c87 c88 c89 c90 c91 c92 c93 c94 c95 hth rr => ?_)
  refine RR_elim rr (fun e8 e10 e33 e38 e44 e53 tr pi ni li rrf rtp htp rrd rse phl phi rim rco ht nM nsn => ?_)
  obtain ⟨t1, t2, t3, t31, pnm, tdl, tcl, tlm, tmd, pmt, pmd, pmy⟩ := id tr
  obtain ⟨pnd, psw, pnc, pK, pU, pI, pO, pG, pL, pcf, pct, pfc, pnx⟩ := id pi
  obtain ⟨pnr, pns, pnm2, prd, pry, prm, prt, pse, pmd2, pmy2, pmt2⟩ := id ni
  unfold inR at im iw_
  refine mSem_of (own := RX9) (name := "judged") pn_X9 rfl rfl (Nat.le_of_ble_eq_true rfl) ?_
  refine r_aload_n dX9_judged_0 rfl rfl ?_
  refine r_iconst dX9_judged_1 ?_
  refine r_putR dX9_judged_2 fp_X9_102 (by decide) c68 (nar_int _) (Nat.le_of_ble_eq_true rfl) setR_0 (fun z0 hz0 => ?_)
  refine r_aload_n dX9_judged_5 rfl rfl ?_
  refine r_iload_n dX9_judged_6 rfl rfl ?_
  refine r_callV 68 [_] (s_X9_isMinute (by rfl) (by first | rfl | exact hz0) im) dX9_judged_7 cs_X9_275 im_X9_isMinute (by decide) rfl rfl (by decide) (by decide) (by decide) rfl rfl (Nat.le_of_ble_eq_true rfl) (fun _ _ _ q => q.elim) (fun v n2 h2 q => ?_)
  obtain ⟨rfl, q⟩ := q
  rcases q with ⟨kb1, rfl, hh⟩ | ⟨kb1, rfl, hh⟩
  · obtain rfl := hh.symm
    have bm := of_decide_eq_true kb1
    refine ⟨rfl, ?_⟩
    dsimp only [Option.toList, List.cons_append, List.nil_append]
    refine r_if_eq (tgt := 34) dX9_judged_10 (by decide) ⟨by omega, by omega⟩ (fun g10 => absurd g10 (by omega)) (fun g10 => ?_)
    refine r_aload_n dX9_judged_13 rfl rfl ?_
    refine r_iload_n dX9_judged_14 rfl rfl ?_
    refine r_iconst dX9_judged_15 ?_
    refine r_callV 68 [_, _] (s_X9_isWhat (by rfl) (by first | rfl | exact hz0) iw_ ⟨by decide, by decide⟩) dX9_judged_16 cs_X9_246 im_X9_isWhat (by decide) rfl rfl (by decide) (by decide) (by decide) rfl rfl (Nat.le_of_ble_eq_true rfl) (fun _ _ _ q => q.elim) (fun v n2 h2 q => ?_)
    obtain ⟨rfl, q⟩ := q
    rcases q with ⟨kb2, rfl, hh⟩ | ⟨kb2, rfl, hh⟩
    · obtain rfl := hh.symm
      have bw_ := of_decide_eq_true kb2
      refine ⟨rfl, ?_⟩
      dsimp only [Option.toList, List.cons_append, List.nil_append]
      refine r_if_eq (tgt := 34) dX9_judged_19 (by decide) ⟨by omega, by omega⟩ (fun g19 => absurd g19 (by omega)) (fun g19 => ?_)
      refine r_aload_n dX9_judged_22 rfl rfl ?_
      refine r_aload_n dX9_judged_23 rfl rfl ?_
      refine r_getR (z := (g 44)) dX9_judged_24 fl_X9_233 (by decide) rfl rfl ?_
      have q44 : g 44 = b2i (decide (hlaw = 1)) := by rw [e44]; rcases phl with q | q <;> rw [q] <;> rfl
      rw [q44]
      refine r_iconst dX9_judged_27 ?_
      refine r_callV 68 [_, _] (s_X9_right (b := decide (hlaw = 1)) (g := (va_up g 0 z0)) (by rfl) (by exact hz0) (by decide)) dX9_judged_28 cs_X9_207 im_X9_right (by decide) rfl rfl (by decide) (by decide) (by decide) rfl rfl (Nat.le_of_ble_eq_true rfl) (fun _ _ _ q => q.elim) (fun v n2 h2 q => ?_)
      obtain ⟨rfl, q⟩ := q
      rcases q with ⟨kb3, rfl, hh⟩ | ⟨kb3, rfl, hh⟩
      · obtain rfl := hh.symm
        refine ⟨rfl, ?_⟩
        dsimp only [Option.toList, List.cons_append, List.nil_append]
        refine r_if_ne (tgt := 36) dX9_judged_31 (by decide) ⟨by omega, by omega⟩ (fun g31 => ?_) (fun g31 => absurd g31 (by omega))
        refine r_iconst dX9_judged_36 ?_
        refine r_istore_n (lv2 := [(0, _), (1, _), (2, _), (3, _)]) dX9_judged_37 rfl (by decide) rfl rfl ?_
        refine r_iconst dX9_judged_38 ?_
        refine r_istore (lv2 := [(0, _), (1, _), (2, _), (3, _), (4, _)]) dX9_judged_39 (by decide) rfl rfl ?_
        refine r_iconst dX9_judged_41 ?_
        refine r_istore (lv2 := [(0, _), (1, _), (2, _), (3, _), (4, _), (5, _)]) dX9_judged_42 (by decide) rfl rfl ?_
        refine r_iconst dX9_judged_44 ?_
        refine r_istore (lv2 := [(0, _), (1, _), (2, _), (3, _), (4, _), (5, _), (6, _)]) dX9_judged_45 (by decide) rfl rfl ?_
        refine r_iconst dX9_judged_47 ?_
        refine r_istore (lv2 := [(0, _), (1, _), (2, _), (3, _), (4, _), (5, _), (6, _), (7, _)]) dX9_judged_48 (by decide) rfl rfl ?_
        refine r_iconst dX9_judged_50 ?_
        refine r_istore (lv2 := [(0, _), (1, _), (2, _), (3, _), (4, _), (5, _), (6, _), (7, _), (8, _)]) dX9_judged_51 (by decide) rfl rfl ?_
        have hcd := rco (of_decide_eq_true kb3)
        try simp only [bx_uu]
        refine ev_h (ut_s58 (g := va_up g 0 z0) (w := w) (a := .inl (0, 9, row)) (b := .inl (0, 800, pil)) rfl (by exact c77) (by exact c78) (by exact c85) (by exact c88)) ?_
        rw [ut_85_68]
        refine l_X9_judged c69 c70 c71 c79 pi c86 hcd (hLo (of_decide_eq_true kb3)) (g := va_up g 0 z0) bm rfl rfl (fun row2 pl2 gn lt2 lg2 mo2 tr2 li2 kp2 n2 al2 wd2 be2 hn2 ha2 hw2 hb2 => ?_) 365 0 row pil (va_up g 0 z0) lt lgt 0 0 (-1) 0 0 (by decide) rfl rfl rfl (Or.inl ⟨rfl, rfl, rfl⟩) rfl (by exact tr) (by exact li) (fun _ _ => rfl)
        refine r_iload_n dX9_judged_215 rfl rfl ?_
        refine r_if_ne (tgt := 223) dX9_judged_216 (by decide) ⟨by omega, by omega⟩ (fun g216 => ?_) (fun g216 => ?_)
        · refine r_iload_n dX9_judged_223 rfl rfl ?_
          refine r_iconst dX9_judged_224 ?_
          refine r_icmp_ne (tgt := 233) dX9_judged_225 (by decide) ⟨by omega, by omega⟩ ⟨by omega, by omega⟩ (fun g225 => ?_) (fun g225 => ?_)
          · refine r_iload_n dX9_judged_233 rfl rfl ?_
            refine r_iconst dX9_judged_234 ?_
            refine r_icmp_ne (tgt := 243) dX9_judged_235 (by decide) ⟨by omega, by omega⟩ ⟨by omega, by omega⟩ (fun g235 => ?_) (fun g235 => ?_)
            · refine r_iload dX9_judged_243 rfl ?_
              refine r_iret dX9_judged_245 ?_
              exact ⟨rfl, ⟨_, rfl, fun _ => (by unfold jdV; rw [if_neg (by omega), if_neg (by omega), if_neg (by omega)]; exact hb2)⟩, (RefC_mk (g := gn) rfl (by exact c69) (by exact c70) (by exact c71) (by exact c72) (by exact c73) (by exact c74) (by exact c75) (by exact c76) rfl rfl (by exact c79) (by exact c80) (by exact c81) (by exact c82) (by exact c83) (by exact c84) rfl (by exact c86) (by exact c87) rfl (by exact c89) (by exact c90) (by exact c91) (by exact c92) (by exact c93) (by exact c94) (by exact c95) (by first | exact (hz0.trans (congrArg (fun n : Nat => (n : Int)) ((ocT kb1).trans ((ocT kb2).trans ((ocT kb3).trans ocE))).symm)) | exact (kp2 0 (by decide)).trans (hz0.trans (congrArg (fun n : Nat => (n : Int)) ((ocT kb1).trans ((ocT kb2).trans ((ocT kb3).trans ocE))).symm))) (RR_mk (by first | exact e8 | exact (kp2 8 (by decide)).trans e8) (by first | exact e10 | exact (kp2 10 (by decide)).trans e10) (by first | exact e33 | exact (kp2 33 (by decide)).trans e33) (by first | exact e38 | exact (kp2 38 (by decide)).trans e38) (by first | exact e44 | exact (kp2 44 (by decide)).trans e44) (by first | exact e53 | exact (kp2 53 (by decide)).trans e53) (by first | exact tr | exact tell_kp (by exact tr) kp2) pi ni (by first | exact li | exact li2) rrf rtp htp rrd rse phl phi rim rco ht nM nsn)), (by repeat (first | exact fun _ _ => rfl | refine frr_up ?_ (by decide)))⟩
            · refine r_iload dX9_judged_238 rfl ?_
              refine r_goto (tgt := 245) dX9_judged_240 (by decide) ?_
              refine r_iret dX9_judged_245 ?_
              exact ⟨rfl, ⟨_, rfl, fun _ => (by unfold jdV; rw [if_neg (by omega), if_neg (by omega), if_pos (by omega)]; exact hw2)⟩, (RefC_mk (g := gn) rfl (by exact c69) (by exact c70) (by exact c71) (by exact c72) (by exact c73) (by exact c74) (by exact c75) (by exact c76) rfl rfl (by exact c79) (by exact c80) (by exact c81) (by exact c82) (by exact c83) (by exact c84) rfl (by exact c86) (by exact c87) rfl (by exact c89) (by exact c90) (by exact c91) (by exact c92) (by exact c93) (by exact c94) (by exact c95) (by first | exact (hz0.trans (congrArg (fun n : Nat => (n : Int)) ((ocT kb1).trans ((ocT kb2).trans ((ocT kb3).trans ocE))).symm)) | exact (kp2 0 (by decide)).trans (hz0.trans (congrArg (fun n : Nat => (n : Int)) ((ocT kb1).trans ((ocT kb2).trans ((ocT kb3).trans ocE))).symm))) (RR_mk (by first | exact e8 | exact (kp2 8 (by decide)).trans e8) (by first | exact e10 | exact (kp2 10 (by decide)).trans e10) (by first | exact e33 | exact (kp2 33 (by decide)).trans e33) (by first | exact e38 | exact (kp2 38 (by decide)).trans e38) (by first | exact e44 | exact (kp2 44 (by decide)).trans e44) (by first | exact e53 | exact (kp2 53 (by decide)).trans e53) (by first | exact tr | exact tell_kp (by exact tr) kp2) pi ni (by first | exact li | exact li2) rrf rtp htp rrd rse phl phi rim rco ht nM nsn)), (by repeat (first | exact fun _ _ => rfl | refine frr_up ?_ (by decide)))⟩
          · refine r_iload dX9_judged_228 rfl ?_
            refine r_goto (tgt := 245) dX9_judged_230 (by decide) ?_
            refine r_iret dX9_judged_245 ?_
            exact ⟨rfl, ⟨_, rfl, fun _ => (by unfold jdV; rw [if_neg (by omega), if_pos (by omega)]; exact ha2)⟩, (RefC_mk (g := gn) rfl (by exact c69) (by exact c70) (by exact c71) (by exact c72) (by exact c73) (by exact c74) (by exact c75) (by exact c76) rfl rfl (by exact c79) (by exact c80) (by exact c81) (by exact c82) (by exact c83) (by exact c84) rfl (by exact c86) (by exact c87) rfl (by exact c89) (by exact c90) (by exact c91) (by exact c92) (by exact c93) (by exact c94) (by exact c95) (by first | exact (hz0.trans (congrArg (fun n : Nat => (n : Int)) ((ocT kb1).trans ((ocT kb2).trans ((ocT kb3).trans ocE))).symm)) | exact (kp2 0 (by decide)).trans (hz0.trans (congrArg (fun n : Nat => (n : Int)) ((ocT kb1).trans ((ocT kb2).trans ((ocT kb3).trans ocE))).symm))) (RR_mk (by first | exact e8 | exact (kp2 8 (by decide)).trans e8) (by first | exact e10 | exact (kp2 10 (by decide)).trans e10) (by first | exact e33 | exact (kp2 33 (by decide)).trans e33) (by first | exact e38 | exact (kp2 38 (by decide)).trans e38) (by first | exact e44 | exact (kp2 44 (by decide)).trans e44) (by first | exact e53 | exact (kp2 53 (by decide)).trans e53) (by first | exact tr | exact tell_kp (by exact tr) kp2) pi ni (by first | exact li | exact li2) rrf rtp htp rrd rse phl phi rim rco ht nM nsn)), (by repeat (first | exact fun _ _ => rfl | refine frr_up ?_ (by decide)))⟩
        · refine r_iload_n dX9_judged_219 rfl rfl ?_
          refine r_goto (tgt := 245) dX9_judged_220 (by decide) ?_
          refine r_iret dX9_judged_245 ?_
          exact ⟨rfl, ⟨_, rfl, fun _ => (by unfold jdV; rw [if_pos (by omega)]; exact hn2)⟩, (RefC_mk (g := gn) rfl (by exact c69) (by exact c70) (by exact c71) (by exact c72) (by exact c73) (by exact c74) (by exact c75) (by exact c76) rfl rfl (by exact c79) (by exact c80) (by exact c81) (by exact c82) (by exact c83) (by exact c84) rfl (by exact c86) (by exact c87) rfl (by exact c89) (by exact c90) (by exact c91) (by exact c92) (by exact c93) (by exact c94) (by exact c95) (by first | exact (hz0.trans (congrArg (fun n : Nat => (n : Int)) ((ocT kb1).trans ((ocT kb2).trans ((ocT kb3).trans ocE))).symm)) | exact (kp2 0 (by decide)).trans (hz0.trans (congrArg (fun n : Nat => (n : Int)) ((ocT kb1).trans ((ocT kb2).trans ((ocT kb3).trans ocE))).symm))) (RR_mk (by first | exact e8 | exact (kp2 8 (by decide)).trans e8) (by first | exact e10 | exact (kp2 10 (by decide)).trans e10) (by first | exact e33 | exact (kp2 33 (by decide)).trans e33) (by first | exact e38 | exact (kp2 38 (by decide)).trans e38) (by first | exact e44 | exact (kp2 44 (by decide)).trans e44) (by first | exact e53 | exact (kp2 53 (by decide)).trans e53) (by first | exact tr | exact tell_kp (by exact tr) kp2) pi ni (by first | exact li | exact li2) rrf rtp htp rrd rse phl phi rim rco ht nM nsn)), (by repeat (first | exact fun _ _ => rfl | refine frr_up ?_ (by decide)))⟩
      · obtain rfl := hh.symm
        refine ⟨rfl, ?_⟩
        dsimp only [Option.toList, List.cons_append, List.nil_append]
        refine r_if_ne (tgt := 36) dX9_judged_31 (by decide) ⟨by omega, by omega⟩ (fun g31 => absurd g31 (by omega)) (fun g31 => ?_)
        refine r_iconst dX9_judged_34 ?_
        refine r_iret dX9_judged_35 ?_
        first
          | exact ⟨rfl, ⟨0, rfl, fun z => absurd ((ocF kb1).symm.trans z) (by decide)⟩, (RefC_mk (g := (va_up (va_up g 0 z0) 0 2)) rfl (by exact c69) (by exact c70) (by exact c71) (by exact c72) (by exact c73) (by exact c74) (by exact c75) (by exact c76) (by exact c77) (by exact c78) (by exact c79) (by exact c80) (by exact c81) (by exact c82) (by exact c83) (by exact c84) (by exact c85) (by exact c86) (by exact c87) (by exact c88) (by exact c89) (by exact c90) (by exact c91) (by exact c92) (by exact c93) (by exact c94) (by exact c95) (congrArg (fun n : Nat => (n : Int)) (ocF kb1).symm) (RR_mk (by first | exact e8 | exact (kp2 8 (by decide)).trans e8) (by first | exact e10 | exact (kp2 10 (by decide)).trans e10) (by first | exact e33 | exact (kp2 33 (by decide)).trans e33) (by first | exact e38 | exact (kp2 38 (by decide)).trans e38) (by first | exact e44 | exact (kp2 44 (by decide)).trans e44) (by first | exact e53 | exact (kp2 53 (by decide)).trans e53) (by first | exact tr | exact tell_kp (by exact tr) kp2) pi ni (by first | exact li | exact li2) rrf rtp htp rrd rse phl phi rim rco ht nM nsn)), (by repeat (first | exact fun _ _ => rfl | refine frr_up ?_ (by decide)))⟩
          | exact ⟨rfl, ⟨0, rfl, fun z => absurd (((ocT kb1).trans (ocF kb2)).symm.trans z) (by decide)⟩, (RefC_mk (g := (va_up (va_up g 0 z0) 0 2)) rfl (by exact c69) (by exact c70) (by exact c71) (by exact c72) (by exact c73) (by exact c74) (by exact c75) (by exact c76) (by exact c77) (by exact c78) (by exact c79) (by exact c80) (by exact c81) (by exact c82) (by exact c83) (by exact c84) (by exact c85) (by exact c86) (by exact c87) (by exact c88) (by exact c89) (by exact c90) (by exact c91) (by exact c92) (by exact c93) (by exact c94) (by exact c95) (congrArg (fun n : Nat => (n : Int)) ((ocT kb1).trans (ocF kb2)).symm) (RR_mk (by first | exact e8 | exact (kp2 8 (by decide)).trans e8) (by first | exact e10 | exact (kp2 10 (by decide)).trans e10) (by first | exact e33 | exact (kp2 33 (by decide)).trans e33) (by first | exact e38 | exact (kp2 38 (by decide)).trans e38) (by first | exact e44 | exact (kp2 44 (by decide)).trans e44) (by first | exact e53 | exact (kp2 53 (by decide)).trans e53) (by first | exact tr | exact tell_kp (by exact tr) kp2) pi ni (by first | exact li | exact li2) rrf rtp htp rrd rse phl phi rim rco ht nM nsn)), (by repeat (first | exact fun _ _ => rfl | refine frr_up ?_ (by decide)))⟩
          | exact ⟨rfl, ⟨0, rfl, fun z => absurd (((ocT kb1).trans ((ocT kb2).trans (ocF kb3))).symm.trans z) (by decide)⟩, (RefC_mk (g := (va_up (va_up g 0 z0) 0 2)) rfl (by exact c69) (by exact c70) (by exact c71) (by exact c72) (by exact c73) (by exact c74) (by exact c75) (by exact c76) (by exact c77) (by exact c78) (by exact c79) (by exact c80) (by exact c81) (by exact c82) (by exact c83) (by exact c84) (by exact c85) (by exact c86) (by exact c87) (by exact c88) (by exact c89) (by exact c90) (by exact c91) (by exact c92) (by exact c93) (by exact c94) (by exact c95) (congrArg (fun n : Nat => (n : Int)) ((ocT kb1).trans ((ocT kb2).trans (ocF kb3))).symm) (RR_mk (by first | exact e8 | exact (kp2 8 (by decide)).trans e8) (by first | exact e10 | exact (kp2 10 (by decide)).trans e10) (by first | exact e33 | exact (kp2 33 (by decide)).trans e33) (by first | exact e38 | exact (kp2 38 (by decide)).trans e38) (by first | exact e44 | exact (kp2 44 (by decide)).trans e44) (by first | exact e53 | exact (kp2 53 (by decide)).trans e53) (by first | exact tr | exact tell_kp (by exact tr) kp2) pi ni (by first | exact li | exact li2) rrf rtp htp rrd rse phl phi rim rco ht nM nsn)), (by repeat (first | exact fun _ _ => rfl | refine frr_up ?_ (by decide)))⟩
    · obtain rfl := hh.symm
      refine ⟨rfl, ?_⟩
      dsimp only [Option.toList, List.cons_append, List.nil_append]
      refine r_if_eq (tgt := 34) dX9_judged_19 (by decide) ⟨by omega, by omega⟩ (fun g19 => ?_) (fun g19 => absurd g19 (by omega))
      refine r_iconst dX9_judged_34 ?_
      refine r_iret dX9_judged_35 ?_
      first
        | exact ⟨rfl, ⟨0, rfl, fun z => absurd ((ocF kb1).symm.trans z) (by decide)⟩, (RefC_mk (g := (va_up (va_up g 0 z0) 0 1)) rfl (by exact c69) (by exact c70) (by exact c71) (by exact c72) (by exact c73) (by exact c74) (by exact c75) (by exact c76) (by exact c77) (by exact c78) (by exact c79) (by exact c80) (by exact c81) (by exact c82) (by exact c83) (by exact c84) (by exact c85) (by exact c86) (by exact c87) (by exact c88) (by exact c89) (by exact c90) (by exact c91) (by exact c92) (by exact c93) (by exact c94) (by exact c95) (congrArg (fun n : Nat => (n : Int)) (ocF kb1).symm) (RR_mk (by first | exact e8 | exact (kp2 8 (by decide)).trans e8) (by first | exact e10 | exact (kp2 10 (by decide)).trans e10) (by first | exact e33 | exact (kp2 33 (by decide)).trans e33) (by first | exact e38 | exact (kp2 38 (by decide)).trans e38) (by first | exact e44 | exact (kp2 44 (by decide)).trans e44) (by first | exact e53 | exact (kp2 53 (by decide)).trans e53) (by first | exact tr | exact tell_kp (by exact tr) kp2) pi ni (by first | exact li | exact li2) rrf rtp htp rrd rse phl phi rim rco ht nM nsn)), (by repeat (first | exact fun _ _ => rfl | refine frr_up ?_ (by decide)))⟩
        | exact ⟨rfl, ⟨0, rfl, fun z => absurd (((ocT kb1).trans (ocF kb2)).symm.trans z) (by decide)⟩, (RefC_mk (g := (va_up (va_up g 0 z0) 0 1)) rfl (by exact c69) (by exact c70) (by exact c71) (by exact c72) (by exact c73) (by exact c74) (by exact c75) (by exact c76) (by exact c77) (by exact c78) (by exact c79) (by exact c80) (by exact c81) (by exact c82) (by exact c83) (by exact c84) (by exact c85) (by exact c86) (by exact c87) (by exact c88) (by exact c89) (by exact c90) (by exact c91) (by exact c92) (by exact c93) (by exact c94) (by exact c95) (congrArg (fun n : Nat => (n : Int)) ((ocT kb1).trans (ocF kb2)).symm) (RR_mk (by first | exact e8 | exact (kp2 8 (by decide)).trans e8) (by first | exact e10 | exact (kp2 10 (by decide)).trans e10) (by first | exact e33 | exact (kp2 33 (by decide)).trans e33) (by first | exact e38 | exact (kp2 38 (by decide)).trans e38) (by first | exact e44 | exact (kp2 44 (by decide)).trans e44) (by first | exact e53 | exact (kp2 53 (by decide)).trans e53) (by first | exact tr | exact tell_kp (by exact tr) kp2) pi ni (by first | exact li | exact li2) rrf rtp htp rrd rse phl phi rim rco ht nM nsn)), (by repeat (first | exact fun _ _ => rfl | refine frr_up ?_ (by decide)))⟩
        | exact ⟨rfl, ⟨0, rfl, fun z => absurd (((ocT kb1).trans ((ocT kb2).trans (ocF kb3))).symm.trans z) (by decide)⟩, (RefC_mk (g := (va_up (va_up g 0 z0) 0 1)) rfl (by exact c69) (by exact c70) (by exact c71) (by exact c72) (by exact c73) (by exact c74) (by exact c75) (by exact c76) (by exact c77) (by exact c78) (by exact c79) (by exact c80) (by exact c81) (by exact c82) (by exact c83) (by exact c84) (by exact c85) (by exact c86) (by exact c87) (by exact c88) (by exact c89) (by exact c90) (by exact c91) (by exact c92) (by exact c93) (by exact c94) (by exact c95) (congrArg (fun n : Nat => (n : Int)) ((ocT kb1).trans ((ocT kb2).trans (ocF kb3))).symm) (RR_mk (by first | exact e8 | exact (kp2 8 (by decide)).trans e8) (by first | exact e10 | exact (kp2 10 (by decide)).trans e10) (by first | exact e33 | exact (kp2 33 (by decide)).trans e33) (by first | exact e38 | exact (kp2 38 (by decide)).trans e38) (by first | exact e44 | exact (kp2 44 (by decide)).trans e44) (by first | exact e53 | exact (kp2 53 (by decide)).trans e53) (by first | exact tr | exact tell_kp (by exact tr) kp2) pi ni (by first | exact li | exact li2) rrf rtp htp rrd rse phl phi rim rco ht nM nsn)), (by repeat (first | exact fun _ _ => rfl | refine frr_up ?_ (by decide)))⟩
  · obtain rfl := hh.symm
    refine ⟨rfl, ?_⟩
    dsimp only [Option.toList, List.cons_append, List.nil_append]
    refine r_if_eq (tgt := 34) dX9_judged_10 (by decide) ⟨by omega, by omega⟩ (fun g10 => ?_) (fun g10 => absurd g10 (by omega))
    refine r_iconst dX9_judged_34 ?_
    refine r_iret dX9_judged_35 ?_
    first
      | exact ⟨rfl, ⟨0, rfl, fun z => absurd ((ocF kb1).symm.trans z) (by decide)⟩, (RefC_mk (g := (va_up (va_up g 0 z0) 0 1)) rfl (by exact c69) (by exact c70) (by exact c71) (by exact c72) (by exact c73) (by exact c74) (by exact c75) (by exact c76) (by exact c77) (by exact c78) (by exact c79) (by exact c80) (by exact c81) (by exact c82) (by exact c83) (by exact c84) (by exact c85) (by exact c86) (by exact c87) (by exact c88) (by exact c89) (by exact c90) (by exact c91) (by exact c92) (by exact c93) (by exact c94) (by exact c95) (congrArg (fun n : Nat => (n : Int)) (ocF kb1).symm) (RR_mk (by first | exact e8 | exact (kp2 8 (by decide)).trans e8) (by first | exact e10 | exact (kp2 10 (by decide)).trans e10) (by first | exact e33 | exact (kp2 33 (by decide)).trans e33) (by first | exact e38 | exact (kp2 38 (by decide)).trans e38) (by first | exact e44 | exact (kp2 44 (by decide)).trans e44) (by first | exact e53 | exact (kp2 53 (by decide)).trans e53) (by first | exact tr | exact tell_kp (by exact tr) kp2) pi ni (by first | exact li | exact li2) rrf rtp htp rrd rse phl phi rim rco ht nM nsn)), (by repeat (first | exact fun _ _ => rfl | refine frr_up ?_ (by decide)))⟩
      | exact ⟨rfl, ⟨0, rfl, fun z => absurd (((ocT kb1).trans (ocF kb2)).symm.trans z) (by decide)⟩, (RefC_mk (g := (va_up (va_up g 0 z0) 0 1)) rfl (by exact c69) (by exact c70) (by exact c71) (by exact c72) (by exact c73) (by exact c74) (by exact c75) (by exact c76) (by exact c77) (by exact c78) (by exact c79) (by exact c80) (by exact c81) (by exact c82) (by exact c83) (by exact c84) (by exact c85) (by exact c86) (by exact c87) (by exact c88) (by exact c89) (by exact c90) (by exact c91) (by exact c92) (by exact c93) (by exact c94) (by exact c95) (congrArg (fun n : Nat => (n : Int)) ((ocT kb1).trans (ocF kb2)).symm) (RR_mk (by first | exact e8 | exact (kp2 8 (by decide)).trans e8) (by first | exact e10 | exact (kp2 10 (by decide)).trans e10) (by first | exact e33 | exact (kp2 33 (by decide)).trans e33) (by first | exact e38 | exact (kp2 38 (by decide)).trans e38) (by first | exact e44 | exact (kp2 44 (by decide)).trans e44) (by first | exact e53 | exact (kp2 53 (by decide)).trans e53) (by first | exact tr | exact tell_kp (by exact tr) kp2) pi ni (by first | exact li | exact li2) rrf rtp htp rrd rse phl phi rim rco ht nM nsn)), (by repeat (first | exact fun _ _ => rfl | refine frr_up ?_ (by decide)))⟩
      | exact ⟨rfl, ⟨0, rfl, fun z => absurd (((ocT kb1).trans ((ocT kb2).trans (ocF kb3))).symm.trans z) (by decide)⟩, (RefC_mk (g := (va_up (va_up g 0 z0) 0 1)) rfl (by exact c69) (by exact c70) (by exact c71) (by exact c72) (by exact c73) (by exact c74) (by exact c75) (by exact c76) (by exact c77) (by exact c78) (by exact c79) (by exact c80) (by exact c81) (by exact c82) (by exact c83) (by exact c84) (by exact c85) (by exact c86) (by exact c87) (by exact c88) (by exact c89) (by exact c90) (by exact c91) (by exact c92) (by exact c93) (by exact c94) (by exact c95) (congrArg (fun n : Nat => (n : Int)) ((ocT kb1).trans ((ocT kb2).trans (ocF kb3))).symm) (RR_mk (by first | exact e8 | exact (kp2 8 (by decide)).trans e8) (by first | exact e10 | exact (kp2 10 (by decide)).trans e10) (by first | exact e33 | exact (kp2 33 (by decide)).trans e33) (by first | exact e38 | exact (kp2 38 (by decide)).trans e38) (by first | exact e44 | exact (kp2 44 (by decide)).trans e44) (by first | exact e53 | exact (kp2 53 (by decide)).trans e53) (by first | exact tr | exact tell_kp (by exact tr) kp2) pi ni (by first | exact li | exact li2) rrf rtp htp rrd rse phl phi rim rco ht nM nsn)), (by repeat (first | exact fun _ _ => rfl | refine frr_up ?_ (by decide)))⟩

