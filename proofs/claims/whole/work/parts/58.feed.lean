/-! ===== the reference: feed, count, years ===== -/
theorem s_X9_feed {h : aH} {th : Int} {t : Nat → Int} {tp : Nat} {fpl hlaw himg : Int} {rf : Nat → Int} {nd sw nc hl hs : Int} {K U I O G L cf ct fc nx cd : Nat → Int} {nr ns nm : Int} {rd ry rm rt se md my mt : Nat → Int} {M : ND} {ls : LSm} (cr : RefC h (t, tp, fpl, rf, hlaw, himg, ((nd, sw, nc), (hl, hs), K, U, I, O, G, L, cf, ct, fc, nx, cd), ((nr, ns, nm), rd, ry, rm, rt, se, md, my, mt), M, ls) th) {x1 x2 x3 x4 x5 : Int} (ix1 : inR x1) (ix2 : inR x2) (ix3 : inR x3) (ix4 : inR x4) (ix5 : inR x5)  : mSem yX9_feed cX9_feed 6 (some .int) 6 0 0 [.ref 68, iv x1, iv x2, iv x3, iv x4, iv x5] 97 h (RefQ (ocL []) (feedS (t, tp, fpl, rf, hlaw, himg, ((nd, sw, nc), (hl, hs), K, U, I, O, G, L, cf, ct, fc, nx, cd), ((nr, ns, nm), rd, ry, rm, rt, se, md, my, mt), M, ls) x1 x2 x3 x4 x5).1 h (feedS (t, tp, fpl, rf, hlaw, himg, ((nd, sw, nc), (hl, hs), K, U, I, O, G, L, cf, ct, fc, nx, cd), ((nr, ns, nm), rd, ry, rm, rt, se, md, my, mt), M, ls) x1 x2 x3 x4 x5).2) noX := by
  refine RefC_elim cr (fun g dl cl lm trr rfr nD nC nL lt lgt mn rdg cpl grp sea rts row cod ncod pil opn stg bsd imo imr ims imm w c68 c69 c70 c71 c72 c73 c74 c75 c76 c77 c78 c79 c80 c81 c82 c83 c84 c85 c86 c87 c88 c89 c90 c91 c92 c93 c94 c95 hth rr => ?_)
  refine RR_elim rr (fun e8 e10 e33 e38 e44 e53 tr pi ni li rrf rtp htp rrd rse phl phi rim rco ht nM nsn => ?_)
  obtain ⟨t1, t2, t3, t31, pnm, tdl, tcl, tlm, tmd, pmt, pmd, pmy⟩ := id tr
  obtain ⟨pnd, psw, pnc, pK, pU, pI, pO, pG, pL, pcf, pct, pfc, pnx⟩ := id pi
  obtain ⟨pnr, pns, pnm2, prd, pry, prm, prt, pse, pmd2, pmy2, pmt2⟩ := id ni
  unfold inR at ix1 ix2 ix3 ix4 ix5
  have e0 : feedS (t, tp, fpl, rf, hlaw, himg, ((nd, sw, nc), (hl, hs), K, U, I, O, G, L, cf, ct, fc, nx, cd), ((nr, ns, nm), rd, ry, rm, rt, se, md, my, mt), M, ls) x1 x2 x3 x4 x5 = if tp + 20 ≤ 700 then (((tp + 20 : Nat) : Int), ((putT (putT (putT (putT (putT t tp x1) (tp + 4) x2) ((tp + 4) + 4) x3) (((tp + 4) + 4) + 4) x4) ((((tp + 4) + 4) + 4) + 4) x5), (tp + 20), fpl, rf, hlaw, himg, ((nd, sw, nc), (hl, hs), K, U, I, O, G, L, cf, ct, fc, nx, cd), ((nr, ns, nm), rd, ry, rm, rt, se, md, my, mt), M, ls)) else (-1, (t, tp, fpl, rf, hlaw, himg, ((nd, sw, nc), (hl, hs), K, U, I, O, G, L, cf, ct, fc, nx, cd), ((nr, ns, nm), rd, ry, rm, rt, se, md, my, mt), M, ls)) := rfl
  refine mSem_of (own := RX9) (name := "feed") pn_X9 rfl rfl (Nat.le_of_ble_eq_true rfl) ?_
  refine r_aload_n dX9_feed_0 rfl rfl ?_
  refine r_iconst dX9_feed_1 ?_
  refine r_putR dX9_feed_2 fp_X9_102 (by decide) c68 (nar_int _) (Nat.le_of_ble_eq_true rfl) setR_0 (fun z0 hz0 => ?_)
  refine r_aload_n dX9_feed_5 rfl rfl ?_
  refine r_getR (z := (g 8)) dX9_feed_6 fl_X9_105 (by decide) rfl rfl ?_
  rw [e8]
  refine r_bipush dX9_feed_9 rfl ?_
  refine r_iadd dX9_feed_11 ?_
  refine r_sipush dX9_feed_12 rfl ?_
  refine r_icmp_le (tgt := 20) dX9_feed_15 (by decide) ⟨by omega, by omega⟩ ⟨by omega, by omega⟩ (fun g15 => ?_) (fun g15 => ?_)
  · refine r_aload_n dX9_feed_20 rfl rfl ?_
    refine r_iload_n dX9_feed_21 rfl rfl ?_
    refine r_callV 68 [_] (s_X9_lays (hl := hl) (hs := hs) (RefC_mk (g := (va_up g 0 z0)) rfl (by exact c69) (by exact c70) (by exact c71) (by exact c72) (by exact c73) (by exact c74) (by exact c75) (by exact c76) (by exact c77) (by exact c78) (by exact c79) (by exact c80) (by exact c81) (by exact c82) (by exact c83) (by exact c84) (by exact c85) (by exact c86) (by exact c87) (by exact c88) (by exact c89) (by exact c90) (by exact c91) (by exact c92) (by exact c93) (by exact c94) (by exact c95) hz0 (RR_mk (by first | exact e8 | exact (kp2 8 (by decide)).trans e8) (by first | exact e10 | exact (kp2 10 (by decide)).trans e10) (by first | exact e33 | exact (kp2 33 (by decide)).trans e33) (by first | exact e38 | exact (kp2 38 (by decide)).trans e38) (by first | exact e44 | exact (kp2 44 (by decide)).trans e44) (by first | exact e53 | exact (kp2 53 (by decide)).trans e53) (by first | exact tr | exact tell_kp (by exact tr) kp2) pi ni (by first | exact li | exact li2) rrf rtp htp rrd rse phl phi rim rco ht nM nsn)) ix1 (by omega)) dX9_feed_22 cs_X9_108 im_X9_lays (by decide) rfl rfl (by decide) (by decide) (by decide) rfl rfl (Nat.le_of_ble_eq_true rfl) (fun _ _ _ q => q.elim) (fun v n2 h2 q => ?_)
    obtain ⟨rfl, rfl, cr1, fr1⟩ := q
    refine RefC_elim cr1 (fun g dl cl lm trr rfr nD nC nL lt lgt mn rdg cpl grp sea rts row cod ncod pil opn stg bsd imo imr ims imm w c68 c69 c70 c71 c72 c73 c74 c75 c76 c77 c78 c79 c80 c81 c82 c83 c84 c85 c86 c87 c88 c89 c90 c91 c92 c93 c94 c95 hth rr => ?_)
    have e8 := rr.1.1
    refine ⟨rfl, ?_⟩
    dsimp only [Option.toList, List.cons_append, List.nil_append]
    refine r_aload_n dX9_feed_25 rfl rfl ?_
    refine r_iload_n dX9_feed_26 rfl rfl ?_
    refine r_callV 68 [_] (s_X9_lays (hl := hl) (hs := hs) cr1 ix2 (by omega)) dX9_feed_27 cs_X9_108 im_X9_lays (by decide) c68 rfl (by decide) (by decide) (by decide) rfl rfl (Nat.le_of_ble_eq_true rfl) (fun _ _ _ q => q.elim) (fun v n2 h2 q => ?_)
    obtain ⟨rfl, rfl, cr2, fr2⟩ := q
    refine RefC_elim cr2 (fun g dl cl lm trr rfr nD nC nL lt lgt mn rdg cpl grp sea rts row cod ncod pil opn stg bsd imo imr ims imm w c68 c69 c70 c71 c72 c73 c74 c75 c76 c77 c78 c79 c80 c81 c82 c83 c84 c85 c86 c87 c88 c89 c90 c91 c92 c93 c94 c95 hth rr => ?_)
    have e8 := rr.1.1
    refine ⟨rfl, ?_⟩
    dsimp only [Option.toList, List.cons_append, List.nil_append]
    refine r_aload_n dX9_feed_30 rfl rfl ?_
    refine r_iload_n dX9_feed_31 rfl rfl ?_
    refine r_callV 68 [_] (s_X9_lays (hl := hl) (hs := hs) cr2 ix3 (by omega)) dX9_feed_32 cs_X9_108 im_X9_lays (by decide) c68 rfl (by decide) (by decide) (by decide) rfl rfl (Nat.le_of_ble_eq_true rfl) (fun _ _ _ q => q.elim) (fun v n2 h2 q => ?_)
    obtain ⟨rfl, rfl, cr3, fr3⟩ := q
    refine RefC_elim cr3 (fun g dl cl lm trr rfr nD nC nL lt lgt mn rdg cpl grp sea rts row cod ncod pil opn stg bsd imo imr ims imm w c68 c69 c70 c71 c72 c73 c74 c75 c76 c77 c78 c79 c80 c81 c82 c83 c84 c85 c86 c87 c88 c89 c90 c91 c92 c93 c94 c95 hth rr => ?_)
    have e8 := rr.1.1
    refine ⟨rfl, ?_⟩
    dsimp only [Option.toList, List.cons_append, List.nil_append]
    refine r_aload_n dX9_feed_35 rfl rfl ?_
    refine r_iload dX9_feed_36 rfl ?_
    refine r_callV 68 [_] (s_X9_lays (hl := hl) (hs := hs) cr3 ix4 (by omega)) dX9_feed_38 cs_X9_108 im_X9_lays (by decide) c68 rfl (by decide) (by decide) (by decide) rfl rfl (Nat.le_of_ble_eq_true rfl) (fun _ _ _ q => q.elim) (fun v n2 h2 q => ?_)
    obtain ⟨rfl, rfl, cr4, fr4⟩ := q
    refine RefC_elim cr4 (fun g dl cl lm trr rfr nD nC nL lt lgt mn rdg cpl grp sea rts row cod ncod pil opn stg bsd imo imr ims imm w c68 c69 c70 c71 c72 c73 c74 c75 c76 c77 c78 c79 c80 c81 c82 c83 c84 c85 c86 c87 c88 c89 c90 c91 c92 c93 c94 c95 hth rr => ?_)
    have e8 := rr.1.1
    refine ⟨rfl, ?_⟩
    dsimp only [Option.toList, List.cons_append, List.nil_append]
    refine r_aload_n dX9_feed_41 rfl rfl ?_
    refine r_iload dX9_feed_42 rfl ?_
    refine r_callV 68 [_] (s_X9_lays (hl := hl) (hs := hs) cr4 ix5 (by omega)) dX9_feed_44 cs_X9_108 im_X9_lays (by decide) c68 rfl (by decide) (by decide) (by decide) rfl rfl (Nat.le_of_ble_eq_true rfl) (fun _ _ _ q => q.elim) (fun v n2 h2 q => ?_)
    obtain ⟨rfl, rfl, cr5, fr5⟩ := q
    refine RefC_elim cr5 (fun g dl cl lm trr rfr nD nC nL lt lgt mn rdg cpl grp sea rts row cod ncod pil opn stg bsd imo imr ims imm w c68 c69 c70 c71 c72 c73 c74 c75 c76 c77 c78 c79 c80 c81 c82 c83 c84 c85 c86 c87 c88 c89 c90 c91 c92 c93 c94 c95 hth rr => ?_)
    have e8 := rr.1.1
    refine ⟨rfl, ?_⟩
    dsimp only [Option.toList, List.cons_append, List.nil_append]
    refine r_aload_n dX9_feed_47 rfl rfl ?_
    refine r_getR (z := (g 8)) dX9_feed_48 fl_X9_105 (by decide) c68 rfl ?_
    refine r_iret dX9_feed_51 ?_
    rw [if_pos (by omega)] at e0
    rw [e0]
    exact ⟨rfl, ⟨_, rfl, fun _ => e8⟩, cr5, fun j hj => (fr5 j hj).trans ((fr4 j hj).trans ((fr3 j hj).trans ((fr2 j hj).trans ((fr1 j hj).trans (va_up_ne _ _ (by omega))))))⟩
  · refine r_iconst dX9_feed_18 ?_
    refine r_iret dX9_feed_19 ?_
    rw [if_neg (by omega)] at e0
    rw [e0]
    exact ⟨rfl, ⟨_, rfl, fun _ => rfl⟩, (RefC_mk (g := (va_up g 0 z0)) rfl (by exact c69) (by exact c70) (by exact c71) (by exact c72) (by exact c73) (by exact c74) (by exact c75) (by exact c76) (by exact c77) (by exact c78) (by exact c79) (by exact c80) (by exact c81) (by exact c82) (by exact c83) (by exact c84) (by exact c85) (by exact c86) (by exact c87) (by exact c88) (by exact c89) (by exact c90) (by exact c91) (by exact c92) (by exact c93) (by exact c94) (by exact c95) (by first | exact hz0 | exact (kp2 0 (by decide)).trans hz0) (RR_mk (by first | exact e8 | exact (kp2 8 (by decide)).trans e8) (by first | exact e10 | exact (kp2 10 (by decide)).trans e10) (by first | exact e33 | exact (kp2 33 (by decide)).trans e33) (by first | exact e38 | exact (kp2 38 (by decide)).trans e38) (by first | exact e44 | exact (kp2 44 (by decide)).trans e44) (by first | exact e53 | exact (kp2 53 (by decide)).trans e53) (by first | exact tr | exact tell_kp (by exact tr) kp2) pi ni (by first | exact li | exact li2) rrf rtp htp rrd rse phl phi rim rco ht nM nsn)), (by repeat (first | exact fun _ _ => rfl | refine frr_up ?_ (by decide)))⟩

theorem s_X9_count {h : aH} {th : Int} {t : Nat → Int} {tp : Nat} {fpl hlaw himg : Int} {rf : Nat → Int} {nd sw nc hl hs : Int} {K U I O G L cf ct fc nx cd : Nat → Int} {nr ns nm : Int} {rd ry rm rt se md my mt : Nat → Int} {M : ND} {ls : LSm} (cr : RefC h (t, tp, fpl, rf, hlaw, himg, ((nd, sw, nc), (hl, hs), K, U, I, O, G, L, cf, ct, fc, nx, cd), ((nr, ns, nm), rd, ry, rm, rt, se, md, my, mt), M, ls) th) {w_ : Int} (iw_ : inR w_)  : mSem yX9_count cX9_count 2 (some .int) 6 0 0 [.ref 68, iv w_] 97 h (RefQ (ocL [(cntB w_, 1)]) (cntV nd sw nc nr ns nm tp L rf w_) h (t, tp, fpl, rf, hlaw, himg, ((nd, sw, nc), (hl, hs), K, U, I, O, G, L, cf, ct, fc, nx, cd), ((nr, ns, nm), rd, ry, rm, rt, se, md, my, mt), M, ls)) noX := by
  refine RefC_elim cr (fun g dl cl lm trr rfr nD nC nL lt lgt mn rdg cpl grp sea rts row cod ncod pil opn stg bsd imo imr ims imm w c68 c69 c70 c71 c72 c73 c74 c75 c76 c77 c78 c79 c80 c81 c82 c83 c84 c85 c86 c87 c88 c89 c90 c91 c92 c93 c94 c95 hth rr => ?_)
  refine RR_elim rr (fun e8 e10 e33 e38 e44 e53 tr pi ni li rrf rtp htp rrd rse phl phi rim rco ht nM nsn => ?_)
  obtain ⟨t1, t2, t3, t31, pnm, tdl, tcl, tlm, tmd, pmt, pmd, pmy⟩ := id tr
  obtain ⟨pnd, psw, pnc, pK, pU, pI, pO, pG, pL, pcf, pct, pfc, pnx⟩ := id pi
  obtain ⟨pnr, pns, pnm2, prd, pry, prm, prt, pse, pmd2, pmy2, pmt2⟩ := id ni
  unfold inR at iw_
  refine mSem_of (own := RX9) (name := "count") pn_X9 rfl rfl (Nat.le_of_ble_eq_true rfl) ?_
  refine r_aload_n dX9_count_0 rfl rfl ?_
  refine r_iconst dX9_count_1 ?_
  refine r_putR dX9_count_2 fp_X9_102 (by decide) c68 (nar_int _) (Nat.le_of_ble_eq_true rfl) setR_0 (fun z0 hz0 => ?_)
  refine r_aload_n dX9_count_5 rfl rfl ?_
  refine r_iload_n dX9_count_6 rfl rfl ?_
  refine r_iconst dX9_count_7 ?_
  refine r_bipush dX9_count_8 rfl ?_
  refine r_callS [_, _, _] (s_X9_within ⟨by omega, by omega⟩ ⟨by omega, by omega⟩ ⟨by omega, by omega⟩) dX9_count_10 cs_X9_239 sm_X9_within (by decide) (by decide) (by decide) rfl rfl (Nat.le_of_ble_eq_true rfl) (fun _ _ _ q => q.elim) (fun v n2 h2 q => ?_)
  obtain ⟨rfl, rfl, hh⟩ := q
  obtain rfl := hh.symm
  refine ⟨rfl, ?_⟩
  dsimp only [Option.toList, List.cons_append, List.nil_append]
  have q1 : b2i (decide (0 ≤ w_ ∧ w_ ≤ 10)) = 0 ↔ ¬ (0 ≤ w_ ∧ w_ ≤ 10) := by rw [b2i_0, decide_eq_false_iff_not]
  have q2 := b2i_01 (decide (0 ≤ w_ ∧ w_ ≤ 10))
  refine r_if_ne (tgt := 27) dX9_count_13 (by decide) ⟨by omega, by omega⟩ (fun g13 => ?_) (fun g13 => ?_)
  · refine r_iconst dX9_count_27 ?_
    refine r_goto (tgt := 32) dX9_count_28 (by decide) ?_
    refine r_iconst dX9_count_32 ?_
    refine r_callV 68 [_, _] (s_X9_right (b := true) (by rfl) (by exact hz0) (by omega)) dX9_count_33 cs_X9_207 im_X9_right (by decide) rfl rfl (by decide) (by decide) (by decide) rfl rfl (Nat.le_of_ble_eq_true rfl) (fun _ _ _ q => q.elim) (fun v n2 h2 q => ?_)
    obtain ⟨rfl, q⟩ := q
    rcases q with ⟨kb0, rfl, hh⟩ | ⟨kb0, rfl, hh⟩
    · obtain rfl := hh.symm
      refine ⟨rfl, ?_⟩
      dsimp only [Option.toList, List.cons_append, List.nil_append]
      refine r_if_ne (tgt := 41) dX9_count_36 (by decide) ⟨by omega, by omega⟩ (fun g36 => ?_) (fun g36 => absurd g36 (by omega))
      have hcb : (0 ≤ w_ ∧ w_ ≤ 10) ∨ (20 ≤ w_ ∧ w_ ≤ 31) := by omega
      refine r_iload_n dX9_count_41 rfl rfl ?_
      refine r_tsw7 (td := 119) (t0 := 84) (t1 := 89) (t2 := 94) (t3 := 99) (t4 := 104) (t5 := 109) (t6 := 114) dX9_count_42 rfl ⟨by omega, by omega⟩ (by decide) (by decide) (by decide) (by decide) (by decide) (by decide) (by decide) (by decide) (fun g42 => ?_) (fun g42 => ?_) (fun g42 => ?_) (fun g42 => ?_) (fun g42 => ?_) (fun g42 => ?_) (fun g42 => ?_) (fun g42 => ?_)
      · refine r_iload_n dX9_count_119 rfl rfl ?_
        refine r_bipush dX9_count_120 rfl ?_
        refine r_icmp_ge (tgt := 137) dX9_count_122 (by decide) ⟨by omega, by omega⟩ ⟨by omega, by omega⟩ (fun g122 => ?_) (fun g122 => ?_)
        · refine r_aload_n dX9_count_137 rfl rfl ?_
          refine r_get (fs := RGL _ _) dX9_count_138 fl_X9_20 (by decide) rfl rfl ?_
          refine r_iload_n dX9_count_141 rfl rfl ?_
          refine r_bipush dX9_count_142 rfl ?_
          refine r_isub dX9_count_144 ?_
          refine r_ald dX9_count_145 (by decide) c71 (by omega) (by omega) (by decide) ?_
          refine r_iret dX9_count_146 ?_
          first
            | (exfalso; omega)
            | exact ⟨rfl, ⟨_, rfl, fun _ => (by unfold cntV; rw [if_neg (by omega), if_pos (by omega)]; exact (rrf _ (by omega)))⟩, (RefC_mk (g := (va_up g 0 z0)) rfl (by exact c69) (by exact c70) (by exact c71) (by exact c72) (by exact c73) (by exact c74) (by exact c75) (by exact c76) (by exact c77) (by exact c78) (by exact c79) (by exact c80) (by exact c81) (by exact c82) (by exact c83) (by exact c84) (by exact c85) (by exact c86) (by exact c87) (by exact c88) (by exact c89) (by exact c90) (by exact c91) (by exact c92) (by exact c93) (by exact c94) (by exact c95) (hz0.trans (congrArg (fun n : Nat => (n : Int)) ((ocT (show cntB w_ = true from decide_eq_true (by omega))).trans ocE).symm)) (RR_mk (by first | exact e8 | exact (kp2 8 (by decide)).trans e8) (by first | exact e10 | exact (kp2 10 (by decide)).trans e10) (by first | exact e33 | exact (kp2 33 (by decide)).trans e33) (by first | exact e38 | exact (kp2 38 (by decide)).trans e38) (by first | exact e44 | exact (kp2 44 (by decide)).trans e44) (by first | exact e53 | exact (kp2 53 (by decide)).trans e53) (by first | exact tr | exact tell_kp (by exact tr) kp2) pi ni (by first | exact li | exact li2) rrf rtp htp rrd rse phl phi rim rco ht nM nsn)), (by repeat (first | exact fun _ _ => rfl | refine frr_up ?_ (by decide)))⟩
            | exact ⟨rfl, ⟨_, rfl, fun _ => (by unfold cntV; rw [if_pos (by omega)]; exact (tlm _ (by omega)))⟩, (RefC_mk (g := (va_up g 0 z0)) rfl (by exact c69) (by exact c70) (by exact c71) (by exact c72) (by exact c73) (by exact c74) (by exact c75) (by exact c76) (by exact c77) (by exact c78) (by exact c79) (by exact c80) (by exact c81) (by exact c82) (by exact c83) (by exact c84) (by exact c85) (by exact c86) (by exact c87) (by exact c88) (by exact c89) (by exact c90) (by exact c91) (by exact c92) (by exact c93) (by exact c94) (by exact c95) (hz0.trans (congrArg (fun n : Nat => (n : Int)) ((ocT (show cntB w_ = true from decide_eq_true (by omega))).trans ocE).symm)) (RR_mk (by first | exact e8 | exact (kp2 8 (by decide)).trans e8) (by first | exact e10 | exact (kp2 10 (by decide)).trans e10) (by first | exact e33 | exact (kp2 33 (by decide)).trans e33) (by first | exact e38 | exact (kp2 38 (by decide)).trans e38) (by first | exact e44 | exact (kp2 44 (by decide)).trans e44) (by first | exact e53 | exact (kp2 53 (by decide)).trans e53) (by first | exact tr | exact tell_kp (by exact tr) kp2) pi ni (by first | exact li | exact li2) rrf rtp htp rrd rse phl phi rim rco ht nM nsn)), (by repeat (first | exact fun _ _ => rfl | refine frr_up ?_ (by decide)))⟩
        · refine r_aload_n dX9_count_125 rfl rfl ?_
          refine r_get (fs := RGL _ _) dX9_count_126 fl_X9_29 (by decide) rfl rfl ?_
          refine r_iload_n dX9_count_129 rfl rfl ?_
          refine r_bipush dX9_count_130 rfl ?_
          refine r_isub dX9_count_132 ?_
          refine r_ald dX9_count_133 (by decide) c73 (by omega) (by omega) (by decide) ?_
          refine r_goto (tgt := 146) dX9_count_134 (by decide) ?_
          refine r_iret dX9_count_146 ?_
          first
            | (exfalso; omega)
            | exact ⟨rfl, ⟨_, rfl, fun _ => (by unfold cntV; rw [if_neg (by omega), if_pos (by omega)]; exact (rrf _ (by omega)))⟩, (RefC_mk (g := (va_up g 0 z0)) rfl (by exact c69) (by exact c70) (by exact c71) (by exact c72) (by exact c73) (by exact c74) (by exact c75) (by exact c76) (by exact c77) (by exact c78) (by exact c79) (by exact c80) (by exact c81) (by exact c82) (by exact c83) (by exact c84) (by exact c85) (by exact c86) (by exact c87) (by exact c88) (by exact c89) (by exact c90) (by exact c91) (by exact c92) (by exact c93) (by exact c94) (by exact c95) (hz0.trans (congrArg (fun n : Nat => (n : Int)) ((ocT (show cntB w_ = true from decide_eq_true (by omega))).trans ocE).symm)) (RR_mk (by first | exact e8 | exact (kp2 8 (by decide)).trans e8) (by first | exact e10 | exact (kp2 10 (by decide)).trans e10) (by first | exact e33 | exact (kp2 33 (by decide)).trans e33) (by first | exact e38 | exact (kp2 38 (by decide)).trans e38) (by first | exact e44 | exact (kp2 44 (by decide)).trans e44) (by first | exact e53 | exact (kp2 53 (by decide)).trans e53) (by first | exact tr | exact tell_kp (by exact tr) kp2) pi ni (by first | exact li | exact li2) rrf rtp htp rrd rse phl phi rim rco ht nM nsn)), (by repeat (first | exact fun _ _ => rfl | refine frr_up ?_ (by decide)))⟩
            | exact ⟨rfl, ⟨_, rfl, fun _ => (by unfold cntV; rw [if_pos (by omega)]; exact (tlm _ (by omega)))⟩, (RefC_mk (g := (va_up g 0 z0)) rfl (by exact c69) (by exact c70) (by exact c71) (by exact c72) (by exact c73) (by exact c74) (by exact c75) (by exact c76) (by exact c77) (by exact c78) (by exact c79) (by exact c80) (by exact c81) (by exact c82) (by exact c83) (by exact c84) (by exact c85) (by exact c86) (by exact c87) (by exact c88) (by exact c89) (by exact c90) (by exact c91) (by exact c92) (by exact c93) (by exact c94) (by exact c95) (hz0.trans (congrArg (fun n : Nat => (n : Int)) ((ocT (show cntB w_ = true from decide_eq_true (by omega))).trans ocE).symm)) (RR_mk (by first | exact e8 | exact (kp2 8 (by decide)).trans e8) (by first | exact e10 | exact (kp2 10 (by decide)).trans e10) (by first | exact e33 | exact (kp2 33 (by decide)).trans e33) (by first | exact e38 | exact (kp2 38 (by decide)).trans e38) (by first | exact e44 | exact (kp2 44 (by decide)).trans e44) (by first | exact e53 | exact (kp2 53 (by decide)).trans e53) (by first | exact tr | exact tell_kp (by exact tr) kp2) pi ni (by first | exact li | exact li2) rrf rtp htp rrd rse phl phi rim rco ht nM nsn)), (by repeat (first | exact fun _ _ => rfl | refine frr_up ?_ (by decide)))⟩
      · refine r_aload_n dX9_count_84 rfl rfl ?_
        refine r_getR (z := (g 1)) dX9_count_85 fl_X9_214 (by decide) rfl rfl ?_
        refine r_iret dX9_count_88 ?_
        exact ⟨rfl, ⟨_, rfl, fun _ => (by unfold cntV; rw [if_neg (by omega), if_neg (by omega), if_pos (by omega)]; exact t1)⟩, (RefC_mk (g := (va_up g 0 z0)) rfl (by exact c69) (by exact c70) (by exact c71) (by exact c72) (by exact c73) (by exact c74) (by exact c75) (by exact c76) (by exact c77) (by exact c78) (by exact c79) (by exact c80) (by exact c81) (by exact c82) (by exact c83) (by exact c84) (by exact c85) (by exact c86) (by exact c87) (by exact c88) (by exact c89) (by exact c90) (by exact c91) (by exact c92) (by exact c93) (by exact c94) (by exact c95) (hz0.trans (congrArg (fun n : Nat => (n : Int)) ((ocT (show cntB w_ = true from decide_eq_true (by omega))).trans ocE).symm)) (RR_mk (by first | exact e8 | exact (kp2 8 (by decide)).trans e8) (by first | exact e10 | exact (kp2 10 (by decide)).trans e10) (by first | exact e33 | exact (kp2 33 (by decide)).trans e33) (by first | exact e38 | exact (kp2 38 (by decide)).trans e38) (by first | exact e44 | exact (kp2 44 (by decide)).trans e44) (by first | exact e53 | exact (kp2 53 (by decide)).trans e53) (by first | exact tr | exact tell_kp (by exact tr) kp2) pi ni (by first | exact li | exact li2) rrf rtp htp rrd rse phl phi rim rco ht nM nsn)), (by repeat (first | exact fun _ _ => rfl | refine frr_up ?_ (by decide)))⟩
      · refine r_aload_n dX9_count_89 rfl rfl ?_
        refine r_getR (z := (g 3)) dX9_count_90 fl_X9_7 (by decide) rfl rfl ?_
        refine r_iret dX9_count_93 ?_
        exact ⟨rfl, ⟨_, rfl, fun _ => (by unfold cntV; rw [if_neg (by omega), if_neg (by omega), if_neg (by omega), if_pos (by omega)]; exact t3)⟩, (RefC_mk (g := (va_up g 0 z0)) rfl (by exact c69) (by exact c70) (by exact c71) (by exact c72) (by exact c73) (by exact c74) (by exact c75) (by exact c76) (by exact c77) (by exact c78) (by exact c79) (by exact c80) (by exact c81) (by exact c82) (by exact c83) (by exact c84) (by exact c85) (by exact c86) (by exact c87) (by exact c88) (by exact c89) (by exact c90) (by exact c91) (by exact c92) (by exact c93) (by exact c94) (by exact c95) (hz0.trans (congrArg (fun n : Nat => (n : Int)) ((ocT (show cntB w_ = true from decide_eq_true (by omega))).trans ocE).symm)) (RR_mk (by first | exact e8 | exact (kp2 8 (by decide)).trans e8) (by first | exact e10 | exact (kp2 10 (by decide)).trans e10) (by first | exact e33 | exact (kp2 33 (by decide)).trans e33) (by first | exact e38 | exact (kp2 38 (by decide)).trans e38) (by first | exact e44 | exact (kp2 44 (by decide)).trans e44) (by first | exact e53 | exact (kp2 53 (by decide)).trans e53) (by first | exact tr | exact tell_kp (by exact tr) kp2) pi ni (by first | exact li | exact li2) rrf rtp htp rrd rse phl phi rim rco ht nM nsn)), (by repeat (first | exact fun _ _ => rfl | refine frr_up ?_ (by decide)))⟩
      · refine r_aload_n dX9_count_94 rfl rfl ?_
        refine r_getR (z := (g 2)) dX9_count_95 fl_X9_217 (by decide) rfl rfl ?_
        refine r_iret dX9_count_98 ?_
        exact ⟨rfl, ⟨_, rfl, fun _ => (by unfold cntV; rw [if_neg (by omega), if_neg (by omega), if_neg (by omega), if_neg (by omega), if_pos (by omega)]; exact t2)⟩, (RefC_mk (g := (va_up g 0 z0)) rfl (by exact c69) (by exact c70) (by exact c71) (by exact c72) (by exact c73) (by exact c74) (by exact c75) (by exact c76) (by exact c77) (by exact c78) (by exact c79) (by exact c80) (by exact c81) (by exact c82) (by exact c83) (by exact c84) (by exact c85) (by exact c86) (by exact c87) (by exact c88) (by exact c89) (by exact c90) (by exact c91) (by exact c92) (by exact c93) (by exact c94) (by exact c95) (hz0.trans (congrArg (fun n : Nat => (n : Int)) ((ocT (show cntB w_ = true from decide_eq_true (by omega))).trans ocE).symm)) (RR_mk (by first | exact e8 | exact (kp2 8 (by decide)).trans e8) (by first | exact e10 | exact (kp2 10 (by decide)).trans e10) (by first | exact e33 | exact (kp2 33 (by decide)).trans e33) (by first | exact e38 | exact (kp2 38 (by decide)).trans e38) (by first | exact e44 | exact (kp2 44 (by decide)).trans e44) (by first | exact e53 | exact (kp2 53 (by decide)).trans e53) (by first | exact tr | exact tell_kp (by exact tr) kp2) pi ni (by first | exact li | exact li2) rrf rtp htp rrd rse phl phi rim rco ht nM nsn)), (by repeat (first | exact fun _ _ => rfl | refine frr_up ?_ (by decide)))⟩
      · refine r_aload_n dX9_count_99 rfl rfl ?_
        refine r_getR (z := (g 33)) dX9_count_100 fl_X9_224 (by decide) rfl rfl ?_
        refine r_iret dX9_count_103 ?_
        exact ⟨rfl, ⟨_, rfl, fun _ => (by unfold cntV; rw [if_neg (by omega), if_neg (by omega), if_neg (by omega), if_neg (by omega), if_neg (by omega), if_pos (by omega)]; exact e33)⟩, (RefC_mk (g := (va_up g 0 z0)) rfl (by exact c69) (by exact c70) (by exact c71) (by exact c72) (by exact c73) (by exact c74) (by exact c75) (by exact c76) (by exact c77) (by exact c78) (by exact c79) (by exact c80) (by exact c81) (by exact c82) (by exact c83) (by exact c84) (by exact c85) (by exact c86) (by exact c87) (by exact c88) (by exact c89) (by exact c90) (by exact c91) (by exact c92) (by exact c93) (by exact c94) (by exact c95) (hz0.trans (congrArg (fun n : Nat => (n : Int)) ((ocT (show cntB w_ = true from decide_eq_true (by omega))).trans ocE).symm)) (RR_mk (by first | exact e8 | exact (kp2 8 (by decide)).trans e8) (by first | exact e10 | exact (kp2 10 (by decide)).trans e10) (by first | exact e33 | exact (kp2 33 (by decide)).trans e33) (by first | exact e38 | exact (kp2 38 (by decide)).trans e38) (by first | exact e44 | exact (kp2 44 (by decide)).trans e44) (by first | exact e53 | exact (kp2 53 (by decide)).trans e53) (by first | exact tr | exact tell_kp (by exact tr) kp2) pi ni (by first | exact li | exact li2) rrf rtp htp rrd rse phl phi rim rco ht nM nsn)), (by repeat (first | exact fun _ _ => rfl | refine frr_up ?_ (by decide)))⟩
      · refine r_aload_n dX9_count_104 rfl rfl ?_
        refine r_getR (z := (g 38)) dX9_count_105 fl_X9_227 (by decide) rfl rfl ?_
        refine r_iret dX9_count_108 ?_
        exact ⟨rfl, ⟨_, rfl, fun _ => (by unfold cntV; rw [if_neg (by omega), if_neg (by omega), if_neg (by omega), if_neg (by omega), if_neg (by omega), if_neg (by omega), if_pos (by omega)]; exact e38)⟩, (RefC_mk (g := (va_up g 0 z0)) rfl (by exact c69) (by exact c70) (by exact c71) (by exact c72) (by exact c73) (by exact c74) (by exact c75) (by exact c76) (by exact c77) (by exact c78) (by exact c79) (by exact c80) (by exact c81) (by exact c82) (by exact c83) (by exact c84) (by exact c85) (by exact c86) (by exact c87) (by exact c88) (by exact c89) (by exact c90) (by exact c91) (by exact c92) (by exact c93) (by exact c94) (by exact c95) (hz0.trans (congrArg (fun n : Nat => (n : Int)) ((ocT (show cntB w_ = true from decide_eq_true (by omega))).trans ocE).symm)) (RR_mk (by first | exact e8 | exact (kp2 8 (by decide)).trans e8) (by first | exact e10 | exact (kp2 10 (by decide)).trans e10) (by first | exact e33 | exact (kp2 33 (by decide)).trans e33) (by first | exact e38 | exact (kp2 38 (by decide)).trans e38) (by first | exact e44 | exact (kp2 44 (by decide)).trans e44) (by first | exact e53 | exact (kp2 53 (by decide)).trans e53) (by first | exact tr | exact tell_kp (by exact tr) kp2) pi ni (by first | exact li | exact li2) rrf rtp htp rrd rse phl phi rim rco ht nM nsn)), (by repeat (first | exact fun _ _ => rfl | refine frr_up ?_ (by decide)))⟩
      · refine r_aload_n dX9_count_109 rfl rfl ?_
        refine r_getR (z := (g 31)) dX9_count_110 fl_X9_230 (by decide) rfl rfl ?_
        refine r_iret dX9_count_113 ?_
        exact ⟨rfl, ⟨_, rfl, fun _ => (by unfold cntV; rw [if_neg (by omega), if_neg (by omega), if_neg (by omega), if_neg (by omega), if_neg (by omega), if_neg (by omega), if_neg (by omega), if_pos (by omega)]; exact t31)⟩, (RefC_mk (g := (va_up g 0 z0)) rfl (by exact c69) (by exact c70) (by exact c71) (by exact c72) (by exact c73) (by exact c74) (by exact c75) (by exact c76) (by exact c77) (by exact c78) (by exact c79) (by exact c80) (by exact c81) (by exact c82) (by exact c83) (by exact c84) (by exact c85) (by exact c86) (by exact c87) (by exact c88) (by exact c89) (by exact c90) (by exact c91) (by exact c92) (by exact c93) (by exact c94) (by exact c95) (hz0.trans (congrArg (fun n : Nat => (n : Int)) ((ocT (show cntB w_ = true from decide_eq_true (by omega))).trans ocE).symm)) (RR_mk (by first | exact e8 | exact (kp2 8 (by decide)).trans e8) (by first | exact e10 | exact (kp2 10 (by decide)).trans e10) (by first | exact e33 | exact (kp2 33 (by decide)).trans e33) (by first | exact e38 | exact (kp2 38 (by decide)).trans e38) (by first | exact e44 | exact (kp2 44 (by decide)).trans e44) (by first | exact e53 | exact (kp2 53 (by decide)).trans e53) (by first | exact tr | exact tell_kp (by exact tr) kp2) pi ni (by first | exact li | exact li2) rrf rtp htp rrd rse phl phi rim rco ht nM nsn)), (by repeat (first | exact fun _ _ => rfl | refine frr_up ?_ (by decide)))⟩
      · refine r_aload_n dX9_count_114 rfl rfl ?_
        refine r_getR (z := (g 8)) dX9_count_115 fl_X9_105 (by decide) rfl rfl ?_
        refine r_iret dX9_count_118 ?_
        exact ⟨rfl, ⟨_, rfl, fun _ => (by unfold cntV; rw [if_neg (by omega), if_neg (by omega), if_neg (by omega), if_neg (by omega), if_neg (by omega), if_neg (by omega), if_neg (by omega), if_neg (by omega)]; exact e8)⟩, (RefC_mk (g := (va_up g 0 z0)) rfl (by exact c69) (by exact c70) (by exact c71) (by exact c72) (by exact c73) (by exact c74) (by exact c75) (by exact c76) (by exact c77) (by exact c78) (by exact c79) (by exact c80) (by exact c81) (by exact c82) (by exact c83) (by exact c84) (by exact c85) (by exact c86) (by exact c87) (by exact c88) (by exact c89) (by exact c90) (by exact c91) (by exact c92) (by exact c93) (by exact c94) (by exact c95) (hz0.trans (congrArg (fun n : Nat => (n : Int)) ((ocT (show cntB w_ = true from decide_eq_true (by omega))).trans ocE).symm)) (RR_mk (by first | exact e8 | exact (kp2 8 (by decide)).trans e8) (by first | exact e10 | exact (kp2 10 (by decide)).trans e10) (by first | exact e33 | exact (kp2 33 (by decide)).trans e33) (by first | exact e38 | exact (kp2 38 (by decide)).trans e38) (by first | exact e44 | exact (kp2 44 (by decide)).trans e44) (by first | exact e53 | exact (kp2 53 (by decide)).trans e53) (by first | exact tr | exact tell_kp (by exact tr) kp2) pi ni (by first | exact li | exact li2) rrf rtp htp rrd rse phl phi rim rco ht nM nsn)), (by repeat (first | exact fun _ _ => rfl | refine frr_up ?_ (by decide)))⟩
    · exact absurd kb0 (by decide)
  · refine r_iload_n dX9_count_16 rfl rfl ?_
    refine r_bipush dX9_count_17 rfl ?_
    refine r_bipush dX9_count_19 rfl ?_
    refine r_callS [_, _, _] (s_X9_within ⟨by omega, by omega⟩ ⟨by omega, by omega⟩ ⟨by omega, by omega⟩) dX9_count_21 cs_X9_239 sm_X9_within (by decide) (by decide) (by decide) rfl rfl (Nat.le_of_ble_eq_true rfl) (fun _ _ _ q => q.elim) (fun v n2 h2 q => ?_)
    obtain ⟨rfl, rfl, hh⟩ := q
    obtain rfl := hh.symm
    refine ⟨rfl, ?_⟩
    dsimp only [Option.toList, List.cons_append, List.nil_append]
    have q3 : b2i (decide (20 ≤ w_ ∧ w_ ≤ 31)) = 0 ↔ ¬ (20 ≤ w_ ∧ w_ ≤ 31) := by rw [b2i_0, decide_eq_false_iff_not]
    have q4 := b2i_01 (decide (20 ≤ w_ ∧ w_ ≤ 31))
    refine r_if_eq (tgt := 31) dX9_count_24 (by decide) ⟨by omega, by omega⟩ (fun g24 => ?_) (fun g24 => ?_)
    · refine r_iconst dX9_count_31 ?_
      refine r_iconst dX9_count_32 ?_
      refine r_callV 68 [_, _] (s_X9_right (b := false) (by rfl) (by exact hz0) (by omega)) dX9_count_33 cs_X9_207 im_X9_right (by decide) rfl rfl (by decide) (by decide) (by decide) rfl rfl (Nat.le_of_ble_eq_true rfl) (fun _ _ _ q => q.elim) (fun v n2 h2 q => ?_)
      obtain ⟨rfl, q⟩ := q
      rcases q with ⟨kb0, rfl, hh⟩ | ⟨kb0, rfl, hh⟩
      · exact absurd kb0 (by decide)
      · obtain rfl := hh.symm
        refine ⟨rfl, ?_⟩
        dsimp only [Option.toList, List.cons_append, List.nil_append]
        refine r_if_ne (tgt := 41) dX9_count_36 (by decide) ⟨by omega, by omega⟩ (fun g36 => absurd g36 (by omega)) (fun g36 => ?_)
        skip
        refine r_iconst dX9_count_39 ?_
        refine r_iret dX9_count_40 ?_
        first
          | exact absurd kb0 (by decide)
          | exact ⟨rfl, ⟨0, rfl, fun z => absurd ((ocF (show cntB w_ = false from decide_eq_false (by omega))).symm.trans z) (by decide)⟩, (RefC_mk (g := (va_up (va_up g 0 z0) 0 1)) rfl (by exact c69) (by exact c70) (by exact c71) (by exact c72) (by exact c73) (by exact c74) (by exact c75) (by exact c76) (by exact c77) (by exact c78) (by exact c79) (by exact c80) (by exact c81) (by exact c82) (by exact c83) (by exact c84) (by exact c85) (by exact c86) (by exact c87) (by exact c88) (by exact c89) (by exact c90) (by exact c91) (by exact c92) (by exact c93) (by exact c94) (by exact c95) (congrArg (fun n : Nat => (n : Int)) (ocF (show cntB w_ = false from decide_eq_false (by omega))).symm) (RR_mk (by first | exact e8 | exact (kp2 8 (by decide)).trans e8) (by first | exact e10 | exact (kp2 10 (by decide)).trans e10) (by first | exact e33 | exact (kp2 33 (by decide)).trans e33) (by first | exact e38 | exact (kp2 38 (by decide)).trans e38) (by first | exact e44 | exact (kp2 44 (by decide)).trans e44) (by first | exact e53 | exact (kp2 53 (by decide)).trans e53) (by first | exact tr | exact tell_kp (by exact tr) kp2) pi ni (by first | exact li | exact li2) rrf rtp htp rrd rse phl phi rim rco ht nM nsn)), (by repeat (first | exact fun _ _ => rfl | refine frr_up ?_ (by decide)))⟩
    · refine r_iconst dX9_count_27 ?_
      refine r_goto (tgt := 32) dX9_count_28 (by decide) ?_
      refine r_iconst dX9_count_32 ?_
      refine r_callV 68 [_, _] (s_X9_right (b := true) (by rfl) (by exact hz0) (by omega)) dX9_count_33 cs_X9_207 im_X9_right (by decide) rfl rfl (by decide) (by decide) (by decide) rfl rfl (Nat.le_of_ble_eq_true rfl) (fun _ _ _ q => q.elim) (fun v n2 h2 q => ?_)
      obtain ⟨rfl, q⟩ := q
      rcases q with ⟨kb0, rfl, hh⟩ | ⟨kb0, rfl, hh⟩
      · obtain rfl := hh.symm
        refine ⟨rfl, ?_⟩
        dsimp only [Option.toList, List.cons_append, List.nil_append]
        refine r_if_ne (tgt := 41) dX9_count_36 (by decide) ⟨by omega, by omega⟩ (fun g36 => ?_) (fun g36 => absurd g36 (by omega))
        have hcb : (0 ≤ w_ ∧ w_ ≤ 10) ∨ (20 ≤ w_ ∧ w_ ≤ 31) := by omega
        refine r_iload_n dX9_count_41 rfl rfl ?_
        refine r_tsw7 (td := 119) (t0 := 84) (t1 := 89) (t2 := 94) (t3 := 99) (t4 := 104) (t5 := 109) (t6 := 114) dX9_count_42 rfl ⟨by omega, by omega⟩ (by decide) (by decide) (by decide) (by decide) (by decide) (by decide) (by decide) (by decide) (fun g42 => ?_) (fun g42 => ?_) (fun g42 => ?_) (fun g42 => ?_) (fun g42 => ?_) (fun g42 => ?_) (fun g42 => ?_) (fun g42 => ?_)
        · refine r_iload_n dX9_count_119 rfl rfl ?_
          refine r_bipush dX9_count_120 rfl ?_
          refine r_icmp_ge (tgt := 137) dX9_count_122 (by decide) ⟨by omega, by omega⟩ ⟨by omega, by omega⟩ (fun g122 => ?_) (fun g122 => ?_)
          · refine r_aload_n dX9_count_137 rfl rfl ?_
            refine r_get (fs := RGL _ _) dX9_count_138 fl_X9_20 (by decide) rfl rfl ?_
            refine r_iload_n dX9_count_141 rfl rfl ?_
            refine r_bipush dX9_count_142 rfl ?_
            refine r_isub dX9_count_144 ?_
            refine r_ald dX9_count_145 (by decide) c71 (by omega) (by omega) (by decide) ?_
            refine r_iret dX9_count_146 ?_
            first
              | (exfalso; omega)
              | exact ⟨rfl, ⟨_, rfl, fun _ => (by unfold cntV; rw [if_neg (by omega), if_pos (by omega)]; exact (rrf _ (by omega)))⟩, (RefC_mk (g := (va_up g 0 z0)) rfl (by exact c69) (by exact c70) (by exact c71) (by exact c72) (by exact c73) (by exact c74) (by exact c75) (by exact c76) (by exact c77) (by exact c78) (by exact c79) (by exact c80) (by exact c81) (by exact c82) (by exact c83) (by exact c84) (by exact c85) (by exact c86) (by exact c87) (by exact c88) (by exact c89) (by exact c90) (by exact c91) (by exact c92) (by exact c93) (by exact c94) (by exact c95) (hz0.trans (congrArg (fun n : Nat => (n : Int)) ((ocT (show cntB w_ = true from decide_eq_true (by omega))).trans ocE).symm)) (RR_mk (by first | exact e8 | exact (kp2 8 (by decide)).trans e8) (by first | exact e10 | exact (kp2 10 (by decide)).trans e10) (by first | exact e33 | exact (kp2 33 (by decide)).trans e33) (by first | exact e38 | exact (kp2 38 (by decide)).trans e38) (by first | exact e44 | exact (kp2 44 (by decide)).trans e44) (by first | exact e53 | exact (kp2 53 (by decide)).trans e53) (by first | exact tr | exact tell_kp (by exact tr) kp2) pi ni (by first | exact li | exact li2) rrf rtp htp rrd rse phl phi rim rco ht nM nsn)), (by repeat (first | exact fun _ _ => rfl | refine frr_up ?_ (by decide)))⟩
              | exact ⟨rfl, ⟨_, rfl, fun _ => (by unfold cntV; rw [if_pos (by omega)]; exact (tlm _ (by omega)))⟩, (RefC_mk (g := (va_up g 0 z0)) rfl (by exact c69) (by exact c70) (by exact c71) (by exact c72) (by exact c73) (by exact c74) (by exact c75) (by exact c76) (by exact c77) (by exact c78) (by exact c79) (by exact c80) (by exact c81) (by exact c82) (by exact c83) (by exact c84) (by exact c85) (by exact c86) (by exact c87) (by exact c88) (by exact c89) (by exact c90) (by exact c91) (by exact c92) (by exact c93) (by exact c94) (by exact c95) (hz0.trans (congrArg (fun n : Nat => (n : Int)) ((ocT (show cntB w_ = true from decide_eq_true (by omega))).trans ocE).symm)) (RR_mk (by first | exact e8 | exact (kp2 8 (by decide)).trans e8) (by first | exact e10 | exact (kp2 10 (by decide)).trans e10) (by first | exact e33 | exact (kp2 33 (by decide)).trans e33) (by first | exact e38 | exact (kp2 38 (by decide)).trans e38) (by first | exact e44 | exact (kp2 44 (by decide)).trans e44) (by first | exact e53 | exact (kp2 53 (by decide)).trans e53) (by first | exact tr | exact tell_kp (by exact tr) kp2) pi ni (by first | exact li | exact li2) rrf rtp htp rrd rse phl phi rim rco ht nM nsn)), (by repeat (first | exact fun _ _ => rfl | refine frr_up ?_ (by decide)))⟩
          · refine r_aload_n dX9_count_125 rfl rfl ?_
            refine r_get (fs := RGL _ _) dX9_count_126 fl_X9_29 (by decide) rfl rfl ?_
            refine r_iload_n dX9_count_129 rfl rfl ?_
            refine r_bipush dX9_count_130 rfl ?_
            refine r_isub dX9_count_132 ?_
            refine r_ald dX9_count_133 (by decide) c73 (by omega) (by omega) (by decide) ?_
            refine r_goto (tgt := 146) dX9_count_134 (by decide) ?_
            refine r_iret dX9_count_146 ?_
            first
              | (exfalso; omega)
              | exact ⟨rfl, ⟨_, rfl, fun _ => (by unfold cntV; rw [if_neg (by omega), if_pos (by omega)]; exact (rrf _ (by omega)))⟩, (RefC_mk (g := (va_up g 0 z0)) rfl (by exact c69) (by exact c70) (by exact c71) (by exact c72) (by exact c73) (by exact c74) (by exact c75) (by exact c76) (by exact c77) (by exact c78) (by exact c79) (by exact c80) (by exact c81) (by exact c82) (by exact c83) (by exact c84) (by exact c85) (by exact c86) (by exact c87) (by exact c88) (by exact c89) (by exact c90) (by exact c91) (by exact c92) (by exact c93) (by exact c94) (by exact c95) (hz0.trans (congrArg (fun n : Nat => (n : Int)) ((ocT (show cntB w_ = true from decide_eq_true (by omega))).trans ocE).symm)) (RR_mk (by first | exact e8 | exact (kp2 8 (by decide)).trans e8) (by first | exact e10 | exact (kp2 10 (by decide)).trans e10) (by first | exact e33 | exact (kp2 33 (by decide)).trans e33) (by first | exact e38 | exact (kp2 38 (by decide)).trans e38) (by first | exact e44 | exact (kp2 44 (by decide)).trans e44) (by first | exact e53 | exact (kp2 53 (by decide)).trans e53) (by first | exact tr | exact tell_kp (by exact tr) kp2) pi ni (by first | exact li | exact li2) rrf rtp htp rrd rse phl phi rim rco ht nM nsn)), (by repeat (first | exact fun _ _ => rfl | refine frr_up ?_ (by decide)))⟩
              | exact ⟨rfl, ⟨_, rfl, fun _ => (by unfold cntV; rw [if_pos (by omega)]; exact (tlm _ (by omega)))⟩, (RefC_mk (g := (va_up g 0 z0)) rfl (by exact c69) (by exact c70) (by exact c71) (by exact c72) (by exact c73) (by exact c74) (by exact c75) (by exact c76) (by exact c77) (by exact c78) (by exact c79) (by exact c80) (by exact c81) (by exact c82) (by exact c83) (by exact c84) (by exact c85) (by exact c86) (by exact c87) (by exact c88) (by exact c89) (by exact c90) (by exact c91) (by exact c92) (by exact c93) (by exact c94) (by exact c95) (hz0.trans (congrArg (fun n : Nat => (n : Int)) ((ocT (show cntB w_ = true from decide_eq_true (by omega))).trans ocE).symm)) (RR_mk (by first | exact e8 | exact (kp2 8 (by decide)).trans e8) (by first | exact e10 | exact (kp2 10 (by decide)).trans e10) (by first | exact e33 | exact (kp2 33 (by decide)).trans e33) (by first | exact e38 | exact (kp2 38 (by decide)).trans e38) (by first | exact e44 | exact (kp2 44 (by decide)).trans e44) (by first | exact e53 | exact (kp2 53 (by decide)).trans e53) (by first | exact tr | exact tell_kp (by exact tr) kp2) pi ni (by first | exact li | exact li2) rrf rtp htp rrd rse phl phi rim rco ht nM nsn)), (by repeat (first | exact fun _ _ => rfl | refine frr_up ?_ (by decide)))⟩
        · refine r_aload_n dX9_count_84 rfl rfl ?_
          refine r_getR (z := (g 1)) dX9_count_85 fl_X9_214 (by decide) rfl rfl ?_
          refine r_iret dX9_count_88 ?_
          exact ⟨rfl, ⟨_, rfl, fun _ => (by unfold cntV; rw [if_neg (by omega), if_neg (by omega), if_pos (by omega)]; exact t1)⟩, (RefC_mk (g := (va_up g 0 z0)) rfl (by exact c69) (by exact c70) (by exact c71) (by exact c72) (by exact c73) (by exact c74) (by exact c75) (by exact c76) (by exact c77) (by exact c78) (by exact c79) (by exact c80) (by exact c81) (by exact c82) (by exact c83) (by exact c84) (by exact c85) (by exact c86) (by exact c87) (by exact c88) (by exact c89) (by exact c90) (by exact c91) (by exact c92) (by exact c93) (by exact c94) (by exact c95) (hz0.trans (congrArg (fun n : Nat => (n : Int)) ((ocT (show cntB w_ = true from decide_eq_true (by omega))).trans ocE).symm)) (RR_mk (by first | exact e8 | exact (kp2 8 (by decide)).trans e8) (by first | exact e10 | exact (kp2 10 (by decide)).trans e10) (by first | exact e33 | exact (kp2 33 (by decide)).trans e33) (by first | exact e38 | exact (kp2 38 (by decide)).trans e38) (by first | exact e44 | exact (kp2 44 (by decide)).trans e44) (by first | exact e53 | exact (kp2 53 (by decide)).trans e53) (by first | exact tr | exact tell_kp (by exact tr) kp2) pi ni (by first | exact li | exact li2) rrf rtp htp rrd rse phl phi rim rco ht nM nsn)), (by repeat (first | exact fun _ _ => rfl | refine frr_up ?_ (by decide)))⟩
        · refine r_aload_n dX9_count_89 rfl rfl ?_
          refine r_getR (z := (g 3)) dX9_count_90 fl_X9_7 (by decide) rfl rfl ?_
          refine r_iret dX9_count_93 ?_
          exact ⟨rfl, ⟨_, rfl, fun _ => (by unfold cntV; rw [if_neg (by omega), if_neg (by omega), if_neg (by omega), if_pos (by omega)]; exact t3)⟩, (RefC_mk (g := (va_up g 0 z0)) rfl (by exact c69) (by exact c70) (by exact c71) (by exact c72) (by exact c73) (by exact c74) (by exact c75) (by exact c76) (by exact c77) (by exact c78) (by exact c79) (by exact c80) (by exact c81) (by exact c82) (by exact c83) (by exact c84) (by exact c85) (by exact c86) (by exact c87) (by exact c88) (by exact c89) (by exact c90) (by exact c91) (by exact c92) (by exact c93) (by exact c94) (by exact c95) (hz0.trans (congrArg (fun n : Nat => (n : Int)) ((ocT (show cntB w_ = true from decide_eq_true (by omega))).trans ocE).symm)) (RR_mk (by first | exact e8 | exact (kp2 8 (by decide)).trans e8) (by first | exact e10 | exact (kp2 10 (by decide)).trans e10) (by first | exact e33 | exact (kp2 33 (by decide)).trans e33) (by first | exact e38 | exact (kp2 38 (by decide)).trans e38) (by first | exact e44 | exact (kp2 44 (by decide)).trans e44) (by first | exact e53 | exact (kp2 53 (by decide)).trans e53) (by first | exact tr | exact tell_kp (by exact tr) kp2) pi ni (by first | exact li | exact li2) rrf rtp htp rrd rse phl phi rim rco ht nM nsn)), (by repeat (first | exact fun _ _ => rfl | refine frr_up ?_ (by decide)))⟩
        · refine r_aload_n dX9_count_94 rfl rfl ?_
          refine r_getR (z := (g 2)) dX9_count_95 fl_X9_217 (by decide) rfl rfl ?_
          refine r_iret dX9_count_98 ?_
          exact ⟨rfl, ⟨_, rfl, fun _ => (by unfold cntV; rw [if_neg (by omega), if_neg (by omega), if_neg (by omega), if_neg (by omega), if_pos (by omega)]; exact t2)⟩, (RefC_mk (g := (va_up g 0 z0)) rfl (by exact c69) (by exact c70) (by exact c71) (by exact c72) (by exact c73) (by exact c74) (by exact c75) (by exact c76) (by exact c77) (by exact c78) (by exact c79) (by exact c80) (by exact c81) (by exact c82) (by exact c83) (by exact c84) (by exact c85) (by exact c86) (by exact c87) (by exact c88) (by exact c89) (by exact c90) (by exact c91) (by exact c92) (by exact c93) (by exact c94) (by exact c95) (hz0.trans (congrArg (fun n : Nat => (n : Int)) ((ocT (show cntB w_ = true from decide_eq_true (by omega))).trans ocE).symm)) (RR_mk (by first | exact e8 | exact (kp2 8 (by decide)).trans e8) (by first | exact e10 | exact (kp2 10 (by decide)).trans e10) (by first | exact e33 | exact (kp2 33 (by decide)).trans e33) (by first | exact e38 | exact (kp2 38 (by decide)).trans e38) (by first | exact e44 | exact (kp2 44 (by decide)).trans e44) (by first | exact e53 | exact (kp2 53 (by decide)).trans e53) (by first | exact tr | exact tell_kp (by exact tr) kp2) pi ni (by first | exact li | exact li2) rrf rtp htp rrd rse phl phi rim rco ht nM nsn)), (by repeat (first | exact fun _ _ => rfl | refine frr_up ?_ (by decide)))⟩
        · refine r_aload_n dX9_count_99 rfl rfl ?_
          refine r_getR (z := (g 33)) dX9_count_100 fl_X9_224 (by decide) rfl rfl ?_
          refine r_iret dX9_count_103 ?_
          exact ⟨rfl, ⟨_, rfl, fun _ => (by unfold cntV; rw [if_neg (by omega), if_neg (by omega), if_neg (by omega), if_neg (by omega), if_neg (by omega), if_pos (by omega)]; exact e33)⟩, (RefC_mk (g := (va_up g 0 z0)) rfl (by exact c69) (by exact c70) (by exact c71) (by exact c72) (by exact c73) (by exact c74) (by exact c75) (by exact c76) (by exact c77) (by exact c78) (by exact c79) (by exact c80) (by exact c81) (by exact c82) (by exact c83) (by exact c84) (by exact c85) (by exact c86) (by exact c87) (by exact c88) (by exact c89) (by exact c90) (by exact c91) (by exact c92) (by exact c93) (by exact c94) (by exact c95) (hz0.trans (congrArg (fun n : Nat => (n : Int)) ((ocT (show cntB w_ = true from decide_eq_true (by omega))).trans ocE).symm)) (RR_mk (by first | exact e8 | exact (kp2 8 (by decide)).trans e8) (by first | exact e10 | exact (kp2 10 (by decide)).trans e10) (by first | exact e33 | exact (kp2 33 (by decide)).trans e33) (by first | exact e38 | exact (kp2 38 (by decide)).trans e38) (by first | exact e44 | exact (kp2 44 (by decide)).trans e44) (by first | exact e53 | exact (kp2 53 (by decide)).trans e53) (by first | exact tr | exact tell_kp (by exact tr) kp2) pi ni (by first | exact li | exact li2) rrf rtp htp rrd rse phl phi rim rco ht nM nsn)), (by repeat (first | exact fun _ _ => rfl | refine frr_up ?_ (by decide)))⟩
        · refine r_aload_n dX9_count_104 rfl rfl ?_
          refine r_getR (z := (g 38)) dX9_count_105 fl_X9_227 (by decide) rfl rfl ?_
          refine r_iret dX9_count_108 ?_
          exact ⟨rfl, ⟨_, rfl, fun _ => (by unfold cntV; rw [if_neg (by omega), if_neg (by omega), if_neg (by omega), if_neg (by omega), if_neg (by omega), if_neg (by omega), if_pos (by omega)]; exact e38)⟩, (RefC_mk (g := (va_up g 0 z0)) rfl (by exact c69) (by exact c70) (by exact c71) (by exact c72) (by exact c73) (by exact c74) (by exact c75) (by exact c76) (by exact c77) (by exact c78) (by exact c79) (by exact c80) (by exact c81) (by exact c82) (by exact c83) (by exact c84) (by exact c85) (by exact c86) (by exact c87) (by exact c88) (by exact c89) (by exact c90) (by exact c91) (by exact c92) (by exact c93) (by exact c94) (by exact c95) (hz0.trans (congrArg (fun n : Nat => (n : Int)) ((ocT (show cntB w_ = true from decide_eq_true (by omega))).trans ocE).symm)) (RR_mk (by first | exact e8 | exact (kp2 8 (by decide)).trans e8) (by first | exact e10 | exact (kp2 10 (by decide)).trans e10) (by first | exact e33 | exact (kp2 33 (by decide)).trans e33) (by first | exact e38 | exact (kp2 38 (by decide)).trans e38) (by first | exact e44 | exact (kp2 44 (by decide)).trans e44) (by first | exact e53 | exact (kp2 53 (by decide)).trans e53) (by first | exact tr | exact tell_kp (by exact tr) kp2) pi ni (by first | exact li | exact li2) rrf rtp htp rrd rse phl phi rim rco ht nM nsn)), (by repeat (first | exact fun _ _ => rfl | refine frr_up ?_ (by decide)))⟩
        · refine r_aload_n dX9_count_109 rfl rfl ?_
          refine r_getR (z := (g 31)) dX9_count_110 fl_X9_230 (by decide) rfl rfl ?_
          refine r_iret dX9_count_113 ?_
          exact ⟨rfl, ⟨_, rfl, fun _ => (by unfold cntV; rw [if_neg (by omega), if_neg (by omega), if_neg (by omega), if_neg (by omega), if_neg (by omega), if_neg (by omega), if_neg (by omega), if_pos (by omega)]; exact t31)⟩, (RefC_mk (g := (va_up g 0 z0)) rfl (by exact c69) (by exact c70) (by exact c71) (by exact c72) (by exact c73) (by exact c74) (by exact c75) (by exact c76) (by exact c77) (by exact c78) (by exact c79) (by exact c80) (by exact c81) (by exact c82) (by exact c83) (by exact c84) (by exact c85) (by exact c86) (by exact c87) (by exact c88) (by exact c89) (by exact c90) (by exact c91) (by exact c92) (by exact c93) (by exact c94) (by exact c95) (hz0.trans (congrArg (fun n : Nat => (n : Int)) ((ocT (show cntB w_ = true from decide_eq_true (by omega))).trans ocE).symm)) (RR_mk (by first | exact e8 | exact (kp2 8 (by decide)).trans e8) (by first | exact e10 | exact (kp2 10 (by decide)).trans e10) (by first | exact e33 | exact (kp2 33 (by decide)).trans e33) (by first | exact e38 | exact (kp2 38 (by decide)).trans e38) (by first | exact e44 | exact (kp2 44 (by decide)).trans e44) (by first | exact e53 | exact (kp2 53 (by decide)).trans e53) (by first | exact tr | exact tell_kp (by exact tr) kp2) pi ni (by first | exact li | exact li2) rrf rtp htp rrd rse phl phi rim rco ht nM nsn)), (by repeat (first | exact fun _ _ => rfl | refine frr_up ?_ (by decide)))⟩
        · refine r_aload_n dX9_count_114 rfl rfl ?_
          refine r_getR (z := (g 8)) dX9_count_115 fl_X9_105 (by decide) rfl rfl ?_
          refine r_iret dX9_count_118 ?_
          exact ⟨rfl, ⟨_, rfl, fun _ => (by unfold cntV; rw [if_neg (by omega), if_neg (by omega), if_neg (by omega), if_neg (by omega), if_neg (by omega), if_neg (by omega), if_neg (by omega), if_neg (by omega)]; exact e8)⟩, (RefC_mk (g := (va_up g 0 z0)) rfl (by exact c69) (by exact c70) (by exact c71) (by exact c72) (by exact c73) (by exact c74) (by exact c75) (by exact c76) (by exact c77) (by exact c78) (by exact c79) (by exact c80) (by exact c81) (by exact c82) (by exact c83) (by exact c84) (by exact c85) (by exact c86) (by exact c87) (by exact c88) (by exact c89) (by exact c90) (by exact c91) (by exact c92) (by exact c93) (by exact c94) (by exact c95) (hz0.trans (congrArg (fun n : Nat => (n : Int)) ((ocT (show cntB w_ = true from decide_eq_true (by omega))).trans ocE).symm)) (RR_mk (by first | exact e8 | exact (kp2 8 (by decide)).trans e8) (by first | exact e10 | exact (kp2 10 (by decide)).trans e10) (by first | exact e33 | exact (kp2 33 (by decide)).trans e33) (by first | exact e38 | exact (kp2 38 (by decide)).trans e38) (by first | exact e44 | exact (kp2 44 (by decide)).trans e44) (by first | exact e53 | exact (kp2 53 (by decide)).trans e53) (by first | exact tr | exact tell_kp (by exact tr) kp2) pi ni (by first | exact li | exact li2) rrf rtp htp rrd rse phl phi rim rco ht nM nsn)), (by repeat (first | exact fun _ _ => rfl | refine frr_up ?_ (by decide)))⟩
      · exact absurd kb0 (by decide)

