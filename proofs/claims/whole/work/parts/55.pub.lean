/-! ===== the reference: its public methods ===== -/
theorem s_X9_fault {h : aH} {th : Int} {t : Nat → Int} {tp : Nat} {fpl hlaw himg : Int} {rf : Nat → Int} {nd sw nc hl hs : Int} {K U I O G L cf ct fc nx cd : Nat → Int} {nr ns nm : Int} {rd ry rm rt se md my mt : Nat → Int} {M : ND} {ls : LSm} (cr : RefC h (t, tp, fpl, rf, hlaw, himg, ((nd, sw, nc), (hl, hs), K, U, I, O, G, L, cf, ct, fc, nx, cd), ((nr, ns, nm), rd, ry, rm, rt, se, md, my, mt), M, ls) th)  : mSem yX9_fault cX9_fault 1 (some .int) 6 0 0 [.ref 68] 97 h (RefQ (ocL []) fpl h (t, tp, fpl, rf, hlaw, himg, ((nd, sw, nc), (hl, hs), K, U, I, O, G, L, cf, ct, fc, nx, cd), ((nr, ns, nm), rd, ry, rm, rt, se, md, my, mt), M, ls)) noX := by
  refine RefC_elim cr (fun g dl cl lm trr rfr nD nC nL lt lgt mn rdg cpl grp sea rts row cod ncod pil opn stg bsd imo imr ims imm w c68 c69 c70 c71 c72 c73 c74 c75 c76 c77 c78 c79 c80 c81 c82 c83 c84 c85 c86 c87 c88 c89 c90 c91 c92 c93 c94 c95 hth rr => ?_)
  refine RR_elim rr (fun e8 e10 e33 e38 e44 e53 tr pi ni li rrf rtp htp rrd rse phl phi rim rco ht => ?_)
  obtain ⟨t1, t2, t3, t31, pnm, tdl, tcl, tlm, tmd, pmt, pmd, pmy⟩ := id tr
  obtain ⟨pnd, psw, pnc, pK, pU, pI, pO, pG, pL, pcf, pct, pfc, pnx⟩ := id pi
  obtain ⟨pnr, pns, pnm2, prd, pry, prm, prt, pse, pmd2, pmy2, pmt2⟩ := id ni
  refine mSem_of (own := RX9) (name := "fault") pn_X9 rfl rfl (Nat.le_of_ble_eq_true rfl) ?_
  refine r_aload_n dX9_fault_0 rfl rfl ?_
  refine r_iconst dX9_fault_1 ?_
  refine r_putR dX9_fault_2 fp_X9_102 (by decide) c68 (nar_int _) (Nat.le_of_ble_eq_true rfl) setR_0 (fun z0 hz0 => ?_)
  refine r_aload_n dX9_fault_5 rfl rfl ?_
  refine r_getR (z := (g 10)) dX9_fault_6 fl_X9_26 (by decide) rfl rfl ?_
  refine r_iret dX9_fault_9 ?_
  exact ⟨rfl, ⟨_, rfl, fun _ => e10⟩, (RefC_mk (g := (va_up g 0 z0)) rfl (by exact c69) (by exact c70) (by exact c71) (by exact c72) (by exact c73) (by exact c74) (by exact c75) (by exact c76) (by exact c77) (by exact c78) (by exact c79) (by exact c80) (by exact c81) (by exact c82) (by exact c83) (by exact c84) (by exact c85) (by exact c86) (by exact c87) (by exact c88) (by exact c89) (by exact c90) (by exact c91) (by exact c92) (by exact c93) (by exact c94) (by exact c95) (by first | exact hz0.trans (by simp [ocL]) | exact (kp2 0 (by decide)).trans (hz0.trans (by simp [ocL]))) (RR_mk (by first | exact e8 | exact (kp2 8 (by decide)).trans e8) (by first | exact e10 | exact (kp2 10 (by decide)).trans e10) (by first | exact e33 | exact (kp2 33 (by decide)).trans e33) (by first | exact e38 | exact (kp2 38 (by decide)).trans e38) (by first | exact e44 | exact (kp2 44 (by decide)).trans e44) (by first | exact e53 | exact (kp2 53 (by decide)).trans e53) (by first | exact tr | exact tell_kp tr kp2) pi ni (by first | exact li | exact li2) rrf rtp htp rrd rse phl phi rim rco ht)), (by repeat (first | exact fun _ _ => rfl | refine frr_up ?_ (by decide)))⟩

theorem s_X9_unread {h : aH} {th : Int} {t : Nat → Int} {tp : Nat} {fpl hlaw himg : Int} {rf : Nat → Int} {nd sw nc hl hs : Int} {K U I O G L cf ct fc nx cd : Nat → Int} {nr ns nm : Int} {rd ry rm rt se md my mt : Nat → Int} {M : ND} {ls : LSm} (cr : RefC h (t, tp, fpl, rf, hlaw, himg, ((nd, sw, nc), (hl, hs), K, U, I, O, G, L, cf, ct, fc, nx, cd), ((nr, ns, nm), rd, ry, rm, rt, se, md, my, mt), M, ls) th)  : mSem yX9_unread cX9_unread 1 (some .int) 6 0 0 [.ref 68] 97 h (RefQ (ocL []) (unreadS (t, tp, fpl, rf, hlaw, himg, ((nd, sw, nc), (hl, hs), K, U, I, O, G, L, cf, ct, fc, nx, cd), ((nr, ns, nm), rd, ry, rm, rt, se, md, my, mt), M, ls)).1 h (unreadS (t, tp, fpl, rf, hlaw, himg, ((nd, sw, nc), (hl, hs), K, U, I, O, G, L, cf, ct, fc, nx, cd), ((nr, ns, nm), rd, ry, rm, rt, se, md, my, mt), M, ls)).2) noX := by
  refine RefC_elim cr (fun g dl cl lm trr rfr nD nC nL lt lgt mn rdg cpl grp sea rts row cod ncod pil opn stg bsd imo imr ims imm w c68 c69 c70 c71 c72 c73 c74 c75 c76 c77 c78 c79 c80 c81 c82 c83 c84 c85 c86 c87 c88 c89 c90 c91 c92 c93 c94 c95 hth rr => ?_)
  refine RR_elim rr (fun e8 e10 e33 e38 e44 e53 tr pi ni li rrf rtp htp rrd rse phl phi rim rco ht => ?_)
  obtain ⟨t1, t2, t3, t31, pnm, tdl, tcl, tlm, tmd, pmt, pmd, pmy⟩ := id tr
  obtain ⟨pnd, psw, pnc, pK, pU, pI, pO, pG, pL, pcf, pct, pfc, pnx⟩ := id pi
  obtain ⟨pnr, pns, pnm2, prd, pry, prm, prt, pse, pmd2, pmy2, pmt2⟩ := id ni
  have e0 : unreadS (t, tp, fpl, rf, hlaw, himg, ((nd, sw, nc), (hl, hs), K, U, I, O, G, L, cf, ct, fc, nx, cd), ((nr, ns, nm), rd, ry, rm, rt, se, md, my, mt), M, ls)  = if 0 < nr then (nr - 1, (t, tp, fpl, rf, hlaw, himg, ((nd, sw, nc), (hl, hs), K, U, I, O, G, L, cf, ct, fc, nx, cd), ((nr - 1, ns, nm), rd, ry, rm, rt, se, md, my, mt), M, ls)) else (-1, (t, tp, fpl, rf, hlaw, himg, ((nd, sw, nc), (hl, hs), K, U, I, O, G, L, cf, ct, fc, nx, cd), ((nr, ns, nm), rd, ry, rm, rt, se, md, my, mt), M, ls)) := rfl
  refine mSem_of (own := RX9) (name := "unread") pn_X9 rfl rfl (Nat.le_of_ble_eq_true rfl) ?_
  refine r_aload_n dX9_unread_0 rfl rfl ?_
  refine r_iconst dX9_unread_1 ?_
  refine r_putR dX9_unread_2 fp_X9_102 (by decide) c68 (nar_int _) (Nat.le_of_ble_eq_true rfl) setR_0 (fun z0 hz0 => ?_)
  refine r_aload_n dX9_unread_5 rfl rfl ?_
  refine r_getR (z := (g 33)) dX9_unread_6 fl_X9_224 (by decide) rfl rfl ?_
  refine r_if_ne (tgt := 14) dX9_unread_9 (by decide) ⟨by omega, by omega⟩ (fun g9 => ?_) (fun g9 => ?_)
  · refine r_aload_n dX9_unread_14 rfl rfl ?_
    refine r_dup dX9_unread_15 rfl ?_
    refine r_getR (z := (g 33)) dX9_unread_16 fl_X9_224 (by decide) rfl rfl ?_
    refine r_iconst dX9_unread_19 ?_
    refine r_isub dX9_unread_20 ?_
    refine r_putR dX9_unread_21 fp_X9_224 (by decide) rfl (nar_int _) (Nat.le_of_ble_eq_true rfl) setR_33 (fun z1 hz1 => ?_)
    refine r_aload_n dX9_unread_24 rfl rfl ?_
    refine r_getR (z := z1) dX9_unread_25 fl_X9_224 (by decide) rfl rfl ?_
    refine r_iret dX9_unread_28 ?_
    rw [if_pos (by omega)] at e0
    rw [e0]
    exact ⟨rfl, ⟨_, rfl, fun _ => (by show _ = nr - 1; omega)⟩, (RefC_mk (g := (va_up (va_up g 0 z0) 33 z1)) rfl (by exact c69) (by exact c70) (by exact c71) (by exact c72) (by exact c73) (by exact c74) (by exact c75) (by exact c76) (by exact c77) (by exact c78) (by exact c79) (by exact c80) (by exact c81) (by exact c82) (by exact c83) (by exact c84) (by exact c85) (by exact c86) (by exact c87) (by exact c88) (by exact c89) (by exact c90) (by exact c91) (by exact c92) (by exact c93) (by exact c94) (by exact c95) (by first | exact hz0.trans (by simp [ocL]) | exact (kp2 0 (by decide)).trans (hz0.trans (by simp [ocL]))) (RR_mk (by first | exact e8 | exact (kp2 8 (by decide)).trans e8) (by first | exact e10 | exact (kp2 10 (by decide)).trans e10) (by show z1 = nr - 1; omega) (by first | exact e38 | exact (kp2 38 (by decide)).trans e38) (by first | exact e44 | exact (kp2 44 (by decide)).trans e44) (by first | exact e53 | exact (kp2 53 (by decide)).trans e53) (by first | exact tr | exact tell_kp tr kp2) pi ⟨⟨by omega, by omega⟩, pns, pnm2, prd, pry, prm, prt, pse, pmd2, pmy2, pmt2⟩ (by first | exact li | exact li2) rrf rtp htp (fun j hj => rrd j (by omega)) rse phl phi rim rco ht)), (by repeat (first | exact fun _ _ => rfl | refine frr_up ?_ (by decide)))⟩
  · refine r_iconst dX9_unread_12 ?_
    refine r_iret dX9_unread_13 ?_
    rw [if_neg (by omega)] at e0
    rw [e0]
    exact ⟨rfl, ⟨_, rfl, fun _ => rfl⟩, (RefC_mk (g := (va_up g 0 z0)) rfl (by exact c69) (by exact c70) (by exact c71) (by exact c72) (by exact c73) (by exact c74) (by exact c75) (by exact c76) (by exact c77) (by exact c78) (by exact c79) (by exact c80) (by exact c81) (by exact c82) (by exact c83) (by exact c84) (by exact c85) (by exact c86) (by exact c87) (by exact c88) (by exact c89) (by exact c90) (by exact c91) (by exact c92) (by exact c93) (by exact c94) (by exact c95) (by first | exact hz0.trans (by simp [ocL]) | exact (kp2 0 (by decide)).trans (hz0.trans (by simp [ocL]))) (RR_mk (by first | exact e8 | exact (kp2 8 (by decide)).trans e8) (by first | exact e10 | exact (kp2 10 (by decide)).trans e10) (by first | exact e33 | exact (kp2 33 (by decide)).trans e33) (by first | exact e38 | exact (kp2 38 (by decide)).trans e38) (by first | exact e44 | exact (kp2 44 (by decide)).trans e44) (by first | exact e53 | exact (kp2 53 (by decide)).trans e53) (by first | exact tr | exact tell_kp tr kp2) pi ni (by first | exact li | exact li2) rrf rtp htp rrd rse phl phi rim rco ht)), (by repeat (first | exact fun _ _ => rfl | refine frr_up ?_ (by decide)))⟩

