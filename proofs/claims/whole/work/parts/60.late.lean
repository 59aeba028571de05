/-! ===== the reference: lateness, what is taken ===== -/
theorem l_X9_firstOf {h : aH} {w : Int} {dl cl lm mn : Nat → Int} (c69 : h 69 = .inl (0, 45, dl)) (c70 : h 70 = .inl (0, 60, cl)) (c71 : h 71 = .inl (0, 12, lm)) (c79 : h 79 = .inl (0, 120, mn)) {nd sw nc nm : Int} {K U I O G L cf ct fc nx cd md my mt : Nat → Int} (pi : PInv nd sw nc K U I O G L cf ct fc nx cd) {g : Nat → Int} {di : Int} (hdi : 0 ≤ di ∧ di < nd) {day : Int} (hd : 0 ≤ day ∧ day < 365){x : Int} (hx : 0 ≤ x ∧ x < 1440) : ∀ (k : Nat) (m : Int) (gg lt lgt : Nat → Int), m + k = 1440 → 0 ≤ m → TellR gg dl cl lm mn nd sw nc nm K U I O G L cf ct cd md my mt → LitR (gg 30) lt lgt sw nc L cf ct cd → (∀ k, k ≠ 30 → gg k = g k) → Ev RX9 "firstOf" cX9_firstOf 5 (some .int) 5 0 0 (RetT (fsF (fun m => nowI sw nc nm K U I O G L cf ct cd md my mt di day m) x k m) h g w sw nc L cf ct cd) noX 97 (UT h gg w lt lgt) 3 [(0, .ref 68), (1, iv di), (2, iv x), (3, iv day), (4, iv m)] [] := by
  obtain ⟨pnd, psw, pnc, pK, pU, pI, pO, pG, pL, pcf, pct, pfc, pnx⟩ := id pi
  intro k
  induction k with
  | zero =>
    intro m gg lt lgt hm h0 trg lig kp
    refine r_iload dX9_firstOf_3 rfl ?_
    refine r_sipush dX9_firstOf_5 rfl ?_
    refine r_icmp_ge (tgt := 32) dX9_firstOf_8 (by decide) ⟨by omega, by omega⟩ ⟨by omega, by omega⟩ (fun g8 => ?_) (fun g8 => absurd g8 (by omega))
    refine r_iconst dX9_firstOf_32 ?_
    refine r_iret dX9_firstOf_33 ?_
    exact ⟨rfl, rfl, gg, lt, lgt, rfl, lig, kp⟩
  | succ k ih =>
    intro m gg lt lgt hm h0 trg lig kp
    have b2 := now_B sw nc nm K U I O G L cf ct cd md my mt di day m
    have e1 : fsF (fun m => nowI sw nc nm K U I O G L cf ct cd md my mt di day m) x (k + 1) m = if nowI sw nc nm K U I O G L cf ct cd md my mt di day m = x then m else fsF (fun m => nowI sw nc nm K U I O G L cf ct cd md my mt di day m) x k (m + 1) := rfl
    refine r_iload dX9_firstOf_3 rfl ?_
    refine r_sipush dX9_firstOf_5 rfl ?_
    refine r_icmp_ge (tgt := 32) dX9_firstOf_8 (by decide) ⟨by omega, by omega⟩ ⟨by omega, by omega⟩ (fun g8 => absurd g8 (by omega)) (fun g8 => ?_)
    refine r_aload_n dX9_firstOf_11 rfl rfl ?_
    refine r_iload_n dX9_firstOf_12 rfl rfl ?_
    refine r_iload_n dX9_firstOf_13 rfl rfl ?_
    refine r_iload dX9_firstOf_14 rfl ?_
    refine r_callV 68 [_, _, _] (s_X9_tellsNow (g := gg) (by rfl) (by exact c69) (by exact c70) (by exact c71) (by rfl) (by rfl) (by exact c79) trg pi lig (by omega) (by omega) (by omega)) dX9_firstOf_16 cs_X9_278 im_X9_tellsNow (by decide) rfl rfl (by decide) (by decide) (by decide) rfl rfl (Nat.le_of_ble_eq_true rfl) (fun _ _ _ q => q.elim) (fun v n2 h2 q => ?_)
    obtain ⟨rfl, rfl, gn, lt2, lg2, rfl, li2, kp2⟩ := q
    rw [ut_ut]
    have tr2 := tell_kp trg kp2
    refine ⟨rfl, ?_⟩
    dsimp only [Option.toList, List.cons_append, List.nil_append]
    refine r_iload_n dX9_firstOf_19 rfl rfl ?_
    refine r_icmp_ne (tgt := 26) dX9_firstOf_20 (by decide) ⟨by omega, by omega⟩ ⟨by omega, by omega⟩ (fun g20 => ?_) (fun g20 => ?_)
    · refine r_iinc (lv2 := [(0, _), (1, _), (2, _), (3, _), (4, _)]) dX9_firstOf_26 (by decide) rfl rfl rfl ?_
      refine r_goto (tgt := 3) dX9_firstOf_29 (by decide) ?_
      rw [e1, if_neg g20]
      exact ih (m + 1) gn lt2 lg2 (by omega) (by omega) tr2 li2 (fun k hk => (kp2 k hk).trans (kp k hk))
    · refine r_iload dX9_firstOf_23 rfl ?_
      refine r_iret dX9_firstOf_25 ?_
      exact ⟨ivE (by rw [e1, if_pos g20]), rfl, gn, lt2, lg2, rfl, li2, fun k hk => (kp2 k hk).trans (kp k hk)⟩

theorem s_X9_firstOf {h : aH} {g : Nat → Int} {w : Int} (c68 : h 68 = RG g w) {dl cl lm lt lgt mn : Nat → Int} (c69 : h 69 = .inl (0, 45, dl)) (c70 : h 70 = .inl (0, 60, cl)) (c71 : h 71 = .inl (0, 12, lm)) (c77 : h 77 = .inl (2, 1440, lt)) (c78 : h 78 = .inl (2, 1440, lgt)) (c79 : h 79 = .inl (0, 120, mn)) {nd sw nc nm : Int} {K U I O G L cf ct fc nx cd md my mt : Nat → Int} (tr : TellR g dl cl lm mn nd sw nc nm K U I O G L cf ct cd md my mt) (pi : PInv nd sw nc K U I O G L cf ct fc nx cd) (li : LitR (g 30) lt lgt sw nc L cf ct cd) {di : Int} (hdi : 0 ≤ di ∧ di < nd) {x : Int} (hx : 0 ≤ x ∧ x < 1440) {day : Int} (hd : 0 ≤ day ∧ day < 365) : mSem yX9_firstOf cX9_firstOf 5 (some .int) 5 0 0 [.ref 68, iv di, iv x, iv day] 97 h (RetT (fsF (fun m => nowI sw nc nm K U I O G L cf ct cd md my mt di day m) x 1440 0) h g w sw nc L cf ct cd) noX := by
  obtain ⟨t1, t2, t3, t31, pnm, tdl, tcl, tlm, tmd, pmt, pmd, pmy⟩ := id tr
  obtain ⟨pnd, psw, pnc, pK, pU, pI, pO, pG, pL, pcf, pct, pfc, pnx⟩ := id pi
  refine mSem_of (own := RX9) (name := "firstOf") pn_X9 rfl rfl (Nat.le_of_ble_eq_true rfl) ?_
  refine r_iconst dX9_firstOf_0 ?_
  refine r_istore (lv2 := [(0, _), (1, _), (2, _), (3, _), (4, _)]) dX9_firstOf_1 (by decide) rfl rfl ?_
  refine ev_h (ut_self c68 c77 c78) ?_
  exact l_X9_firstOf c69 c70 c71 c79 pi hdi hd hx 1440 0 g lt lgt (by omega) (by omega) tr li (fun _ _ => rfl)

theorem s_X9_lateOn {h : aH} {g : Nat → Int} {w : Int} (c68 : h 68 = RG g w) {dl cl lm lt lgt mn : Nat → Int} (c69 : h 69 = .inl (0, 45, dl)) (c70 : h 70 = .inl (0, 60, cl)) (c71 : h 71 = .inl (0, 12, lm)) (c77 : h 77 = .inl (2, 1440, lt)) (c78 : h 78 = .inl (2, 1440, lgt)) (c79 : h 79 = .inl (0, 120, mn)) {nd sw nc nm : Int} {K U I O G L cf ct fc nx cd md my mt : Nat → Int} (tr : TellR g dl cl lm mn nd sw nc nm K U I O G L cf ct cd md my mt) (pi : PInv nd sw nc K U I O G L cf ct fc nx cd) (li : LitR (g 30) lt lgt sw nc L cf ct cd) {a b : Int} (ha : 0 ≤ a ∧ a < nd) (hb : 0 ≤ b ∧ b < nd) {x : Int} (hx : 0 ≤ x ∧ x < 1440) {day : Int} (hd : 0 ≤ day ∧ day < 365) : mSem yX9_lateOn cX9_lateOn 7 (some .int) 6 0 0 [.ref 68, iv a, iv b, iv x, iv day] 97 h (RetT (latI (fsF (fun m => nowI sw nc nm K U I O G L cf ct cd md my mt a day m) x 1440 0) (fsF (fun m => nowI sw nc nm K U I O G L cf ct cd md my mt b day m) x 1440 0)) h g w sw nc L cf ct cd) noX := by
  obtain ⟨t1, t2, t3, t31, pnm, tdl, tcl, tlm, tmd, pmt, pmd, pmy⟩ := id tr
  obtain ⟨pnd, psw, pnc, pK, pU, pI, pO, pG, pL, pcf, pct, pfc, pnx⟩ := id pi
  refine mSem_of (own := RX9) (name := "lateOn") pn_X9 rfl rfl (Nat.le_of_ble_eq_true rfl) ?_
  have ba := fsF_B (fun m => nowI sw nc nm K U I O G L cf ct cd md my mt a day m) x 1440 0 (by omega) (by omega)
  have bb := fsF_B (fun m => nowI sw nc nm K U I O G L cf ct cd md my mt b day m) x 1440 0 (by omega) (by omega)
  refine r_aload_n dX9_lateOn_0 rfl rfl ?_
  refine r_iload_n dX9_lateOn_1 rfl rfl ?_
  refine r_iload_n dX9_lateOn_2 rfl rfl ?_
  refine r_iload dX9_lateOn_3 rfl ?_
  refine r_callV 68 [_, _, _] (s_X9_firstOf (g := g) c68 c69 c70 c71 c77 c78 c79 tr pi li (by omega) (by omega) (by omega)) dX9_lateOn_5 cs_X9_300 im_X9_firstOf (by decide) c68 rfl (by decide) (by decide) (by decide) rfl rfl (Nat.le_of_ble_eq_true rfl) (fun _ _ _ q => q.elim) (fun v n2 h2 q => ?_)
  obtain ⟨rfl, rfl, gn, lt2, lg2, rfl, li2, kp2⟩ := q
  refine ⟨rfl, ?_⟩
  dsimp only [Option.toList, List.cons_append, List.nil_append]
  refine r_istore (lv2 := [(0, _), (1, _), (2, _), (3, _), (4, _), (5, _)]) dX9_lateOn_8 (by decide) rfl rfl ?_
  refine r_iload dX9_lateOn_10 rfl ?_
  refine r_iconst dX9_lateOn_12 ?_
  refine r_icmp_ne (tgt := 20) dX9_lateOn_13 (by decide) ⟨by omega, by omega⟩ ⟨by omega, by omega⟩ (fun g13 => ?_) (fun g13 => ?_)
  · refine r_aload_n dX9_lateOn_20 rfl rfl ?_
    refine r_iload_n dX9_lateOn_21 rfl rfl ?_
    refine r_iload_n dX9_lateOn_22 rfl rfl ?_
    refine r_iload dX9_lateOn_23 rfl ?_
    refine r_callV 68 [_, _, _] (s_X9_firstOf (g := gn) (by rfl) (by exact c69) (by exact c70) (by exact c71) (by rfl) (by rfl) (by exact c79) (tell_kp tr kp2) pi li2 (by omega) (by omega) (by omega)) dX9_lateOn_25 cs_X9_300 im_X9_firstOf (by decide) rfl rfl (by decide) (by decide) (by decide) rfl rfl (Nat.le_of_ble_eq_true rfl) (fun _ _ _ q => q.elim) (fun v n2 h2 q => ?_)
    obtain ⟨rfl, rfl, gnb, ltb2, lgb2, rfl, lib2, kpb2⟩ := q
    rw [ut_ut]
    refine ⟨rfl, ?_⟩
    dsimp only [Option.toList, List.cons_append, List.nil_append]
    refine r_istore (lv2 := [(0, _), (1, _), (2, _), (3, _), (4, _), (5, _), (6, _)]) dX9_lateOn_28 (by decide) rfl rfl ?_
    refine r_iload dX9_lateOn_30 rfl ?_
    refine r_iconst dX9_lateOn_32 ?_
    refine r_icmp_ne (tgt := 40) dX9_lateOn_33 (by decide) ⟨by omega, by omega⟩ ⟨by omega, by omega⟩ (fun g33 => ?_) (fun g33 => ?_)
    · refine r_iload dX9_lateOn_40 rfl ?_
      refine r_iload dX9_lateOn_42 rfl ?_
      refine r_callS [_, _] (s_X9_off (by omega) (by omega)) dX9_lateOn_44 cs_X9_250 sm_X9_off (by decide) (by decide) (by decide) rfl rfl (Nat.le_of_ble_eq_true rfl) (fun _ _ _ q => q.elim) (fun v n2 h2 q => ?_)
      obtain ⟨rfl, rfl, hh⟩ := q
      obtain rfl := hh.symm
      refine ⟨rfl, ?_⟩
      dsimp only [Option.toList, List.cons_append, List.nil_append]
      refine r_iret dX9_lateOn_47 ?_
      first
        | (exfalso; omega)
        | exact ⟨ivE (by unfold latI; first | rw [if_pos (by omega)] | rw [if_neg (by omega)]), rfl, gn, lt2, lg2, rfl, li2, kp2⟩
        | exact ⟨ivE (by unfold latI; first | rw [if_pos (by omega)] | rw [if_neg (by omega)]), rfl, gnb, ltb2, lgb2, rfl, lib2, fun k hk => (kpb2 k hk).trans (kp2 k hk)⟩
    · refine r_iconst dX9_lateOn_36 ?_
      refine r_goto (tgt := 47) dX9_lateOn_37 (by decide) ?_
      refine r_iret dX9_lateOn_47 ?_
      first
        | (exfalso; omega)
        | exact ⟨ivE (by unfold latI; first | rw [if_pos (by omega)] | rw [if_neg (by omega)]), rfl, gn, lt2, lg2, rfl, li2, kp2⟩
        | exact ⟨ivE (by unfold latI; first | rw [if_pos (by omega)] | rw [if_neg (by omega)]), rfl, gnb, ltb2, lgb2, rfl, lib2, fun k hk => (kpb2 k hk).trans (kp2 k hk)⟩
  · refine r_iconst dX9_lateOn_16 ?_
    refine r_goto (tgt := 28) dX9_lateOn_17 (by decide) ?_
    refine r_istore (lv2 := [(0, _), (1, _), (2, _), (3, _), (4, _), (5, _), (6, _)]) dX9_lateOn_28 (by decide) rfl rfl ?_
    refine r_iload dX9_lateOn_30 rfl ?_
    refine r_iconst dX9_lateOn_32 ?_
    refine r_icmp_ne (tgt := 40) dX9_lateOn_33 (by decide) ⟨by omega, by omega⟩ ⟨by omega, by omega⟩ (fun g33 => absurd g33 (by omega)) (fun g33 => ?_)
    refine r_iconst dX9_lateOn_36 ?_
    refine r_goto (tgt := 47) dX9_lateOn_37 (by decide) ?_
    refine r_iret dX9_lateOn_47 ?_
    first
      | (exfalso; omega)
      | exact ⟨ivE (by unfold latI; first | rw [if_pos (by omega)] | rw [if_neg (by omega)]), rfl, gn, lt2, lg2, rfl, li2, kp2⟩
      | exact ⟨ivE (by unfold latI; first | rw [if_pos (by omega)] | rw [if_neg (by omega)]), rfl, gnb, ltb2, lgb2, rfl, lib2, fun k hk => (kpb2 k hk).trans (kp2 k hk)⟩

theorem s_X9_late {h : aH} {th : Int} {t : Nat → Int} {tp : Nat} {fpl hlaw himg : Int} {rf : Nat → Int} {nd sw nc hl hs : Int} {K U I O G L cf ct fc nx cd : Nat → Int} {nr ns nm : Int} {rd ry rm rt se md my mt : Nat → Int} {M : ND} {ls : LSm} (cr : RefC h (t, tp, fpl, rf, hlaw, himg, ((nd, sw, nc), (hl, hs), K, U, I, O, G, L, cf, ct, fc, nx, cd), ((nr, ns, nm), rd, ry, rm, rt, se, md, my, mt), M, ls) th) {a b x day : Int} (ia : inR a) (ib : inR b) (ix : inR x) (iday : inR day)  : mSem yX9_late cX9_late 5 (some .int) 8 0 0 [.ref 68, iv a, iv b, iv x, iv day] 97 h (RefQ (ocL [(diaB nd a, 1), (diaB nd b, 1), (minB x, 1), (dayB day, 1)]) ((fun d => latI (fsF (fun m => nowI sw nc nm K U I O G L cf ct cd md my mt a d m) x 1440 0) (fsF (fun m => nowI sw nc nm K U I O G L cf ct cd md my mt b d m) x 1440 0)) day) h (t, tp, fpl, rf, hlaw, himg, ((nd, sw, nc), (hl, hs), K, U, I, O, G, L, cf, ct, fc, nx, cd), ((nr, ns, nm), rd, ry, rm, rt, se, md, my, mt), M, ls)) noX := by
  refine RefC_elim cr (fun g dl cl lm trr rfr nD nC nL lt lgt mn rdg cpl grp sea rts row cod ncod pil opn stg bsd imo imr ims imm w c68 c69 c70 c71 c72 c73 c74 c75 c76 c77 c78 c79 c80 c81 c82 c83 c84 c85 c86 c87 c88 c89 c90 c91 c92 c93 c94 c95 hth rr => ?_)
  refine RR_elim rr (fun e8 e10 e33 e38 e44 e53 tr pi ni li rrf rtp htp rrd rse phl phi rim rco ht nM nsn => ?_)
  obtain ⟨t1, t2, t3, t31, pnm, tdl, tcl, tlm, tmd, pmt, pmd, pmy⟩ := id tr
  obtain ⟨pnd, psw, pnc, pK, pU, pI, pO, pG, pL, pcf, pct, pfc, pnx⟩ := id pi
  obtain ⟨pnr, pns, pnm2, prd, pry, prm, prt, pse, pmd2, pmy2, pmt2⟩ := id ni
  unfold inR at ia ib ix iday
  refine mSem_of (own := RX9) (name := "late") pn_X9 rfl rfl (Nat.le_of_ble_eq_true rfl) ?_
  refine r_aload_n dX9_late_0 rfl rfl ?_
  refine r_iconst dX9_late_1 ?_
  refine r_putR dX9_late_2 fp_X9_102 (by decide) c68 (nar_int _) (Nat.le_of_ble_eq_true rfl) setR_0 (fun z0 hz0 => ?_)
  refine r_aload_n dX9_late_5 rfl rfl ?_
  refine r_iload_n dX9_late_6 rfl rfl ?_
  refine r_callV 68 [_] (s_X9_isDial (by rfl) (by first | rfl | exact hz0) (by show 0 ≤ g 1 ∧ g 1 ≤ 9; omega) ia) dX9_late_7 cs_X9_243 im_X9_isDial (by decide) rfl rfl (by decide) (by decide) (by decide) rfl rfl (Nat.le_of_ble_eq_true rfl) (fun _ _ _ q => q.elim) (fun v n2 h2 q => ?_)
  obtain ⟨rfl, q⟩ := q
  rcases q with ⟨kb1, rfl, hh⟩ | ⟨kb1, rfl, hh⟩
  · obtain rfl := hh.symm
    replace kb1 : diaB nd a = true := by rw [← t1]; exact kb1
    have ba := of_decide_eq_true kb1
    refine ⟨rfl, ?_⟩
    dsimp only [Option.toList, List.cons_append, List.nil_append]
    refine r_if_eq (tgt := 50) dX9_late_10 (by decide) ⟨by omega, by omega⟩ (fun g10 => absurd g10 (by omega)) (fun g10 => ?_)
    refine r_aload_n dX9_late_13 rfl rfl ?_
    refine r_iload_n dX9_late_14 rfl rfl ?_
    refine r_callV 68 [_] (s_X9_isDial (by rfl) (by first | rfl | exact hz0) (by show 0 ≤ g 1 ∧ g 1 ≤ 9; omega) ib) dX9_late_15 cs_X9_243 im_X9_isDial (by decide) rfl rfl (by decide) (by decide) (by decide) rfl rfl (Nat.le_of_ble_eq_true rfl) (fun _ _ _ q => q.elim) (fun v n2 h2 q => ?_)
    obtain ⟨rfl, q⟩ := q
    rcases q with ⟨kb2, rfl, hh⟩ | ⟨kb2, rfl, hh⟩
    · obtain rfl := hh.symm
      replace kb2 : diaB nd b = true := by rw [← t1]; exact kb2
      have bb := of_decide_eq_true kb2
      refine ⟨rfl, ?_⟩
      dsimp only [Option.toList, List.cons_append, List.nil_append]
      refine r_if_eq (tgt := 50) dX9_late_18 (by decide) ⟨by omega, by omega⟩ (fun g18 => absurd g18 (by omega)) (fun g18 => ?_)
      refine r_aload_n dX9_late_21 rfl rfl ?_
      refine r_iload_n dX9_late_22 rfl rfl ?_
      refine r_callV 68 [_] (s_X9_isMinute (by rfl) (by first | rfl | exact hz0) ix) dX9_late_23 cs_X9_275 im_X9_isMinute (by decide) rfl rfl (by decide) (by decide) (by decide) rfl rfl (Nat.le_of_ble_eq_true rfl) (fun _ _ _ q => q.elim) (fun v n2 h2 q => ?_)
      obtain ⟨rfl, q⟩ := q
      rcases q with ⟨kb3, rfl, hh⟩ | ⟨kb3, rfl, hh⟩
      · obtain rfl := hh.symm
        have bx := of_decide_eq_true kb3
        refine ⟨rfl, ?_⟩
        dsimp only [Option.toList, List.cons_append, List.nil_append]
        refine r_if_eq (tgt := 50) dX9_late_26 (by decide) ⟨by omega, by omega⟩ (fun g26 => absurd g26 (by omega)) (fun g26 => ?_)
        refine r_aload_n dX9_late_29 rfl rfl ?_
        refine r_iload dX9_late_30 rfl ?_
        refine r_callV 68 [_] (s_X9_isDay (by rfl) (by first | rfl | exact hz0) iday) dX9_late_32 cs_X9_259 im_X9_isDay (by decide) rfl rfl (by decide) (by decide) (by decide) rfl rfl (Nat.le_of_ble_eq_true rfl) (fun _ _ _ q => q.elim) (fun v n2 h2 q => ?_)
        obtain ⟨rfl, q⟩ := q
        rcases q with ⟨kb4, rfl, hh⟩ | ⟨kb4, rfl, hh⟩
        · obtain rfl := hh.symm
          have bday := of_decide_eq_true kb4
          refine ⟨rfl, ?_⟩
          dsimp only [Option.toList, List.cons_append, List.nil_append]
          refine r_if_eq (tgt := 50) dX9_late_35 (by decide) ⟨by omega, by omega⟩ (fun g35 => absurd g35 (by omega)) (fun g35 => ?_)
          refine r_aload_n dX9_late_38 rfl rfl ?_
          refine r_iload_n dX9_late_39 rfl rfl ?_
          refine r_iload_n dX9_late_40 rfl rfl ?_
          refine r_iload_n dX9_late_41 rfl rfl ?_
          refine r_iload dX9_late_42 rfl ?_
          refine r_callV 68 [_, _, _, _] (s_X9_lateOn (g := (va_up g 0 z0)) (by rfl) (by exact c69) (by exact c70) (by exact c71) (by exact c77) (by exact c78) (by exact c79) tr pi li ba bb bx bday) dX9_late_44 cs_X9_303 im_X9_lateOn (by decide) rfl rfl (by decide) (by decide) (by decide) rfl rfl (Nat.le_of_ble_eq_true rfl) (fun _ _ _ q => q.elim) (fun v n2 h2 q => ?_)
          obtain ⟨rfl, rfl, gn, lt2, lg2, rfl, li2, kp2⟩ := q
          refine ⟨rfl, ?_⟩
          dsimp only [Option.toList, List.cons_append, List.nil_append]
          refine r_goto (tgt := 51) dX9_late_47 (by decide) ?_
          refine r_iret dX9_late_51 ?_
          first
            | exact ⟨rfl, ⟨0, rfl, fun z => absurd ((ocF kb1).symm.trans z) (by decide)⟩, (RefC_mk (g := gn) rfl (by exact c69) (by exact c70) (by exact c71) (by exact c72) (by exact c73) (by exact c74) (by exact c75) (by exact c76) rfl rfl (by exact c79) (by exact c80) (by exact c81) (by exact c82) (by exact c83) (by exact c84) (by exact c85) (by exact c86) (by exact c87) (by exact c88) (by exact c89) (by exact c90) (by exact c91) (by exact c92) (by exact c93) (by exact c94) (by exact c95) (congrArg (fun n : Nat => (n : Int)) (ocF kb1).symm) (RR_mk (by first | exact e8 | exact (kp2 8 (by decide)).trans e8) (by first | exact e10 | exact (kp2 10 (by decide)).trans e10) (by first | exact e33 | exact (kp2 33 (by decide)).trans e33) (by first | exact e38 | exact (kp2 38 (by decide)).trans e38) (by first | exact e44 | exact (kp2 44 (by decide)).trans e44) (by first | exact e53 | exact (kp2 53 (by decide)).trans e53) (by first | exact tr | exact tell_kp (by exact tr) kp2) pi ni (by first | exact li | exact li2) rrf rtp htp rrd rse phl phi rim rco ht nM nsn)), (by repeat (first | exact fun _ _ => rfl | refine frr_up ?_ (by decide)))⟩
            | exact ⟨rfl, ⟨0, rfl, fun z => absurd (((ocT kb1).trans (ocF kb2)).symm.trans z) (by decide)⟩, (RefC_mk (g := gn) rfl (by exact c69) (by exact c70) (by exact c71) (by exact c72) (by exact c73) (by exact c74) (by exact c75) (by exact c76) rfl rfl (by exact c79) (by exact c80) (by exact c81) (by exact c82) (by exact c83) (by exact c84) (by exact c85) (by exact c86) (by exact c87) (by exact c88) (by exact c89) (by exact c90) (by exact c91) (by exact c92) (by exact c93) (by exact c94) (by exact c95) (congrArg (fun n : Nat => (n : Int)) ((ocT kb1).trans (ocF kb2)).symm) (RR_mk (by first | exact e8 | exact (kp2 8 (by decide)).trans e8) (by first | exact e10 | exact (kp2 10 (by decide)).trans e10) (by first | exact e33 | exact (kp2 33 (by decide)).trans e33) (by first | exact e38 | exact (kp2 38 (by decide)).trans e38) (by first | exact e44 | exact (kp2 44 (by decide)).trans e44) (by first | exact e53 | exact (kp2 53 (by decide)).trans e53) (by first | exact tr | exact tell_kp (by exact tr) kp2) pi ni (by first | exact li | exact li2) rrf rtp htp rrd rse phl phi rim rco ht nM nsn)), (by repeat (first | exact fun _ _ => rfl | refine frr_up ?_ (by decide)))⟩
            | exact ⟨rfl, ⟨0, rfl, fun z => absurd (((ocT kb1).trans ((ocT kb2).trans (ocF kb3))).symm.trans z) (by decide)⟩, (RefC_mk (g := gn) rfl (by exact c69) (by exact c70) (by exact c71) (by exact c72) (by exact c73) (by exact c74) (by exact c75) (by exact c76) rfl rfl (by exact c79) (by exact c80) (by exact c81) (by exact c82) (by exact c83) (by exact c84) (by exact c85) (by exact c86) (by exact c87) (by exact c88) (by exact c89) (by exact c90) (by exact c91) (by exact c92) (by exact c93) (by exact c94) (by exact c95) (congrArg (fun n : Nat => (n : Int)) ((ocT kb1).trans ((ocT kb2).trans (ocF kb3))).symm) (RR_mk (by first | exact e8 | exact (kp2 8 (by decide)).trans e8) (by first | exact e10 | exact (kp2 10 (by decide)).trans e10) (by first | exact e33 | exact (kp2 33 (by decide)).trans e33) (by first | exact e38 | exact (kp2 38 (by decide)).trans e38) (by first | exact e44 | exact (kp2 44 (by decide)).trans e44) (by first | exact e53 | exact (kp2 53 (by decide)).trans e53) (by first | exact tr | exact tell_kp (by exact tr) kp2) pi ni (by first | exact li | exact li2) rrf rtp htp rrd rse phl phi rim rco ht nM nsn)), (by repeat (first | exact fun _ _ => rfl | refine frr_up ?_ (by decide)))⟩
            | exact ⟨rfl, ⟨0, rfl, fun z => absurd (((ocT kb1).trans ((ocT kb2).trans ((ocT kb3).trans (ocF kb4)))).symm.trans z) (by decide)⟩, (RefC_mk (g := gn) rfl (by exact c69) (by exact c70) (by exact c71) (by exact c72) (by exact c73) (by exact c74) (by exact c75) (by exact c76) rfl rfl (by exact c79) (by exact c80) (by exact c81) (by exact c82) (by exact c83) (by exact c84) (by exact c85) (by exact c86) (by exact c87) (by exact c88) (by exact c89) (by exact c90) (by exact c91) (by exact c92) (by exact c93) (by exact c94) (by exact c95) (congrArg (fun n : Nat => (n : Int)) ((ocT kb1).trans ((ocT kb2).trans ((ocT kb3).trans (ocF kb4)))).symm) (RR_mk (by first | exact e8 | exact (kp2 8 (by decide)).trans e8) (by first | exact e10 | exact (kp2 10 (by decide)).trans e10) (by first | exact e33 | exact (kp2 33 (by decide)).trans e33) (by first | exact e38 | exact (kp2 38 (by decide)).trans e38) (by first | exact e44 | exact (kp2 44 (by decide)).trans e44) (by first | exact e53 | exact (kp2 53 (by decide)).trans e53) (by first | exact tr | exact tell_kp (by exact tr) kp2) pi ni (by first | exact li | exact li2) rrf rtp htp rrd rse phl phi rim rco ht nM nsn)), (by repeat (first | exact fun _ _ => rfl | refine frr_up ?_ (by decide)))⟩
            | exact ⟨rfl, ⟨_, rfl, fun _ => rfl⟩, (RefC_mk (g := gn) rfl (by exact c69) (by exact c70) (by exact c71) (by exact c72) (by exact c73) (by exact c74) (by exact c75) (by exact c76) rfl rfl (by exact c79) (by exact c80) (by exact c81) (by exact c82) (by exact c83) (by exact c84) (by exact c85) (by exact c86) (by exact c87) (by exact c88) (by exact c89) (by exact c90) (by exact c91) (by exact c92) (by exact c93) (by exact c94) (by exact c95) (by first | exact (hz0.trans (congrArg (fun n : Nat => (n : Int)) ((ocT kb1).trans ((ocT kb2).trans ((ocT kb3).trans ((ocT kb4).trans ocE)))).symm)) | exact (kp2 0 (by decide)).trans (hz0.trans (congrArg (fun n : Nat => (n : Int)) ((ocT kb1).trans ((ocT kb2).trans ((ocT kb3).trans ((ocT kb4).trans ocE)))).symm))) (RR_mk (by first | exact e8 | exact (kp2 8 (by decide)).trans e8) (by first | exact e10 | exact (kp2 10 (by decide)).trans e10) (by first | exact e33 | exact (kp2 33 (by decide)).trans e33) (by first | exact e38 | exact (kp2 38 (by decide)).trans e38) (by first | exact e44 | exact (kp2 44 (by decide)).trans e44) (by first | exact e53 | exact (kp2 53 (by decide)).trans e53) (by first | exact tr | exact tell_kp (by exact tr) kp2) pi ni (by first | exact li | exact li2) rrf rtp htp rrd rse phl phi rim rco ht nM nsn)), (by repeat (first | exact fun _ _ => rfl | refine frr_up ?_ (by decide)))⟩
        · obtain rfl := hh.symm
          refine ⟨rfl, ?_⟩
          dsimp only [Option.toList, List.cons_append, List.nil_append]
          refine r_if_eq (tgt := 50) dX9_late_35 (by decide) ⟨by omega, by omega⟩ (fun g35 => ?_) (fun g35 => absurd g35 (by omega))
          refine r_iconst dX9_late_50 ?_
          refine r_iret dX9_late_51 ?_
          first
            | exact ⟨rfl, ⟨0, rfl, fun z => absurd ((ocF kb1).symm.trans z) (by decide)⟩, (RefC_mk (g := (va_up (va_up g 0 z0) 0 1)) rfl (by exact c69) (by exact c70) (by exact c71) (by exact c72) (by exact c73) (by exact c74) (by exact c75) (by exact c76) (by exact c77) (by exact c78) (by exact c79) (by exact c80) (by exact c81) (by exact c82) (by exact c83) (by exact c84) (by exact c85) (by exact c86) (by exact c87) (by exact c88) (by exact c89) (by exact c90) (by exact c91) (by exact c92) (by exact c93) (by exact c94) (by exact c95) (congrArg (fun n : Nat => (n : Int)) (ocF kb1).symm) (RR_mk (by first | exact e8 | exact (kp2 8 (by decide)).trans e8) (by first | exact e10 | exact (kp2 10 (by decide)).trans e10) (by first | exact e33 | exact (kp2 33 (by decide)).trans e33) (by first | exact e38 | exact (kp2 38 (by decide)).trans e38) (by first | exact e44 | exact (kp2 44 (by decide)).trans e44) (by first | exact e53 | exact (kp2 53 (by decide)).trans e53) (by first | exact tr | exact tell_kp (by exact tr) kp2) pi ni (by first | exact li | exact li2) rrf rtp htp rrd rse phl phi rim rco ht nM nsn)), (by repeat (first | exact fun _ _ => rfl | refine frr_up ?_ (by decide)))⟩
            | exact ⟨rfl, ⟨0, rfl, fun z => absurd (((ocT kb1).trans (ocF kb2)).symm.trans z) (by decide)⟩, (RefC_mk (g := (va_up (va_up g 0 z0) 0 1)) rfl (by exact c69) (by exact c70) (by exact c71) (by exact c72) (by exact c73) (by exact c74) (by exact c75) (by exact c76) (by exact c77) (by exact c78) (by exact c79) (by exact c80) (by exact c81) (by exact c82) (by exact c83) (by exact c84) (by exact c85) (by exact c86) (by exact c87) (by exact c88) (by exact c89) (by exact c90) (by exact c91) (by exact c92) (by exact c93) (by exact c94) (by exact c95) (congrArg (fun n : Nat => (n : Int)) ((ocT kb1).trans (ocF kb2)).symm) (RR_mk (by first | exact e8 | exact (kp2 8 (by decide)).trans e8) (by first | exact e10 | exact (kp2 10 (by decide)).trans e10) (by first | exact e33 | exact (kp2 33 (by decide)).trans e33) (by first | exact e38 | exact (kp2 38 (by decide)).trans e38) (by first | exact e44 | exact (kp2 44 (by decide)).trans e44) (by first | exact e53 | exact (kp2 53 (by decide)).trans e53) (by first | exact tr | exact tell_kp (by exact tr) kp2) pi ni (by first | exact li | exact li2) rrf rtp htp rrd rse phl phi rim rco ht nM nsn)), (by repeat (first | exact fun _ _ => rfl | refine frr_up ?_ (by decide)))⟩
            | exact ⟨rfl, ⟨0, rfl, fun z => absurd (((ocT kb1).trans ((ocT kb2).trans (ocF kb3))).symm.trans z) (by decide)⟩, (RefC_mk (g := (va_up (va_up g 0 z0) 0 1)) rfl (by exact c69) (by exact c70) (by exact c71) (by exact c72) (by exact c73) (by exact c74) (by exact c75) (by exact c76) (by exact c77) (by exact c78) (by exact c79) (by exact c80) (by exact c81) (by exact c82) (by exact c83) (by exact c84) (by exact c85) (by exact c86) (by exact c87) (by exact c88) (by exact c89) (by exact c90) (by exact c91) (by exact c92) (by exact c93) (by exact c94) (by exact c95) (congrArg (fun n : Nat => (n : Int)) ((ocT kb1).trans ((ocT kb2).trans (ocF kb3))).symm) (RR_mk (by first | exact e8 | exact (kp2 8 (by decide)).trans e8) (by first | exact e10 | exact (kp2 10 (by decide)).trans e10) (by first | exact e33 | exact (kp2 33 (by decide)).trans e33) (by first | exact e38 | exact (kp2 38 (by decide)).trans e38) (by first | exact e44 | exact (kp2 44 (by decide)).trans e44) (by first | exact e53 | exact (kp2 53 (by decide)).trans e53) (by first | exact tr | exact tell_kp (by exact tr) kp2) pi ni (by first | exact li | exact li2) rrf rtp htp rrd rse phl phi rim rco ht nM nsn)), (by repeat (first | exact fun _ _ => rfl | refine frr_up ?_ (by decide)))⟩
            | exact ⟨rfl, ⟨0, rfl, fun z => absurd (((ocT kb1).trans ((ocT kb2).trans ((ocT kb3).trans (ocF kb4)))).symm.trans z) (by decide)⟩, (RefC_mk (g := (va_up (va_up g 0 z0) 0 1)) rfl (by exact c69) (by exact c70) (by exact c71) (by exact c72) (by exact c73) (by exact c74) (by exact c75) (by exact c76) (by exact c77) (by exact c78) (by exact c79) (by exact c80) (by exact c81) (by exact c82) (by exact c83) (by exact c84) (by exact c85) (by exact c86) (by exact c87) (by exact c88) (by exact c89) (by exact c90) (by exact c91) (by exact c92) (by exact c93) (by exact c94) (by exact c95) (congrArg (fun n : Nat => (n : Int)) ((ocT kb1).trans ((ocT kb2).trans ((ocT kb3).trans (ocF kb4)))).symm) (RR_mk (by first | exact e8 | exact (kp2 8 (by decide)).trans e8) (by first | exact e10 | exact (kp2 10 (by decide)).trans e10) (by first | exact e33 | exact (kp2 33 (by decide)).trans e33) (by first | exact e38 | exact (kp2 38 (by decide)).trans e38) (by first | exact e44 | exact (kp2 44 (by decide)).trans e44) (by first | exact e53 | exact (kp2 53 (by decide)).trans e53) (by first | exact tr | exact tell_kp (by exact tr) kp2) pi ni (by first | exact li | exact li2) rrf rtp htp rrd rse phl phi rim rco ht nM nsn)), (by repeat (first | exact fun _ _ => rfl | refine frr_up ?_ (by decide)))⟩
            | exact ⟨rfl, ⟨_, rfl, fun _ => rfl⟩, (RefC_mk (g := (va_up (va_up g 0 z0) 0 1)) rfl (by exact c69) (by exact c70) (by exact c71) (by exact c72) (by exact c73) (by exact c74) (by exact c75) (by exact c76) (by exact c77) (by exact c78) (by exact c79) (by exact c80) (by exact c81) (by exact c82) (by exact c83) (by exact c84) (by exact c85) (by exact c86) (by exact c87) (by exact c88) (by exact c89) (by exact c90) (by exact c91) (by exact c92) (by exact c93) (by exact c94) (by exact c95) (by first | exact (hz0.trans (congrArg (fun n : Nat => (n : Int)) ((ocT kb1).trans ((ocT kb2).trans ((ocT kb3).trans ((ocT kb4).trans ocE)))).symm)) | exact (kp2 0 (by decide)).trans (hz0.trans (congrArg (fun n : Nat => (n : Int)) ((ocT kb1).trans ((ocT kb2).trans ((ocT kb3).trans ((ocT kb4).trans ocE)))).symm))) (RR_mk (by first | exact e8 | exact (kp2 8 (by decide)).trans e8) (by first | exact e10 | exact (kp2 10 (by decide)).trans e10) (by first | exact e33 | exact (kp2 33 (by decide)).trans e33) (by first | exact e38 | exact (kp2 38 (by decide)).trans e38) (by first | exact e44 | exact (kp2 44 (by decide)).trans e44) (by first | exact e53 | exact (kp2 53 (by decide)).trans e53) (by first | exact tr | exact tell_kp (by exact tr) kp2) pi ni (by first | exact li | exact li2) rrf rtp htp rrd rse phl phi rim rco ht nM nsn)), (by repeat (first | exact fun _ _ => rfl | refine frr_up ?_ (by decide)))⟩
      · obtain rfl := hh.symm
        refine ⟨rfl, ?_⟩
        dsimp only [Option.toList, List.cons_append, List.nil_append]
        refine r_if_eq (tgt := 50) dX9_late_26 (by decide) ⟨by omega, by omega⟩ (fun g26 => ?_) (fun g26 => absurd g26 (by omega))
        refine r_iconst dX9_late_50 ?_
        refine r_iret dX9_late_51 ?_
        first
          | exact ⟨rfl, ⟨0, rfl, fun z => absurd ((ocF kb1).symm.trans z) (by decide)⟩, (RefC_mk (g := (va_up (va_up g 0 z0) 0 1)) rfl (by exact c69) (by exact c70) (by exact c71) (by exact c72) (by exact c73) (by exact c74) (by exact c75) (by exact c76) (by exact c77) (by exact c78) (by exact c79) (by exact c80) (by exact c81) (by exact c82) (by exact c83) (by exact c84) (by exact c85) (by exact c86) (by exact c87) (by exact c88) (by exact c89) (by exact c90) (by exact c91) (by exact c92) (by exact c93) (by exact c94) (by exact c95) (congrArg (fun n : Nat => (n : Int)) (ocF kb1).symm) (RR_mk (by first | exact e8 | exact (kp2 8 (by decide)).trans e8) (by first | exact e10 | exact (kp2 10 (by decide)).trans e10) (by first | exact e33 | exact (kp2 33 (by decide)).trans e33) (by first | exact e38 | exact (kp2 38 (by decide)).trans e38) (by first | exact e44 | exact (kp2 44 (by decide)).trans e44) (by first | exact e53 | exact (kp2 53 (by decide)).trans e53) (by first | exact tr | exact tell_kp (by exact tr) kp2) pi ni (by first | exact li | exact li2) rrf rtp htp rrd rse phl phi rim rco ht nM nsn)), (by repeat (first | exact fun _ _ => rfl | refine frr_up ?_ (by decide)))⟩
          | exact ⟨rfl, ⟨0, rfl, fun z => absurd (((ocT kb1).trans (ocF kb2)).symm.trans z) (by decide)⟩, (RefC_mk (g := (va_up (va_up g 0 z0) 0 1)) rfl (by exact c69) (by exact c70) (by exact c71) (by exact c72) (by exact c73) (by exact c74) (by exact c75) (by exact c76) (by exact c77) (by exact c78) (by exact c79) (by exact c80) (by exact c81) (by exact c82) (by exact c83) (by exact c84) (by exact c85) (by exact c86) (by exact c87) (by exact c88) (by exact c89) (by exact c90) (by exact c91) (by exact c92) (by exact c93) (by exact c94) (by exact c95) (congrArg (fun n : Nat => (n : Int)) ((ocT kb1).trans (ocF kb2)).symm) (RR_mk (by first | exact e8 | exact (kp2 8 (by decide)).trans e8) (by first | exact e10 | exact (kp2 10 (by decide)).trans e10) (by first | exact e33 | exact (kp2 33 (by decide)).trans e33) (by first | exact e38 | exact (kp2 38 (by decide)).trans e38) (by first | exact e44 | exact (kp2 44 (by decide)).trans e44) (by first | exact e53 | exact (kp2 53 (by decide)).trans e53) (by first | exact tr | exact tell_kp (by exact tr) kp2) pi ni (by first | exact li | exact li2) rrf rtp htp rrd rse phl phi rim rco ht nM nsn)), (by repeat (first | exact fun _ _ => rfl | refine frr_up ?_ (by decide)))⟩
          | exact ⟨rfl, ⟨0, rfl, fun z => absurd (((ocT kb1).trans ((ocT kb2).trans (ocF kb3))).symm.trans z) (by decide)⟩, (RefC_mk (g := (va_up (va_up g 0 z0) 0 1)) rfl (by exact c69) (by exact c70) (by exact c71) (by exact c72) (by exact c73) (by exact c74) (by exact c75) (by exact c76) (by exact c77) (by exact c78) (by exact c79) (by exact c80) (by exact c81) (by exact c82) (by exact c83) (by exact c84) (by exact c85) (by exact c86) (by exact c87) (by exact c88) (by exact c89) (by exact c90) (by exact c91) (by exact c92) (by exact c93) (by exact c94) (by exact c95) (congrArg (fun n : Nat => (n : Int)) ((ocT kb1).trans ((ocT kb2).trans (ocF kb3))).symm) (RR_mk (by first | exact e8 | exact (kp2 8 (by decide)).trans e8) (by first | exact e10 | exact (kp2 10 (by decide)).trans e10) (by first | exact e33 | exact (kp2 33 (by decide)).trans e33) (by first | exact e38 | exact (kp2 38 (by decide)).trans e38) (by first | exact e44 | exact (kp2 44 (by decide)).trans e44) (by first | exact e53 | exact (kp2 53 (by decide)).trans e53) (by first | exact tr | exact tell_kp (by exact tr) kp2) pi ni (by first | exact li | exact li2) rrf rtp htp rrd rse phl phi rim rco ht nM nsn)), (by repeat (first | exact fun _ _ => rfl | refine frr_up ?_ (by decide)))⟩
          | exact ⟨rfl, ⟨0, rfl, fun z => absurd (((ocT kb1).trans ((ocT kb2).trans ((ocT kb3).trans (ocF kb4)))).symm.trans z) (by decide)⟩, (RefC_mk (g := (va_up (va_up g 0 z0) 0 1)) rfl (by exact c69) (by exact c70) (by exact c71) (by exact c72) (by exact c73) (by exact c74) (by exact c75) (by exact c76) (by exact c77) (by exact c78) (by exact c79) (by exact c80) (by exact c81) (by exact c82) (by exact c83) (by exact c84) (by exact c85) (by exact c86) (by exact c87) (by exact c88) (by exact c89) (by exact c90) (by exact c91) (by exact c92) (by exact c93) (by exact c94) (by exact c95) (congrArg (fun n : Nat => (n : Int)) ((ocT kb1).trans ((ocT kb2).trans ((ocT kb3).trans (ocF kb4)))).symm) (RR_mk (by first | exact e8 | exact (kp2 8 (by decide)).trans e8) (by first | exact e10 | exact (kp2 10 (by decide)).trans e10) (by first | exact e33 | exact (kp2 33 (by decide)).trans e33) (by first | exact e38 | exact (kp2 38 (by decide)).trans e38) (by first | exact e44 | exact (kp2 44 (by decide)).trans e44) (by first | exact e53 | exact (kp2 53 (by decide)).trans e53) (by first | exact tr | exact tell_kp (by exact tr) kp2) pi ni (by first | exact li | exact li2) rrf rtp htp rrd rse phl phi rim rco ht nM nsn)), (by repeat (first | exact fun _ _ => rfl | refine frr_up ?_ (by decide)))⟩
          | exact ⟨rfl, ⟨_, rfl, fun _ => rfl⟩, (RefC_mk (g := (va_up (va_up g 0 z0) 0 1)) rfl (by exact c69) (by exact c70) (by exact c71) (by exact c72) (by exact c73) (by exact c74) (by exact c75) (by exact c76) (by exact c77) (by exact c78) (by exact c79) (by exact c80) (by exact c81) (by exact c82) (by exact c83) (by exact c84) (by exact c85) (by exact c86) (by exact c87) (by exact c88) (by exact c89) (by exact c90) (by exact c91) (by exact c92) (by exact c93) (by exact c94) (by exact c95) (by first | exact (hz0.trans (congrArg (fun n : Nat => (n : Int)) ((ocT kb1).trans ((ocT kb2).trans ((ocT kb3).trans ((ocT kb4).trans ocE)))).symm)) | exact (kp2 0 (by decide)).trans (hz0.trans (congrArg (fun n : Nat => (n : Int)) ((ocT kb1).trans ((ocT kb2).trans ((ocT kb3).trans ((ocT kb4).trans ocE)))).symm))) (RR_mk (by first | exact e8 | exact (kp2 8 (by decide)).trans e8) (by first | exact e10 | exact (kp2 10 (by decide)).trans e10) (by first | exact e33 | exact (kp2 33 (by decide)).trans e33) (by first | exact e38 | exact (kp2 38 (by decide)).trans e38) (by first | exact e44 | exact (kp2 44 (by decide)).trans e44) (by first | exact e53 | exact (kp2 53 (by decide)).trans e53) (by first | exact tr | exact tell_kp (by exact tr) kp2) pi ni (by first | exact li | exact li2) rrf rtp htp rrd rse phl phi rim rco ht nM nsn)), (by repeat (first | exact fun _ _ => rfl | refine frr_up ?_ (by decide)))⟩
    · obtain rfl := hh.symm
      replace kb2 : diaB nd b = false := by rw [← t1]; exact kb2
      refine ⟨rfl, ?_⟩
      dsimp only [Option.toList, List.cons_append, List.nil_append]
      refine r_if_eq (tgt := 50) dX9_late_18 (by decide) ⟨by omega, by omega⟩ (fun g18 => ?_) (fun g18 => absurd g18 (by omega))
      refine r_iconst dX9_late_50 ?_
      refine r_iret dX9_late_51 ?_
      first
        | exact ⟨rfl, ⟨0, rfl, fun z => absurd ((ocF kb1).symm.trans z) (by decide)⟩, (RefC_mk (g := (va_up (va_up g 0 z0) 0 1)) rfl (by exact c69) (by exact c70) (by exact c71) (by exact c72) (by exact c73) (by exact c74) (by exact c75) (by exact c76) (by exact c77) (by exact c78) (by exact c79) (by exact c80) (by exact c81) (by exact c82) (by exact c83) (by exact c84) (by exact c85) (by exact c86) (by exact c87) (by exact c88) (by exact c89) (by exact c90) (by exact c91) (by exact c92) (by exact c93) (by exact c94) (by exact c95) (congrArg (fun n : Nat => (n : Int)) (ocF kb1).symm) (RR_mk (by first | exact e8 | exact (kp2 8 (by decide)).trans e8) (by first | exact e10 | exact (kp2 10 (by decide)).trans e10) (by first | exact e33 | exact (kp2 33 (by decide)).trans e33) (by first | exact e38 | exact (kp2 38 (by decide)).trans e38) (by first | exact e44 | exact (kp2 44 (by decide)).trans e44) (by first | exact e53 | exact (kp2 53 (by decide)).trans e53) (by first | exact tr | exact tell_kp (by exact tr) kp2) pi ni (by first | exact li | exact li2) rrf rtp htp rrd rse phl phi rim rco ht nM nsn)), (by repeat (first | exact fun _ _ => rfl | refine frr_up ?_ (by decide)))⟩
        | exact ⟨rfl, ⟨0, rfl, fun z => absurd (((ocT kb1).trans (ocF kb2)).symm.trans z) (by decide)⟩, (RefC_mk (g := (va_up (va_up g 0 z0) 0 1)) rfl (by exact c69) (by exact c70) (by exact c71) (by exact c72) (by exact c73) (by exact c74) (by exact c75) (by exact c76) (by exact c77) (by exact c78) (by exact c79) (by exact c80) (by exact c81) (by exact c82) (by exact c83) (by exact c84) (by exact c85) (by exact c86) (by exact c87) (by exact c88) (by exact c89) (by exact c90) (by exact c91) (by exact c92) (by exact c93) (by exact c94) (by exact c95) (congrArg (fun n : Nat => (n : Int)) ((ocT kb1).trans (ocF kb2)).symm) (RR_mk (by first | exact e8 | exact (kp2 8 (by decide)).trans e8) (by first | exact e10 | exact (kp2 10 (by decide)).trans e10) (by first | exact e33 | exact (kp2 33 (by decide)).trans e33) (by first | exact e38 | exact (kp2 38 (by decide)).trans e38) (by first | exact e44 | exact (kp2 44 (by decide)).trans e44) (by first | exact e53 | exact (kp2 53 (by decide)).trans e53) (by first | exact tr | exact tell_kp (by exact tr) kp2) pi ni (by first | exact li | exact li2) rrf rtp htp rrd rse phl phi rim rco ht nM nsn)), (by repeat (first | exact fun _ _ => rfl | refine frr_up ?_ (by decide)))⟩
        | exact ⟨rfl, ⟨0, rfl, fun z => absurd (((ocT kb1).trans ((ocT kb2).trans (ocF kb3))).symm.trans z) (by decide)⟩, (RefC_mk (g := (va_up (va_up g 0 z0) 0 1)) rfl (by exact c69) (by exact c70) (by exact c71) (by exact c72) (by exact c73) (by exact c74) (by exact c75) (by exact c76) (by exact c77) (by exact c78) (by exact c79) (by exact c80) (by exact c81) (by exact c82) (by exact c83) (by exact c84) (by exact c85) (by exact c86) (by exact c87) (by exact c88) (by exact c89) (by exact c90) (by exact c91) (by exact c92) (by exact c93) (by exact c94) (by exact c95) (congrArg (fun n : Nat => (n : Int)) ((ocT kb1).trans ((ocT kb2).trans (ocF kb3))).symm) (RR_mk (by first | exact e8 | exact (kp2 8 (by decide)).trans e8) (by first | exact e10 | exact (kp2 10 (by decide)).trans e10) (by first | exact e33 | exact (kp2 33 (by decide)).trans e33) (by first | exact e38 | exact (kp2 38 (by decide)).trans e38) (by first | exact e44 | exact (kp2 44 (by decide)).trans e44) (by first | exact e53 | exact (kp2 53 (by decide)).trans e53) (by first | exact tr | exact tell_kp (by exact tr) kp2) pi ni (by first | exact li | exact li2) rrf rtp htp rrd rse phl phi rim rco ht nM nsn)), (by repeat (first | exact fun _ _ => rfl | refine frr_up ?_ (by decide)))⟩
        | exact ⟨rfl, ⟨0, rfl, fun z => absurd (((ocT kb1).trans ((ocT kb2).trans ((ocT kb3).trans (ocF kb4)))).symm.trans z) (by decide)⟩, (RefC_mk (g := (va_up (va_up g 0 z0) 0 1)) rfl (by exact c69) (by exact c70) (by exact c71) (by exact c72) (by exact c73) (by exact c74) (by exact c75) (by exact c76) (by exact c77) (by exact c78) (by exact c79) (by exact c80) (by exact c81) (by exact c82) (by exact c83) (by exact c84) (by exact c85) (by exact c86) (by exact c87) (by exact c88) (by exact c89) (by exact c90) (by exact c91) (by exact c92) (by exact c93) (by exact c94) (by exact c95) (congrArg (fun n : Nat => (n : Int)) ((ocT kb1).trans ((ocT kb2).trans ((ocT kb3).trans (ocF kb4)))).symm) (RR_mk (by first | exact e8 | exact (kp2 8 (by decide)).trans e8) (by first | exact e10 | exact (kp2 10 (by decide)).trans e10) (by first | exact e33 | exact (kp2 33 (by decide)).trans e33) (by first | exact e38 | exact (kp2 38 (by decide)).trans e38) (by first | exact e44 | exact (kp2 44 (by decide)).trans e44) (by first | exact e53 | exact (kp2 53 (by decide)).trans e53) (by first | exact tr | exact tell_kp (by exact tr) kp2) pi ni (by first | exact li | exact li2) rrf rtp htp rrd rse phl phi rim rco ht nM nsn)), (by repeat (first | exact fun _ _ => rfl | refine frr_up ?_ (by decide)))⟩
        | exact ⟨rfl, ⟨_, rfl, fun _ => rfl⟩, (RefC_mk (g := (va_up (va_up g 0 z0) 0 1)) rfl (by exact c69) (by exact c70) (by exact c71) (by exact c72) (by exact c73) (by exact c74) (by exact c75) (by exact c76) (by exact c77) (by exact c78) (by exact c79) (by exact c80) (by exact c81) (by exact c82) (by exact c83) (by exact c84) (by exact c85) (by exact c86) (by exact c87) (by exact c88) (by exact c89) (by exact c90) (by exact c91) (by exact c92) (by exact c93) (by exact c94) (by exact c95) (by first | exact (hz0.trans (congrArg (fun n : Nat => (n : Int)) ((ocT kb1).trans ((ocT kb2).trans ((ocT kb3).trans ((ocT kb4).trans ocE)))).symm)) | exact (kp2 0 (by decide)).trans (hz0.trans (congrArg (fun n : Nat => (n : Int)) ((ocT kb1).trans ((ocT kb2).trans ((ocT kb3).trans ((ocT kb4).trans ocE)))).symm))) (RR_mk (by first | exact e8 | exact (kp2 8 (by decide)).trans e8) (by first | exact e10 | exact (kp2 10 (by decide)).trans e10) (by first | exact e33 | exact (kp2 33 (by decide)).trans e33) (by first | exact e38 | exact (kp2 38 (by decide)).trans e38) (by first | exact e44 | exact (kp2 44 (by decide)).trans e44) (by first | exact e53 | exact (kp2 53 (by decide)).trans e53) (by first | exact tr | exact tell_kp (by exact tr) kp2) pi ni (by first | exact li | exact li2) rrf rtp htp rrd rse phl phi rim rco ht nM nsn)), (by repeat (first | exact fun _ _ => rfl | refine frr_up ?_ (by decide)))⟩
  · obtain rfl := hh.symm
    replace kb1 : diaB nd a = false := by rw [← t1]; exact kb1
    refine ⟨rfl, ?_⟩
    dsimp only [Option.toList, List.cons_append, List.nil_append]
    refine r_if_eq (tgt := 50) dX9_late_10 (by decide) ⟨by omega, by omega⟩ (fun g10 => ?_) (fun g10 => absurd g10 (by omega))
    refine r_iconst dX9_late_50 ?_
    refine r_iret dX9_late_51 ?_
    first
      | exact ⟨rfl, ⟨0, rfl, fun z => absurd ((ocF kb1).symm.trans z) (by decide)⟩, (RefC_mk (g := (va_up (va_up g 0 z0) 0 1)) rfl (by exact c69) (by exact c70) (by exact c71) (by exact c72) (by exact c73) (by exact c74) (by exact c75) (by exact c76) (by exact c77) (by exact c78) (by exact c79) (by exact c80) (by exact c81) (by exact c82) (by exact c83) (by exact c84) (by exact c85) (by exact c86) (by exact c87) (by exact c88) (by exact c89) (by exact c90) (by exact c91) (by exact c92) (by exact c93) (by exact c94) (by exact c95) (congrArg (fun n : Nat => (n : Int)) (ocF kb1).symm) (RR_mk (by first | exact e8 | exact (kp2 8 (by decide)).trans e8) (by first | exact e10 | exact (kp2 10 (by decide)).trans e10) (by first | exact e33 | exact (kp2 33 (by decide)).trans e33) (by first | exact e38 | exact (kp2 38 (by decide)).trans e38) (by first | exact e44 | exact (kp2 44 (by decide)).trans e44) (by first | exact e53 | exact (kp2 53 (by decide)).trans e53) (by first | exact tr | exact tell_kp (by exact tr) kp2) pi ni (by first | exact li | exact li2) rrf rtp htp rrd rse phl phi rim rco ht nM nsn)), (by repeat (first | exact fun _ _ => rfl | refine frr_up ?_ (by decide)))⟩
      | exact ⟨rfl, ⟨0, rfl, fun z => absurd (((ocT kb1).trans (ocF kb2)).symm.trans z) (by decide)⟩, (RefC_mk (g := (va_up (va_up g 0 z0) 0 1)) rfl (by exact c69) (by exact c70) (by exact c71) (by exact c72) (by exact c73) (by exact c74) (by exact c75) (by exact c76) (by exact c77) (by exact c78) (by exact c79) (by exact c80) (by exact c81) (by exact c82) (by exact c83) (by exact c84) (by exact c85) (by exact c86) (by exact c87) (by exact c88) (by exact c89) (by exact c90) (by exact c91) (by exact c92) (by exact c93) (by exact c94) (by exact c95) (congrArg (fun n : Nat => (n : Int)) ((ocT kb1).trans (ocF kb2)).symm) (RR_mk (by first | exact e8 | exact (kp2 8 (by decide)).trans e8) (by first | exact e10 | exact (kp2 10 (by decide)).trans e10) (by first | exact e33 | exact (kp2 33 (by decide)).trans e33) (by first | exact e38 | exact (kp2 38 (by decide)).trans e38) (by first | exact e44 | exact (kp2 44 (by decide)).trans e44) (by first | exact e53 | exact (kp2 53 (by decide)).trans e53) (by first | exact tr | exact tell_kp (by exact tr) kp2) pi ni (by first | exact li | exact li2) rrf rtp htp rrd rse phl phi rim rco ht nM nsn)), (by repeat (first | exact fun _ _ => rfl | refine frr_up ?_ (by decide)))⟩
      | exact ⟨rfl, ⟨0, rfl, fun z => absurd (((ocT kb1).trans ((ocT kb2).trans (ocF kb3))).symm.trans z) (by decide)⟩, (RefC_mk (g := (va_up (va_up g 0 z0) 0 1)) rfl (by exact c69) (by exact c70) (by exact c71) (by exact c72) (by exact c73) (by exact c74) (by exact c75) (by exact c76) (by exact c77) (by exact c78) (by exact c79) (by exact c80) (by exact c81) (by exact c82) (by exact c83) (by exact c84) (by exact c85) (by exact c86) (by exact c87) (by exact c88) (by exact c89) (by exact c90) (by exact c91) (by exact c92) (by exact c93) (by exact c94) (by exact c95) (congrArg (fun n : Nat => (n : Int)) ((ocT kb1).trans ((ocT kb2).trans (ocF kb3))).symm) (RR_mk (by first | exact e8 | exact (kp2 8 (by decide)).trans e8) (by first | exact e10 | exact (kp2 10 (by decide)).trans e10) (by first | exact e33 | exact (kp2 33 (by decide)).trans e33) (by first | exact e38 | exact (kp2 38 (by decide)).trans e38) (by first | exact e44 | exact (kp2 44 (by decide)).trans e44) (by first | exact e53 | exact (kp2 53 (by decide)).trans e53) (by first | exact tr | exact tell_kp (by exact tr) kp2) pi ni (by first | exact li | exact li2) rrf rtp htp rrd rse phl phi rim rco ht nM nsn)), (by repeat (first | exact fun _ _ => rfl | refine frr_up ?_ (by decide)))⟩
      | exact ⟨rfl, ⟨0, rfl, fun z => absurd (((ocT kb1).trans ((ocT kb2).trans ((ocT kb3).trans (ocF kb4)))).symm.trans z) (by decide)⟩, (RefC_mk (g := (va_up (va_up g 0 z0) 0 1)) rfl (by exact c69) (by exact c70) (by exact c71) (by exact c72) (by exact c73) (by exact c74) (by exact c75) (by exact c76) (by exact c77) (by exact c78) (by exact c79) (by exact c80) (by exact c81) (by exact c82) (by exact c83) (by exact c84) (by exact c85) (by exact c86) (by exact c87) (by exact c88) (by exact c89) (by exact c90) (by exact c91) (by exact c92) (by exact c93) (by exact c94) (by exact c95) (congrArg (fun n : Nat => (n : Int)) ((ocT kb1).trans ((ocT kb2).trans ((ocT kb3).trans (ocF kb4)))).symm) (RR_mk (by first | exact e8 | exact (kp2 8 (by decide)).trans e8) (by first | exact e10 | exact (kp2 10 (by decide)).trans e10) (by first | exact e33 | exact (kp2 33 (by decide)).trans e33) (by first | exact e38 | exact (kp2 38 (by decide)).trans e38) (by first | exact e44 | exact (kp2 44 (by decide)).trans e44) (by first | exact e53 | exact (kp2 53 (by decide)).trans e53) (by first | exact tr | exact tell_kp (by exact tr) kp2) pi ni (by first | exact li | exact li2) rrf rtp htp rrd rse phl phi rim rco ht nM nsn)), (by repeat (first | exact fun _ _ => rfl | refine frr_up ?_ (by decide)))⟩
      | exact ⟨rfl, ⟨_, rfl, fun _ => rfl⟩, (RefC_mk (g := (va_up (va_up g 0 z0) 0 1)) rfl (by exact c69) (by exact c70) (by exact c71) (by exact c72) (by exact c73) (by exact c74) (by exact c75) (by exact c76) (by exact c77) (by exact c78) (by exact c79) (by exact c80) (by exact c81) (by exact c82) (by exact c83) (by exact c84) (by exact c85) (by exact c86) (by exact c87) (by exact c88) (by exact c89) (by exact c90) (by exact c91) (by exact c92) (by exact c93) (by exact c94) (by exact c95) (by first | exact (hz0.trans (congrArg (fun n : Nat => (n : Int)) ((ocT kb1).trans ((ocT kb2).trans ((ocT kb3).trans ((ocT kb4).trans ocE)))).symm)) | exact (kp2 0 (by decide)).trans (hz0.trans (congrArg (fun n : Nat => (n : Int)) ((ocT kb1).trans ((ocT kb2).trans ((ocT kb3).trans ((ocT kb4).trans ocE)))).symm))) (RR_mk (by first | exact e8 | exact (kp2 8 (by decide)).trans e8) (by first | exact e10 | exact (kp2 10 (by decide)).trans e10) (by first | exact e33 | exact (kp2 33 (by decide)).trans e33) (by first | exact e38 | exact (kp2 38 (by decide)).trans e38) (by first | exact e44 | exact (kp2 44 (by decide)).trans e44) (by first | exact e53 | exact (kp2 53 (by decide)).trans e53) (by first | exact tr | exact tell_kp (by exact tr) kp2) pi ni (by first | exact li | exact li2) rrf rtp htp rrd rse phl phi rim rco ht nM nsn)), (by repeat (first | exact fun _ _ => rfl | refine frr_up ?_ (by decide)))⟩

theorem l_X9_meet {h : aH} {w : Int} {dl cl lm mn : Nat → Int} (c69 : h 69 = .inl (0, 45, dl)) (c70 : h 70 = .inl (0, 60, cl)) (c71 : h 71 = .inl (0, 12, lm)) (c79 : h 79 = .inl (0, 120, mn)) {nd sw nc nm : Int} {K U I O G L cf ct fc nx cd md my mt : Nat → Int} (pi : PInv nd sw nc K U I O G L cf ct fc nx cd) {g : Nat → Int} {a b : Int} (ha : 0 ≤ a ∧ a < nd) (hb : 0 ≤ b ∧ b < nd) {x : Int} (hx : 0 ≤ x ∧ x < 1440) {d0 w_ : Int} (hw : 0 ≤ w_ ∧ w_ ≤ 1) : ∀ (k : Nat) (on bb l : Int) (gg lt lgt : Nat → Int), on + k = 365 → 0 ≤ on → (-1 ≤ bb ∧ bb < 365) → (-1 ≤ l ∧ l < 1440) → (¬ w_ = 0 ∨ bb = -1) → TellR gg dl cl lm mn nd sw nc nm K U I O G L cf ct cd md my mt → LitR (gg 30) lt lgt sw nc L cf ct cd → (∀ k, k ≠ 30 → gg k = g k) → Ev RX9 "meet" cX9_meet 10 (some .int) 8 0 0 (RetT (metS (fun d => latI (fsF (fun m => nowI sw nc nm K U I O G L cf ct cd md my mt a d m) x 1440 0) (fsF (fun m => nowI sw nc nm K U I O G L cf ct cd md my mt b d m) x 1440 0)) w_ k on bb l) h g w sw nc L cf ct cd) noX 97 (UT h gg w lt lgt) 60 [(0, .ref 68), (1, iv a), (2, iv b), (3, iv x), (4, iv d0), (5, iv w_), (6, iv bb), (7, iv l), (8, iv on)] [] := by
  obtain ⟨pnd, psw, pnc, pK, pU, pI, pO, pG, pL, pcf, pct, pfc, pnx⟩ := id pi
  intro k
  induction k with
  | zero =>
    intro on bb l gg lt lgt hk h0 h1 h2 hwb trg lig kp
    refine r_iload dX9_meet_60 rfl ?_
    refine r_sipush dX9_meet_62 rfl ?_
    refine r_icmp_ge (tgt := 123) dX9_meet_65 (by decide) ⟨by omega, by omega⟩ ⟨by omega, by omega⟩ (fun g65 => ?_) (fun g65 => absurd g65 (by omega))
    refine r_iload dX9_meet_123 rfl ?_
    refine r_iret dX9_meet_125 ?_
    exact ⟨rfl, rfl, gg, lt, lgt, rfl, lig, kp⟩
  | succ k ih =>
    intro on bb l gg lt lgt hk h0 h1 h2 hwb trg lig kp
    have fa := fsF_B (fun m => nowI sw nc nm K U I O G L cf ct cd md my mt a on m) x 1440 0 (by omega) (by omega)
    have fb := fsF_B (fun m => nowI sw nc nm K U I O G L cf ct cd md my mt b on m) x 1440 0 (by omega) (by omega)
    have f3 := latI_B fa fb
    have e1 : metS (fun d => latI (fsF (fun m => nowI sw nc nm K U I O G L cf ct cd md my mt a d m) x 1440 0) (fsF (fun m => nowI sw nc nm K U I O G L cf ct cd md my mt b d m) x 1440 0)) w_ (k + 1) on bb l = if latI (fsF (fun m => nowI sw nc nm K U I O G L cf ct cd md my mt a on m) x 1440 0) (fsF (fun m => nowI sw nc nm K U I O G L cf ct cd md my mt b on m) x 1440 0) = -1 then metS (fun d => latI (fsF (fun m => nowI sw nc nm K U I O G L cf ct cd md my mt a d m) x 1440 0) (fsF (fun m => nowI sw nc nm K U I O G L cf ct cd md my mt b d m) x 1440 0)) w_ k (on + 1) bb l else if w_ = 0 then on else if bb = -1 ∨ latI (fsF (fun m => nowI sw nc nm K U I O G L cf ct cd md my mt a on m) x 1440 0) (fsF (fun m => nowI sw nc nm K U I O G L cf ct cd md my mt b on m) x 1440 0) < l then metS (fun d => latI (fsF (fun m => nowI sw nc nm K U I O G L cf ct cd md my mt a d m) x 1440 0) (fsF (fun m => nowI sw nc nm K U I O G L cf ct cd md my mt b d m) x 1440 0)) w_ k (on + 1) on (latI (fsF (fun m => nowI sw nc nm K U I O G L cf ct cd md my mt a on m) x 1440 0) (fsF (fun m => nowI sw nc nm K U I O G L cf ct cd md my mt b on m) x 1440 0)) else metS (fun d => latI (fsF (fun m => nowI sw nc nm K U I O G L cf ct cd md my mt a d m) x 1440 0) (fsF (fun m => nowI sw nc nm K U I O G L cf ct cd md my mt b d m) x 1440 0)) w_ k (on + 1) bb l := rfl
    obtain ⟨lv, elv⟩ : ∃ z, latI (fsF (fun m => nowI sw nc nm K U I O G L cf ct cd md my mt a on m) x 1440 0) (fsF (fun m => nowI sw nc nm K U I O G L cf ct cd md my mt b on m) x 1440 0) = z := ⟨_, rfl⟩
    rw [elv] at e1 f3
    refine r_iload dX9_meet_60 rfl ?_
    refine r_sipush dX9_meet_62 rfl ?_
    refine r_icmp_ge (tgt := 123) dX9_meet_65 (by decide) ⟨by omega, by omega⟩ ⟨by omega, by omega⟩ (fun g65 => absurd g65 (by omega)) (fun g65 => ?_)
    refine r_aload_n dX9_meet_68 rfl rfl ?_
    refine r_iload_n dX9_meet_69 rfl rfl ?_
    refine r_iload_n dX9_meet_70 rfl rfl ?_
    refine r_iload_n dX9_meet_71 rfl rfl ?_
    refine r_iload dX9_meet_72 rfl ?_
    refine r_callV 68 [_, _, _, _] (s_X9_lateOn (g := gg) (by rfl) (by exact c69) (by exact c70) (by exact c71) (by rfl) (by rfl) (by exact c79) trg pi lig ha hb hx (by omega)) dX9_meet_74 cs_X9_303 im_X9_lateOn (by decide) rfl rfl (by decide) (by decide) (by decide) rfl rfl (Nat.le_of_ble_eq_true rfl) (fun _ _ _ q => q.elim) (fun v n2 h2 q => ?_)
    obtain ⟨rfl, rfl, gn, lt2, lg2, rfl, li2, kp2⟩ := q
    rw [ut_ut]
    refine ⟨rfl, ?_⟩
    dsimp only [Option.toList, List.cons_append, List.nil_append]
    rw [elv]
    refine r_istore (lv2 := [(0, _), (1, _), (2, _), (3, _), (4, _), (5, _), (6, _), (7, _), (8, _), (9, _)]) dX9_meet_77 (by decide) rfl rfl ?_
    refine r_iload dX9_meet_79 rfl ?_
    refine r_iconst dX9_meet_81 ?_
    refine r_icmp_eq (tgt := 117) dX9_meet_82 (by decide) ⟨by omega, by omega⟩ ⟨by omega, by omega⟩ (fun g82 => ?_) (fun g82 => ?_)
    · refine r_iinc (lv2 := [(0, _), (1, _), (2, _), (3, _), (4, _), (5, _), (6, _), (7, _), (8, _), (9, _)]) dX9_meet_117 (by decide) rfl rfl rfl ?_
      refine r_goto (tgt := 60) dX9_meet_120 (by decide) ?_
      refine r_lv (lv2 := [(0, _), (1, _), (2, _), (3, _), (4, _), (5, _), (6, _), (7, _), (8, _)]) rfl ?_
      first
        | rw [e1, if_pos (by omega)]
        | rw [e1, if_neg (by omega), if_neg (by omega), if_pos (by omega)]
        | rw [e1, if_neg (by omega), if_neg (by omega), if_neg (by omega)]
      exact ih _ _ _ gn lt2 lg2 (by omega) (by omega) (by omega) (by omega) (by omega) (tell_kp trg kp2) li2 (fun k hk => (kp2 k hk).trans (kp k hk))
    · refine r_iload dX9_meet_85 rfl ?_
      refine r_iconst dX9_meet_87 ?_
      refine r_icmp_eq (tgt := 101) dX9_meet_88 (by decide) ⟨by omega, by omega⟩ ⟨by omega, by omega⟩ (fun g88 => ?_) (fun g88 => ?_)
      · refine r_iload dX9_meet_101 rfl ?_
        refine r_if_ne (tgt := 109) dX9_meet_103 (by decide) ⟨by omega, by omega⟩ (fun g103 => ?_) (fun g103 => ?_)
        · refine r_iload dX9_meet_109 rfl ?_
          refine r_istore (lv2 := [(0, _), (1, _), (2, _), (3, _), (4, _), (5, _), (6, _), (7, _), (8, _), (9, _)]) dX9_meet_111 (by decide) rfl rfl ?_
          refine r_iload dX9_meet_113 rfl ?_
          refine r_istore (lv2 := [(0, _), (1, _), (2, _), (3, _), (4, _), (5, _), (6, _), (7, _), (8, _), (9, _)]) dX9_meet_115 (by decide) rfl rfl ?_
          refine r_iinc (lv2 := [(0, _), (1, _), (2, _), (3, _), (4, _), (5, _), (6, _), (7, _), (8, _), (9, _)]) dX9_meet_117 (by decide) rfl rfl rfl ?_
          refine r_goto (tgt := 60) dX9_meet_120 (by decide) ?_
          refine r_lv (lv2 := [(0, _), (1, _), (2, _), (3, _), (4, _), (5, _), (6, _), (7, _), (8, _)]) rfl ?_
          first
            | rw [e1, if_pos (by omega)]
            | rw [e1, if_neg (by omega), if_neg (by omega), if_pos (by omega)]
            | rw [e1, if_neg (by omega), if_neg (by omega), if_neg (by omega)]
          exact ih _ _ _ gn lt2 lg2 (by omega) (by omega) (by omega) (by omega) (by omega) (tell_kp trg kp2) li2 (fun k hk => (kp2 k hk).trans (kp k hk))
        · refine r_iload dX9_meet_106 rfl ?_
          refine r_iret dX9_meet_108 ?_
          exact ⟨ivE (by rw [e1, if_neg (by omega), if_pos (by omega)]), rfl, gn, lt2, lg2, rfl, li2, fun k hk => (kp2 k hk).trans (kp k hk)⟩
      · refine r_iload dX9_meet_91 rfl ?_
        refine r_iload dX9_meet_93 rfl ?_
        refine r_icmp_lt (tgt := 101) dX9_meet_95 (by decide) ⟨by omega, by omega⟩ ⟨by omega, by omega⟩ (fun g95 => ?_) (fun g95 => ?_)
        · refine r_iload dX9_meet_101 rfl ?_
          refine r_if_ne (tgt := 109) dX9_meet_103 (by decide) ⟨by omega, by omega⟩ (fun g103 => ?_) (fun g103 => ?_)
          · refine r_iload dX9_meet_109 rfl ?_
            refine r_istore (lv2 := [(0, _), (1, _), (2, _), (3, _), (4, _), (5, _), (6, _), (7, _), (8, _), (9, _)]) dX9_meet_111 (by decide) rfl rfl ?_
            refine r_iload dX9_meet_113 rfl ?_
            refine r_istore (lv2 := [(0, _), (1, _), (2, _), (3, _), (4, _), (5, _), (6, _), (7, _), (8, _), (9, _)]) dX9_meet_115 (by decide) rfl rfl ?_
            refine r_iinc (lv2 := [(0, _), (1, _), (2, _), (3, _), (4, _), (5, _), (6, _), (7, _), (8, _), (9, _)]) dX9_meet_117 (by decide) rfl rfl rfl ?_
            refine r_goto (tgt := 60) dX9_meet_120 (by decide) ?_
            refine r_lv (lv2 := [(0, _), (1, _), (2, _), (3, _), (4, _), (5, _), (6, _), (7, _), (8, _)]) rfl ?_
            first
              | rw [e1, if_pos (by omega)]
              | rw [e1, if_neg (by omega), if_neg (by omega), if_pos (by omega)]
              | rw [e1, if_neg (by omega), if_neg (by omega), if_neg (by omega)]
            exact ih _ _ _ gn lt2 lg2 (by omega) (by omega) (by omega) (by omega) (by omega) (tell_kp trg kp2) li2 (fun k hk => (kp2 k hk).trans (kp k hk))
          · refine r_iload dX9_meet_106 rfl ?_
            refine r_iret dX9_meet_108 ?_
            exact ⟨ivE (by rw [e1, if_neg (by omega), if_pos (by omega)]), rfl, gn, lt2, lg2, rfl, li2, fun k hk => (kp2 k hk).trans (kp k hk)⟩
        · refine r_goto (tgt := 117) dX9_meet_98 (by decide) ?_
          refine r_iinc (lv2 := [(0, _), (1, _), (2, _), (3, _), (4, _), (5, _), (6, _), (7, _), (8, _), (9, _)]) dX9_meet_117 (by decide) rfl rfl rfl ?_
          refine r_goto (tgt := 60) dX9_meet_120 (by decide) ?_
          refine r_lv (lv2 := [(0, _), (1, _), (2, _), (3, _), (4, _), (5, _), (6, _), (7, _), (8, _)]) rfl ?_
          first
            | rw [e1, if_pos (by omega)]
            | rw [e1, if_neg (by omega), if_neg (by omega), if_pos (by omega)]
            | rw [e1, if_neg (by omega), if_neg (by omega), if_neg (by omega)]
          exact ih _ _ _ gn lt2 lg2 (by omega) (by omega) (by omega) (by omega) (by omega) (tell_kp trg kp2) li2 (fun k hk => (kp2 k hk).trans (kp k hk))

theorem s_X9_meet {h : aH} {th : Int} {t : Nat → Int} {tp : Nat} {fpl hlaw himg : Int} {rf : Nat → Int} {nd sw nc hl hs : Int} {K U I O G L cf ct fc nx cd : Nat → Int} {nr ns nm : Int} {rd ry rm rt se md my mt : Nat → Int} {M : ND} {ls : LSm} (cr : RefC h (t, tp, fpl, rf, hlaw, himg, ((nd, sw, nc), (hl, hs), K, U, I, O, G, L, cf, ct, fc, nx, cd), ((nr, ns, nm), rd, ry, rm, rt, se, md, my, mt), M, ls) th) {a b x day w_ : Int} (ia : inR a) (ib : inR b) (ix : inR x) (iday : inR day) (iw_ : inR w_)  : mSem yX9_meet cX9_meet 10 (some .int) 8 0 0 [.ref 68, iv a, iv b, iv x, iv day, iv w_] 97 h (RefQ (ocL [(diaB nd a, 1), (diaB nd b, 1), (minB x, 1), (dayB day, 1), (whaB w_ 1, 1)]) (metS (fun d => latI (fsF (fun m => nowI sw nc nm K U I O G L cf ct cd md my mt a d m) x 1440 0) (fsF (fun m => nowI sw nc nm K U I O G L cf ct cd md my mt b d m) x 1440 0)) w_ (365 - day).toNat day (-1) (-1)) h (t, tp, fpl, rf, hlaw, himg, ((nd, sw, nc), (hl, hs), K, U, I, O, G, L, cf, ct, fc, nx, cd), ((nr, ns, nm), rd, ry, rm, rt, se, md, my, mt), M, ls)) noX := by
  refine RefC_elim cr (fun g dl cl lm trr rfr nD nC nL lt lgt mn rdg cpl grp sea rts row cod ncod pil opn stg bsd imo imr ims imm w c68 c69 c70 c71 c72 c73 c74 c75 c76 c77 c78 c79 c80 c81 c82 c83 c84 c85 c86 c87 c88 c89 c90 c91 c92 c93 c94 c95 hth rr => ?_)
  refine RR_elim rr (fun e8 e10 e33 e38 e44 e53 tr pi ni li rrf rtp htp rrd rse phl phi rim rco ht nM nsn => ?_)
  obtain ⟨t1, t2, t3, t31, pnm, tdl, tcl, tlm, tmd, pmt, pmd, pmy⟩ := id tr
  obtain ⟨pnd, psw, pnc, pK, pU, pI, pO, pG, pL, pcf, pct, pfc, pnx⟩ := id pi
  obtain ⟨pnr, pns, pnm2, prd, pry, prm, prt, pse, pmd2, pmy2, pmt2⟩ := id ni
  unfold inR at ia ib ix iday iw_
  refine mSem_of (own := RX9) (name := "meet") pn_X9 rfl rfl (Nat.le_of_ble_eq_true rfl) ?_
  refine r_aload_n dX9_meet_0 rfl rfl ?_
  refine r_iconst dX9_meet_1 ?_
  refine r_putR dX9_meet_2 fp_X9_102 (by decide) c68 (nar_int _) (Nat.le_of_ble_eq_true rfl) setR_0 (fun z0 hz0 => ?_)
  refine r_aload_n dX9_meet_5 rfl rfl ?_
  refine r_iload_n dX9_meet_6 rfl rfl ?_
  refine r_callV 68 [_] (s_X9_isDial (by rfl) (by first | rfl | exact hz0) (by show 0 ≤ g 1 ∧ g 1 ≤ 9; omega) ia) dX9_meet_7 cs_X9_243 im_X9_isDial (by decide) rfl rfl (by decide) (by decide) (by decide) rfl rfl (Nat.le_of_ble_eq_true rfl) (fun _ _ _ q => q.elim) (fun v n2 h2 q => ?_)
  obtain ⟨rfl, q⟩ := q
  rcases q with ⟨kb1, rfl, hh⟩ | ⟨kb1, rfl, hh⟩
  · obtain rfl := hh.symm
    replace kb1 : diaB nd a = true := by rw [← t1]; exact kb1
    have ba := of_decide_eq_true kb1
    refine ⟨rfl, ?_⟩
    dsimp only [Option.toList, List.cons_append, List.nil_append]
    refine r_if_eq (tgt := 48) dX9_meet_10 (by decide) ⟨by omega, by omega⟩ (fun g10 => absurd g10 (by omega)) (fun g10 => ?_)
    refine r_aload_n dX9_meet_13 rfl rfl ?_
    refine r_iload_n dX9_meet_14 rfl rfl ?_
    refine r_callV 68 [_] (s_X9_isDial (by rfl) (by first | rfl | exact hz0) (by show 0 ≤ g 1 ∧ g 1 ≤ 9; omega) ib) dX9_meet_15 cs_X9_243 im_X9_isDial (by decide) rfl rfl (by decide) (by decide) (by decide) rfl rfl (Nat.le_of_ble_eq_true rfl) (fun _ _ _ q => q.elim) (fun v n2 h2 q => ?_)
    obtain ⟨rfl, q⟩ := q
    rcases q with ⟨kb2, rfl, hh⟩ | ⟨kb2, rfl, hh⟩
    · obtain rfl := hh.symm
      replace kb2 : diaB nd b = true := by rw [← t1]; exact kb2
      have bb := of_decide_eq_true kb2
      refine ⟨rfl, ?_⟩
      dsimp only [Option.toList, List.cons_append, List.nil_append]
      refine r_if_eq (tgt := 48) dX9_meet_18 (by decide) ⟨by omega, by omega⟩ (fun g18 => absurd g18 (by omega)) (fun g18 => ?_)
      refine r_aload_n dX9_meet_21 rfl rfl ?_
      refine r_iload_n dX9_meet_22 rfl rfl ?_
      refine r_callV 68 [_] (s_X9_isMinute (by rfl) (by first | rfl | exact hz0) ix) dX9_meet_23 cs_X9_275 im_X9_isMinute (by decide) rfl rfl (by decide) (by decide) (by decide) rfl rfl (Nat.le_of_ble_eq_true rfl) (fun _ _ _ q => q.elim) (fun v n2 h2 q => ?_)
      obtain ⟨rfl, q⟩ := q
      rcases q with ⟨kb3, rfl, hh⟩ | ⟨kb3, rfl, hh⟩
      · obtain rfl := hh.symm
        have bx := of_decide_eq_true kb3
        refine ⟨rfl, ?_⟩
        dsimp only [Option.toList, List.cons_append, List.nil_append]
        refine r_if_eq (tgt := 48) dX9_meet_26 (by decide) ⟨by omega, by omega⟩ (fun g26 => absurd g26 (by omega)) (fun g26 => ?_)
        refine r_aload_n dX9_meet_29 rfl rfl ?_
        refine r_iload dX9_meet_30 rfl ?_
        refine r_callV 68 [_] (s_X9_isDay (by rfl) (by first | rfl | exact hz0) iday) dX9_meet_32 cs_X9_259 im_X9_isDay (by decide) rfl rfl (by decide) (by decide) (by decide) rfl rfl (Nat.le_of_ble_eq_true rfl) (fun _ _ _ q => q.elim) (fun v n2 h2 q => ?_)
        obtain ⟨rfl, q⟩ := q
        rcases q with ⟨kb4, rfl, hh⟩ | ⟨kb4, rfl, hh⟩
        · obtain rfl := hh.symm
          have bday := of_decide_eq_true kb4
          refine ⟨rfl, ?_⟩
          dsimp only [Option.toList, List.cons_append, List.nil_append]
          refine r_if_eq (tgt := 48) dX9_meet_35 (by decide) ⟨by omega, by omega⟩ (fun g35 => absurd g35 (by omega)) (fun g35 => ?_)
          refine r_aload_n dX9_meet_38 rfl rfl ?_
          refine r_iload dX9_meet_39 rfl ?_
          refine r_iconst dX9_meet_41 ?_
          refine r_callV 68 [_, _] (s_X9_isWhat (by rfl) (by first | rfl | exact hz0) iw_ ⟨by decide, by decide⟩) dX9_meet_42 cs_X9_246 im_X9_isWhat (by decide) rfl rfl (by decide) (by decide) (by decide) rfl rfl (Nat.le_of_ble_eq_true rfl) (fun _ _ _ q => q.elim) (fun v n2 h2 q => ?_)
          obtain ⟨rfl, q⟩ := q
          rcases q with ⟨kb5, rfl, hh⟩ | ⟨kb5, rfl, hh⟩
          · obtain rfl := hh.symm
            have bw_ := of_decide_eq_true kb5
            refine ⟨rfl, ?_⟩
            dsimp only [Option.toList, List.cons_append, List.nil_append]
            refine r_if_ne (tgt := 50) dX9_meet_45 (by decide) ⟨by omega, by omega⟩ (fun g45 => ?_) (fun g45 => absurd g45 (by omega))
            refine r_iconst dX9_meet_50 ?_
            refine r_istore (lv2 := [(0, _), (1, _), (2, _), (3, _), (4, _), (5, _), (6, _)]) dX9_meet_51 (by decide) rfl rfl ?_
            refine r_iconst dX9_meet_53 ?_
            refine r_istore (lv2 := [(0, _), (1, _), (2, _), (3, _), (4, _), (5, _), (6, _), (7, _)]) dX9_meet_54 (by decide) rfl rfl ?_
            refine r_iload dX9_meet_56 rfl ?_
            refine r_istore (lv2 := [(0, _), (1, _), (2, _), (3, _), (4, _), (5, _), (6, _), (7, _), (8, _)]) dX9_meet_58 (by decide) rfl rfl ?_
            refine ev_h (ut_self (h := va_up h 68 (RG (va_up g 0 z0) w)) rfl c77 c78) ?_
            rw [ut_68]
            refine ev_post (l_X9_meet c69 c70 c71 c79 pi ba bb bx bw_ (365 - day).toNat day (-1) 0 (va_up g 0 z0) lt lgt (by omega) (by omega) (by omega) (by omega) (Or.inr rfl) (by exact tr) (by exact li) (g := va_up g 0 z0) (fun _ _ => rfl)) (fun v n2 h2 q => ?_) (fun _ _ _ q => q)
            obtain ⟨rfl, rfl, gn, lt2, lg2, rfl, li2, kp2⟩ := q
            exact ⟨rfl, ⟨_, rfl, fun _ => (metS_l _ _ _ _ _ _)⟩, (RefC_mk (g := gn) rfl (by exact c69) (by exact c70) (by exact c71) (by exact c72) (by exact c73) (by exact c74) (by exact c75) (by exact c76) rfl rfl (by exact c79) (by exact c80) (by exact c81) (by exact c82) (by exact c83) (by exact c84) (by exact c85) (by exact c86) (by exact c87) (by exact c88) (by exact c89) (by exact c90) (by exact c91) (by exact c92) (by exact c93) (by exact c94) (by exact c95) (by first | exact (hz0.trans (congrArg (fun n : Nat => (n : Int)) ((ocT kb1).trans ((ocT kb2).trans ((ocT kb3).trans ((ocT kb4).trans ((ocT kb5).trans ocE))))).symm)) | exact (kp2 0 (by decide)).trans (hz0.trans (congrArg (fun n : Nat => (n : Int)) ((ocT kb1).trans ((ocT kb2).trans ((ocT kb3).trans ((ocT kb4).trans ((ocT kb5).trans ocE))))).symm))) (RR_mk (by first | exact e8 | exact (kp2 8 (by decide)).trans e8) (by first | exact e10 | exact (kp2 10 (by decide)).trans e10) (by first | exact e33 | exact (kp2 33 (by decide)).trans e33) (by first | exact e38 | exact (kp2 38 (by decide)).trans e38) (by first | exact e44 | exact (kp2 44 (by decide)).trans e44) (by first | exact e53 | exact (kp2 53 (by decide)).trans e53) (by first | exact tr | exact tell_kp (by exact tr) kp2) pi ni (by first | exact li | exact li2) rrf rtp htp rrd rse phl phi rim rco ht nM nsn)), (by repeat (first | exact fun _ _ => rfl | refine frr_up ?_ (by decide)))⟩
          · obtain rfl := hh.symm
            refine ⟨rfl, ?_⟩
            dsimp only [Option.toList, List.cons_append, List.nil_append]
            refine r_if_ne (tgt := 50) dX9_meet_45 (by decide) ⟨by omega, by omega⟩ (fun g45 => absurd g45 (by omega)) (fun g45 => ?_)
            refine r_iconst dX9_meet_48 ?_
            refine r_iret dX9_meet_49 ?_
            first
              | exact ⟨rfl, ⟨0, rfl, fun z => absurd ((ocF kb1).symm.trans z) (by decide)⟩, (RefC_mk (g := (va_up (va_up g 0 z0) 0 1)) rfl (by exact c69) (by exact c70) (by exact c71) (by exact c72) (by exact c73) (by exact c74) (by exact c75) (by exact c76) (by exact c77) (by exact c78) (by exact c79) (by exact c80) (by exact c81) (by exact c82) (by exact c83) (by exact c84) (by exact c85) (by exact c86) (by exact c87) (by exact c88) (by exact c89) (by exact c90) (by exact c91) (by exact c92) (by exact c93) (by exact c94) (by exact c95) (congrArg (fun n : Nat => (n : Int)) (ocF kb1).symm) (RR_mk (by first | exact e8 | exact (kp2 8 (by decide)).trans e8) (by first | exact e10 | exact (kp2 10 (by decide)).trans e10) (by first | exact e33 | exact (kp2 33 (by decide)).trans e33) (by first | exact e38 | exact (kp2 38 (by decide)).trans e38) (by first | exact e44 | exact (kp2 44 (by decide)).trans e44) (by first | exact e53 | exact (kp2 53 (by decide)).trans e53) (by first | exact tr | exact tell_kp (by exact tr) kp2) pi ni (by first | exact li | exact li2) rrf rtp htp rrd rse phl phi rim rco ht nM nsn)), (by repeat (first | exact fun _ _ => rfl | refine frr_up ?_ (by decide)))⟩
              | exact ⟨rfl, ⟨0, rfl, fun z => absurd (((ocT kb1).trans (ocF kb2)).symm.trans z) (by decide)⟩, (RefC_mk (g := (va_up (va_up g 0 z0) 0 1)) rfl (by exact c69) (by exact c70) (by exact c71) (by exact c72) (by exact c73) (by exact c74) (by exact c75) (by exact c76) (by exact c77) (by exact c78) (by exact c79) (by exact c80) (by exact c81) (by exact c82) (by exact c83) (by exact c84) (by exact c85) (by exact c86) (by exact c87) (by exact c88) (by exact c89) (by exact c90) (by exact c91) (by exact c92) (by exact c93) (by exact c94) (by exact c95) (congrArg (fun n : Nat => (n : Int)) ((ocT kb1).trans (ocF kb2)).symm) (RR_mk (by first | exact e8 | exact (kp2 8 (by decide)).trans e8) (by first | exact e10 | exact (kp2 10 (by decide)).trans e10) (by first | exact e33 | exact (kp2 33 (by decide)).trans e33) (by first | exact e38 | exact (kp2 38 (by decide)).trans e38) (by first | exact e44 | exact (kp2 44 (by decide)).trans e44) (by first | exact e53 | exact (kp2 53 (by decide)).trans e53) (by first | exact tr | exact tell_kp (by exact tr) kp2) pi ni (by first | exact li | exact li2) rrf rtp htp rrd rse phl phi rim rco ht nM nsn)), (by repeat (first | exact fun _ _ => rfl | refine frr_up ?_ (by decide)))⟩
              | exact ⟨rfl, ⟨0, rfl, fun z => absurd (((ocT kb1).trans ((ocT kb2).trans (ocF kb3))).symm.trans z) (by decide)⟩, (RefC_mk (g := (va_up (va_up g 0 z0) 0 1)) rfl (by exact c69) (by exact c70) (by exact c71) (by exact c72) (by exact c73) (by exact c74) (by exact c75) (by exact c76) (by exact c77) (by exact c78) (by exact c79) (by exact c80) (by exact c81) (by exact c82) (by exact c83) (by exact c84) (by exact c85) (by exact c86) (by exact c87) (by exact c88) (by exact c89) (by exact c90) (by exact c91) (by exact c92) (by exact c93) (by exact c94) (by exact c95) (congrArg (fun n : Nat => (n : Int)) ((ocT kb1).trans ((ocT kb2).trans (ocF kb3))).symm) (RR_mk (by first | exact e8 | exact (kp2 8 (by decide)).trans e8) (by first | exact e10 | exact (kp2 10 (by decide)).trans e10) (by first | exact e33 | exact (kp2 33 (by decide)).trans e33) (by first | exact e38 | exact (kp2 38 (by decide)).trans e38) (by first | exact e44 | exact (kp2 44 (by decide)).trans e44) (by first | exact e53 | exact (kp2 53 (by decide)).trans e53) (by first | exact tr | exact tell_kp (by exact tr) kp2) pi ni (by first | exact li | exact li2) rrf rtp htp rrd rse phl phi rim rco ht nM nsn)), (by repeat (first | exact fun _ _ => rfl | refine frr_up ?_ (by decide)))⟩
              | exact ⟨rfl, ⟨0, rfl, fun z => absurd (((ocT kb1).trans ((ocT kb2).trans ((ocT kb3).trans (ocF kb4)))).symm.trans z) (by decide)⟩, (RefC_mk (g := (va_up (va_up g 0 z0) 0 1)) rfl (by exact c69) (by exact c70) (by exact c71) (by exact c72) (by exact c73) (by exact c74) (by exact c75) (by exact c76) (by exact c77) (by exact c78) (by exact c79) (by exact c80) (by exact c81) (by exact c82) (by exact c83) (by exact c84) (by exact c85) (by exact c86) (by exact c87) (by exact c88) (by exact c89) (by exact c90) (by exact c91) (by exact c92) (by exact c93) (by exact c94) (by exact c95) (congrArg (fun n : Nat => (n : Int)) ((ocT kb1).trans ((ocT kb2).trans ((ocT kb3).trans (ocF kb4)))).symm) (RR_mk (by first | exact e8 | exact (kp2 8 (by decide)).trans e8) (by first | exact e10 | exact (kp2 10 (by decide)).trans e10) (by first | exact e33 | exact (kp2 33 (by decide)).trans e33) (by first | exact e38 | exact (kp2 38 (by decide)).trans e38) (by first | exact e44 | exact (kp2 44 (by decide)).trans e44) (by first | exact e53 | exact (kp2 53 (by decide)).trans e53) (by first | exact tr | exact tell_kp (by exact tr) kp2) pi ni (by first | exact li | exact li2) rrf rtp htp rrd rse phl phi rim rco ht nM nsn)), (by repeat (first | exact fun _ _ => rfl | refine frr_up ?_ (by decide)))⟩
              | exact ⟨rfl, ⟨0, rfl, fun z => absurd (((ocT kb1).trans ((ocT kb2).trans ((ocT kb3).trans ((ocT kb4).trans (ocF kb5))))).symm.trans z) (by decide)⟩, (RefC_mk (g := (va_up (va_up g 0 z0) 0 1)) rfl (by exact c69) (by exact c70) (by exact c71) (by exact c72) (by exact c73) (by exact c74) (by exact c75) (by exact c76) (by exact c77) (by exact c78) (by exact c79) (by exact c80) (by exact c81) (by exact c82) (by exact c83) (by exact c84) (by exact c85) (by exact c86) (by exact c87) (by exact c88) (by exact c89) (by exact c90) (by exact c91) (by exact c92) (by exact c93) (by exact c94) (by exact c95) (congrArg (fun n : Nat => (n : Int)) ((ocT kb1).trans ((ocT kb2).trans ((ocT kb3).trans ((ocT kb4).trans (ocF kb5))))).symm) (RR_mk (by first | exact e8 | exact (kp2 8 (by decide)).trans e8) (by first | exact e10 | exact (kp2 10 (by decide)).trans e10) (by first | exact e33 | exact (kp2 33 (by decide)).trans e33) (by first | exact e38 | exact (kp2 38 (by decide)).trans e38) (by first | exact e44 | exact (kp2 44 (by decide)).trans e44) (by first | exact e53 | exact (kp2 53 (by decide)).trans e53) (by first | exact tr | exact tell_kp (by exact tr) kp2) pi ni (by first | exact li | exact li2) rrf rtp htp rrd rse phl phi rim rco ht nM nsn)), (by repeat (first | exact fun _ _ => rfl | refine frr_up ?_ (by decide)))⟩
        · obtain rfl := hh.symm
          refine ⟨rfl, ?_⟩
          dsimp only [Option.toList, List.cons_append, List.nil_append]
          refine r_if_eq (tgt := 48) dX9_meet_35 (by decide) ⟨by omega, by omega⟩ (fun g35 => ?_) (fun g35 => absurd g35 (by omega))
          refine r_iconst dX9_meet_48 ?_
          refine r_iret dX9_meet_49 ?_
          first
            | exact ⟨rfl, ⟨0, rfl, fun z => absurd ((ocF kb1).symm.trans z) (by decide)⟩, (RefC_mk (g := (va_up (va_up g 0 z0) 0 1)) rfl (by exact c69) (by exact c70) (by exact c71) (by exact c72) (by exact c73) (by exact c74) (by exact c75) (by exact c76) (by exact c77) (by exact c78) (by exact c79) (by exact c80) (by exact c81) (by exact c82) (by exact c83) (by exact c84) (by exact c85) (by exact c86) (by exact c87) (by exact c88) (by exact c89) (by exact c90) (by exact c91) (by exact c92) (by exact c93) (by exact c94) (by exact c95) (congrArg (fun n : Nat => (n : Int)) (ocF kb1).symm) (RR_mk (by first | exact e8 | exact (kp2 8 (by decide)).trans e8) (by first | exact e10 | exact (kp2 10 (by decide)).trans e10) (by first | exact e33 | exact (kp2 33 (by decide)).trans e33) (by first | exact e38 | exact (kp2 38 (by decide)).trans e38) (by first | exact e44 | exact (kp2 44 (by decide)).trans e44) (by first | exact e53 | exact (kp2 53 (by decide)).trans e53) (by first | exact tr | exact tell_kp (by exact tr) kp2) pi ni (by first | exact li | exact li2) rrf rtp htp rrd rse phl phi rim rco ht nM nsn)), (by repeat (first | exact fun _ _ => rfl | refine frr_up ?_ (by decide)))⟩
            | exact ⟨rfl, ⟨0, rfl, fun z => absurd (((ocT kb1).trans (ocF kb2)).symm.trans z) (by decide)⟩, (RefC_mk (g := (va_up (va_up g 0 z0) 0 1)) rfl (by exact c69) (by exact c70) (by exact c71) (by exact c72) (by exact c73) (by exact c74) (by exact c75) (by exact c76) (by exact c77) (by exact c78) (by exact c79) (by exact c80) (by exact c81) (by exact c82) (by exact c83) (by exact c84) (by exact c85) (by exact c86) (by exact c87) (by exact c88) (by exact c89) (by exact c90) (by exact c91) (by exact c92) (by exact c93) (by exact c94) (by exact c95) (congrArg (fun n : Nat => (n : Int)) ((ocT kb1).trans (ocF kb2)).symm) (RR_mk (by first | exact e8 | exact (kp2 8 (by decide)).trans e8) (by first | exact e10 | exact (kp2 10 (by decide)).trans e10) (by first | exact e33 | exact (kp2 33 (by decide)).trans e33) (by first | exact e38 | exact (kp2 38 (by decide)).trans e38) (by first | exact e44 | exact (kp2 44 (by decide)).trans e44) (by first | exact e53 | exact (kp2 53 (by decide)).trans e53) (by first | exact tr | exact tell_kp (by exact tr) kp2) pi ni (by first | exact li | exact li2) rrf rtp htp rrd rse phl phi rim rco ht nM nsn)), (by repeat (first | exact fun _ _ => rfl | refine frr_up ?_ (by decide)))⟩
            | exact ⟨rfl, ⟨0, rfl, fun z => absurd (((ocT kb1).trans ((ocT kb2).trans (ocF kb3))).symm.trans z) (by decide)⟩, (RefC_mk (g := (va_up (va_up g 0 z0) 0 1)) rfl (by exact c69) (by exact c70) (by exact c71) (by exact c72) (by exact c73) (by exact c74) (by exact c75) (by exact c76) (by exact c77) (by exact c78) (by exact c79) (by exact c80) (by exact c81) (by exact c82) (by exact c83) (by exact c84) (by exact c85) (by exact c86) (by exact c87) (by exact c88) (by exact c89) (by exact c90) (by exact c91) (by exact c92) (by exact c93) (by exact c94) (by exact c95) (congrArg (fun n : Nat => (n : Int)) ((ocT kb1).trans ((ocT kb2).trans (ocF kb3))).symm) (RR_mk (by first | exact e8 | exact (kp2 8 (by decide)).trans e8) (by first | exact e10 | exact (kp2 10 (by decide)).trans e10) (by first | exact e33 | exact (kp2 33 (by decide)).trans e33) (by first | exact e38 | exact (kp2 38 (by decide)).trans e38) (by first | exact e44 | exact (kp2 44 (by decide)).trans e44) (by first | exact e53 | exact (kp2 53 (by decide)).trans e53) (by first | exact tr | exact tell_kp (by exact tr) kp2) pi ni (by first | exact li | exact li2) rrf rtp htp rrd rse phl phi rim rco ht nM nsn)), (by repeat (first | exact fun _ _ => rfl | refine frr_up ?_ (by decide)))⟩
            | exact ⟨rfl, ⟨0, rfl, fun z => absurd (((ocT kb1).trans ((ocT kb2).trans ((ocT kb3).trans (ocF kb4)))).symm.trans z) (by decide)⟩, (RefC_mk (g := (va_up (va_up g 0 z0) 0 1)) rfl (by exact c69) (by exact c70) (by exact c71) (by exact c72) (by exact c73) (by exact c74) (by exact c75) (by exact c76) (by exact c77) (by exact c78) (by exact c79) (by exact c80) (by exact c81) (by exact c82) (by exact c83) (by exact c84) (by exact c85) (by exact c86) (by exact c87) (by exact c88) (by exact c89) (by exact c90) (by exact c91) (by exact c92) (by exact c93) (by exact c94) (by exact c95) (congrArg (fun n : Nat => (n : Int)) ((ocT kb1).trans ((ocT kb2).trans ((ocT kb3).trans (ocF kb4)))).symm) (RR_mk (by first | exact e8 | exact (kp2 8 (by decide)).trans e8) (by first | exact e10 | exact (kp2 10 (by decide)).trans e10) (by first | exact e33 | exact (kp2 33 (by decide)).trans e33) (by first | exact e38 | exact (kp2 38 (by decide)).trans e38) (by first | exact e44 | exact (kp2 44 (by decide)).trans e44) (by first | exact e53 | exact (kp2 53 (by decide)).trans e53) (by first | exact tr | exact tell_kp (by exact tr) kp2) pi ni (by first | exact li | exact li2) rrf rtp htp rrd rse phl phi rim rco ht nM nsn)), (by repeat (first | exact fun _ _ => rfl | refine frr_up ?_ (by decide)))⟩
            | exact ⟨rfl, ⟨0, rfl, fun z => absurd (((ocT kb1).trans ((ocT kb2).trans ((ocT kb3).trans ((ocT kb4).trans (ocF kb5))))).symm.trans z) (by decide)⟩, (RefC_mk (g := (va_up (va_up g 0 z0) 0 1)) rfl (by exact c69) (by exact c70) (by exact c71) (by exact c72) (by exact c73) (by exact c74) (by exact c75) (by exact c76) (by exact c77) (by exact c78) (by exact c79) (by exact c80) (by exact c81) (by exact c82) (by exact c83) (by exact c84) (by exact c85) (by exact c86) (by exact c87) (by exact c88) (by exact c89) (by exact c90) (by exact c91) (by exact c92) (by exact c93) (by exact c94) (by exact c95) (congrArg (fun n : Nat => (n : Int)) ((ocT kb1).trans ((ocT kb2).trans ((ocT kb3).trans ((ocT kb4).trans (ocF kb5))))).symm) (RR_mk (by first | exact e8 | exact (kp2 8 (by decide)).trans e8) (by first | exact e10 | exact (kp2 10 (by decide)).trans e10) (by first | exact e33 | exact (kp2 33 (by decide)).trans e33) (by first | exact e38 | exact (kp2 38 (by decide)).trans e38) (by first | exact e44 | exact (kp2 44 (by decide)).trans e44) (by first | exact e53 | exact (kp2 53 (by decide)).trans e53) (by first | exact tr | exact tell_kp (by exact tr) kp2) pi ni (by first | exact li | exact li2) rrf rtp htp rrd rse phl phi rim rco ht nM nsn)), (by repeat (first | exact fun _ _ => rfl | refine frr_up ?_ (by decide)))⟩
      · obtain rfl := hh.symm
        refine ⟨rfl, ?_⟩
        dsimp only [Option.toList, List.cons_append, List.nil_append]
        refine r_if_eq (tgt := 48) dX9_meet_26 (by decide) ⟨by omega, by omega⟩ (fun g26 => ?_) (fun g26 => absurd g26 (by omega))
        refine r_iconst dX9_meet_48 ?_
        refine r_iret dX9_meet_49 ?_
        first
          | exact ⟨rfl, ⟨0, rfl, fun z => absurd ((ocF kb1).symm.trans z) (by decide)⟩, (RefC_mk (g := (va_up (va_up g 0 z0) 0 1)) rfl (by exact c69) (by exact c70) (by exact c71) (by exact c72) (by exact c73) (by exact c74) (by exact c75) (by exact c76) (by exact c77) (by exact c78) (by exact c79) (by exact c80) (by exact c81) (by exact c82) (by exact c83) (by exact c84) (by exact c85) (by exact c86) (by exact c87) (by exact c88) (by exact c89) (by exact c90) (by exact c91) (by exact c92) (by exact c93) (by exact c94) (by exact c95) (congrArg (fun n : Nat => (n : Int)) (ocF kb1).symm) (RR_mk (by first | exact e8 | exact (kp2 8 (by decide)).trans e8) (by first | exact e10 | exact (kp2 10 (by decide)).trans e10) (by first | exact e33 | exact (kp2 33 (by decide)).trans e33) (by first | exact e38 | exact (kp2 38 (by decide)).trans e38) (by first | exact e44 | exact (kp2 44 (by decide)).trans e44) (by first | exact e53 | exact (kp2 53 (by decide)).trans e53) (by first | exact tr | exact tell_kp (by exact tr) kp2) pi ni (by first | exact li | exact li2) rrf rtp htp rrd rse phl phi rim rco ht nM nsn)), (by repeat (first | exact fun _ _ => rfl | refine frr_up ?_ (by decide)))⟩
          | exact ⟨rfl, ⟨0, rfl, fun z => absurd (((ocT kb1).trans (ocF kb2)).symm.trans z) (by decide)⟩, (RefC_mk (g := (va_up (va_up g 0 z0) 0 1)) rfl (by exact c69) (by exact c70) (by exact c71) (by exact c72) (by exact c73) (by exact c74) (by exact c75) (by exact c76) (by exact c77) (by exact c78) (by exact c79) (by exact c80) (by exact c81) (by exact c82) (by exact c83) (by exact c84) (by exact c85) (by exact c86) (by exact c87) (by exact c88) (by exact c89) (by exact c90) (by exact c91) (by exact c92) (by exact c93) (by exact c94) (by exact c95) (congrArg (fun n : Nat => (n : Int)) ((ocT kb1).trans (ocF kb2)).symm) (RR_mk (by first | exact e8 | exact (kp2 8 (by decide)).trans e8) (by first | exact e10 | exact (kp2 10 (by decide)).trans e10) (by first | exact e33 | exact (kp2 33 (by decide)).trans e33) (by first | exact e38 | exact (kp2 38 (by decide)).trans e38) (by first | exact e44 | exact (kp2 44 (by decide)).trans e44) (by first | exact e53 | exact (kp2 53 (by decide)).trans e53) (by first | exact tr | exact tell_kp (by exact tr) kp2) pi ni (by first | exact li | exact li2) rrf rtp htp rrd rse phl phi rim rco ht nM nsn)), (by repeat (first | exact fun _ _ => rfl | refine frr_up ?_ (by decide)))⟩
          | exact ⟨rfl, ⟨0, rfl, fun z => absurd (((ocT kb1).trans ((ocT kb2).trans (ocF kb3))).symm.trans z) (by decide)⟩, (RefC_mk (g := (va_up (va_up g 0 z0) 0 1)) rfl (by exact c69) (by exact c70) (by exact c71) (by exact c72) (by exact c73) (by exact c74) (by exact c75) (by exact c76) (by exact c77) (by exact c78) (by exact c79) (by exact c80) (by exact c81) (by exact c82) (by exact c83) (by exact c84) (by exact c85) (by exact c86) (by exact c87) (by exact c88) (by exact c89) (by exact c90) (by exact c91) (by exact c92) (by exact c93) (by exact c94) (by exact c95) (congrArg (fun n : Nat => (n : Int)) ((ocT kb1).trans ((ocT kb2).trans (ocF kb3))).symm) (RR_mk (by first | exact e8 | exact (kp2 8 (by decide)).trans e8) (by first | exact e10 | exact (kp2 10 (by decide)).trans e10) (by first | exact e33 | exact (kp2 33 (by decide)).trans e33) (by first | exact e38 | exact (kp2 38 (by decide)).trans e38) (by first | exact e44 | exact (kp2 44 (by decide)).trans e44) (by first | exact e53 | exact (kp2 53 (by decide)).trans e53) (by first | exact tr | exact tell_kp (by exact tr) kp2) pi ni (by first | exact li | exact li2) rrf rtp htp rrd rse phl phi rim rco ht nM nsn)), (by repeat (first | exact fun _ _ => rfl | refine frr_up ?_ (by decide)))⟩
          | exact ⟨rfl, ⟨0, rfl, fun z => absurd (((ocT kb1).trans ((ocT kb2).trans ((ocT kb3).trans (ocF kb4)))).symm.trans z) (by decide)⟩, (RefC_mk (g := (va_up (va_up g 0 z0) 0 1)) rfl (by exact c69) (by exact c70) (by exact c71) (by exact c72) (by exact c73) (by exact c74) (by exact c75) (by exact c76) (by exact c77) (by exact c78) (by exact c79) (by exact c80) (by exact c81) (by exact c82) (by exact c83) (by exact c84) (by exact c85) (by exact c86) (by exact c87) (by exact c88) (by exact c89) (by exact c90) (by exact c91) (by exact c92) (by exact c93) (by exact c94) (by exact c95) (congrArg (fun n : Nat => (n : Int)) ((ocT kb1).trans ((ocT kb2).trans ((ocT kb3).trans (ocF kb4)))).symm) (RR_mk (by first | exact e8 | exact (kp2 8 (by decide)).trans e8) (by first | exact e10 | exact (kp2 10 (by decide)).trans e10) (by first | exact e33 | exact (kp2 33 (by decide)).trans e33) (by first | exact e38 | exact (kp2 38 (by decide)).trans e38) (by first | exact e44 | exact (kp2 44 (by decide)).trans e44) (by first | exact e53 | exact (kp2 53 (by decide)).trans e53) (by first | exact tr | exact tell_kp (by exact tr) kp2) pi ni (by first | exact li | exact li2) rrf rtp htp rrd rse phl phi rim rco ht nM nsn)), (by repeat (first | exact fun _ _ => rfl | refine frr_up ?_ (by decide)))⟩
          | exact ⟨rfl, ⟨0, rfl, fun z => absurd (((ocT kb1).trans ((ocT kb2).trans ((ocT kb3).trans ((ocT kb4).trans (ocF kb5))))).symm.trans z) (by decide)⟩, (RefC_mk (g := (va_up (va_up g 0 z0) 0 1)) rfl (by exact c69) (by exact c70) (by exact c71) (by exact c72) (by exact c73) (by exact c74) (by exact c75) (by exact c76) (by exact c77) (by exact c78) (by exact c79) (by exact c80) (by exact c81) (by exact c82) (by exact c83) (by exact c84) (by exact c85) (by exact c86) (by exact c87) (by exact c88) (by exact c89) (by exact c90) (by exact c91) (by exact c92) (by exact c93) (by exact c94) (by exact c95) (congrArg (fun n : Nat => (n : Int)) ((ocT kb1).trans ((ocT kb2).trans ((ocT kb3).trans ((ocT kb4).trans (ocF kb5))))).symm) (RR_mk (by first | exact e8 | exact (kp2 8 (by decide)).trans e8) (by first | exact e10 | exact (kp2 10 (by decide)).trans e10) (by first | exact e33 | exact (kp2 33 (by decide)).trans e33) (by first | exact e38 | exact (kp2 38 (by decide)).trans e38) (by first | exact e44 | exact (kp2 44 (by decide)).trans e44) (by first | exact e53 | exact (kp2 53 (by decide)).trans e53) (by first | exact tr | exact tell_kp (by exact tr) kp2) pi ni (by first | exact li | exact li2) rrf rtp htp rrd rse phl phi rim rco ht nM nsn)), (by repeat (first | exact fun _ _ => rfl | refine frr_up ?_ (by decide)))⟩
    · obtain rfl := hh.symm
      replace kb2 : diaB nd b = false := by rw [← t1]; exact kb2
      refine ⟨rfl, ?_⟩
      dsimp only [Option.toList, List.cons_append, List.nil_append]
      refine r_if_eq (tgt := 48) dX9_meet_18 (by decide) ⟨by omega, by omega⟩ (fun g18 => ?_) (fun g18 => absurd g18 (by omega))
      refine r_iconst dX9_meet_48 ?_
      refine r_iret dX9_meet_49 ?_
      first
        | exact ⟨rfl, ⟨0, rfl, fun z => absurd ((ocF kb1).symm.trans z) (by decide)⟩, (RefC_mk (g := (va_up (va_up g 0 z0) 0 1)) rfl (by exact c69) (by exact c70) (by exact c71) (by exact c72) (by exact c73) (by exact c74) (by exact c75) (by exact c76) (by exact c77) (by exact c78) (by exact c79) (by exact c80) (by exact c81) (by exact c82) (by exact c83) (by exact c84) (by exact c85) (by exact c86) (by exact c87) (by exact c88) (by exact c89) (by exact c90) (by exact c91) (by exact c92) (by exact c93) (by exact c94) (by exact c95) (congrArg (fun n : Nat => (n : Int)) (ocF kb1).symm) (RR_mk (by first | exact e8 | exact (kp2 8 (by decide)).trans e8) (by first | exact e10 | exact (kp2 10 (by decide)).trans e10) (by first | exact e33 | exact (kp2 33 (by decide)).trans e33) (by first | exact e38 | exact (kp2 38 (by decide)).trans e38) (by first | exact e44 | exact (kp2 44 (by decide)).trans e44) (by first | exact e53 | exact (kp2 53 (by decide)).trans e53) (by first | exact tr | exact tell_kp (by exact tr) kp2) pi ni (by first | exact li | exact li2) rrf rtp htp rrd rse phl phi rim rco ht nM nsn)), (by repeat (first | exact fun _ _ => rfl | refine frr_up ?_ (by decide)))⟩
        | exact ⟨rfl, ⟨0, rfl, fun z => absurd (((ocT kb1).trans (ocF kb2)).symm.trans z) (by decide)⟩, (RefC_mk (g := (va_up (va_up g 0 z0) 0 1)) rfl (by exact c69) (by exact c70) (by exact c71) (by exact c72) (by exact c73) (by exact c74) (by exact c75) (by exact c76) (by exact c77) (by exact c78) (by exact c79) (by exact c80) (by exact c81) (by exact c82) (by exact c83) (by exact c84) (by exact c85) (by exact c86) (by exact c87) (by exact c88) (by exact c89) (by exact c90) (by exact c91) (by exact c92) (by exact c93) (by exact c94) (by exact c95) (congrArg (fun n : Nat => (n : Int)) ((ocT kb1).trans (ocF kb2)).symm) (RR_mk (by first | exact e8 | exact (kp2 8 (by decide)).trans e8) (by first | exact e10 | exact (kp2 10 (by decide)).trans e10) (by first | exact e33 | exact (kp2 33 (by decide)).trans e33) (by first | exact e38 | exact (kp2 38 (by decide)).trans e38) (by first | exact e44 | exact (kp2 44 (by decide)).trans e44) (by first | exact e53 | exact (kp2 53 (by decide)).trans e53) (by first | exact tr | exact tell_kp (by exact tr) kp2) pi ni (by first | exact li | exact li2) rrf rtp htp rrd rse phl phi rim rco ht nM nsn)), (by repeat (first | exact fun _ _ => rfl | refine frr_up ?_ (by decide)))⟩
        | exact ⟨rfl, ⟨0, rfl, fun z => absurd (((ocT kb1).trans ((ocT kb2).trans (ocF kb3))).symm.trans z) (by decide)⟩, (RefC_mk (g := (va_up (va_up g 0 z0) 0 1)) rfl (by exact c69) (by exact c70) (by exact c71) (by exact c72) (by exact c73) (by exact c74) (by exact c75) (by exact c76) (by exact c77) (by exact c78) (by exact c79) (by exact c80) (by exact c81) (by exact c82) (by exact c83) (by exact c84) (by exact c85) (by exact c86) (by exact c87) (by exact c88) (by exact c89) (by exact c90) (by exact c91) (by exact c92) (by exact c93) (by exact c94) (by exact c95) (congrArg (fun n : Nat => (n : Int)) ((ocT kb1).trans ((ocT kb2).trans (ocF kb3))).symm) (RR_mk (by first | exact e8 | exact (kp2 8 (by decide)).trans e8) (by first | exact e10 | exact (kp2 10 (by decide)).trans e10) (by first | exact e33 | exact (kp2 33 (by decide)).trans e33) (by first | exact e38 | exact (kp2 38 (by decide)).trans e38) (by first | exact e44 | exact (kp2 44 (by decide)).trans e44) (by first | exact e53 | exact (kp2 53 (by decide)).trans e53) (by first | exact tr | exact tell_kp (by exact tr) kp2) pi ni (by first | exact li | exact li2) rrf rtp htp rrd rse phl phi rim rco ht nM nsn)), (by repeat (first | exact fun _ _ => rfl | refine frr_up ?_ (by decide)))⟩
        | exact ⟨rfl, ⟨0, rfl, fun z => absurd (((ocT kb1).trans ((ocT kb2).trans ((ocT kb3).trans (ocF kb4)))).symm.trans z) (by decide)⟩, (RefC_mk (g := (va_up (va_up g 0 z0) 0 1)) rfl (by exact c69) (by exact c70) (by exact c71) (by exact c72) (by exact c73) (by exact c74) (by exact c75) (by exact c76) (by exact c77) (by exact c78) (by exact c79) (by exact c80) (by exact c81) (by exact c82) (by exact c83) (by exact c84) (by exact c85) (by exact c86) (by exact c87) (by exact c88) (by exact c89) (by exact c90) (by exact c91) (by exact c92) (by exact c93) (by exact c94) (by exact c95) (congrArg (fun n : Nat => (n : Int)) ((ocT kb1).trans ((ocT kb2).trans ((ocT kb3).trans (ocF kb4)))).symm) (RR_mk (by first | exact e8 | exact (kp2 8 (by decide)).trans e8) (by first | exact e10 | exact (kp2 10 (by decide)).trans e10) (by first | exact e33 | exact (kp2 33 (by decide)).trans e33) (by first | exact e38 | exact (kp2 38 (by decide)).trans e38) (by first | exact e44 | exact (kp2 44 (by decide)).trans e44) (by first | exact e53 | exact (kp2 53 (by decide)).trans e53) (by first | exact tr | exact tell_kp (by exact tr) kp2) pi ni (by first | exact li | exact li2) rrf rtp htp rrd rse phl phi rim rco ht nM nsn)), (by repeat (first | exact fun _ _ => rfl | refine frr_up ?_ (by decide)))⟩
        | exact ⟨rfl, ⟨0, rfl, fun z => absurd (((ocT kb1).trans ((ocT kb2).trans ((ocT kb3).trans ((ocT kb4).trans (ocF kb5))))).symm.trans z) (by decide)⟩, (RefC_mk (g := (va_up (va_up g 0 z0) 0 1)) rfl (by exact c69) (by exact c70) (by exact c71) (by exact c72) (by exact c73) (by exact c74) (by exact c75) (by exact c76) (by exact c77) (by exact c78) (by exact c79) (by exact c80) (by exact c81) (by exact c82) (by exact c83) (by exact c84) (by exact c85) (by exact c86) (by exact c87) (by exact c88) (by exact c89) (by exact c90) (by exact c91) (by exact c92) (by exact c93) (by exact c94) (by exact c95) (congrArg (fun n : Nat => (n : Int)) ((ocT kb1).trans ((ocT kb2).trans ((ocT kb3).trans ((ocT kb4).trans (ocF kb5))))).symm) (RR_mk (by first | exact e8 | exact (kp2 8 (by decide)).trans e8) (by first | exact e10 | exact (kp2 10 (by decide)).trans e10) (by first | exact e33 | exact (kp2 33 (by decide)).trans e33) (by first | exact e38 | exact (kp2 38 (by decide)).trans e38) (by first | exact e44 | exact (kp2 44 (by decide)).trans e44) (by first | exact e53 | exact (kp2 53 (by decide)).trans e53) (by first | exact tr | exact tell_kp (by exact tr) kp2) pi ni (by first | exact li | exact li2) rrf rtp htp rrd rse phl phi rim rco ht nM nsn)), (by repeat (first | exact fun _ _ => rfl | refine frr_up ?_ (by decide)))⟩
  · obtain rfl := hh.symm
    replace kb1 : diaB nd a = false := by rw [← t1]; exact kb1
    refine ⟨rfl, ?_⟩
    dsimp only [Option.toList, List.cons_append, List.nil_append]
    refine r_if_eq (tgt := 48) dX9_meet_10 (by decide) ⟨by omega, by omega⟩ (fun g10 => ?_) (fun g10 => absurd g10 (by omega))
    refine r_iconst dX9_meet_48 ?_
    refine r_iret dX9_meet_49 ?_
    first
      | exact ⟨rfl, ⟨0, rfl, fun z => absurd ((ocF kb1).symm.trans z) (by decide)⟩, (RefC_mk (g := (va_up (va_up g 0 z0) 0 1)) rfl (by exact c69) (by exact c70) (by exact c71) (by exact c72) (by exact c73) (by exact c74) (by exact c75) (by exact c76) (by exact c77) (by exact c78) (by exact c79) (by exact c80) (by exact c81) (by exact c82) (by exact c83) (by exact c84) (by exact c85) (by exact c86) (by exact c87) (by exact c88) (by exact c89) (by exact c90) (by exact c91) (by exact c92) (by exact c93) (by exact c94) (by exact c95) (congrArg (fun n : Nat => (n : Int)) (ocF kb1).symm) (RR_mk (by first | exact e8 | exact (kp2 8 (by decide)).trans e8) (by first | exact e10 | exact (kp2 10 (by decide)).trans e10) (by first | exact e33 | exact (kp2 33 (by decide)).trans e33) (by first | exact e38 | exact (kp2 38 (by decide)).trans e38) (by first | exact e44 | exact (kp2 44 (by decide)).trans e44) (by first | exact e53 | exact (kp2 53 (by decide)).trans e53) (by first | exact tr | exact tell_kp (by exact tr) kp2) pi ni (by first | exact li | exact li2) rrf rtp htp rrd rse phl phi rim rco ht nM nsn)), (by repeat (first | exact fun _ _ => rfl | refine frr_up ?_ (by decide)))⟩
      | exact ⟨rfl, ⟨0, rfl, fun z => absurd (((ocT kb1).trans (ocF kb2)).symm.trans z) (by decide)⟩, (RefC_mk (g := (va_up (va_up g 0 z0) 0 1)) rfl (by exact c69) (by exact c70) (by exact c71) (by exact c72) (by exact c73) (by exact c74) (by exact c75) (by exact c76) (by exact c77) (by exact c78) (by exact c79) (by exact c80) (by exact c81) (by exact c82) (by exact c83) (by exact c84) (by exact c85) (by exact c86) (by exact c87) (by exact c88) (by exact c89) (by exact c90) (by exact c91) (by exact c92) (by exact c93) (by exact c94) (by exact c95) (congrArg (fun n : Nat => (n : Int)) ((ocT kb1).trans (ocF kb2)).symm) (RR_mk (by first | exact e8 | exact (kp2 8 (by decide)).trans e8) (by first | exact e10 | exact (kp2 10 (by decide)).trans e10) (by first | exact e33 | exact (kp2 33 (by decide)).trans e33) (by first | exact e38 | exact (kp2 38 (by decide)).trans e38) (by first | exact e44 | exact (kp2 44 (by decide)).trans e44) (by first | exact e53 | exact (kp2 53 (by decide)).trans e53) (by first | exact tr | exact tell_kp (by exact tr) kp2) pi ni (by first | exact li | exact li2) rrf rtp htp rrd rse phl phi rim rco ht nM nsn)), (by repeat (first | exact fun _ _ => rfl | refine frr_up ?_ (by decide)))⟩
      | exact ⟨rfl, ⟨0, rfl, fun z => absurd (((ocT kb1).trans ((ocT kb2).trans (ocF kb3))).symm.trans z) (by decide)⟩, (RefC_mk (g := (va_up (va_up g 0 z0) 0 1)) rfl (by exact c69) (by exact c70) (by exact c71) (by exact c72) (by exact c73) (by exact c74) (by exact c75) (by exact c76) (by exact c77) (by exact c78) (by exact c79) (by exact c80) (by exact c81) (by exact c82) (by exact c83) (by exact c84) (by exact c85) (by exact c86) (by exact c87) (by exact c88) (by exact c89) (by exact c90) (by exact c91) (by exact c92) (by exact c93) (by exact c94) (by exact c95) (congrArg (fun n : Nat => (n : Int)) ((ocT kb1).trans ((ocT kb2).trans (ocF kb3))).symm) (RR_mk (by first | exact e8 | exact (kp2 8 (by decide)).trans e8) (by first | exact e10 | exact (kp2 10 (by decide)).trans e10) (by first | exact e33 | exact (kp2 33 (by decide)).trans e33) (by first | exact e38 | exact (kp2 38 (by decide)).trans e38) (by first | exact e44 | exact (kp2 44 (by decide)).trans e44) (by first | exact e53 | exact (kp2 53 (by decide)).trans e53) (by first | exact tr | exact tell_kp (by exact tr) kp2) pi ni (by first | exact li | exact li2) rrf rtp htp rrd rse phl phi rim rco ht nM nsn)), (by repeat (first | exact fun _ _ => rfl | refine frr_up ?_ (by decide)))⟩
      | exact ⟨rfl, ⟨0, rfl, fun z => absurd (((ocT kb1).trans ((ocT kb2).trans ((ocT kb3).trans (ocF kb4)))).symm.trans z) (by decide)⟩, (RefC_mk (g := (va_up (va_up g 0 z0) 0 1)) rfl (by exact c69) (by exact c70) (by exact c71) (by exact c72) (by exact c73) (by exact c74) (by exact c75) (by exact c76) (by exact c77) (by exact c78) (by exact c79) (by exact c80) (by exact c81) (by exact c82) (by exact c83) (by exact c84) (by exact c85) (by exact c86) (by exact c87) (by exact c88) (by exact c89) (by exact c90) (by exact c91) (by exact c92) (by exact c93) (by exact c94) (by exact c95) (congrArg (fun n : Nat => (n : Int)) ((ocT kb1).trans ((ocT kb2).trans ((ocT kb3).trans (ocF kb4)))).symm) (RR_mk (by first | exact e8 | exact (kp2 8 (by decide)).trans e8) (by first | exact e10 | exact (kp2 10 (by decide)).trans e10) (by first | exact e33 | exact (kp2 33 (by decide)).trans e33) (by first | exact e38 | exact (kp2 38 (by decide)).trans e38) (by first | exact e44 | exact (kp2 44 (by decide)).trans e44) (by first | exact e53 | exact (kp2 53 (by decide)).trans e53) (by first | exact tr | exact tell_kp (by exact tr) kp2) pi ni (by first | exact li | exact li2) rrf rtp htp rrd rse phl phi rim rco ht nM nsn)), (by repeat (first | exact fun _ _ => rfl | refine frr_up ?_ (by decide)))⟩
      | exact ⟨rfl, ⟨0, rfl, fun z => absurd (((ocT kb1).trans ((ocT kb2).trans ((ocT kb3).trans ((ocT kb4).trans (ocF kb5))))).symm.trans z) (by decide)⟩, (RefC_mk (g := (va_up (va_up g 0 z0) 0 1)) rfl (by exact c69) (by exact c70) (by exact c71) (by exact c72) (by exact c73) (by exact c74) (by exact c75) (by exact c76) (by exact c77) (by exact c78) (by exact c79) (by exact c80) (by exact c81) (by exact c82) (by exact c83) (by exact c84) (by exact c85) (by exact c86) (by exact c87) (by exact c88) (by exact c89) (by exact c90) (by exact c91) (by exact c92) (by exact c93) (by exact c94) (by exact c95) (congrArg (fun n : Nat => (n : Int)) ((ocT kb1).trans ((ocT kb2).trans ((ocT kb3).trans ((ocT kb4).trans (ocF kb5))))).symm) (RR_mk (by first | exact e8 | exact (kp2 8 (by decide)).trans e8) (by first | exact e10 | exact (kp2 10 (by decide)).trans e10) (by first | exact e33 | exact (kp2 33 (by decide)).trans e33) (by first | exact e38 | exact (kp2 38 (by decide)).trans e38) (by first | exact e44 | exact (kp2 44 (by decide)).trans e44) (by first | exact e53 | exact (kp2 53 (by decide)).trans e53) (by first | exact tr | exact tell_kp (by exact tr) kp2) pi ni (by first | exact li | exact li2) rrf rtp htp rrd rse phl phi rim rco ht nM nsn)), (by repeat (first | exact fun _ _ => rfl | refine frr_up ?_ (by decide)))⟩

def tkR (f : Int → Int → Int) : Nat → Int → Int → Int
  | 0, _, a => a
  | k + 1, on, a => tkR f k (on + 1) (f on a)

theorem l_X9_takes2 {h : aH} {w : Int} {dl cl lm mn : Nat → Int} (c69 : h 69 = .inl (0, 45, dl)) (c70 : h 70 = .inl (0, 60, cl)) (c71 : h 71 = .inl (0, 12, lm)) (c79 : h 79 = .inl (0, 120, mn)) {nd sw nc nm : Int} {K U I O G L cf ct fc nx cd md my mt : Nat → Int} (pi : PInv nd sw nc K U I O G L cf ct fc nx cd) {g : Nat → Int} {di : Int} (hdi : 0 ≤ di ∧ di < nd) {day : Int} (hd : 0 ≤ day ∧ day < 365) {d0 : Int} {Q : Option Value → Nat → aH → Prop} : ∀ (k : Nat) (m a : Int) (gg lt lgt : Nat → Int), m + k = 1440 → 0 ≤ m → TellR gg dl cl lm mn nd sw nc nm K U I O G L cf ct cd md my mt → LitR (gg 30) lt lgt sw nc L cf ct cd → (∀ k, k ≠ 30 → gg k = g k) → (∀ (gg lt lgt : Nat → Int), TellR gg dl cl lm mn nd sw nc nm K U I O G L cf ct cd md my mt → LitR (gg 30) lt lgt sw nc L cf ct cd → (∀ k, k ≠ 30 → gg k = g k) → Ev RX9 "takes" cX9_takes 6 (some .int) 6 0 0 Q noX 97 (UT h gg w lt lgt) 42 [(0, .ref 68), (1, iv di), (2, iv d0), (3, iv (cnM (fun m => nowI sw nc nm K U I O G L cf ct cd md my mt di day m) k m a)), (4, iv (day + 1))] []) → Ev RX9 "takes" cX9_takes 6 (some .int) 6 0 0 Q noX 97 (UT h gg w lt lgt) 53 [(0, .ref 68), (1, iv di), (2, iv d0), (3, iv a), (4, iv day), (5, iv m)] [] := by
  obtain ⟨pnd, psw, pnc, pK, pU, pI, pO, pG, pL, pcf, pct, pfc, pnx⟩ := id pi
  intro k
  induction k with
  | zero =>
    intro m a gg lt lgt hm h0 trg lig kp kk
    refine r_iload dX9_takes_53 rfl ?_
    refine r_sipush dX9_takes_55 rfl ?_
    refine r_icmp_ge (tgt := 88) dX9_takes_58 (by decide) ⟨by omega, by omega⟩ ⟨by omega, by omega⟩ (fun g58 => ?_) (fun g58 => absurd g58 (by omega))
    refine r_iinc (lv2 := [(0, _), (1, _), (2, _), (3, _), (4, _), (5, _)]) dX9_takes_88 (by decide) rfl rfl rfl ?_
    refine r_goto (tgt := 42) dX9_takes_91 (by decide) ?_
    refine r_lv (lv2 := [(0, _), (1, _), (2, _), (3, _), (4, _)]) rfl ?_
    exact kk gg lt lgt trg lig kp
  | succ k ih =>
    intro m a gg lt lgt hm h0 trg lig kp kk
    have b2 := now_B sw nc nm K U I O G L cf ct cd md my mt di day m
    have e1 : ∀ a, cnM (fun m => nowI sw nc nm K U I O G L cf ct cd md my mt di day m) (k + 1) m a = cnM (fun m => nowI sw nc nm K U I O G L cf ct cd md my mt di day m) k (m + 1) (if nowI sw nc nm K U I O G L cf ct cd md my mt di day m = -1 then a else a + 1) := fun _ => rfl
    refine r_iload dX9_takes_53 rfl ?_
    refine r_sipush dX9_takes_55 rfl ?_
    refine r_icmp_ge (tgt := 88) dX9_takes_58 (by decide) ⟨by omega, by omega⟩ ⟨by omega, by omega⟩ (fun g58 => absurd g58 (by omega)) (fun g58 => ?_)
    refine r_iload_n dX9_takes_61 rfl rfl ?_
    refine r_aload_n dX9_takes_62 rfl rfl ?_
    refine r_iload_n dX9_takes_63 rfl rfl ?_
    refine r_iload dX9_takes_64 rfl ?_
    refine r_iload dX9_takes_66 rfl ?_
    refine r_callV 68 [_, _, _] (s_X9_tellsNow (g := gg) (by rfl) (by exact c69) (by exact c70) (by exact c71) (by rfl) (by rfl) (by exact c79) trg pi lig (by omega) (by omega) (by omega)) dX9_takes_68 cs_X9_278 im_X9_tellsNow (by decide) rfl rfl (by decide) (by decide) (by decide) rfl rfl (Nat.le_of_ble_eq_true rfl) (fun _ _ _ q => q.elim) (fun v n2 h2 q => ?_)
    obtain ⟨rfl, rfl, gn, lt2, lg2, rfl, li2, kp2⟩ := q
    rw [ut_ut]
    have tr2 := tell_kp trg kp2
    refine ⟨rfl, ?_⟩
    dsimp only [Option.toList, List.cons_append, List.nil_append]
    refine r_iconst dX9_takes_71 ?_
    refine r_icmp_eq (tgt := 79) dX9_takes_72 (by decide) ⟨by omega, by omega⟩ ⟨by omega, by omega⟩ (fun g72 => ?_) (fun g72 => ?_)
    · refine r_iconst dX9_takes_79 ?_
      refine r_iadd dX9_takes_80 ?_
      refine r_istore_n (lv2 := [(0, _), (1, _), (2, _), (3, _), (4, _), (5, _)]) dX9_takes_81 rfl (by decide) rfl rfl ?_
      refine r_iinc (lv2 := [(0, _), (1, _), (2, _), (3, _), (4, _), (5, _)]) dX9_takes_82 (by decide) rfl rfl rfl ?_
      refine r_goto (tgt := 53) dX9_takes_85 (by decide) ?_
      refine ih (m + 1) _ gn lt2 lg2 (by omega) (by omega) tr2 li2 (fun k hk => (kp2 k hk).trans (kp k hk)) (fun g3 l3 l4 t3 i3 k3 => ?_)
      have hk := kk g3 l3 l4 t3 i3 k3
      rw [e1] at hk
      first
        | (rw [if_pos g72] at hk
           rw [Int.add_zero]
           exact hk)
        | (rw [if_neg g72] at hk
           exact hk)
    · refine r_iconst dX9_takes_75 ?_
      refine r_goto (tgt := 80) dX9_takes_76 (by decide) ?_
      refine r_iadd dX9_takes_80 ?_
      refine r_istore_n (lv2 := [(0, _), (1, _), (2, _), (3, _), (4, _), (5, _)]) dX9_takes_81 rfl (by decide) rfl rfl ?_
      refine r_iinc (lv2 := [(0, _), (1, _), (2, _), (3, _), (4, _), (5, _)]) dX9_takes_82 (by decide) rfl rfl rfl ?_
      refine r_goto (tgt := 53) dX9_takes_85 (by decide) ?_
      refine ih (m + 1) _ gn lt2 lg2 (by omega) (by omega) tr2 li2 (fun k hk => (kp2 k hk).trans (kp k hk)) (fun g3 l3 l4 t3 i3 k3 => ?_)
      have hk := kk g3 l3 l4 t3 i3 k3
      rw [e1] at hk
      first
        | (rw [if_pos g72] at hk
           rw [Int.add_zero]
           exact hk)
        | (rw [if_neg g72] at hk
           exact hk)

theorem l_X9_takes {h : aH} {w : Int} {dl cl lm mn : Nat → Int} (c69 : h 69 = .inl (0, 45, dl)) (c70 : h 70 = .inl (0, 60, cl)) (c71 : h 71 = .inl (0, 12, lm)) (c79 : h 79 = .inl (0, 120, mn)) {nd sw nc nm : Int} {K U I O G L cf ct fc nx cd md my mt : Nat → Int} (pi : PInv nd sw nc K U I O G L cf ct fc nx cd) {g : Nat → Int} {di : Int} (hdi : 0 ≤ di ∧ di < nd) {d0 : Int} : ∀ (k : Nat) (on a : Int) (gg lt lgt : Nat → Int), on + k = 365 → 0 ≤ on → TellR gg dl cl lm mn nd sw nc nm K U I O G L cf ct cd md my mt → LitR (gg 30) lt lgt sw nc L cf ct cd → (∀ k, k ≠ 30 → gg k = g k) → Ev RX9 "takes" cX9_takes 6 (some .int) 6 0 0 (RetT (tkR (fun d a => cnM (fun m => nowI sw nc nm K U I O G L cf ct cd md my mt di d m) 1440 0 a) k on a) h g w sw nc L cf ct cd) noX 97 (UT h gg w lt lgt) 42 [(0, .ref 68), (1, iv di), (2, iv d0), (3, iv a), (4, iv on)] [] := by
  obtain ⟨pnd, psw, pnc, pK, pU, pI, pO, pG, pL, pcf, pct, pfc, pnx⟩ := id pi
  intro k
  induction k with
  | zero =>
    intro on a gg lt lgt hm h0 trg lig kp
    refine r_iload dX9_takes_42 rfl ?_
    refine r_sipush dX9_takes_44 rfl ?_
    refine r_icmp_ge (tgt := 94) dX9_takes_47 (by decide) ⟨by omega, by omega⟩ ⟨by omega, by omega⟩ (fun g47 => ?_) (fun g47 => absurd g47 (by omega))
    refine r_iload_n dX9_takes_94 rfl rfl ?_
    refine r_iret dX9_takes_95 ?_
    exact ⟨rfl, rfl, gg, lt, lgt, rfl, lig, kp⟩
  | succ k ih =>
    intro on a gg lt lgt hm h0 trg lig kp
    refine r_iload dX9_takes_42 rfl ?_
    refine r_sipush dX9_takes_44 rfl ?_
    refine r_icmp_ge (tgt := 94) dX9_takes_47 (by decide) ⟨by omega, by omega⟩ ⟨by omega, by omega⟩ (fun g47 => absurd g47 (by omega)) (fun g47 => ?_)
    refine r_iconst dX9_takes_50 ?_
    refine r_istore (lv2 := [(0, _), (1, _), (2, _), (3, _), (4, _), (5, _)]) dX9_takes_51 (by decide) rfl rfl ?_
    exact l_X9_takes2 c69 c70 c71 c79 pi hdi (day := on) ⟨by omega, by omega⟩ 1440 0 a gg lt lgt (by omega) (by omega) trg lig kp (fun g3 l3 l4 t3 i3 k3 => ih (on + 1) _ g3 l3 l4 (by omega) (by omega) t3 i3 k3)

theorem s_X9_takes {h : aH} {th : Int} {t : Nat → Int} {tp : Nat} {fpl hlaw himg : Int} {rf : Nat → Int} {nd sw nc hl hs : Int} {K U I O G L cf ct fc nx cd : Nat → Int} {nr ns nm : Int} {rd ry rm rt se md my mt : Nat → Int} {M : ND} {ls : LSm} (cr : RefC h (t, tp, fpl, rf, hlaw, himg, ((nd, sw, nc), (hl, hs), K, U, I, O, G, L, cf, ct, fc, nx, cd), ((nr, ns, nm), rd, ry, rm, rt, se, md, my, mt), M, ls) th) {di day : Int} (idi : inR di) (iday : inR day)  : mSem yX9_takes cX9_takes 6 (some .int) 6 0 0 [.ref 68, iv di, iv day] 97 h (RefQ (ocL [(diaB nd di, 1), (dayB day, 1)]) (if K di.toNat = 5 then 0 else tkR (fun d a => cnM (fun m => nowI sw nc nm K U I O G L cf ct cd md my mt di d m) 1440 0 a) (365 - day).toNat day 0) h (t, tp, fpl, rf, hlaw, himg, ((nd, sw, nc), (hl, hs), K, U, I, O, G, L, cf, ct, fc, nx, cd), ((nr, ns, nm), rd, ry, rm, rt, se, md, my, mt), M, ls)) noX := by
  refine RefC_elim cr (fun g dl cl lm trr rfr nD nC nL lt lgt mn rdg cpl grp sea rts row cod ncod pil opn stg bsd imo imr ims imm w c68 c69 c70 c71 c72 c73 c74 c75 c76 c77 c78 c79 c80 c81 c82 c83 c84 c85 c86 c87 c88 c89 c90 c91 c92 c93 c94 c95 hth rr => ?_)
  refine RR_elim rr (fun e8 e10 e33 e38 e44 e53 tr pi ni li rrf rtp htp rrd rse phl phi rim rco ht nM nsn => ?_)
  obtain ⟨t1, t2, t3, t31, pnm, tdl, tcl, tlm, tmd, pmt, pmd, pmy⟩ := id tr
  obtain ⟨pnd, psw, pnc, pK, pU, pI, pO, pG, pL, pcf, pct, pfc, pnx⟩ := id pi
  obtain ⟨pnr, pns, pnm2, prd, pry, prm, prt, pse, pmd2, pmy2, pmt2⟩ := id ni
  unfold inR at idi iday
  refine mSem_of (own := RX9) (name := "takes") pn_X9 rfl rfl (Nat.le_of_ble_eq_true rfl) ?_
  refine r_aload_n dX9_takes_0 rfl rfl ?_
  refine r_iconst dX9_takes_1 ?_
  refine r_putR dX9_takes_2 fp_X9_102 (by decide) c68 (nar_int _) (Nat.le_of_ble_eq_true rfl) setR_0 (fun z0 hz0 => ?_)
  refine r_aload_n dX9_takes_5 rfl rfl ?_
  refine r_iload_n dX9_takes_6 rfl rfl ?_
  refine r_callV 68 [_] (s_X9_isDial (by rfl) (by first | rfl | exact hz0) (by show 0 ≤ g 1 ∧ g 1 ≤ 9; omega) idi) dX9_takes_7 cs_X9_243 im_X9_isDial (by decide) rfl rfl (by decide) (by decide) (by decide) rfl rfl (Nat.le_of_ble_eq_true rfl) (fun _ _ _ q => q.elim) (fun v n2 h2 q => ?_)
  obtain ⟨rfl, q⟩ := q
  rcases q with ⟨kb1, rfl, hh⟩ | ⟨kb1, rfl, hh⟩
  · obtain rfl := hh.symm
    replace kb1 : diaB nd di = true := by rw [← t1]; exact kb1
    have bdi := of_decide_eq_true kb1
    refine ⟨rfl, ?_⟩
    dsimp only [Option.toList, List.cons_append, List.nil_append]
    refine r_if_eq (tgt := 21) dX9_takes_10 (by decide) ⟨by omega, by omega⟩ (fun g10 => absurd g10 (by omega)) (fun g10 => ?_)
    refine r_aload_n dX9_takes_13 rfl rfl ?_
    refine r_iload_n dX9_takes_14 rfl rfl ?_
    refine r_callV 68 [_] (s_X9_isDay (by rfl) (by first | rfl | exact hz0) iday) dX9_takes_15 cs_X9_259 im_X9_isDay (by decide) rfl rfl (by decide) (by decide) (by decide) rfl rfl (Nat.le_of_ble_eq_true rfl) (fun _ _ _ q => q.elim) (fun v n2 h2 q => ?_)
    obtain ⟨rfl, q⟩ := q
    rcases q with ⟨kb2, rfl, hh⟩ | ⟨kb2, rfl, hh⟩
    · obtain rfl := hh.symm
      have bday := of_decide_eq_true kb2
      refine ⟨rfl, ?_⟩
      dsimp only [Option.toList, List.cons_append, List.nil_append]
      refine r_if_ne (tgt := 23) dX9_takes_18 (by decide) ⟨by omega, by omega⟩ (fun g18 => ?_) (fun g18 => absurd g18 (by omega))
      obtain ⟨k1, k2, k3, k4, k5⟩ := tdl di.toNat (by omega)
      have bK := pK di.toNat
      refine r_aload_n dX9_takes_23 rfl rfl ?_
      refine r_get (fs := RGL _ _) dX9_takes_24 fl_X9_13 (by decide) rfl rfl ?_
      refine r_iconst dX9_takes_27 ?_
      refine r_iload_n dX9_takes_28 rfl rfl ?_
      refine r_imul dX9_takes_29 ?_
      refine r_ald dX9_takes_30 (by decide) c69 (by omega) (by omega) (by decide) ?_
      rw [show (5 * di).toNat = 5 * di.toNat by omega, k1]
      refine r_iconst dX9_takes_31 ?_
      refine r_icmp_ne (tgt := 37) dX9_takes_32 (by decide) ⟨by omega, by omega⟩ ⟨by omega, by omega⟩ (fun g32 => ?_) (fun g32 => ?_)
      · refine r_iconst dX9_takes_37 ?_
        refine r_istore_n (lv2 := [(0, _), (1, _), (2, _), (3, _)]) dX9_takes_38 rfl (by decide) rfl rfl ?_
        refine r_iload_n dX9_takes_39 rfl rfl ?_
        refine r_istore (lv2 := [(0, _), (1, _), (2, _), (3, _), (4, _)]) dX9_takes_40 (by decide) rfl rfl ?_
        refine ev_h (ut_self (h := va_up h 68 (RG (va_up g 0 z0) w)) rfl c77 c78) ?_
        rw [ut_68]
        refine ev_post (l_X9_takes c69 c70 c71 c79 pi bdi (365 - day).toNat day 0 (va_up g 0 z0) lt lgt (by omega) (by omega) (by exact tr) (by exact li) (g := va_up g 0 z0) (fun _ _ => rfl)) (fun v n2 h2 q => ?_) (fun _ _ _ q => q)
        obtain ⟨rfl, rfl, gn, lt2, lg2, rfl, li2, kp2⟩ := q
        exact ⟨rfl, ⟨_, rfl, fun _ => (by rw [if_neg (by omega)])⟩, (RefC_mk (g := gn) rfl (by exact c69) (by exact c70) (by exact c71) (by exact c72) (by exact c73) (by exact c74) (by exact c75) (by exact c76) rfl rfl (by exact c79) (by exact c80) (by exact c81) (by exact c82) (by exact c83) (by exact c84) (by exact c85) (by exact c86) (by exact c87) (by exact c88) (by exact c89) (by exact c90) (by exact c91) (by exact c92) (by exact c93) (by exact c94) (by exact c95) (by first | exact (hz0.trans (congrArg (fun n : Nat => (n : Int)) ((ocT kb1).trans ((ocT kb2).trans ocE)).symm)) | exact (kp2 0 (by decide)).trans (hz0.trans (congrArg (fun n : Nat => (n : Int)) ((ocT kb1).trans ((ocT kb2).trans ocE)).symm))) (RR_mk (by first | exact e8 | exact (kp2 8 (by decide)).trans e8) (by first | exact e10 | exact (kp2 10 (by decide)).trans e10) (by first | exact e33 | exact (kp2 33 (by decide)).trans e33) (by first | exact e38 | exact (kp2 38 (by decide)).trans e38) (by first | exact e44 | exact (kp2 44 (by decide)).trans e44) (by first | exact e53 | exact (kp2 53 (by decide)).trans e53) (by first | exact tr | exact tell_kp (by exact tr) kp2) pi ni (by first | exact li | exact li2) rrf rtp htp rrd rse phl phi rim rco ht nM nsn)), (by repeat (first | exact fun _ _ => rfl | refine frr_up ?_ (by decide)))⟩
      · refine r_iconst dX9_takes_35 ?_
        refine r_iret dX9_takes_36 ?_
        exact ⟨rfl, ⟨_, rfl, fun _ => (by rw [if_pos (by omega)])⟩, (RefC_mk (g := (va_up g 0 z0)) rfl (by exact c69) (by exact c70) (by exact c71) (by exact c72) (by exact c73) (by exact c74) (by exact c75) (by exact c76) (by exact c77) (by exact c78) (by exact c79) (by exact c80) (by exact c81) (by exact c82) (by exact c83) (by exact c84) (by exact c85) (by exact c86) (by exact c87) (by exact c88) (by exact c89) (by exact c90) (by exact c91) (by exact c92) (by exact c93) (by exact c94) (by exact c95) (by first | exact (hz0.trans (congrArg (fun n : Nat => (n : Int)) ((ocT kb1).trans ((ocT kb2).trans ocE)).symm)) | exact (kp2 0 (by decide)).trans (hz0.trans (congrArg (fun n : Nat => (n : Int)) ((ocT kb1).trans ((ocT kb2).trans ocE)).symm))) (RR_mk (by first | exact e8 | exact (kp2 8 (by decide)).trans e8) (by first | exact e10 | exact (kp2 10 (by decide)).trans e10) (by first | exact e33 | exact (kp2 33 (by decide)).trans e33) (by first | exact e38 | exact (kp2 38 (by decide)).trans e38) (by first | exact e44 | exact (kp2 44 (by decide)).trans e44) (by first | exact e53 | exact (kp2 53 (by decide)).trans e53) (by first | exact tr | exact tell_kp (by exact tr) kp2) pi ni (by first | exact li | exact li2) rrf rtp htp rrd rse phl phi rim rco ht nM nsn)), (by repeat (first | exact fun _ _ => rfl | refine frr_up ?_ (by decide)))⟩
    · obtain rfl := hh.symm
      refine ⟨rfl, ?_⟩
      dsimp only [Option.toList, List.cons_append, List.nil_append]
      refine r_if_ne (tgt := 23) dX9_takes_18 (by decide) ⟨by omega, by omega⟩ (fun g18 => absurd g18 (by omega)) (fun g18 => ?_)
      refine r_iconst dX9_takes_21 ?_
      refine r_iret dX9_takes_22 ?_
      first
        | exact ⟨rfl, ⟨0, rfl, fun z => absurd ((ocF kb1).symm.trans z) (by decide)⟩, (RefC_mk (g := (va_up (va_up g 0 z0) 0 1)) rfl (by exact c69) (by exact c70) (by exact c71) (by exact c72) (by exact c73) (by exact c74) (by exact c75) (by exact c76) (by exact c77) (by exact c78) (by exact c79) (by exact c80) (by exact c81) (by exact c82) (by exact c83) (by exact c84) (by exact c85) (by exact c86) (by exact c87) (by exact c88) (by exact c89) (by exact c90) (by exact c91) (by exact c92) (by exact c93) (by exact c94) (by exact c95) (congrArg (fun n : Nat => (n : Int)) (ocF kb1).symm) (RR_mk (by first | exact e8 | exact (kp2 8 (by decide)).trans e8) (by first | exact e10 | exact (kp2 10 (by decide)).trans e10) (by first | exact e33 | exact (kp2 33 (by decide)).trans e33) (by first | exact e38 | exact (kp2 38 (by decide)).trans e38) (by first | exact e44 | exact (kp2 44 (by decide)).trans e44) (by first | exact e53 | exact (kp2 53 (by decide)).trans e53) (by first | exact tr | exact tell_kp (by exact tr) kp2) pi ni (by first | exact li | exact li2) rrf rtp htp rrd rse phl phi rim rco ht nM nsn)), (by repeat (first | exact fun _ _ => rfl | refine frr_up ?_ (by decide)))⟩
        | exact ⟨rfl, ⟨0, rfl, fun z => absurd (((ocT kb1).trans (ocF kb2)).symm.trans z) (by decide)⟩, (RefC_mk (g := (va_up (va_up g 0 z0) 0 1)) rfl (by exact c69) (by exact c70) (by exact c71) (by exact c72) (by exact c73) (by exact c74) (by exact c75) (by exact c76) (by exact c77) (by exact c78) (by exact c79) (by exact c80) (by exact c81) (by exact c82) (by exact c83) (by exact c84) (by exact c85) (by exact c86) (by exact c87) (by exact c88) (by exact c89) (by exact c90) (by exact c91) (by exact c92) (by exact c93) (by exact c94) (by exact c95) (congrArg (fun n : Nat => (n : Int)) ((ocT kb1).trans (ocF kb2)).symm) (RR_mk (by first | exact e8 | exact (kp2 8 (by decide)).trans e8) (by first | exact e10 | exact (kp2 10 (by decide)).trans e10) (by first | exact e33 | exact (kp2 33 (by decide)).trans e33) (by first | exact e38 | exact (kp2 38 (by decide)).trans e38) (by first | exact e44 | exact (kp2 44 (by decide)).trans e44) (by first | exact e53 | exact (kp2 53 (by decide)).trans e53) (by first | exact tr | exact tell_kp (by exact tr) kp2) pi ni (by first | exact li | exact li2) rrf rtp htp rrd rse phl phi rim rco ht nM nsn)), (by repeat (first | exact fun _ _ => rfl | refine frr_up ?_ (by decide)))⟩
  · obtain rfl := hh.symm
    replace kb1 : diaB nd di = false := by rw [← t1]; exact kb1
    refine ⟨rfl, ?_⟩
    dsimp only [Option.toList, List.cons_append, List.nil_append]
    refine r_if_eq (tgt := 21) dX9_takes_10 (by decide) ⟨by omega, by omega⟩ (fun g10 => ?_) (fun g10 => absurd g10 (by omega))
    refine r_iconst dX9_takes_21 ?_
    refine r_iret dX9_takes_22 ?_
    first
      | exact ⟨rfl, ⟨0, rfl, fun z => absurd ((ocF kb1).symm.trans z) (by decide)⟩, (RefC_mk (g := (va_up (va_up g 0 z0) 0 1)) rfl (by exact c69) (by exact c70) (by exact c71) (by exact c72) (by exact c73) (by exact c74) (by exact c75) (by exact c76) (by exact c77) (by exact c78) (by exact c79) (by exact c80) (by exact c81) (by exact c82) (by exact c83) (by exact c84) (by exact c85) (by exact c86) (by exact c87) (by exact c88) (by exact c89) (by exact c90) (by exact c91) (by exact c92) (by exact c93) (by exact c94) (by exact c95) (congrArg (fun n : Nat => (n : Int)) (ocF kb1).symm) (RR_mk (by first | exact e8 | exact (kp2 8 (by decide)).trans e8) (by first | exact e10 | exact (kp2 10 (by decide)).trans e10) (by first | exact e33 | exact (kp2 33 (by decide)).trans e33) (by first | exact e38 | exact (kp2 38 (by decide)).trans e38) (by first | exact e44 | exact (kp2 44 (by decide)).trans e44) (by first | exact e53 | exact (kp2 53 (by decide)).trans e53) (by first | exact tr | exact tell_kp (by exact tr) kp2) pi ni (by first | exact li | exact li2) rrf rtp htp rrd rse phl phi rim rco ht nM nsn)), (by repeat (first | exact fun _ _ => rfl | refine frr_up ?_ (by decide)))⟩
      | exact ⟨rfl, ⟨0, rfl, fun z => absurd (((ocT kb1).trans (ocF kb2)).symm.trans z) (by decide)⟩, (RefC_mk (g := (va_up (va_up g 0 z0) 0 1)) rfl (by exact c69) (by exact c70) (by exact c71) (by exact c72) (by exact c73) (by exact c74) (by exact c75) (by exact c76) (by exact c77) (by exact c78) (by exact c79) (by exact c80) (by exact c81) (by exact c82) (by exact c83) (by exact c84) (by exact c85) (by exact c86) (by exact c87) (by exact c88) (by exact c89) (by exact c90) (by exact c91) (by exact c92) (by exact c93) (by exact c94) (by exact c95) (congrArg (fun n : Nat => (n : Int)) ((ocT kb1).trans (ocF kb2)).symm) (RR_mk (by first | exact e8 | exact (kp2 8 (by decide)).trans e8) (by first | exact e10 | exact (kp2 10 (by decide)).trans e10) (by first | exact e33 | exact (kp2 33 (by decide)).trans e33) (by first | exact e38 | exact (kp2 38 (by decide)).trans e38) (by first | exact e44 | exact (kp2 44 (by decide)).trans e44) (by first | exact e53 | exact (kp2 53 (by decide)).trans e53) (by first | exact tr | exact tell_kp (by exact tr) kp2) pi ni (by first | exact li | exact li2) rrf rtp htp rrd rse phl phi rim rco ht nM nsn)), (by repeat (first | exact fun _ _ => rfl | refine frr_up ?_ (by decide)))⟩

