/-! ===== the reference: years, lateness ===== -/
theorem ut_put (h : aH) (g g2 : Nat → Int) (w w2 : Int) (lt lgt : Nat → Int) : va_up (UT h g w lt lgt) 68 (RG g2 w2) = UT h g2 w2 lt lgt := by
  funext j
  unfold UT va_up
  by_cases q1 : j = 78
  · simp [q1]
  · by_cases q2 : j = 77
    · simp [q2]
    · by_cases q3 : j = 68
      · simp [q3]
      · simp [q1, q2, q3]
theorem tell_k4 {g g2 dl cl lm mn : Nat → Int} {nd sw nc nm : Int} {K U I O G L cf ct cd md my mt : Nat → Int} (tr : TellR g dl cl lm mn nd sw nc nm K U I O G L cf ct cd md my mt) (k1 : g2 1 = g 1) (k2 : g2 2 = g 2) (k3 : g2 3 = g 3) (k31 : g2 31 = g 31) : TellR g2 dl cl lm mn nd sw nc nm K U I O G L cf ct cd md my mt := by
  obtain ⟨t1, t2, t3, t31, r⟩ := tr
  exact ⟨k1.trans t1, k2.trans t2, k3.trans t3, k31.trans t31, r⟩
def fsF (f : Int → Int) (x : Int) : Nat → Int → Int
  | 0, _ => -1
  | k + 1, m => if f m = x then m else fsF f x k (m + 1)
theorem fsF_B (f : Int → Int) (x : Int) : ∀ (k : Nat) (m : Int), 0 ≤ m → m + k ≤ 1440 → -1 ≤ fsF f x k m ∧ fsF f x k m < 1440 := by
  intro k
  induction k with
  | zero => intro m _ _; exact ⟨show (-1 : Int) ≤ -1 by decide, show (-1 : Int) < 1440 by decide⟩
  | succ k ih =>
    intro m h1 h2
    unfold fsF
    split
    · omega
    · exact ih (m + 1) (by omega) (by omega)
theorem metS_l (lt : Int → Int) (w : Int) : ∀ (k : Nat) (on l l2 : Int), metS lt w k on (-1) l = metS lt w k on (-1) l2 := by
  intro k
  induction k with
  | zero => intro on l l2; rfl
  | succ k ih =>
    intro on l l2
    unfold metS
    split
    · exact ih _ _ _
    · split
      · rfl
      · rw [if_pos (Or.inl rfl), if_pos (Or.inl rfl)]
def cnM (f : Int → Int) : Nat → Int → Int → Int
  | 0, _, a => a
  | k + 1, m, a => cnM f k (m + 1) (if f m = -1 then a else a + 1)

theorem l_X9_yearOf {h : aH} {w : Int} {dl cl lm mn : Nat → Int} (c69 : h 69 = .inl (0, 45, dl)) (c70 : h 70 = .inl (0, 60, cl)) (c71 : h 71 = .inl (0, 12, lm)) (c79 : h 79 = .inl (0, 120, mn)) {nd sw nc nm : Int} {K U I O G L cf ct fc nx cd md my mt : Nat → Int} (pi : PInv nd sw nc K U I O G L cf ct fc nx cd) {g : Nat → Int} {di : Int} (hdi : 0 ≤ di ∧ di < nd)  {m : Int} (hm : 0 ≤ m ∧ m < 1440) : ∀ (k j : Nat) (gg lt lgt : Nat → Int), j + k = 365 → TellR gg dl cl lm mn nd sw nc nm K U I O G L cf ct cd md my mt → LitR (gg 30) lt lgt sw nc L cf ct cd → gg 41 = (yT (fun d => nowI sw nc nm K U I O G L cf ct cd md my mt di d m) m j).1 → gg 42 = (yT (fun d => nowI sw nc nm K U I O G L cf ct cd md my mt di d m) m j).2.1 → (∀ k, (k ≠ 30 ∧ k ≠ 41 ∧ k ≠ 42) → gg k = g k) → Ev RX9 "yearOf" cX9_yearOf 5 none 5 0 0 (fun v n' h' => v = none ∧ n' = 97 ∧ ∃ g2 lt2 lg2, h' = UT h g2 w lt2 lg2 ∧ LitR (g2 30) lt2 lg2 sw nc L cf ct cd ∧ g2 41 = (yT (fun d => nowI sw nc nm K U I O G L cf ct cd md my mt di d m) m 365).1 ∧ g2 42 = (yT (fun d => nowI sw nc nm K U I O G L cf ct cd md my mt di d m) m 365).2.1 ∧ ∀ k, (k ≠ 30 ∧ k ≠ 41 ∧ k ≠ 42) → g2 k = g k) noX 97 (UT h gg w lt lgt) 12 [(0, .ref 68), (1, iv di), (2, iv m), (3, iv j)] [] := by
  obtain ⟨pnd, psw, pnc, pK, pU, pI, pO, pG, pL, pcf, pct, pfc, pnx⟩ := id pi
  intro k
  induction k with
  | zero =>
    intro j gg lt lgt hj trg lig y1 y2 kp
    obtain rfl : j = 365 := by omega
    refine r_iload_n dX9_yearOf_12 rfl rfl ?_
    refine r_sipush dX9_yearOf_13 rfl ?_
    refine r_icmp_ge (tgt := 68) dX9_yearOf_16 (by decide) ⟨by omega, by omega⟩ ⟨by omega, by omega⟩ (fun g16 => ?_) (fun g16 => absurd g16 (by omega))
    refine r_vret dX9_yearOf_68 ?_
    exact ⟨rfl, rfl, gg, lt, lgt, rfl, lig, y1, y2, kp⟩
  | succ k ih =>
    intro j gg lt lgt hj trg lig y1 y2 kp
    have b2 := now_B sw nc nm K U I O G L cf ct cd md my mt di j m
    have ey : yT (fun d => nowI sw nc nm K U I O G L cf ct cd md my mt di d m) m (j + 1) = tAdd (yT (fun d => nowI sw nc nm K U I O G L cf ct cd md my mt di d m) m j) j (nowI sw nc nm K U I O G L cf ct cd md my mt di j m) m := rfl
    unfold tAdd at ey
    refine r_iload_n dX9_yearOf_12 rfl rfl ?_
    refine r_sipush dX9_yearOf_13 rfl ?_
    refine r_icmp_ge (tgt := 68) dX9_yearOf_16 (by decide) ⟨by omega, by omega⟩ ⟨by omega, by omega⟩ (fun g16 => absurd g16 (by omega)) (fun g16 => ?_)
    refine r_aload_n dX9_yearOf_19 rfl rfl ?_
    refine r_iload_n dX9_yearOf_20 rfl rfl ?_
    refine r_iload_n dX9_yearOf_21 rfl rfl ?_
    refine r_iload_n dX9_yearOf_22 rfl rfl ?_
    refine r_callV 68 [_, _, _] (s_X9_tellsNow (g := gg) (by rfl) (by exact c69) (by exact c70) (by exact c71) (by rfl) (by rfl) (by exact c79) trg pi lig (by omega) (by omega) (by omega)) dX9_yearOf_23 cs_X9_278 im_X9_tellsNow (by decide) rfl rfl (by decide) (by decide) (by decide) rfl rfl (Nat.le_of_ble_eq_true rfl) (fun _ _ _ q => q.elim) (fun v n2 h2 q => ?_)
    obtain ⟨rfl, rfl, gn, lt2, lg2, rfl, li2, kp2⟩ := q
    rw [ut_ut]
    have tr2 := tell_kp trg kp2
    refine ⟨rfl, ?_⟩
    dsimp only [Option.toList, List.cons_append, List.nil_append]
    refine r_istore (lv2 := [(0, _), (1, _), (2, _), (3, _), (4, _)]) dX9_yearOf_26 (by decide) rfl rfl ?_
    refine r_iload dX9_yearOf_28 rfl ?_
    refine r_iconst dX9_yearOf_30 ?_
    refine r_icmp_ne (tgt := 37) dX9_yearOf_31 (by decide) ⟨by omega, by omega⟩ ⟨by omega, by omega⟩ (fun g31 => ?_) (fun g31 => ?_)
    · refine r_aload_n dX9_yearOf_37 rfl rfl ?_
      refine r_dup dX9_yearOf_38 rfl ?_
      refine r_getR (z := (gn 41)) dX9_yearOf_39 fl_X9_310 (by decide) rfl rfl ?_
      refine r_iconst dX9_yearOf_42 ?_
      refine r_iadd dX9_yearOf_43 ?_
      refine r_putR dX9_yearOf_44 fp_X9_310 (by decide) rfl (nar_int _) (Nat.le_of_ble_eq_true rfl) setR_41 (fun z0 hz0 => ?_)
      refine r_aload_n dX9_yearOf_47 rfl rfl ?_
      refine r_dup dX9_yearOf_48 rfl ?_
      refine r_getR (z := (gn 42)) dX9_yearOf_49 fl_X9_313 (by decide) rfl rfl ?_
      refine r_iload dX9_yearOf_52 rfl ?_
      refine r_iload_n dX9_yearOf_54 rfl rfl ?_
      refine r_callS [_, _] (s_X9_wrongBy (by omega) (by omega)) dX9_yearOf_55 cs_X9_307 sm_X9_wrongBy (by decide) (by decide) (by decide) rfl rfl (Nat.le_of_ble_eq_true rfl) (fun _ _ _ q => q.elim) (fun v n2 h2 q => ?_)
      obtain ⟨rfl, rfl, hh⟩ := q
      obtain rfl := hh.symm
      refine ⟨rfl, ?_⟩
      dsimp only [Option.toList, List.cons_append, List.nil_append]
      refine r_iadd dX9_yearOf_58 ?_
      refine r_putR dX9_yearOf_59 fp_X9_313 (by decide) rfl (nar_int _) (Nat.le_of_ble_eq_true rfl) setR_42 (fun z1 hz1 => ?_)
      refine r_iinc (lv2 := [(0, _), (1, _), (2, _), (3, _), (4, _)]) dX9_yearOf_62 (by decide) rfl rfl rfl ?_
      refine r_goto (tgt := 12) dX9_yearOf_65 (by decide) ?_
      refine r_lv (lv2 := [(0, _), (1, _), (2, _), (3, _)]) rfl ?_
      rw [show (j : Int) + 1 = ((j + 1 : Nat) : Int) by omega]
      have q41 := kp2 41 (by decide)
      have q42 := kp2 42 (by decide)
      first
        | (rw [if_pos g31] at ey
           exact ih (j + 1) gn lt2 lg2 (by omega) tr2 li2 (by rw [ey]; omega) (by rw [ey]; omega) (fun k hk => (kp2 k hk.1).trans (kp k hk)))
        | (rw [if_neg g31] at ey
           rw [ut_put, ut_put]
           exact ih (j + 1) _ lt2 lg2 (by omega) (by exact tr2) (by exact li2) (by rw [ey]; show z0 = _; dsimp only; omega) (by rw [ey]; show z1 = _; dsimp only; omega) (fun k hk => by rw [va_up_ne _ _ hk.2.2, va_up_ne _ _ hk.2.1]; exact (kp2 k hk.1).trans (kp k hk)))
    · refine r_goto (tgt := 62) dX9_yearOf_34 (by decide) ?_
      refine r_iinc (lv2 := [(0, _), (1, _), (2, _), (3, _), (4, _)]) dX9_yearOf_62 (by decide) rfl rfl rfl ?_
      refine r_goto (tgt := 12) dX9_yearOf_65 (by decide) ?_
      refine r_lv (lv2 := [(0, _), (1, _), (2, _), (3, _)]) rfl ?_
      rw [show (j : Int) + 1 = ((j + 1 : Nat) : Int) by omega]
      have q41 := kp2 41 (by decide)
      have q42 := kp2 42 (by decide)
      first
        | (rw [if_pos g31] at ey
           exact ih (j + 1) gn lt2 lg2 (by omega) tr2 li2 (by rw [ey]; omega) (by rw [ey]; omega) (fun k hk => (kp2 k hk.1).trans (kp k hk)))
        | (rw [if_neg g31] at ey
           rw [ut_put, ut_put]
           exact ih (j + 1) _ lt2 lg2 (by omega) (by exact tr2) (by exact li2) (by rw [ey]; show z0 = _; dsimp only; omega) (by rw [ey]; show z1 = _; dsimp only; omega) (fun k hk => by rw [va_up_ne _ _ hk.2.2, va_up_ne _ _ hk.2.1]; exact (kp2 k hk.1).trans (kp k hk)))

theorem s_X9_yearOf {h : aH} {g : Nat → Int} {w : Int} (c68 : h 68 = RG g w) {dl cl lm lt lgt mn : Nat → Int} (c69 : h 69 = .inl (0, 45, dl)) (c70 : h 70 = .inl (0, 60, cl)) (c71 : h 71 = .inl (0, 12, lm)) (c77 : h 77 = .inl (2, 1440, lt)) (c78 : h 78 = .inl (2, 1440, lgt)) (c79 : h 79 = .inl (0, 120, mn)) {nd sw nc nm : Int} {K U I O G L cf ct fc nx cd md my mt : Nat → Int} (tr : TellR g dl cl lm mn nd sw nc nm K U I O G L cf ct cd md my mt) (pi : PInv nd sw nc K U I O G L cf ct fc nx cd) (li : LitR (g 30) lt lgt sw nc L cf ct cd) {di : Int} (hdi : 0 ≤ di ∧ di < nd)  {m : Int} (hm : 0 ≤ m ∧ m < 1440) : mSem yX9_yearOf cX9_yearOf 5 none 5 0 0 [.ref 68, iv di, iv m] 97 h (fun v n' h' => v = none ∧ n' = 97 ∧ ∃ g2 lt2 lg2, h' = UT h g2 w lt2 lg2 ∧ LitR (g2 30) lt2 lg2 sw nc L cf ct cd ∧ g2 41 = (yT (fun d => nowI sw nc nm K U I O G L cf ct cd md my mt di d m) m 365).1 ∧ g2 42 = (yT (fun d => nowI sw nc nm K U I O G L cf ct cd md my mt di d m) m 365).2.1 ∧ ∀ k, (k ≠ 30 ∧ k ≠ 41 ∧ k ≠ 42) → g2 k = g k) noX := by
  obtain ⟨t1, t2, t3, t31, pnm, tdl, tcl, tlm, tmd, pmt, pmd, pmy⟩ := id tr
  obtain ⟨pnd, psw, pnc, pK, pU, pI, pO, pG, pL, pcf, pct, pfc, pnx⟩ := id pi
  refine mSem_of (own := RX9) (name := "yearOf") pn_X9 rfl rfl (Nat.le_of_ble_eq_true rfl) ?_
  refine r_aload_n dX9_yearOf_0 rfl rfl ?_
  refine r_iconst dX9_yearOf_1 ?_
  refine r_putR dX9_yearOf_2 fp_X9_310 (by decide) c68 (nar_int _) (Nat.le_of_ble_eq_true rfl) setR_41 (fun z0 hz0 => ?_)
  refine r_aload_n dX9_yearOf_5 rfl rfl ?_
  refine r_iconst dX9_yearOf_6 ?_
  refine r_putR dX9_yearOf_7 fp_X9_313 (by decide) rfl (nar_int _) (Nat.le_of_ble_eq_true rfl) setR_42 (fun z1 hz1 => ?_)
  refine r_iconst dX9_yearOf_10 ?_
  refine r_istore_n (lv2 := [(0, _), (1, _), (2, _), (3, _)]) dX9_yearOf_11 rfl (by decide) rfl rfl ?_
  rw [bx_uu]
  refine ev_h (ut_self (h := va_up h 68 (RG (va_up (va_up g 41 z0) 42 z1) w)) rfl c77 c78) ?_
  rw [ut_68]
  exact l_X9_yearOf c69 c70 c71 c79 pi hdi hm 365 0 _ lt lgt (by omega) (by exact tr) (by exact li) hz0 hz1 (fun k hk => by rw [va_up_ne _ _ hk.2.2, va_up_ne _ _ hk.2.1])

theorem s_X9_year {h : aH} {th : Int} {t : Nat → Int} {tp : Nat} {fpl hlaw himg : Int} {rf : Nat → Int} {nd sw nc hl hs : Int} {K U I O G L cf ct fc nx cd : Nat → Int} {nr ns nm : Int} {rd ry rm rt se md my mt : Nat → Int} {M : ND} {ls : LSm} (cr : RefC h (t, tp, fpl, rf, hlaw, himg, ((nd, sw, nc), (hl, hs), K, U, I, O, G, L, cf, ct, fc, nx, cd), ((nr, ns, nm), rd, ry, rm, rt, se, md, my, mt), M, ls) th) {di m w_ : Int} (idi : inR di) (im : inR m) (iw_ : inR w_)  : mSem yX9_year cX9_year 4 (some .int) 7 0 0 [.ref 68, iv di, iv m, iv w_] 97 h (RefQ (ocL [(diaB nd di, 1), (minB m, 1), (whaB w_ 1, 1)]) (if w_ = 0 then (yT (fun d => nowI sw nc nm K U I O G L cf ct cd md my mt di d m) m 365).1 else (yT (fun d => nowI sw nc nm K U I O G L cf ct cd md my mt di d m) m 365).2.1) h (t, tp, fpl, rf, hlaw, himg, ((nd, sw, nc), (hl, hs), K, U, I, O, G, L, cf, ct, fc, nx, cd), ((nr, ns, nm), rd, ry, rm, rt, se, md, my, mt), M, ls)) noX := by
  refine RefC_elim cr (fun g dl cl lm trr rfr nD nC nL lt lgt mn rdg cpl grp sea rts row cod ncod pil opn stg bsd imo imr ims imm w c68 c69 c70 c71 c72 c73 c74 c75 c76 c77 c78 c79 c80 c81 c82 c83 c84 c85 c86 c87 c88 c89 c90 c91 c92 c93 c94 c95 hth rr => ?_)
  refine RR_elim rr (fun e8 e10 e33 e38 e44 e53 tr pi ni li rrf rtp htp rrd rse phl phi rim rco ht nM nsn => ?_)
  obtain ⟨t1, t2, t3, t31, pnm, tdl, tcl, tlm, tmd, pmt, pmd, pmy⟩ := id tr
  obtain ⟨pnd, psw, pnc, pK, pU, pI, pO, pG, pL, pcf, pct, pfc, pnx⟩ := id pi
  obtain ⟨pnr, pns, pnm2, prd, pry, prm, prt, pse, pmd2, pmy2, pmt2⟩ := id ni
  unfold inR at idi im iw_
  refine mSem_of (own := RX9) (name := "year") pn_X9 rfl rfl (Nat.le_of_ble_eq_true rfl) ?_
  refine r_aload_n dX9_year_0 rfl rfl ?_
  refine r_iconst dX9_year_1 ?_
  refine r_putR dX9_year_2 fp_X9_102 (by decide) c68 (nar_int _) (Nat.le_of_ble_eq_true rfl) setR_0 (fun z0 hz0 => ?_)
  refine r_aload_n dX9_year_5 rfl rfl ?_
  refine r_iload_n dX9_year_6 rfl rfl ?_
  refine r_callV 68 [_] (s_X9_isDial (by rfl) (by first | rfl | exact hz0) (by show 0 ≤ g 1 ∧ g 1 ≤ 9; omega) idi) dX9_year_7 cs_X9_243 im_X9_isDial (by decide) rfl rfl (by decide) (by decide) (by decide) rfl rfl (Nat.le_of_ble_eq_true rfl) (fun _ _ _ q => q.elim) (fun v n2 h2 q => ?_)
  obtain ⟨rfl, q⟩ := q
  rcases q with ⟨kb1, rfl, hh⟩ | ⟨kb1, rfl, hh⟩
  · obtain rfl := hh.symm
    replace kb1 : diaB nd di = true := by rw [← t1]; exact kb1
    have bdi := of_decide_eq_true kb1
    refine ⟨rfl, ?_⟩
    dsimp only [Option.toList, List.cons_append, List.nil_append]
    refine r_if_eq (tgt := 30) dX9_year_10 (by decide) ⟨by omega, by omega⟩ (fun g10 => absurd g10 (by omega)) (fun g10 => ?_)
    refine r_aload_n dX9_year_13 rfl rfl ?_
    refine r_iload_n dX9_year_14 rfl rfl ?_
    refine r_callV 68 [_] (s_X9_isMinute (by rfl) (by first | rfl | exact hz0) im) dX9_year_15 cs_X9_275 im_X9_isMinute (by decide) rfl rfl (by decide) (by decide) (by decide) rfl rfl (Nat.le_of_ble_eq_true rfl) (fun _ _ _ q => q.elim) (fun v n2 h2 q => ?_)
    obtain ⟨rfl, q⟩ := q
    rcases q with ⟨kb2, rfl, hh⟩ | ⟨kb2, rfl, hh⟩
    · obtain rfl := hh.symm
      have bm := of_decide_eq_true kb2
      refine ⟨rfl, ?_⟩
      dsimp only [Option.toList, List.cons_append, List.nil_append]
      refine r_if_eq (tgt := 30) dX9_year_18 (by decide) ⟨by omega, by omega⟩ (fun g18 => absurd g18 (by omega)) (fun g18 => ?_)
      refine r_aload_n dX9_year_21 rfl rfl ?_
      refine r_iload_n dX9_year_22 rfl rfl ?_
      refine r_iconst dX9_year_23 ?_
      refine r_callV 68 [_, _] (s_X9_isWhat (by rfl) (by first | rfl | exact hz0) iw_ ⟨by decide, by decide⟩) dX9_year_24 cs_X9_246 im_X9_isWhat (by decide) rfl rfl (by decide) (by decide) (by decide) rfl rfl (Nat.le_of_ble_eq_true rfl) (fun _ _ _ q => q.elim) (fun v n2 h2 q => ?_)
      obtain ⟨rfl, q⟩ := q
      rcases q with ⟨kb3, rfl, hh⟩ | ⟨kb3, rfl, hh⟩
      · obtain rfl := hh.symm
        have bw_ := of_decide_eq_true kb3
        refine ⟨rfl, ?_⟩
        dsimp only [Option.toList, List.cons_append, List.nil_append]
        refine r_if_ne (tgt := 32) dX9_year_27 (by decide) ⟨by omega, by omega⟩ (fun g27 => ?_) (fun g27 => absurd g27 (by omega))
        refine r_aload_n dX9_year_32 rfl rfl ?_
        refine r_iload_n dX9_year_33 rfl rfl ?_
        refine r_iload_n dX9_year_34 rfl rfl ?_
        refine r_callV 68 [_, _] (s_X9_yearOf (g := (va_up g 0 z0)) (by rfl) (by exact c69) (by exact c70) (by exact c71) (by exact c77) (by exact c78) (by exact c79) tr pi li bdi bm) dX9_year_35 cs_X9_316 im_X9_yearOf (by decide) rfl rfl (by decide) (by decide) (by decide) rfl rfl (Nat.le_of_ble_eq_true rfl) (fun _ _ _ q => q.elim) (fun v n2 h2 q => ?_)
        obtain ⟨rfl, rfl, gn, lt2, lg2, rfl, li2, y41, y42, kp2⟩ := q
        refine ⟨rfl, ?_⟩
        dsimp only [Option.toList, List.cons_append, List.nil_append]
        refine r_iload_n dX9_year_38 rfl rfl ?_
        refine r_if_ne (tgt := 49) dX9_year_39 (by decide) ⟨by omega, by omega⟩ (fun g39 => ?_) (fun g39 => ?_)
        · refine r_aload_n dX9_year_49 rfl rfl ?_
          refine r_getR (z := (gn 42)) dX9_year_50 fl_X9_313 (by decide) rfl rfl ?_
          refine r_iret dX9_year_53 ?_
          exact ⟨rfl, ⟨_, rfl, fun _ => (by first | (rw [if_pos (by omega)]; exact y41) | (rw [if_neg (by omega)]; exact y42))⟩, (RefC_mk (g := gn) rfl (by exact c69) (by exact c70) (by exact c71) (by exact c72) (by exact c73) (by exact c74) (by exact c75) (by exact c76) rfl rfl (by exact c79) (by exact c80) (by exact c81) (by exact c82) (by exact c83) (by exact c84) (by exact c85) (by exact c86) (by exact c87) (by exact c88) (by exact c89) (by exact c90) (by exact c91) (by exact c92) (by exact c93) (by exact c94) (by exact c95) (by first | exact (hz0.trans (congrArg (fun n : Nat => (n : Int)) ((ocT kb1).trans ((ocT kb2).trans ((ocT kb3).trans ocE))).symm)) | exact (kp2 0 (by decide)).trans (hz0.trans (congrArg (fun n : Nat => (n : Int)) ((ocT kb1).trans ((ocT kb2).trans ((ocT kb3).trans ocE))).symm))) (RR_mk (by first | exact e8 | exact (kp2 8 (by decide)).trans e8) (by first | exact e10 | exact (kp2 10 (by decide)).trans e10) (by first | exact e33 | exact (kp2 33 (by decide)).trans e33) (by first | exact e38 | exact (kp2 38 (by decide)).trans e38) (by first | exact e44 | exact (kp2 44 (by decide)).trans e44) (by first | exact e53 | exact (kp2 53 (by decide)).trans e53) (tell_k4 (by exact tr) (kp2 1 (by decide)) (kp2 2 (by decide)) (kp2 3 (by decide)) (kp2 31 (by decide))) pi ni (by first | exact li | exact li2) rrf rtp htp rrd rse phl phi rim rco ht nM nsn)), (by repeat (first | exact fun _ _ => rfl | refine frr_up ?_ (by decide)))⟩
        · refine r_aload_n dX9_year_42 rfl rfl ?_
          refine r_getR (z := (gn 41)) dX9_year_43 fl_X9_310 (by decide) rfl rfl ?_
          refine r_goto (tgt := 53) dX9_year_46 (by decide) ?_
          refine r_iret dX9_year_53 ?_
          exact ⟨rfl, ⟨_, rfl, fun _ => (by first | (rw [if_pos (by omega)]; exact y41) | (rw [if_neg (by omega)]; exact y42))⟩, (RefC_mk (g := gn) rfl (by exact c69) (by exact c70) (by exact c71) (by exact c72) (by exact c73) (by exact c74) (by exact c75) (by exact c76) rfl rfl (by exact c79) (by exact c80) (by exact c81) (by exact c82) (by exact c83) (by exact c84) (by exact c85) (by exact c86) (by exact c87) (by exact c88) (by exact c89) (by exact c90) (by exact c91) (by exact c92) (by exact c93) (by exact c94) (by exact c95) (by first | exact (hz0.trans (congrArg (fun n : Nat => (n : Int)) ((ocT kb1).trans ((ocT kb2).trans ((ocT kb3).trans ocE))).symm)) | exact (kp2 0 (by decide)).trans (hz0.trans (congrArg (fun n : Nat => (n : Int)) ((ocT kb1).trans ((ocT kb2).trans ((ocT kb3).trans ocE))).symm))) (RR_mk (by first | exact e8 | exact (kp2 8 (by decide)).trans e8) (by first | exact e10 | exact (kp2 10 (by decide)).trans e10) (by first | exact e33 | exact (kp2 33 (by decide)).trans e33) (by first | exact e38 | exact (kp2 38 (by decide)).trans e38) (by first | exact e44 | exact (kp2 44 (by decide)).trans e44) (by first | exact e53 | exact (kp2 53 (by decide)).trans e53) (tell_k4 (by exact tr) (kp2 1 (by decide)) (kp2 2 (by decide)) (kp2 3 (by decide)) (kp2 31 (by decide))) pi ni (by first | exact li | exact li2) rrf rtp htp rrd rse phl phi rim rco ht nM nsn)), (by repeat (first | exact fun _ _ => rfl | refine frr_up ?_ (by decide)))⟩
      · obtain rfl := hh.symm
        refine ⟨rfl, ?_⟩
        dsimp only [Option.toList, List.cons_append, List.nil_append]
        refine r_if_ne (tgt := 32) dX9_year_27 (by decide) ⟨by omega, by omega⟩ (fun g27 => absurd g27 (by omega)) (fun g27 => ?_)
        refine r_iconst dX9_year_30 ?_
        refine r_iret dX9_year_31 ?_
        first
          | exact ⟨rfl, ⟨0, rfl, fun z => absurd ((ocF kb1).symm.trans z) (by decide)⟩, (RefC_mk (g := (va_up (va_up g 0 z0) 0 1)) rfl (by exact c69) (by exact c70) (by exact c71) (by exact c72) (by exact c73) (by exact c74) (by exact c75) (by exact c76) (by exact c77) (by exact c78) (by exact c79) (by exact c80) (by exact c81) (by exact c82) (by exact c83) (by exact c84) (by exact c85) (by exact c86) (by exact c87) (by exact c88) (by exact c89) (by exact c90) (by exact c91) (by exact c92) (by exact c93) (by exact c94) (by exact c95) (congrArg (fun n : Nat => (n : Int)) (ocF kb1).symm) (RR_mk (by first | exact e8 | exact (kp2 8 (by decide)).trans e8) (by first | exact e10 | exact (kp2 10 (by decide)).trans e10) (by first | exact e33 | exact (kp2 33 (by decide)).trans e33) (by first | exact e38 | exact (kp2 38 (by decide)).trans e38) (by first | exact e44 | exact (kp2 44 (by decide)).trans e44) (by first | exact e53 | exact (kp2 53 (by decide)).trans e53) (by first | exact tr | exact tell_kp (by exact tr) kp2) pi ni (by first | exact li | exact li2) rrf rtp htp rrd rse phl phi rim rco ht nM nsn)), (by repeat (first | exact fun _ _ => rfl | refine frr_up ?_ (by decide)))⟩
          | exact ⟨rfl, ⟨0, rfl, fun z => absurd (((ocT kb1).trans (ocF kb2)).symm.trans z) (by decide)⟩, (RefC_mk (g := (va_up (va_up g 0 z0) 0 1)) rfl (by exact c69) (by exact c70) (by exact c71) (by exact c72) (by exact c73) (by exact c74) (by exact c75) (by exact c76) (by exact c77) (by exact c78) (by exact c79) (by exact c80) (by exact c81) (by exact c82) (by exact c83) (by exact c84) (by exact c85) (by exact c86) (by exact c87) (by exact c88) (by exact c89) (by exact c90) (by exact c91) (by exact c92) (by exact c93) (by exact c94) (by exact c95) (congrArg (fun n : Nat => (n : Int)) ((ocT kb1).trans (ocF kb2)).symm) (RR_mk (by first | exact e8 | exact (kp2 8 (by decide)).trans e8) (by first | exact e10 | exact (kp2 10 (by decide)).trans e10) (by first | exact e33 | exact (kp2 33 (by decide)).trans e33) (by first | exact e38 | exact (kp2 38 (by decide)).trans e38) (by first | exact e44 | exact (kp2 44 (by decide)).trans e44) (by first | exact e53 | exact (kp2 53 (by decide)).trans e53) (by first | exact tr | exact tell_kp (by exact tr) kp2) pi ni (by first | exact li | exact li2) rrf rtp htp rrd rse phl phi rim rco ht nM nsn)), (by repeat (first | exact fun _ _ => rfl | refine frr_up ?_ (by decide)))⟩
          | exact ⟨rfl, ⟨0, rfl, fun z => absurd (((ocT kb1).trans ((ocT kb2).trans (ocF kb3))).symm.trans z) (by decide)⟩, (RefC_mk (g := (va_up (va_up g 0 z0) 0 1)) rfl (by exact c69) (by exact c70) (by exact c71) (by exact c72) (by exact c73) (by exact c74) (by exact c75) (by exact c76) (by exact c77) (by exact c78) (by exact c79) (by exact c80) (by exact c81) (by exact c82) (by exact c83) (by exact c84) (by exact c85) (by exact c86) (by exact c87) (by exact c88) (by exact c89) (by exact c90) (by exact c91) (by exact c92) (by exact c93) (by exact c94) (by exact c95) (congrArg (fun n : Nat => (n : Int)) ((ocT kb1).trans ((ocT kb2).trans (ocF kb3))).symm) (RR_mk (by first | exact e8 | exact (kp2 8 (by decide)).trans e8) (by first | exact e10 | exact (kp2 10 (by decide)).trans e10) (by first | exact e33 | exact (kp2 33 (by decide)).trans e33) (by first | exact e38 | exact (kp2 38 (by decide)).trans e38) (by first | exact e44 | exact (kp2 44 (by decide)).trans e44) (by first | exact e53 | exact (kp2 53 (by decide)).trans e53) (by first | exact tr | exact tell_kp (by exact tr) kp2) pi ni (by first | exact li | exact li2) rrf rtp htp rrd rse phl phi rim rco ht nM nsn)), (by repeat (first | exact fun _ _ => rfl | refine frr_up ?_ (by decide)))⟩
    · obtain rfl := hh.symm
      refine ⟨rfl, ?_⟩
      dsimp only [Option.toList, List.cons_append, List.nil_append]
      refine r_if_eq (tgt := 30) dX9_year_18 (by decide) ⟨by omega, by omega⟩ (fun g18 => ?_) (fun g18 => absurd g18 (by omega))
      refine r_iconst dX9_year_30 ?_
      refine r_iret dX9_year_31 ?_
      first
        | exact ⟨rfl, ⟨0, rfl, fun z => absurd ((ocF kb1).symm.trans z) (by decide)⟩, (RefC_mk (g := (va_up (va_up g 0 z0) 0 1)) rfl (by exact c69) (by exact c70) (by exact c71) (by exact c72) (by exact c73) (by exact c74) (by exact c75) (by exact c76) (by exact c77) (by exact c78) (by exact c79) (by exact c80) (by exact c81) (by exact c82) (by exact c83) (by exact c84) (by exact c85) (by exact c86) (by exact c87) (by exact c88) (by exact c89) (by exact c90) (by exact c91) (by exact c92) (by exact c93) (by exact c94) (by exact c95) (congrArg (fun n : Nat => (n : Int)) (ocF kb1).symm) (RR_mk (by first | exact e8 | exact (kp2 8 (by decide)).trans e8) (by first | exact e10 | exact (kp2 10 (by decide)).trans e10) (by first | exact e33 | exact (kp2 33 (by decide)).trans e33) (by first | exact e38 | exact (kp2 38 (by decide)).trans e38) (by first | exact e44 | exact (kp2 44 (by decide)).trans e44) (by first | exact e53 | exact (kp2 53 (by decide)).trans e53) (by first | exact tr | exact tell_kp (by exact tr) kp2) pi ni (by first | exact li | exact li2) rrf rtp htp rrd rse phl phi rim rco ht nM nsn)), (by repeat (first | exact fun _ _ => rfl | refine frr_up ?_ (by decide)))⟩
        | exact ⟨rfl, ⟨0, rfl, fun z => absurd (((ocT kb1).trans (ocF kb2)).symm.trans z) (by decide)⟩, (RefC_mk (g := (va_up (va_up g 0 z0) 0 1)) rfl (by exact c69) (by exact c70) (by exact c71) (by exact c72) (by exact c73) (by exact c74) (by exact c75) (by exact c76) (by exact c77) (by exact c78) (by exact c79) (by exact c80) (by exact c81) (by exact c82) (by exact c83) (by exact c84) (by exact c85) (by exact c86) (by exact c87) (by exact c88) (by exact c89) (by exact c90) (by exact c91) (by exact c92) (by exact c93) (by exact c94) (by exact c95) (congrArg (fun n : Nat => (n : Int)) ((ocT kb1).trans (ocF kb2)).symm) (RR_mk (by first | exact e8 | exact (kp2 8 (by decide)).trans e8) (by first | exact e10 | exact (kp2 10 (by decide)).trans e10) (by first | exact e33 | exact (kp2 33 (by decide)).trans e33) (by first | exact e38 | exact (kp2 38 (by decide)).trans e38) (by first | exact e44 | exact (kp2 44 (by decide)).trans e44) (by first | exact e53 | exact (kp2 53 (by decide)).trans e53) (by first | exact tr | exact tell_kp (by exact tr) kp2) pi ni (by first | exact li | exact li2) rrf rtp htp rrd rse phl phi rim rco ht nM nsn)), (by repeat (first | exact fun _ _ => rfl | refine frr_up ?_ (by decide)))⟩
        | exact ⟨rfl, ⟨0, rfl, fun z => absurd (((ocT kb1).trans ((ocT kb2).trans (ocF kb3))).symm.trans z) (by decide)⟩, (RefC_mk (g := (va_up (va_up g 0 z0) 0 1)) rfl (by exact c69) (by exact c70) (by exact c71) (by exact c72) (by exact c73) (by exact c74) (by exact c75) (by exact c76) (by exact c77) (by exact c78) (by exact c79) (by exact c80) (by exact c81) (by exact c82) (by exact c83) (by exact c84) (by exact c85) (by exact c86) (by exact c87) (by exact c88) (by exact c89) (by exact c90) (by exact c91) (by exact c92) (by exact c93) (by exact c94) (by exact c95) (congrArg (fun n : Nat => (n : Int)) ((ocT kb1).trans ((ocT kb2).trans (ocF kb3))).symm) (RR_mk (by first | exact e8 | exact (kp2 8 (by decide)).trans e8) (by first | exact e10 | exact (kp2 10 (by decide)).trans e10) (by first | exact e33 | exact (kp2 33 (by decide)).trans e33) (by first | exact e38 | exact (kp2 38 (by decide)).trans e38) (by first | exact e44 | exact (kp2 44 (by decide)).trans e44) (by first | exact e53 | exact (kp2 53 (by decide)).trans e53) (by first | exact tr | exact tell_kp (by exact tr) kp2) pi ni (by first | exact li | exact li2) rrf rtp htp rrd rse phl phi rim rco ht nM nsn)), (by repeat (first | exact fun _ _ => rfl | refine frr_up ?_ (by decide)))⟩
  · obtain rfl := hh.symm
    replace kb1 : diaB nd di = false := by rw [← t1]; exact kb1
    refine ⟨rfl, ?_⟩
    dsimp only [Option.toList, List.cons_append, List.nil_append]
    refine r_if_eq (tgt := 30) dX9_year_10 (by decide) ⟨by omega, by omega⟩ (fun g10 => ?_) (fun g10 => absurd g10 (by omega))
    refine r_iconst dX9_year_30 ?_
    refine r_iret dX9_year_31 ?_
    first
      | exact ⟨rfl, ⟨0, rfl, fun z => absurd ((ocF kb1).symm.trans z) (by decide)⟩, (RefC_mk (g := (va_up (va_up g 0 z0) 0 1)) rfl (by exact c69) (by exact c70) (by exact c71) (by exact c72) (by exact c73) (by exact c74) (by exact c75) (by exact c76) (by exact c77) (by exact c78) (by exact c79) (by exact c80) (by exact c81) (by exact c82) (by exact c83) (by exact c84) (by exact c85) (by exact c86) (by exact c87) (by exact c88) (by exact c89) (by exact c90) (by exact c91) (by exact c92) (by exact c93) (by exact c94) (by exact c95) (congrArg (fun n : Nat => (n : Int)) (ocF kb1).symm) (RR_mk (by first | exact e8 | exact (kp2 8 (by decide)).trans e8) (by first | exact e10 | exact (kp2 10 (by decide)).trans e10) (by first | exact e33 | exact (kp2 33 (by decide)).trans e33) (by first | exact e38 | exact (kp2 38 (by decide)).trans e38) (by first | exact e44 | exact (kp2 44 (by decide)).trans e44) (by first | exact e53 | exact (kp2 53 (by decide)).trans e53) (by first | exact tr | exact tell_kp (by exact tr) kp2) pi ni (by first | exact li | exact li2) rrf rtp htp rrd rse phl phi rim rco ht nM nsn)), (by repeat (first | exact fun _ _ => rfl | refine frr_up ?_ (by decide)))⟩
      | exact ⟨rfl, ⟨0, rfl, fun z => absurd (((ocT kb1).trans (ocF kb2)).symm.trans z) (by decide)⟩, (RefC_mk (g := (va_up (va_up g 0 z0) 0 1)) rfl (by exact c69) (by exact c70) (by exact c71) (by exact c72) (by exact c73) (by exact c74) (by exact c75) (by exact c76) (by exact c77) (by exact c78) (by exact c79) (by exact c80) (by exact c81) (by exact c82) (by exact c83) (by exact c84) (by exact c85) (by exact c86) (by exact c87) (by exact c88) (by exact c89) (by exact c90) (by exact c91) (by exact c92) (by exact c93) (by exact c94) (by exact c95) (congrArg (fun n : Nat => (n : Int)) ((ocT kb1).trans (ocF kb2)).symm) (RR_mk (by first | exact e8 | exact (kp2 8 (by decide)).trans e8) (by first | exact e10 | exact (kp2 10 (by decide)).trans e10) (by first | exact e33 | exact (kp2 33 (by decide)).trans e33) (by first | exact e38 | exact (kp2 38 (by decide)).trans e38) (by first | exact e44 | exact (kp2 44 (by decide)).trans e44) (by first | exact e53 | exact (kp2 53 (by decide)).trans e53) (by first | exact tr | exact tell_kp (by exact tr) kp2) pi ni (by first | exact li | exact li2) rrf rtp htp rrd rse phl phi rim rco ht nM nsn)), (by repeat (first | exact fun _ _ => rfl | refine frr_up ?_ (by decide)))⟩
      | exact ⟨rfl, ⟨0, rfl, fun z => absurd (((ocT kb1).trans ((ocT kb2).trans (ocF kb3))).symm.trans z) (by decide)⟩, (RefC_mk (g := (va_up (va_up g 0 z0) 0 1)) rfl (by exact c69) (by exact c70) (by exact c71) (by exact c72) (by exact c73) (by exact c74) (by exact c75) (by exact c76) (by exact c77) (by exact c78) (by exact c79) (by exact c80) (by exact c81) (by exact c82) (by exact c83) (by exact c84) (by exact c85) (by exact c86) (by exact c87) (by exact c88) (by exact c89) (by exact c90) (by exact c91) (by exact c92) (by exact c93) (by exact c94) (by exact c95) (congrArg (fun n : Nat => (n : Int)) ((ocT kb1).trans ((ocT kb2).trans (ocF kb3))).symm) (RR_mk (by first | exact e8 | exact (kp2 8 (by decide)).trans e8) (by first | exact e10 | exact (kp2 10 (by decide)).trans e10) (by first | exact e33 | exact (kp2 33 (by decide)).trans e33) (by first | exact e38 | exact (kp2 38 (by decide)).trans e38) (by first | exact e44 | exact (kp2 44 (by decide)).trans e44) (by first | exact e53 | exact (kp2 53 (by decide)).trans e53) (by first | exact tr | exact tell_kp (by exact tr) kp2) pi ni (by first | exact li | exact li2) rrf rtp htp rrd rse phl phi rim rco ht nM nsn)), (by repeat (first | exact fun _ _ => rfl | refine frr_up ?_ (by decide)))⟩

theorem l_X9_live {h : aH} {w : Int} {dl cl lm mn : Nat → Int} (c69 : h 69 = .inl (0, 45, dl)) (c70 : h 70 = .inl (0, 60, cl)) (c71 : h 71 = .inl (0, 12, lm)) (c79 : h 79 = .inl (0, 120, mn)) {nd sw nc nm : Int} {K U I O G L cf ct fc nx cd md my mt : Nat → Int} (pi : PInv nd sw nc K U I O G L cf ct fc nx cd) {g : Nat → Int}  {m : Int} (hm : 0 ≤ m ∧ m < 1440) : ∀ (k j : Nat) (gg lt lgt : Nat → Int), j + k = nd.toNat → TellR gg dl cl lm mn nd sw nc nm K U I O G L cf ct cd md my mt → LitR (gg 30) lt lgt sw nc L cf ct cd → (∀ k, (k ≠ 30 ∧ k ≠ 41 ∧ k ≠ 42) → gg k = g k) → Ev RX9 "live" cX9_live 6 (some .int) 7 0 0 (fun v n' h' => v = some (iv (lvS (fun j => ((yT (fun d => nowI sw nc nm K U I O G L cf ct cd md my mt (j : Nat) d m) m 365).1, (yT (fun d => nowI sw nc nm K U I O G L cf ct cd md my mt (j : Nat) d m) m 365).2.1)) nd.toNat).1) ∧ n' = 97 ∧ ∃ g2 lt2 lg2, h' = UT h g2 w lt2 lg2 ∧ LitR (g2 30) lt2 lg2 sw nc L cf ct cd ∧ ∀ k, (k ≠ 30 ∧ k ≠ 41 ∧ k ≠ 42) → g2 k = g k) noX 97 (UT h gg w lt lgt) 25 [(0, .ref 68), (1, iv m), (2, iv (lvS (fun j => ((yT (fun d => nowI sw nc nm K U I O G L cf ct cd md my mt (j : Nat) d m) m 365).1, (yT (fun d => nowI sw nc nm K U I O G L cf ct cd md my mt (j : Nat) d m) m 365).2.1)) j).1), (3, iv (lvS (fun j => ((yT (fun d => nowI sw nc nm K U I O G L cf ct cd md my mt (j : Nat) d m) m 365).1, (yT (fun d => nowI sw nc nm K U I O G L cf ct cd md my mt (j : Nat) d m) m 365).2.1)) j).2.1), (4, iv (lvS (fun j => ((yT (fun d => nowI sw nc nm K U I O G L cf ct cd md my mt (j : Nat) d m) m 365).1, (yT (fun d => nowI sw nc nm K U I O G L cf ct cd md my mt (j : Nat) d m) m 365).2.1)) j).2.2), (5, iv j)] [] := by
  obtain ⟨pnd, psw, pnc, pK, pU, pI, pO, pG, pL, pcf, pct, pfc, pnx⟩ := id pi
  intro k
  induction k with
  | zero =>
    intro j gg lt lgt hj trg lig kp
    obtain ⟨t1, t2, t3, t31, pnm, tdl, tcl, tlm, tmd, pmt, pmd, pmy⟩ := id trg
    obtain rfl : nd = (j : Int) := by omega
    refine r_iload dX9_live_25 rfl ?_
    refine r_aload_n dX9_live_27 rfl rfl ?_
    refine r_getR (z := (gg 1)) dX9_live_28 fl_X9_214 (by decide) rfl rfl ?_
    refine r_icmp_ge (tgt := 94) dX9_live_31 (by decide) ⟨by omega, by omega⟩ ⟨by omega, by omega⟩ (fun g31 => ?_) (fun g31 => absurd g31 (by omega))
    refine r_iload_n dX9_live_94 rfl rfl ?_
    refine r_iret dX9_live_95 ?_
    exact ⟨rfl, rfl, gg, lt, lgt, rfl, lig, kp⟩
  | succ k ih =>
    intro j gg lt lgt hj trg lig kp
    obtain ⟨t1, t2, t3, t31, pnm, tdl, tcl, tlm, tmd, pmt, pmd, pmy⟩ := id trg
    have by1 : ∀ q : Nat, (0 ≤ ((fun j => ((yT (fun d => nowI sw nc nm K U I O G L cf ct cd md my mt (j : Nat) d m) m 365).1, (yT (fun d => nowI sw nc nm K U I O G L cf ct cd md my mt (j : Nat) d m) m 365).2.1)) q).1 ∧ ((fun j => ((yT (fun d => nowI sw nc nm K U I O G L cf ct cd md my mt (j : Nat) d m) m 365).1, (yT (fun d => nowI sw nc nm K U I O G L cf ct cd md my mt (j : Nat) d m) m 365).2.1)) q).1 ≤ 365) ∧ 0 ≤ ((fun j => ((yT (fun d => nowI sw nc nm K U I O G L cf ct cd md my mt (j : Nat) d m) m 365).1, (yT (fun d => nowI sw nc nm K U I O G L cf ct cd md my mt (j : Nat) d m) m 365).2.1)) q).2 ∧ ((fun j => ((yT (fun d => nowI sw nc nm K U I O G L cf ct cd md my mt (j : Nat) d m) m 365).1, (yT (fun d => nowI sw nc nm K U I O G L cf ct cd md my mt (j : Nat) d m) m 365).2.1)) q).2 ≤ 262800 := fun q => yT_1 (now := fun d => nowI sw nc nm K U I O G L cf ct cd md my mt (q : Nat) d m) (fun _ => (now_B _ _ _ _ _ _ _ _ _ _ _ _ _ _ _ _ _ _)) hm 365
    have b2 := lvS_B by1 j
    have b3 := by1 j
    have e9 := lvS_s (fun j => ((yT (fun d => nowI sw nc nm K U I O G L cf ct cd md my mt (j : Nat) d m) m 365).1, (yT (fun d => nowI sw nc nm K U I O G L cf ct cd md my mt (j : Nat) d m) m 365).2.1)) j
    dsimp only at b2 b3 e9
    refine r_iload dX9_live_25 rfl ?_
    refine r_aload_n dX9_live_27 rfl rfl ?_
    refine r_getR (z := (gg 1)) dX9_live_28 fl_X9_214 (by decide) rfl rfl ?_
    refine r_icmp_ge (tgt := 94) dX9_live_31 (by decide) ⟨by omega, by omega⟩ ⟨by omega, by omega⟩ (fun g31 => absurd g31 (by omega)) (fun g31 => ?_)
    refine r_aload_n dX9_live_34 rfl rfl ?_
    refine r_iload dX9_live_35 rfl ?_
    refine r_iload_n dX9_live_37 rfl rfl ?_
    refine r_callV 68 [_, _] (s_X9_yearOf (g := gg) (by rfl) (by exact c69) (by exact c70) (by exact c71) (by rfl) (by rfl) (by exact c79) trg pi lig (by omega) (by omega)) dX9_live_38 cs_X9_316 im_X9_yearOf (by decide) rfl rfl (by decide) (by decide) (by decide) rfl rfl (Nat.le_of_ble_eq_true rfl) (fun _ _ _ q => q.elim) (fun v n2 h2 q => ?_)
    obtain ⟨rfl, rfl, gn, lt2, lg2, rfl, li2, y41, y42, kp2⟩ := q
    rw [ut_ut]
    refine ⟨rfl, ?_⟩
    dsimp only [Option.toList, List.cons_append, List.nil_append]
    refine r_iload_n dX9_live_41 rfl rfl ?_
    refine r_iconst dX9_live_42 ?_
    refine r_icmp_eq (tgt := 74) dX9_live_43 (by decide) ⟨by omega, by omega⟩ ⟨by omega, by omega⟩ (fun g43 => ?_) (fun g43 => ?_)
    · refine r_iload dX9_live_74 rfl ?_
      refine r_istore_n (lv2 := [(0, _), (1, _), (2, _), (3, _), (4, _), (5, _)]) dX9_live_76 rfl (by decide) rfl rfl ?_
      refine r_aload_n dX9_live_77 rfl rfl ?_
      refine r_getR (z := (gn 41)) dX9_live_78 fl_X9_310 (by decide) rfl rfl ?_
      rw [y41]
      refine r_istore_n (lv2 := [(0, _), (1, _), (2, _), (3, _), (4, _), (5, _)]) dX9_live_81 rfl (by decide) rfl rfl ?_
      refine r_aload_n dX9_live_82 rfl rfl ?_
      refine r_getR (z := (gn 42)) dX9_live_83 fl_X9_313 (by decide) rfl rfl ?_
      rw [y42]
      refine r_istore (lv2 := [(0, _), (1, _), (2, _), (3, _), (4, _), (5, _)]) dX9_live_86 (by decide) rfl rfl ?_
      refine r_iinc (lv2 := [(0, _), (1, _), (2, _), (3, _), (4, _), (5, _)]) dX9_live_88 (by decide) rfl rfl rfl ?_
      refine r_goto (tgt := 25) dX9_live_91 (by decide) ?_
      refine r_lv (lv2 := [(0, _), (1, _), (2, _), (3, _), (4, _), (5, _)]) rfl ?_
      rw [show (j : Int) + 1 = ((j + 1 : Nat) : Int) by omega]
      have hi := ih (j + 1) gn lt2 lg2 (by omega) (tell_k4 trg (kp2 1 (by decide)) (kp2 2 (by decide)) (kp2 3 (by decide)) (kp2 31 (by decide))) li2 (fun k hk => (kp2 k hk).trans (kp k hk))
      first
        | rw [if_pos (by omega)] at e9
        | rw [if_neg (by omega)] at e9
      rw [e9] at hi
      exact hi
    · refine r_aload_n dX9_live_46 rfl rfl ?_
      refine r_getR (z := (gn 41)) dX9_live_47 fl_X9_310 (by decide) rfl rfl ?_
      rw [y41]
      refine r_iload_n dX9_live_50 rfl rfl ?_
      refine r_icmp_lt (tgt := 88) dX9_live_51 (by decide) ⟨by omega, by omega⟩ ⟨by omega, by omega⟩ (fun g51 => ?_) (fun g51 => ?_)
      · refine r_iinc (lv2 := [(0, _), (1, _), (2, _), (3, _), (4, _), (5, _)]) dX9_live_88 (by decide) rfl rfl rfl ?_
        refine r_goto (tgt := 25) dX9_live_91 (by decide) ?_
        refine r_lv (lv2 := [(0, _), (1, _), (2, _), (3, _), (4, _), (5, _)]) rfl ?_
        rw [show (j : Int) + 1 = ((j + 1 : Nat) : Int) by omega]
        have hi := ih (j + 1) gn lt2 lg2 (by omega) (tell_k4 trg (kp2 1 (by decide)) (kp2 2 (by decide)) (kp2 3 (by decide)) (kp2 31 (by decide))) li2 (fun k hk => (kp2 k hk).trans (kp k hk))
        first
          | rw [if_pos (by omega)] at e9
          | rw [if_neg (by omega)] at e9
        rw [e9] at hi
        exact hi
      · refine r_aload_n dX9_live_54 rfl rfl ?_
        refine r_getR (z := (gn 41)) dX9_live_55 fl_X9_310 (by decide) rfl rfl ?_
        rw [y41]
        refine r_iload_n dX9_live_58 rfl rfl ?_
        refine r_icmp_ne (tgt := 74) dX9_live_59 (by decide) ⟨by omega, by omega⟩ ⟨by omega, by omega⟩ (fun g59 => ?_) (fun g59 => ?_)
        · refine r_iload dX9_live_74 rfl ?_
          refine r_istore_n (lv2 := [(0, _), (1, _), (2, _), (3, _), (4, _), (5, _)]) dX9_live_76 rfl (by decide) rfl rfl ?_
          refine r_aload_n dX9_live_77 rfl rfl ?_
          refine r_getR (z := (gn 41)) dX9_live_78 fl_X9_310 (by decide) rfl rfl ?_
          rw [y41]
          refine r_istore_n (lv2 := [(0, _), (1, _), (2, _), (3, _), (4, _), (5, _)]) dX9_live_81 rfl (by decide) rfl rfl ?_
          refine r_aload_n dX9_live_82 rfl rfl ?_
          refine r_getR (z := (gn 42)) dX9_live_83 fl_X9_313 (by decide) rfl rfl ?_
          rw [y42]
          refine r_istore (lv2 := [(0, _), (1, _), (2, _), (3, _), (4, _), (5, _)]) dX9_live_86 (by decide) rfl rfl ?_
          refine r_iinc (lv2 := [(0, _), (1, _), (2, _), (3, _), (4, _), (5, _)]) dX9_live_88 (by decide) rfl rfl rfl ?_
          refine r_goto (tgt := 25) dX9_live_91 (by decide) ?_
          refine r_lv (lv2 := [(0, _), (1, _), (2, _), (3, _), (4, _), (5, _)]) rfl ?_
          rw [show (j : Int) + 1 = ((j + 1 : Nat) : Int) by omega]
          have hi := ih (j + 1) gn lt2 lg2 (by omega) (tell_k4 trg (kp2 1 (by decide)) (kp2 2 (by decide)) (kp2 3 (by decide)) (kp2 31 (by decide))) li2 (fun k hk => (kp2 k hk).trans (kp k hk))
          first
            | rw [if_pos (by omega)] at e9
            | rw [if_neg (by omega)] at e9
          rw [e9] at hi
          exact hi
        · refine r_aload_n dX9_live_62 rfl rfl ?_
          refine r_getR (z := (gn 42)) dX9_live_63 fl_X9_313 (by decide) rfl rfl ?_
          rw [y42]
          refine r_iload dX9_live_66 rfl ?_
          refine r_icmp_lt (tgt := 74) dX9_live_68 (by decide) ⟨by omega, by omega⟩ ⟨by omega, by omega⟩ (fun g68 => ?_) (fun g68 => ?_)
          · refine r_iload dX9_live_74 rfl ?_
            refine r_istore_n (lv2 := [(0, _), (1, _), (2, _), (3, _), (4, _), (5, _)]) dX9_live_76 rfl (by decide) rfl rfl ?_
            refine r_aload_n dX9_live_77 rfl rfl ?_
            refine r_getR (z := (gn 41)) dX9_live_78 fl_X9_310 (by decide) rfl rfl ?_
            rw [y41]
            refine r_istore_n (lv2 := [(0, _), (1, _), (2, _), (3, _), (4, _), (5, _)]) dX9_live_81 rfl (by decide) rfl rfl ?_
            refine r_aload_n dX9_live_82 rfl rfl ?_
            refine r_getR (z := (gn 42)) dX9_live_83 fl_X9_313 (by decide) rfl rfl ?_
            rw [y42]
            refine r_istore (lv2 := [(0, _), (1, _), (2, _), (3, _), (4, _), (5, _)]) dX9_live_86 (by decide) rfl rfl ?_
            refine r_iinc (lv2 := [(0, _), (1, _), (2, _), (3, _), (4, _), (5, _)]) dX9_live_88 (by decide) rfl rfl rfl ?_
            refine r_goto (tgt := 25) dX9_live_91 (by decide) ?_
            refine r_lv (lv2 := [(0, _), (1, _), (2, _), (3, _), (4, _), (5, _)]) rfl ?_
            rw [show (j : Int) + 1 = ((j + 1 : Nat) : Int) by omega]
            have hi := ih (j + 1) gn lt2 lg2 (by omega) (tell_k4 trg (kp2 1 (by decide)) (kp2 2 (by decide)) (kp2 3 (by decide)) (kp2 31 (by decide))) li2 (fun k hk => (kp2 k hk).trans (kp k hk))
            first
              | rw [if_pos (by omega)] at e9
              | rw [if_neg (by omega)] at e9
            rw [e9] at hi
            exact hi
          · refine r_goto (tgt := 88) dX9_live_71 (by decide) ?_
            refine r_iinc (lv2 := [(0, _), (1, _), (2, _), (3, _), (4, _), (5, _)]) dX9_live_88 (by decide) rfl rfl rfl ?_
            refine r_goto (tgt := 25) dX9_live_91 (by decide) ?_
            refine r_lv (lv2 := [(0, _), (1, _), (2, _), (3, _), (4, _), (5, _)]) rfl ?_
            rw [show (j : Int) + 1 = ((j + 1 : Nat) : Int) by omega]
            have hi := ih (j + 1) gn lt2 lg2 (by omega) (tell_k4 trg (kp2 1 (by decide)) (kp2 2 (by decide)) (kp2 3 (by decide)) (kp2 31 (by decide))) li2 (fun k hk => (kp2 k hk).trans (kp k hk))
            first
              | rw [if_pos (by omega)] at e9
              | rw [if_neg (by omega)] at e9
            rw [e9] at hi
            exact hi

theorem s_X9_live {h : aH} {th : Int} {t : Nat → Int} {tp : Nat} {fpl hlaw himg : Int} {rf : Nat → Int} {nd sw nc hl hs : Int} {K U I O G L cf ct fc nx cd : Nat → Int} {nr ns nm : Int} {rd ry rm rt se md my mt : Nat → Int} {M : ND} {ls : LSm} (cr : RefC h (t, tp, fpl, rf, hlaw, himg, ((nd, sw, nc), (hl, hs), K, U, I, O, G, L, cf, ct, fc, nx, cd), ((nr, ns, nm), rd, ry, rm, rt, se, md, my, mt), M, ls) th) {m : Int} (im : inR m)  : mSem yX9_live cX9_live 6 (some .int) 7 0 0 [.ref 68, iv m] 97 h (RefQ (ocL [(minB m, 1)]) (lvS (fun j => ((yT (fun d => nowI sw nc nm K U I O G L cf ct cd md my mt (j : Nat) d m) m 365).1, (yT (fun d => nowI sw nc nm K U I O G L cf ct cd md my mt (j : Nat) d m) m 365).2.1)) nd.toNat).1 h (t, tp, fpl, rf, hlaw, himg, ((nd, sw, nc), (hl, hs), K, U, I, O, G, L, cf, ct, fc, nx, cd), ((nr, ns, nm), rd, ry, rm, rt, se, md, my, mt), M, ls)) noX := by
  refine RefC_elim cr (fun g dl cl lm trr rfr nD nC nL lt lgt mn rdg cpl grp sea rts row cod ncod pil opn stg bsd imo imr ims imm w c68 c69 c70 c71 c72 c73 c74 c75 c76 c77 c78 c79 c80 c81 c82 c83 c84 c85 c86 c87 c88 c89 c90 c91 c92 c93 c94 c95 hth rr => ?_)
  refine RR_elim rr (fun e8 e10 e33 e38 e44 e53 tr pi ni li rrf rtp htp rrd rse phl phi rim rco ht nM nsn => ?_)
  obtain ⟨t1, t2, t3, t31, pnm, tdl, tcl, tlm, tmd, pmt, pmd, pmy⟩ := id tr
  obtain ⟨pnd, psw, pnc, pK, pU, pI, pO, pG, pL, pcf, pct, pfc, pnx⟩ := id pi
  obtain ⟨pnr, pns, pnm2, prd, pry, prm, prt, pse, pmd2, pmy2, pmt2⟩ := id ni
  unfold inR at im
  refine mSem_of (own := RX9) (name := "live") pn_X9 rfl rfl (Nat.le_of_ble_eq_true rfl) ?_
  refine r_aload_n dX9_live_0 rfl rfl ?_
  refine r_iconst dX9_live_1 ?_
  refine r_putR dX9_live_2 fp_X9_102 (by decide) c68 (nar_int _) (Nat.le_of_ble_eq_true rfl) setR_0 (fun z0 hz0 => ?_)
  refine r_aload_n dX9_live_5 rfl rfl ?_
  refine r_iload_n dX9_live_6 rfl rfl ?_
  refine r_callV 68 [_] (s_X9_isMinute (by rfl) (by first | rfl | exact hz0) im) dX9_live_7 cs_X9_275 im_X9_isMinute (by decide) rfl rfl (by decide) (by decide) (by decide) rfl rfl (Nat.le_of_ble_eq_true rfl) (fun _ _ _ q => q.elim) (fun v n2 h2 q => ?_)
  obtain ⟨rfl, q⟩ := q
  rcases q with ⟨kb1, rfl, hh⟩ | ⟨kb1, rfl, hh⟩
  · obtain rfl := hh.symm
    have bm := of_decide_eq_true kb1
    refine ⟨rfl, ?_⟩
    dsimp only [Option.toList, List.cons_append, List.nil_append]
    refine r_if_ne (tgt := 15) dX9_live_10 (by decide) ⟨by omega, by omega⟩ (fun g10 => ?_) (fun g10 => absurd g10 (by omega))
    refine r_iconst dX9_live_15 ?_
    refine r_istore_n (lv2 := [(0, _), (1, _), (2, _)]) dX9_live_16 rfl (by decide) rfl rfl ?_
    refine r_iconst dX9_live_17 ?_
    refine r_istore_n (lv2 := [(0, _), (1, _), (2, _), (3, _)]) dX9_live_18 rfl (by decide) rfl rfl ?_
    refine r_iconst dX9_live_19 ?_
    refine r_istore (lv2 := [(0, _), (1, _), (2, _), (3, _), (4, _)]) dX9_live_20 (by decide) rfl rfl ?_
    refine r_iconst dX9_live_22 ?_
    refine r_istore (lv2 := [(0, _), (1, _), (2, _), (3, _), (4, _), (5, _)]) dX9_live_23 (by decide) rfl rfl ?_
    refine ev_h (ut_self (h := va_up h 68 (RG (va_up g 0 z0) w)) rfl c77 c78) ?_
    rw [ut_68]
    refine ev_post (l_X9_live c69 c70 c71 c79 pi bm nd.toNat 0 (va_up g 0 z0) lt lgt (by omega) (by exact tr) (by exact li) (g := va_up g 0 z0) (fun _ _ => rfl)) (fun v n2 h2 q => ?_) (fun _ _ _ q => q)
    obtain ⟨rfl, rfl, gn, lt2, lg2, rfl, li2, kp2⟩ := q
    exact ⟨rfl, ⟨_, rfl, fun _ => rfl⟩, (RefC_mk (g := gn) rfl (by exact c69) (by exact c70) (by exact c71) (by exact c72) (by exact c73) (by exact c74) (by exact c75) (by exact c76) rfl rfl (by exact c79) (by exact c80) (by exact c81) (by exact c82) (by exact c83) (by exact c84) (by exact c85) (by exact c86) (by exact c87) (by exact c88) (by exact c89) (by exact c90) (by exact c91) (by exact c92) (by exact c93) (by exact c94) (by exact c95) (by first | exact (hz0.trans (congrArg (fun n : Nat => (n : Int)) ((ocT kb1).trans ocE).symm)) | exact (kp2 0 (by decide)).trans (hz0.trans (congrArg (fun n : Nat => (n : Int)) ((ocT kb1).trans ocE).symm))) (RR_mk (by first | exact e8 | exact (kp2 8 (by decide)).trans e8) (by first | exact e10 | exact (kp2 10 (by decide)).trans e10) (by first | exact e33 | exact (kp2 33 (by decide)).trans e33) (by first | exact e38 | exact (kp2 38 (by decide)).trans e38) (by first | exact e44 | exact (kp2 44 (by decide)).trans e44) (by first | exact e53 | exact (kp2 53 (by decide)).trans e53) (tell_k4 (by exact tr) (kp2 1 (by decide)) (kp2 2 (by decide)) (kp2 3 (by decide)) (kp2 31 (by decide))) pi ni (by first | exact li | exact li2) rrf rtp htp rrd rse phl phi rim rco ht nM nsn)), (by repeat (first | exact fun _ _ => rfl | refine frr_up ?_ (by decide)))⟩
  · obtain rfl := hh.symm
    refine ⟨rfl, ?_⟩
    dsimp only [Option.toList, List.cons_append, List.nil_append]
    refine r_if_ne (tgt := 15) dX9_live_10 (by decide) ⟨by omega, by omega⟩ (fun g10 => absurd g10 (by omega)) (fun g10 => ?_)
    refine r_iconst dX9_live_13 ?_
    refine r_iret dX9_live_14 ?_
    first
      | exact ⟨rfl, ⟨0, rfl, fun z => absurd ((ocF kb1).symm.trans z) (by decide)⟩, (RefC_mk (g := (va_up (va_up g 0 z0) 0 1)) rfl (by exact c69) (by exact c70) (by exact c71) (by exact c72) (by exact c73) (by exact c74) (by exact c75) (by exact c76) (by exact c77) (by exact c78) (by exact c79) (by exact c80) (by exact c81) (by exact c82) (by exact c83) (by exact c84) (by exact c85) (by exact c86) (by exact c87) (by exact c88) (by exact c89) (by exact c90) (by exact c91) (by exact c92) (by exact c93) (by exact c94) (by exact c95) (congrArg (fun n : Nat => (n : Int)) (ocF kb1).symm) (RR_mk (by first | exact e8 | exact (kp2 8 (by decide)).trans e8) (by first | exact e10 | exact (kp2 10 (by decide)).trans e10) (by first | exact e33 | exact (kp2 33 (by decide)).trans e33) (by first | exact e38 | exact (kp2 38 (by decide)).trans e38) (by first | exact e44 | exact (kp2 44 (by decide)).trans e44) (by first | exact e53 | exact (kp2 53 (by decide)).trans e53) (by first | exact tr | exact tell_kp (by exact tr) kp2) pi ni (by first | exact li | exact li2) rrf rtp htp rrd rse phl phi rim rco ht nM nsn)), (by repeat (first | exact fun _ _ => rfl | refine frr_up ?_ (by decide)))⟩

