/-! ===== the public methods: faults, next ===== -/
def wgN (sw nc nr : Int) (K O G L cf ct cd rd ry rm rt : Nat → Int) (di : Int) : Nat → Int × Int := (wtI (fun ti => plnT sw nc K O G L cf ct cd (rd (firstR rd di 0 nr.toNat).toNat) (ry (firstR rd di 0 nr.toNat).toNat) (rm (firstR rd di 0 nr.toNat).toNat) ti) (fun tu ti => allR (fun dy mi => tldI sw nc K O G L cf ct cd (rd (firstR rd di 0 nr.toNat).toNat) dy mi tu ti) rd ry rm rt (rd (firstR rd di 0 nr.toNat).toNat) nr.toNat) (rt (firstR rd di 0 nr.toNat).toNat) (firstR rd di 0 nr.toNat))
theorem wgN_B (sw nc nr : Int) (K O G L cf ct cd rd ry rm rt : Nat → Int) (di : Int) (i : Nat) : (-60 ≤ (wgN sw nc nr K O G L cf ct cd rd ry rm rt di i).1 ∧ (wgN sw nc nr K O G L cf ct cd rd ry rm rt di i).1 ≤ 60) ∧ (-60 ≤ (wgN sw nc nr K O G L cf ct cd rd ry rm rt di i).2 ∧ (wgN sw nc nr K O G L cf ct cd rd ry rm rt di i).2 ≤ 60) ∧ (wgN sw nc nr K O G L cf ct cd rd ry rm rt di i).1 ≤ (wgN sw nc nr K O G L cf ct cd rd ry rm rt di i).2 + 1 := wtI_B _ _ _ _ i
theorem s_X8_faults {h : aH} {t : Nat → Int} {tp : Nat} {fpl hlaw himg : Int} {rf : Nat → Int} {nd sw nc hl hs : Int} {K U I O G L cf ct fc nx cd : Nat → Int} {nr ns nm : Int} {rd ry rm rt se md my mt : Nat → Int} {M : ND} {ls : LSm} (cc : CanC h (t, tp, fpl, rf, hlaw, himg, ((nd, sw, nc), (hl, hs), K, U, I, O, G, L, cf, ct, fc, nx, cd), ((nr, ns, nm), rd, ry, rm, rt, se, md, my, mt), M, ls)) {di w : Int} (idi : inR di) (iw : inR w)  : mSem yX8_faults cX8_faults 3 (some .int) 9 3 18 [.ref 0, iv di, iv w] 97 h (PubQ (ocL [(diaB nd di, 1), (whaB w 4, 1), (decide (w = 0 ∨ ¬ (cpS (wgN sw nc nr K O G L cf ct cd rd ry rm rt di) 41) = 0), 2)]) (some (iv (ftV (cpS (wgN sw nc nr K O G L cf ct cd rd ry rm rt di) 41) (fun i => ((wgN sw nc nr K O G L cf ct cd rd ry rm rt di) i).1) (fun i => ((wgN sw nc nr K O G L cf ct cd rd ry rm rt di) i).2) w))) h (t, tp, fpl, rf, hlaw, himg, ((nd, sw, nc), (hl, hs), K, U, I, O, G, L, cf, ct, fc, nx, cd), ((nr, ns, nm), rd, ry, rm, rt, se, md, my, mt), M, ls)) (PubX (ocL [(diaB nd di, 1), (whaB w 4, 1), (decide (w = 0 ∨ ¬ (cpS (wgN sw nc nr K O G L cf ct cd rd ry rm rt di) 41) = 0), 2)]) h (t, tp, fpl, rf, hlaw, himg, ((nd, sw, nc), (hl, hs), K, U, I, O, G, L, cf, ct, fc, nx, cd), ((nr, ns, nm), rd, ry, rm, rt, se, md, my, mt), M, ls)) := by
  obtain ⟨c0, c1, c2, ⟨ht, htp, phl, phi⟩, pC, nC, mC, lC, s3, s4, s5, s17, s34, s58, s62, s65, s66, s67⟩ := id cc
  obtain ⟨c6, c7, c8, c9, c10, c11, c12, c13, c14, c15, c16, pi⟩ := id pC
  obtain ⟨c40, c41, c42, c43, c44, c45, c46, c47, c48, ni, nsn⟩ := id nC
  obtain ⟨pnd, psw, pnc, pK, pU, pI, pO, pG, pL, pcf, pct, pfc, pnx⟩ := id pi
  obtain ⟨pnr, pns, pnm, prd, pry, prm, prt, pse, pmd, pmy, pmt⟩ := id ni
  unfold inR at idi iw
  obtain ⟨cp0, fr0, tt0, sf0, c58, c59, c60, c61⟩ := id s58
  have bW := wgN_B sw nc nr K O G L cf ct cd rd ry rm rt di
  have bC := cpS_B bW 41
  have hfr : ∀ j, j < 41 → -1000 ≤ (fun i => ((wgN sw nc nr K O G L cf ct cd rd ry rm rt di) i).1) j ∧ (fun i => ((wgN sw nc nr K O G L cf ct cd rd ry rm rt di) i).1) j ≤ 1000 := fun j _ => by have := bW j; dsimp only; omega
  have htt : ∀ j, j < 41 → -1000 ≤ (fun i => ((wgN sw nc nr K O G L cf ct cd rd ry rm rt di) i).2) j ∧ (fun i => ((wgN sw nc nr K O G L cf ct cd rd ry rm rt di) i).2) j ≤ 1000 := fun j _ => by have := bW j; dsimp only; omega
  refine mSem_of (own := RX8) (name := "faults") pn_X8 rfl rfl (Nat.le_of_ble_eq_true rfl) ?_
  refine r_aload_n dX8_faults_0 rfl rfl ?_
  refine r_iload_n dX8_faults_1 rfl rfl ?_
  refine r_callV 0 [_] (s_X8_needDial c0 c6 pnd idi) dX8_faults_2 cs_X8_209 im_X8_needDial (by decide) c0 rfl (by decide) (by decide) (by decide) rfl rfl (Nat.le_of_ble_eq_true rfl) (fun E n2 h2 q => by
    obtain ⟨rfl, nk, rfl, rfl⟩ := q
    exact ⟨rfl, Or.inl ⟨by simp [ocL, nk], rfl⟩, rfl, cls_of cc, fun _ _ => rfl⟩) (fun v n2 h2 q => ?_)
  obtain ⟨k1, rfl, rfl, hh⟩ := q
  obtain rfl := hh.symm
  have bdi := of_decide_eq_true k1
  refine ⟨rfl, ?_⟩
  dsimp only [Option.toList, List.cons_append, List.nil_append]
  refine r_iload_n dX8_faults_5 rfl rfl ?_
  refine r_iconst dX8_faults_6 ?_
  refine r_callS [_, _] (s_X8_needWhat iw ⟨by decide, by decide⟩) dX8_faults_7 cs_X8_160 sm_X8_needWhat (by decide) (by decide) (by decide) rfl rfl (Nat.le_of_ble_eq_true rfl) (fun E n2 h2 q => by
    obtain ⟨rfl, nk, rfl, rfl⟩ := q
    exact ⟨rfl, Or.inl ⟨by simp [ocL, k1, nk], rfl⟩, rfl, cls_of cc, fun _ _ => rfl⟩) (fun v n2 h2 q => ?_)
  obtain ⟨k2, rfl, rfl, hh⟩ := q
  obtain rfl := hh.symm
  have bw := of_decide_eq_true k2
  refine ⟨rfl, ?_⟩
  dsimp only [Option.toList, List.cons_append, List.nil_append]
  refine r_aload_n dX8_faults_10 rfl rfl ?_
  refine r_get (fs := [_, _, _, _, _, _, _, _, _, _, _, _, _, _, _, _, _, _, _, _]) dX8_faults_11 fl_X8_85 (by decide) c0 rfl ?_
  refine r_aload_n dX8_faults_14 rfl rfl ?_
  refine r_get (fs := [_, _, _, _, _, _, _, _, _, _, _, _, _, _, _, _, _, _, _, _]) dX8_faults_15 fl_X8_48 (by decide) c0 rfl ?_
  refine r_aload_n dX8_faults_18 rfl rfl ?_
  refine r_get (fs := [_, _, _, _, _, _, _, _, _, _, _, _, _, _, _, _, _, _, _, _]) dX8_faults_19 fl_X8_72 (by decide) c0 rfl ?_
  refine r_iload_n dX8_faults_22 rfl rfl ?_
  refine r_callV 58 [.ref 6, .ref 40, _] (s_X0_weigh c6 c7 c8 c9 c10 c11 c12 c13 c14 c15 c16 c40 c41 c42 c43 c44 c45 c46 c47 c48 c58 c59 c60 pi ni (by omega)) dX8_faults_23 cs_X8_252 im_X0_weigh (by decide) c58 rfl (by decide) (by decide) (by decide) rfl rfl (Nat.le_of_ble_eq_true rfl) (fun _ _ _ q => q.elim) (fun v n2 h2 q => ?_)
  obtain ⟨rfl, rfl, hh⟩ := q
  obtain rfl := hh.symm
  refine ⟨rfl, ?_⟩
  dsimp only [Option.toList, List.cons_append, List.nil_append]
  refine ev_arr 59 (fun i => ((wgN sw nc nr K O G L cf ct cd rd ry rm rt di) i).1) rfl (fun j hj => by unfold cpyF; rw [if_pos hj]; rfl) ?_
  refine ev_arr 60 (fun i => ((wgN sw nc nr K O G L cf ct cd rd ry rm rt di) i).2) rfl (fun j hj => by unfold cpyF; rw [if_pos hj]; rfl) ?_
  have eC : cpS (wtI (fun ti => plnT sw nc K O G L cf ct cd (rd (firstR rd di 0 nr.toNat).toNat) (ry (firstR rd di 0 nr.toNat).toNat) (rm (firstR rd di 0 nr.toNat).toNat) ti) (fun tu ti => allR (fun dy mi => tldI sw nc K O G L cf ct cd (rd (firstR rd di 0 nr.toNat).toNat) dy mi tu ti) rd ry rm rt (rd (firstR rd di 0 nr.toNat).toNat) nr.toNat) (rt (firstR rd di 0 nr.toNat).toNat) (firstR rd di 0 nr.toNat)) 41 = (cpS (wgN sw nc nr K O G L cf ct cd rd ry rm rt di) 41) := rfl
  refine r_iload_n dX8_faults_26 rfl rfl ?_
  refine r_if_ne (tgt := 38) dX8_faults_27 (by decide) ⟨by omega, by omega⟩ (fun g27 => ?_) (fun g27 => ?_)
  · refine r_aload_n dX8_faults_38 rfl rfl ?_
    refine r_get (fs := [_, _, _, _, _, _, _, _, _, _, _, _, _, _, _, _, _, _, _, _]) dX8_faults_39 fl_X8_85 (by decide) c0 rfl ?_
    refine r_get (fs := [_, _, _, _]) dX8_faults_42 fl_X8_256 (by decide) rfl rfl ?_
    refine r_if_ne (tgt := 59) dX8_faults_45 (by decide) ⟨by omega, by omega⟩ (fun g45 => ?_) (fun g45 => ?_)
    · refine r_iload_n dX8_faults_59 rfl rfl ?_
      refine r_tsw3 (td := 112) (t0 := 88) (t1 := 96) (t2 := 104) dX8_faults_60 rfl ⟨by omega, by omega⟩ (by decide) (by decide) (by decide) (by decide) (fun g60 => ?_) (fun g60 => ?_) (fun g60 => ?_) (fun g60 => ?_)
      · refine r_aload_n dX8_faults_112 rfl rfl ?_
        refine r_get (fs := [_, _, _, _, _, _, _, _, _, _, _, _, _, _, _, _, _, _, _, _]) dX8_faults_113 fl_X8_85 (by decide) c0 rfl ?_
        refine r_callV 58 [] (s_X0_greatestTilt (by rfl) (by rfl) (by rfl) hfr htt) dX8_faults_116 cs_X8_273 im_X0_greatestTilt (by decide) rfl rfl (by decide) (by decide) (by decide) rfl rfl (Nat.le_of_ble_eq_true rfl) (fun _ _ _ q => q.elim) (fun v n2 h2 q => ?_)
        obtain ⟨rfl, rfl, hh⟩ := q
        obtain rfl := hh.symm
        refine ⟨rfl, ?_⟩
        dsimp only [Option.toList, List.cons_append, List.nil_append]
        refine r_iret dX8_faults_119 ?_
        exact ⟨by simp only [ocL, k1, k2, if_true]; exact if_pos (by rw [decide_eq_true_eq]; omega), (ivE (by unfold ftV; rw [if_neg (by omega), if_neg (by omega), if_neg (by omega), if_neg (by omega)])), rfl, cls_of ⟨(by first | rfl | exact c0), (by first | rfl | exact c1), (by first | rfl | exact c2), ⟨ht, htp, phl, phi⟩, (by exact pC), (by exact nC), (by exact mC), (by exact lC), (by exact s3), (by exact s4), (by exact s5), (by exact s17), (by exact s34), ⟨_, _, _, _, (by first | rfl | exact c58), (by first | rfl | exact c59), (by first | rfl | exact c60), (by first | rfl | exact c61)⟩, (by exact s62), (by exact s65), (by exact s66), (by exact s67)⟩, (by repeat (first | exact fun _ _ => rfl | refine fr_up ?_ (by decide)))⟩
      · refine r_aload_n dX8_faults_88 rfl rfl ?_
        refine r_get (fs := [_, _, _, _, _, _, _, _, _, _, _, _, _, _, _, _, _, _, _, _]) dX8_faults_89 fl_X8_85 (by decide) c0 rfl ?_
        refine r_callV 58 [] (s_X0_leastTurn (by rfl) (by rfl) (by rfl) hfr htt) dX8_faults_92 cs_X8_264 im_X0_leastTurn (by decide) rfl rfl (by decide) (by decide) (by decide) rfl rfl (Nat.le_of_ble_eq_true rfl) (fun _ _ _ q => q.elim) (fun v n2 h2 q => ?_)
        obtain ⟨rfl, rfl, hh⟩ := q
        obtain rfl := hh.symm
        refine ⟨rfl, ?_⟩
        dsimp only [Option.toList, List.cons_append, List.nil_append]
        refine r_iret dX8_faults_95 ?_
        exact ⟨by simp only [ocL, k1, k2, if_true]; exact if_pos (by rw [decide_eq_true_eq]; omega), (ivE (by unfold ftV; rw [if_neg (by omega), if_pos (by omega)])), rfl, cls_of ⟨(by first | rfl | exact c0), (by first | rfl | exact c1), (by first | rfl | exact c2), ⟨ht, htp, phl, phi⟩, (by exact pC), (by exact nC), (by exact mC), (by exact lC), (by exact s3), (by exact s4), (by exact s5), (by exact s17), (by exact s34), ⟨_, _, _, _, (by first | rfl | exact c58), (by first | rfl | exact c59), (by first | rfl | exact c60), (by first | rfl | exact c61)⟩, (by exact s62), (by exact s65), (by exact s66), (by exact s67)⟩, (by repeat (first | exact fun _ _ => rfl | refine fr_up ?_ (by decide)))⟩
      · refine r_aload_n dX8_faults_96 rfl rfl ?_
        refine r_get (fs := [_, _, _, _, _, _, _, _, _, _, _, _, _, _, _, _, _, _, _, _]) dX8_faults_97 fl_X8_85 (by decide) c0 rfl ?_
        refine r_callV 58 [] (s_X0_greatestTurn (by rfl) (by rfl) (by rfl) hfr htt) dX8_faults_100 cs_X8_267 im_X0_greatestTurn (by decide) rfl rfl (by decide) (by decide) (by decide) rfl rfl (Nat.le_of_ble_eq_true rfl) (fun _ _ _ q => q.elim) (fun v n2 h2 q => ?_)
        obtain ⟨rfl, rfl, hh⟩ := q
        obtain rfl := hh.symm
        refine ⟨rfl, ?_⟩
        dsimp only [Option.toList, List.cons_append, List.nil_append]
        refine r_iret dX8_faults_103 ?_
        exact ⟨by simp only [ocL, k1, k2, if_true]; exact if_pos (by rw [decide_eq_true_eq]; omega), (ivE (by unfold ftV; rw [if_neg (by omega), if_neg (by omega), if_pos (by omega)])), rfl, cls_of ⟨(by first | rfl | exact c0), (by first | rfl | exact c1), (by first | rfl | exact c2), ⟨ht, htp, phl, phi⟩, (by exact pC), (by exact nC), (by exact mC), (by exact lC), (by exact s3), (by exact s4), (by exact s5), (by exact s17), (by exact s34), ⟨_, _, _, _, (by first | rfl | exact c58), (by first | rfl | exact c59), (by first | rfl | exact c60), (by first | rfl | exact c61)⟩, (by exact s62), (by exact s65), (by exact s66), (by exact s67)⟩, (by repeat (first | exact fun _ _ => rfl | refine fr_up ?_ (by decide)))⟩
      · refine r_aload_n dX8_faults_104 rfl rfl ?_
        refine r_get (fs := [_, _, _, _, _, _, _, _, _, _, _, _, _, _, _, _, _, _, _, _]) dX8_faults_105 fl_X8_85 (by decide) c0 rfl ?_
        refine r_callV 58 [] (s_X0_leastTilt (by rfl) (by rfl) (by rfl) hfr htt) dX8_faults_108 cs_X8_270 im_X0_leastTilt (by decide) rfl rfl (by decide) (by decide) (by decide) rfl rfl (Nat.le_of_ble_eq_true rfl) (fun _ _ _ q => q.elim) (fun v n2 h2 q => ?_)
        obtain ⟨rfl, rfl, hh⟩ := q
        obtain rfl := hh.symm
        refine ⟨rfl, ?_⟩
        dsimp only [Option.toList, List.cons_append, List.nil_append]
        refine r_iret dX8_faults_111 ?_
        exact ⟨by simp only [ocL, k1, k2, if_true]; exact if_pos (by rw [decide_eq_true_eq]; omega), (ivE (by unfold ftV; rw [if_neg (by omega), if_neg (by omega), if_neg (by omega), if_pos (by omega)])), rfl, cls_of ⟨(by first | rfl | exact c0), (by first | rfl | exact c1), (by first | rfl | exact c2), ⟨ht, htp, phl, phi⟩, (by exact pC), (by exact nC), (by exact mC), (by exact lC), (by exact s3), (by exact s4), (by exact s5), (by exact s17), (by exact s34), ⟨_, _, _, _, (by first | rfl | exact c58), (by first | rfl | exact c59), (by first | rfl | exact c60), (by first | rfl | exact c61)⟩, (by exact s62), (by exact s65), (by exact s66), (by exact s67)⟩, (by repeat (first | exact fun _ _ => rfl | refine fr_up ?_ (by decide)))⟩
    · refine r_throwI (is := 261) (i := 30) (k := 3) (tx := "no fault fits") (by decide +kernel) dX8_faults_48 dX8_faults_51 (Or.inr ⟨dX8_faults_52, rfl⟩) dX8_faults_55 dX8_faults_58 (by decide) (by decide) (by decide) (Nat.le_of_ble_eq_true rfl) ?_
      exact ⟨Or.inr ⟨by simp only [ocL, k1, k2, if_true]; exact if_neg (by rw [decide_eq_true_eq]; omega), rfl⟩, rfl, cls_of ⟨(by first | rfl | exact c0), (by first | rfl | exact c1), (by first | rfl | exact c2), ⟨ht, htp, phl, phi⟩, (by exact pC), (by exact nC), (by exact mC), (by exact lC), (by exact s3), (by exact s4), (by exact s5), (by exact s17), (by exact s34), ⟨_, _, _, _, (by first | rfl | exact c58), (by first | rfl | exact c59), (by first | rfl | exact c60), (by first | rfl | exact c61)⟩, (by exact s62), (by exact s65), (by exact s66), (by exact s67)⟩, (by repeat (first | exact fun _ _ => rfl | refine fr_up ?_ (by decide)))⟩
  · skip
    refine r_aload_n dX8_faults_30 rfl rfl ?_
    refine r_get (fs := [_, _, _, _, _, _, _, _, _, _, _, _, _, _, _, _, _, _, _, _]) dX8_faults_31 fl_X8_85 (by decide) c0 rfl ?_
    refine r_get (fs := [_, _, _, _]) dX8_faults_34 fl_X8_256 (by decide) rfl rfl ?_
    refine r_iret dX8_faults_37 ?_
    exact ⟨by simp only [ocL, k1, k2, if_true]; exact if_pos (by rw [decide_eq_true_eq]; omega), (ivE (by unfold ftV; rw [if_pos (by omega)]; exact eC)), rfl, cls_of ⟨(by first | rfl | exact c0), (by first | rfl | exact c1), (by first | rfl | exact c2), ⟨ht, htp, phl, phi⟩, (by exact pC), (by exact nC), (by exact mC), (by exact lC), (by exact s3), (by exact s4), (by exact s5), (by exact s17), (by exact s34), ⟨_, _, _, _, (by first | rfl | exact c58), (by first | rfl | exact c59), (by first | rfl | exact c60), (by first | rfl | exact c61)⟩, (by exact s62), (by exact s65), (by exact s66), (by exact s67)⟩, (by repeat (first | exact fun _ _ => rfl | refine fr_up ?_ (by decide)))⟩

theorem l_X8_next {t : Nat → Int} {tp : Nat} {fpl hlaw himg : Int} {rf : Nat → Int} {nd sw nc hl hs : Int} {K U I O G L cf ct fc nx cd : Nat → Int} {nr ns nm : Int} {rd ry rm rt se md my mt : Nat → Int} {M : ND} {ls : LSm} {h0 : aH} {oc : Nat} (hoc : oc = 0) {X : String → Nat → aH → Prop} {di day w : Int} (bdi : 0 ≤ di ∧ di < nd) (bday : 0 ≤ day ∧ day < 365) (bw : 0 ≤ w ∧ w ≤ 1) (hC : ¬ (cpS (wgN sw nc nr K O G L cf ct cd rd ry rm rt di) 41) = 0) {gg : Int → Int} (hgg : ∀ m, ggI (fun i => ((wgN sw nc nr K O G L cf ct cd rd ry rm rt di) i).1) (fun i => ((wgN sw nc nr K O G L cf ct cd rd ry rm rt di) i).2) (fun ti => plnT sw nc K O G L cf ct cd di day m ti) (K di.toNat) (cpS (wgN sw nc nr K O G L cf ct cd rd ry rm rt di) 41) = gg m) (b1 : ∀ m, -1000000 ≤ gg m ∧ gg m ≤ 1000000) : ∀ (k j : Nat) (h : aH), j + k = 96 → CanC h (t, tp, fpl, rf, hlaw, himg, ((nd, sw, nc), (hl, hs), K, U, I, O, G, L, cf, ct, fc, nx, cd), ((nr, ns, nm), rd, ry, rm, rt, se, md, my, mt), M, ls) → FrC h0 h → h 58 = FTO (cpS (wgN sw nc nr K O G L cf ct cd rd ry rm rt di) 41) → h 59 = .inl (0, 41, (fun i => ((wgN sw nc nr K O G L cf ct cd rd ry rm rt di) i).1)) → h 60 = .inl (0, 41, (fun i => ((wgN sw nc nr K O G L cf ct cd rd ry rm rt di) i).2)) → Ev RX8 "next" cX8_next 8 (some .int) 9 0 0 (PubQ oc (some (iv (if (cpS (wgN sw nc nr K O G L cf ct cd rd ry rm rt di) 41) = 0 then -1 else if w = 0 then (nxS gg 96).1 else (nxS gg 96).2))) h0 (t, tp, fpl, rf, hlaw, himg, ((nd, sw, nc), (hl, hs), K, U, I, O, G, L, cf, ct, fc, nx, cd), ((nr, ns, nm), rd, ry, rm, rt, se, md, my, mt), M, ls)) X 97 h 51 [(0, .ref 0), (1, iv di), (2, iv day), (3, iv w), (4, iv (nxS gg j).1), (5, iv (nxS gg j).2), (6, iv (15 * (j : Int)))] [] := by
  intro k
  induction k with
  | zero =>
    intro j h hj cc fr c58 c59 c60
    obtain rfl : j = 96 := by omega
    refine r_iload dX8_next_51 rfl ?_
    refine r_sipush dX8_next_53 rfl ?_
    refine r_icmp_ge (tgt := 103) dX8_next_56 (by decide) ⟨by omega, by omega⟩ ⟨by omega, by omega⟩ (fun g56 => ?_) (fun g56 => absurd g56 (by omega))
    refine r_iload_n dX8_next_103 rfl rfl ?_
    refine r_if_ne (tgt := 112) dX8_next_104 (by decide) ⟨by omega, by omega⟩ (fun g104 => ?_) (fun g104 => ?_)
    · refine r_iload dX8_next_112 rfl ?_
      refine r_iret dX8_next_114 ?_
      exact ⟨hoc, (ivE (by rw [if_neg hC]; first | rw [if_pos g104] | rw [if_neg g104])), rfl, cls_of cc, fr⟩
    · refine r_iload dX8_next_107 rfl ?_
      refine r_goto (tgt := 114) dX8_next_109 (by decide) ?_
      refine r_iret dX8_next_114 ?_
      exact ⟨hoc, (ivE (by rw [if_neg hC]; first | rw [if_pos g104] | rw [if_neg g104])), rfl, cls_of cc, fr⟩
  | succ k ih =>
    intro j h hj cc fr c58 c59 c60
    obtain ⟨c0, c1, c2, ⟨ht, htp, phl, phi⟩, pC, nC, mC, lC, s3, s4, s5, s17, s34, s58, s62, s65, s66, s67⟩ := id cc
    obtain ⟨c6, c7, c8, c9, c10, c11, c12, c13, c14, c15, c16, pi⟩ := id pC
    obtain ⟨c40, c41, c42, c43, c44, c45, c46, c47, c48, ni, nsn⟩ := id nC
    obtain ⟨pnd, psw, pnc, pK, pU, pI, pO, pG, pL, pcf, pct, pfc, pnx⟩ := id pi
    obtain ⟨pnr, pns, pnm, prd, pry, prm, prt, pse, pmd, pmy, pmt⟩ := id ni
    obtain ⟨cp0, fr0, tt0, sf0, c58o, c59o, c60o, c61⟩ := id s58
    have bW := wgN_B sw nc nr K O G L cf ct cd rd ry rm rt di
    have bC := cpS_B bW 41
    have hfr : ∀ j, j < 41 → -1000 ≤ (fun i => ((wgN sw nc nr K O G L cf ct cd rd ry rm rt di) i).1) j ∧ (fun i => ((wgN sw nc nr K O G L cf ct cd rd ry rm rt di) i).1) j ≤ 1000 := fun j _ => by have := bW j; dsimp only; omega
    have htt : ∀ j, j < 41 → -1000 ≤ (fun i => ((wgN sw nc nr K O G L cf ct cd rd ry rm rt di) i).2) j ∧ (fun i => ((wgN sw nc nr K O G L cf ct cd rd ry rm rt di) i).2) j ≤ 1000 := fun j _ => by have := bW j; dsimp only; omega
    have b2 := nxS_B b1 j
    have b3 := b1 (15 * (j : Int))
    have hi := fun h => ih (j + 1) h (by omega)
    have e9 := nxS_s gg j
    refine r_iload dX8_next_51 rfl ?_
    refine r_sipush dX8_next_53 rfl ?_
    refine r_icmp_ge (tgt := 103) dX8_next_56 (by decide) ⟨by omega, by omega⟩ ⟨by omega, by omega⟩ (fun g56 => absurd g56 (by omega)) (fun g56 => ?_)
    refine r_aload_n dX8_next_59 rfl rfl ?_
    refine r_get (fs := [_, _, _, _, _, _, _, _, _, _, _, _, _, _, _, _, _, _, _, _]) dX8_next_60 fl_X8_85 (by decide) c0 rfl ?_
    refine r_aload_n dX8_next_63 rfl rfl ?_
    refine r_get (fs := [_, _, _, _, _, _, _, _, _, _, _, _, _, _, _, _, _, _, _, _]) dX8_next_64 fl_X8_48 (by decide) c0 rfl ?_
    refine r_iload_n dX8_next_67 rfl rfl ?_
    refine r_iload_n dX8_next_68 rfl rfl ?_
    refine r_iload dX8_next_69 rfl ?_
    refine r_callV 58 [.ref 6, _, _, _] (s_X0_greatestGroup c6 c7 c8 c9 c10 c11 c12 c13 c14 c15 c16 c58 c59 c60 c61 pi (by omega) hfr htt (by omega) (by omega) (by omega)) dX8_next_71 cs_X8_276 im_X0_greatestGroup (by decide) c58 rfl (by decide) (by decide) (by decide) rfl rfl (Nat.le_of_ble_eq_true rfl) (fun _ _ _ q => q.elim) (fun v n2 h2 q => ?_)
    obtain ⟨rfl, rfl, f2, rfl⟩ := q
    refine ⟨rfl, ?_⟩
    dsimp only [Option.toList, List.cons_append, List.nil_append]
    rw [hgg]
    refine r_istore (lv2 := [(0, _), (1, _), (2, _), (3, _), (4, _), (5, _), (6, _), (7, _)]) dX8_next_74 (by decide) rfl rfl ?_
    refine r_iload dX8_next_76 rfl ?_
    refine r_iconst dX8_next_78 ?_
    refine r_icmp_eq (tgt := 89) dX8_next_79 (by decide) ⟨by omega, by omega⟩ ⟨by omega, by omega⟩ (fun g79 => ?_) (fun g79 => ?_)
    · refine r_iload dX8_next_89 rfl ?_
      refine r_istore (lv2 := [(0, _), (1, _), (2, _), (3, _), (4, _), (5, _), (6, _), (7, _)]) dX8_next_91 (by decide) rfl rfl ?_
      refine r_iload dX8_next_93 rfl ?_
      refine r_istore (lv2 := [(0, _), (1, _), (2, _), (3, _), (4, _), (5, _), (6, _), (7, _)]) dX8_next_95 (by decide) rfl rfl ?_
      refine r_iinc (lv2 := [(0, _), (1, _), (2, _), (3, _), (4, _), (5, _), (6, _), (7, _)]) dX8_next_97 (by decide) rfl rfl rfl ?_
      refine r_goto (tgt := 51) dX8_next_100 (by decide) ?_
      refine r_lv (lv2 := [(0, _), (1, _), (2, _), (3, _), (4, _), (5, _), (6, _)]) rfl ?_
      rw [show 15 * (j : Int) + 15 = 15 * ((j + 1 : Nat) : Int) by omega]
      first
        | rw [if_pos (by omega)] at e9
        | rw [if_neg (by omega)] at e9
      rw [e9] at hi
      exact hi _ ⟨(by first | rfl | exact c0), (by first | rfl | exact c1), (by first | rfl | exact c2), ⟨ht, htp, phl, phi⟩, (by exact pC), (by exact nC), (by exact mC), (by exact lC), (by exact s3), (by exact s4), (by exact s5), (by exact s17), (by exact s34), ⟨_, _, _, _, (by first | rfl | exact c58), (by first | rfl | exact c59), (by first | rfl | exact c60), (by first | rfl | exact c61)⟩, (by exact s62), (by exact s65), (by exact s66), (by exact s67)⟩ (by repeat (first | exact fr | refine fr_up ?_ (by decide))) (by first | rfl | exact c58) (by first | rfl | exact c59) (by first | rfl | exact c60)
    · refine r_iload dX8_next_82 rfl ?_
      refine r_iload dX8_next_84 rfl ?_
      refine r_icmp_ge (tgt := 97) dX8_next_86 (by decide) ⟨by omega, by omega⟩ ⟨by omega, by omega⟩ (fun g86 => ?_) (fun g86 => ?_)
      · refine r_iinc (lv2 := [(0, _), (1, _), (2, _), (3, _), (4, _), (5, _), (6, _), (7, _)]) dX8_next_97 (by decide) rfl rfl rfl ?_
        refine r_goto (tgt := 51) dX8_next_100 (by decide) ?_
        refine r_lv (lv2 := [(0, _), (1, _), (2, _), (3, _), (4, _), (5, _), (6, _)]) rfl ?_
        rw [show 15 * (j : Int) + 15 = 15 * ((j + 1 : Nat) : Int) by omega]
        first
          | rw [if_pos (by omega)] at e9
          | rw [if_neg (by omega)] at e9
        rw [e9] at hi
        exact hi _ ⟨(by first | rfl | exact c0), (by first | rfl | exact c1), (by first | rfl | exact c2), ⟨ht, htp, phl, phi⟩, (by exact pC), (by exact nC), (by exact mC), (by exact lC), (by exact s3), (by exact s4), (by exact s5), (by exact s17), (by exact s34), ⟨_, _, _, _, (by first | rfl | exact c58), (by first | rfl | exact c59), (by first | rfl | exact c60), (by first | rfl | exact c61)⟩, (by exact s62), (by exact s65), (by exact s66), (by exact s67)⟩ (by repeat (first | exact fr | refine fr_up ?_ (by decide))) (by first | rfl | exact c58) (by first | rfl | exact c59) (by first | rfl | exact c60)
      · refine r_iload dX8_next_89 rfl ?_
        refine r_istore (lv2 := [(0, _), (1, _), (2, _), (3, _), (4, _), (5, _), (6, _), (7, _)]) dX8_next_91 (by decide) rfl rfl ?_
        refine r_iload dX8_next_93 rfl ?_
        refine r_istore (lv2 := [(0, _), (1, _), (2, _), (3, _), (4, _), (5, _), (6, _), (7, _)]) dX8_next_95 (by decide) rfl rfl ?_
        refine r_iinc (lv2 := [(0, _), (1, _), (2, _), (3, _), (4, _), (5, _), (6, _), (7, _)]) dX8_next_97 (by decide) rfl rfl rfl ?_
        refine r_goto (tgt := 51) dX8_next_100 (by decide) ?_
        refine r_lv (lv2 := [(0, _), (1, _), (2, _), (3, _), (4, _), (5, _), (6, _)]) rfl ?_
        rw [show 15 * (j : Int) + 15 = 15 * ((j + 1 : Nat) : Int) by omega]
        first
          | rw [if_pos (by omega)] at e9
          | rw [if_neg (by omega)] at e9
        rw [e9] at hi
        exact hi _ ⟨(by first | rfl | exact c0), (by first | rfl | exact c1), (by first | rfl | exact c2), ⟨ht, htp, phl, phi⟩, (by exact pC), (by exact nC), (by exact mC), (by exact lC), (by exact s3), (by exact s4), (by exact s5), (by exact s17), (by exact s34), ⟨_, _, _, _, (by first | rfl | exact c58), (by first | rfl | exact c59), (by first | rfl | exact c60), (by first | rfl | exact c61)⟩, (by exact s62), (by exact s65), (by exact s66), (by exact s67)⟩ (by repeat (first | exact fr | refine fr_up ?_ (by decide))) (by first | rfl | exact c58) (by first | rfl | exact c59) (by first | rfl | exact c60)

theorem s_X8_next {h : aH} {t : Nat → Int} {tp : Nat} {fpl hlaw himg : Int} {rf : Nat → Int} {nd sw nc hl hs : Int} {K U I O G L cf ct fc nx cd : Nat → Int} {nr ns nm : Int} {rd ry rm rt se md my mt : Nat → Int} {M : ND} {ls : LSm} (cc : CanC h (t, tp, fpl, rf, hlaw, himg, ((nd, sw, nc), (hl, hs), K, U, I, O, G, L, cf, ct, fc, nx, cd), ((nr, ns, nm), rd, ry, rm, rt, se, md, my, mt), M, ls)) {di day w : Int} (idi : inR di) (iday : inR day) (iw : inR w)  : mSem yX8_next cX8_next 8 (some .int) 9 3 18 [.ref 0, iv di, iv day, iv w] 97 h (PubQ (ocL [(diaB nd di, 1), (dayB day, 1), (whaB w 1, 1)]) (some (iv (if (cpS (wgN sw nc nr K O G L cf ct cd rd ry rm rt di) 41) = 0 then -1 else if w = 0 then (nxS (fun m => ggI (fun i => ((wgN sw nc nr K O G L cf ct cd rd ry rm rt di) i).1) (fun i => ((wgN sw nc nr K O G L cf ct cd rd ry rm rt di) i).2) (fun ti => plnT sw nc K O G L cf ct cd di day m ti) (K di.toNat) (cpS (wgN sw nc nr K O G L cf ct cd rd ry rm rt di) 41)) 96).1 else (nxS (fun m => ggI (fun i => ((wgN sw nc nr K O G L cf ct cd rd ry rm rt di) i).1) (fun i => ((wgN sw nc nr K O G L cf ct cd rd ry rm rt di) i).2) (fun ti => plnT sw nc K O G L cf ct cd di day m ti) (K di.toNat) (cpS (wgN sw nc nr K O G L cf ct cd rd ry rm rt di) 41)) 96).2))) h (t, tp, fpl, rf, hlaw, himg, ((nd, sw, nc), (hl, hs), K, U, I, O, G, L, cf, ct, fc, nx, cd), ((nr, ns, nm), rd, ry, rm, rt, se, md, my, mt), M, ls)) (PubX (ocL [(diaB nd di, 1), (dayB day, 1), (whaB w 1, 1)]) h (t, tp, fpl, rf, hlaw, himg, ((nd, sw, nc), (hl, hs), K, U, I, O, G, L, cf, ct, fc, nx, cd), ((nr, ns, nm), rd, ry, rm, rt, se, md, my, mt), M, ls)) := by
  obtain ⟨c0, c1, c2, ⟨ht, htp, phl, phi⟩, pC, nC, mC, lC, s3, s4, s5, s17, s34, s58, s62, s65, s66, s67⟩ := id cc
  obtain ⟨c6, c7, c8, c9, c10, c11, c12, c13, c14, c15, c16, pi⟩ := id pC
  obtain ⟨c40, c41, c42, c43, c44, c45, c46, c47, c48, ni, nsn⟩ := id nC
  obtain ⟨pnd, psw, pnc, pK, pU, pI, pO, pG, pL, pcf, pct, pfc, pnx⟩ := id pi
  obtain ⟨pnr, pns, pnm, prd, pry, prm, prt, pse, pmd, pmy, pmt⟩ := id ni
  unfold inR at idi iday iw
  obtain ⟨cp0, fr0, tt0, sf0, c58, c59, c60, c61⟩ := id s58
  have bW := wgN_B sw nc nr K O G L cf ct cd rd ry rm rt di
  have bC := cpS_B bW 41
  have hfr : ∀ j, j < 41 → -1000 ≤ (fun i => ((wgN sw nc nr K O G L cf ct cd rd ry rm rt di) i).1) j ∧ (fun i => ((wgN sw nc nr K O G L cf ct cd rd ry rm rt di) i).1) j ≤ 1000 := fun j _ => by have := bW j; dsimp only; omega
  have htt : ∀ j, j < 41 → -1000 ≤ (fun i => ((wgN sw nc nr K O G L cf ct cd rd ry rm rt di) i).2) j ∧ (fun i => ((wgN sw nc nr K O G L cf ct cd rd ry rm rt di) i).2) j ≤ 1000 := fun j _ => by have := bW j; dsimp only; omega
  refine mSem_of (own := RX8) (name := "next") pn_X8 rfl rfl (Nat.le_of_ble_eq_true rfl) ?_
  refine r_aload_n dX8_next_0 rfl rfl ?_
  refine r_iload_n dX8_next_1 rfl rfl ?_
  refine r_callV 0 [_] (s_X8_needDial c0 c6 pnd idi) dX8_next_2 cs_X8_209 im_X8_needDial (by decide) c0 rfl (by decide) (by decide) (by decide) rfl rfl (Nat.le_of_ble_eq_true rfl) (fun E n2 h2 q => by
    obtain ⟨rfl, nk, rfl, rfl⟩ := q
    exact ⟨rfl, Or.inl ⟨by simp [ocL, nk], rfl⟩, rfl, cls_of cc, fun _ _ => rfl⟩) (fun v n2 h2 q => ?_)
  obtain ⟨k1, rfl, rfl, hh⟩ := q
  obtain rfl := hh.symm
  have bdi := of_decide_eq_true k1
  refine ⟨rfl, ?_⟩
  dsimp only [Option.toList, List.cons_append, List.nil_append]
  refine r_iload_n dX8_next_5 rfl rfl ?_
  refine r_callS [_] (s_X8_needDay iday) dX8_next_6 cs_X8_139 sm_X8_needDay (by decide) (by decide) (by decide) rfl rfl (Nat.le_of_ble_eq_true rfl) (fun E n2 h2 q => by
    obtain ⟨rfl, nk, rfl, rfl⟩ := q
    exact ⟨rfl, Or.inl ⟨by simp [ocL, k1, nk], rfl⟩, rfl, cls_of cc, fun _ _ => rfl⟩) (fun v n2 h2 q => ?_)
  obtain ⟨k2, rfl, rfl, hh⟩ := q
  obtain rfl := hh.symm
  have bday := of_decide_eq_true k2
  refine ⟨rfl, ?_⟩
  dsimp only [Option.toList, List.cons_append, List.nil_append]
  refine r_iload_n dX8_next_9 rfl rfl ?_
  refine r_iconst dX8_next_10 ?_
  refine r_callS [_, _] (s_X8_needWhat iw ⟨by decide, by decide⟩) dX8_next_11 cs_X8_160 sm_X8_needWhat (by decide) (by decide) (by decide) rfl rfl (Nat.le_of_ble_eq_true rfl) (fun E n2 h2 q => by
    obtain ⟨rfl, nk, rfl, rfl⟩ := q
    exact ⟨rfl, Or.inl ⟨by simp [ocL, k1, k2, nk], rfl⟩, rfl, cls_of cc, fun _ _ => rfl⟩) (fun v n2 h2 q => ?_)
  obtain ⟨k3, rfl, rfl, hh⟩ := q
  obtain rfl := hh.symm
  have bw := of_decide_eq_true k3
  refine ⟨rfl, ?_⟩
  dsimp only [Option.toList, List.cons_append, List.nil_append]
  refine r_aload_n dX8_next_14 rfl rfl ?_
  refine r_get (fs := [_, _, _, _, _, _, _, _, _, _, _, _, _, _, _, _, _, _, _, _]) dX8_next_15 fl_X8_85 (by decide) c0 rfl ?_
  refine r_aload_n dX8_next_18 rfl rfl ?_
  refine r_get (fs := [_, _, _, _, _, _, _, _, _, _, _, _, _, _, _, _, _, _, _, _]) dX8_next_19 fl_X8_48 (by decide) c0 rfl ?_
  refine r_aload_n dX8_next_22 rfl rfl ?_
  refine r_get (fs := [_, _, _, _, _, _, _, _, _, _, _, _, _, _, _, _, _, _, _, _]) dX8_next_23 fl_X8_72 (by decide) c0 rfl ?_
  refine r_iload_n dX8_next_26 rfl rfl ?_
  refine r_callV 58 [.ref 6, .ref 40, _] (s_X0_weigh c6 c7 c8 c9 c10 c11 c12 c13 c14 c15 c16 c40 c41 c42 c43 c44 c45 c46 c47 c48 c58 c59 c60 pi ni (by omega)) dX8_next_27 cs_X8_252 im_X0_weigh (by decide) c58 rfl (by decide) (by decide) (by decide) rfl rfl (Nat.le_of_ble_eq_true rfl) (fun _ _ _ q => q.elim) (fun v n2 h2 q => ?_)
  obtain ⟨rfl, rfl, hh⟩ := q
  obtain rfl := hh.symm
  refine ⟨rfl, ?_⟩
  dsimp only [Option.toList, List.cons_append, List.nil_append]
  refine ev_arr 59 (fun i => ((wgN sw nc nr K O G L cf ct cd rd ry rm rt di) i).1) rfl (fun j hj => by unfold cpyF; rw [if_pos hj]; rfl) ?_
  refine ev_arr 60 (fun i => ((wgN sw nc nr K O G L cf ct cd rd ry rm rt di) i).2) rfl (fun j hj => by unfold cpyF; rw [if_pos hj]; rfl) ?_
  have eC : cpS (wtI (fun ti => plnT sw nc K O G L cf ct cd (rd (firstR rd di 0 nr.toNat).toNat) (ry (firstR rd di 0 nr.toNat).toNat) (rm (firstR rd di 0 nr.toNat).toNat) ti) (fun tu ti => allR (fun dy mi => tldI sw nc K O G L cf ct cd (rd (firstR rd di 0 nr.toNat).toNat) dy mi tu ti) rd ry rm rt (rd (firstR rd di 0 nr.toNat).toNat) nr.toNat) (rt (firstR rd di 0 nr.toNat).toNat) (firstR rd di 0 nr.toNat)) 41 = (cpS (wgN sw nc nr K O G L cf ct cd rd ry rm rt di) 41) := rfl
  refine r_aload_n dX8_next_30 rfl rfl ?_
  refine r_get (fs := [_, _, _, _, _, _, _, _, _, _, _, _, _, _, _, _, _, _, _, _]) dX8_next_31 fl_X8_85 (by decide) c0 rfl ?_
  refine r_get (fs := [_, _, _, _]) dX8_next_34 fl_X8_256 (by decide) rfl rfl ?_
  refine r_if_ne (tgt := 42) dX8_next_37 (by decide) ⟨by omega, by omega⟩ (fun g37 => ?_) (fun g37 => ?_)
  · refine r_iconst dX8_next_42 ?_
    refine r_istore (lv2 := [(0, _), (1, _), (2, _), (3, _), (4, _)]) dX8_next_43 (by decide) rfl rfl ?_
    refine r_iconst dX8_next_45 ?_
    refine r_istore (lv2 := [(0, _), (1, _), (2, _), (3, _), (4, _), (5, _)]) dX8_next_46 (by decide) rfl rfl ?_
    refine r_iconst dX8_next_48 ?_
    refine r_istore (lv2 := [(0, _), (1, _), (2, _), (3, _), (4, _), (5, _), (6, _)]) dX8_next_49 (by decide) rfl rfl ?_
    exact l_X8_next (by simp [ocL, k1, k2, k3]) bdi bday bw (by omega) (gg := (fun m => ggI (fun i => ((wgN sw nc nr K O G L cf ct cd rd ry rm rt di) i).1) (fun i => ((wgN sw nc nr K O G L cf ct cd rd ry rm rt di) i).2) (fun ti => plnT sw nc K O G L cf ct cd di day m ti) (K di.toNat) (cpS (wgN sw nc nr K O G L cf ct cd rd ry rm rt di) 41))) (fun _ => rfl) (fun _ => gg_B (by omega)) 96 0 _ (by omega) ⟨(by first | rfl | exact c0), (by first | rfl | exact c1), (by first | rfl | exact c2), ⟨ht, htp, phl, phi⟩, (by exact pC), (by exact nC), (by exact mC), (by exact lC), (by exact s3), (by exact s4), (by exact s5), (by exact s17), (by exact s34), ⟨_, _, _, _, (by first | rfl | exact c58), (by first | rfl | exact c59), (by first | rfl | exact c60), (by first | rfl | exact c61)⟩, (by exact s62), (by exact s65), (by exact s66), (by exact s67)⟩ (by repeat (first | exact fun _ _ => rfl | refine fr_up ?_ (by decide))) rfl rfl rfl
  · refine r_iconst dX8_next_40 ?_
    refine r_iret dX8_next_41 ?_
    exact ⟨(by simp [ocL, k1, k2, k3]), (ivE (by rw [if_pos (by omega)])), rfl, cls_of ⟨(by first | rfl | exact c0), (by first | rfl | exact c1), (by first | rfl | exact c2), ⟨ht, htp, phl, phi⟩, (by exact pC), (by exact nC), (by exact mC), (by exact lC), (by exact s3), (by exact s4), (by exact s5), (by exact s17), (by exact s34), ⟨_, _, _, _, (by first | rfl | exact c58), (by first | rfl | exact c59), (by first | rfl | exact c60), (by first | rfl | exact c61)⟩, (by exact s62), (by exact s65), (by exact s66), (by exact s67)⟩, (by repeat (first | exact fun _ _ => rfl | refine fr_up ?_ (by decide)))⟩
