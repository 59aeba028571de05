/-! ===== the public methods: over days, dials, minutes ===== -/
def dyS (fit : Int → Int × Int × Int) : Nat → Int × Int × Int
  | 0 => (0, -1, -1)
  | k + 1 => ((dyS fit k).1 + (fit k).1, if (dyS fit k).2.1 = -1 ∧ 0 < (fit k).1 then (k : Int) else (dyS fit k).2.1, if (dyS fit k).2.1 = -1 ∧ 0 < (fit k).1 then (fit k).2.1 else (dyS fit k).2.2)
theorem dyS_s (fit : Int → Int × Int × Int) (k : Nat) : dyS fit (k + 1) = ((dyS fit k).1 + (fit k).1, if (dyS fit k).2.1 = -1 ∧ 0 < (fit k).1 then (k : Int) else (dyS fit k).2.1, if (dyS fit k).2.1 = -1 ∧ 0 < (fit k).1 then (fit k).2.1 else (dyS fit k).2.2) := rfl
theorem dyS_B (fit : Int → Int × Int × Int) : ∀ k : Nat, -1 ≤ (dyS fit k).2.1 ∧ (dyS fit k).2.1 ≤ k := by
  intro k
  induction k with
  | zero => exact ⟨Int.le_refl _, show (-1 : Int) ≤ 0 by decide⟩
  | succ k ih => rw [dyS_s]; dsimp only; split <;> omega
def lvS (y : Nat → Int × Int) : Nat → Int × Int × Int
  | 0 => (-1, 0, 0)
  | k + 1 => if (lvS y k).1 = -1 ∨ (lvS y k).2.1 < (y k).1 ∨ ((y k).1 = (lvS y k).2.1 ∧ (y k).2 < (lvS y k).2.2) then ((k : Int), (y k).1, (y k).2) else lvS y k
theorem lvS_s (y : Nat → Int × Int) (k : Nat) : lvS y (k + 1) = if (lvS y k).1 = -1 ∨ (lvS y k).2.1 < (y k).1 ∨ ((y k).1 = (lvS y k).2.1 ∧ (y k).2 < (lvS y k).2.2) then ((k : Int), (y k).1, (y k).2) else lvS y k := rfl
theorem lvS_B {y : Nat → Int × Int} (h : ∀ k, (0 ≤ (y k).1 ∧ (y k).1 ≤ 365) ∧ 0 ≤ (y k).2 ∧ (y k).2 ≤ 262800) : ∀ k : Nat, (-1 ≤ (lvS y k).1 ∧ (lvS y k).1 ≤ k) ∧ (0 ≤ (lvS y k).2.1 ∧ (lvS y k).2.1 ≤ 365) ∧ 0 ≤ (lvS y k).2.2 ∧ (lvS y k).2.2 ≤ 262800 := by
  intro k
  induction k with
  | zero => exact ⟨⟨Int.le_refl _, show (-1 : Int) ≤ 0 by decide⟩, ⟨Int.le_refl _, show (0 : Int) ≤ 365 by decide⟩, Int.le_refl _, show (0 : Int) ≤ 262800 by decide⟩
  | succ k ih =>
    have := h k
    rw [lvS_s]
    split
    · dsimp only; omega
    · omega
def ubS (lw : Int → Int) (tf : Int → Nat → Int) (m : Int) (nd : Nat) : Nat → Int
  | 0 => 0
  | k + 1 => if btnI (tf k) (lw k) m nd = true then ubS lw tf m nd k else ubS lw tf m nd k + 1
theorem ubS_s (lw : Int → Int) (tf : Int → Nat → Int) (m : Int) (nd k : Nat) : ubS lw tf m nd (k + 1) = if btnI (tf k) (lw k) m nd = true then ubS lw tf m nd k else ubS lw tf m nd k + 1 := rfl
theorem btnI_congr {f g : Nat → Int} {to m : Int} {k : Nat} (h : ∀ j, j < k → f j = g j) : btnI f to m k = btnI g to m k := by
  unfold btnI
  congr 1
  apply propext
  constructor
  · intro ⟨j, h1, h2, h3⟩
    rw [h j h1] at h2 h3
    exact ⟨j, h1, h2, h3⟩
  · intro ⟨j, h1, h2, h3⟩
    rw [← h j h1] at h2 h3
    exact ⟨j, h1, h2, h3⟩
def jdV (p : Int × Int × Int × Int) (u w : Int) : Int := if w = 0 then p.1 else if w = 1 then p.2.1 else if w = 2 then p.2.2.1 else u
theorem fit_B {nd sw nc nm : Int} {K U I O G L cf ct cd md my mt se : Nat → Int} {day : Int} (psw : 0 ≤ sw ∧ sw ≤ 240) (pL : ∀ j, -30 ≤ L j ∧ L j ≤ 30) (hd : 0 ≤ day ∧ day < 365) : (0 ≤ (fitN nd sw nc nm K U I O G L cf ct cd md my mt se day s0).1 ∧ (fitN nd sw nc nm K U I O G L cf ct cd md my mt se day s0).1 ≤ 1440) ∧ -1 ≤ (fitN nd sw nc nm K U I O G L cf ct cd md my mt se day s0).2.1 ∧ (fitN nd sw nc nm K U I O G L cf ct cd md my mt se day s0).2.1 < 1440 := by
  unfold fitN
  split
  · exact ⟨⟨show (0 : Int) ≤ 0 by decide, show (0 : Int) ≤ 1440 by decide⟩, show (-1 : Int) ≤ -1 by decide, show (-1 : Int) < 1440 by decide⟩
  · split
    · exact ⟨⟨show (0 : Int) ≤ 1440 by decide, show (1440 : Int) ≤ 1440 by decide⟩, show (-1 : Int) ≤ 0 by decide, show (0 : Int) < 1440 by decide⟩
    · obtain ⟨m1, m2⟩ := mom_B (nc := nc) (nm := nm) (K := K) (U := U) (I := I) (O := O) (G := G) (cf := cf) (ct := ct) (cd := cd) (md := md) (my := my) (mt := mt) (di := gdI se K nd.toNat) (told := se (gdI se K nd.toNat).toNat) psw pL hd
      have b1 := ftS_1 (g := fun i => (momN sw nc nm K U I O G L cf ct cd md my mt (gdI se K nd.toNat) day (se (gdI se K nd.toNat).toNat)).getD i 0) (ok := fun m => alI se (fun j => nowI sw nc nm K U I O G L cf ct cd md my mt (j : Nat) day m) nd.toNat) (s := s0) (momN sw nc nm K U I O G L cf ct cd md my mt (gdI se K nd.toNat) day (se (gdI se K nd.toNat).toNat)).length
      have b2 := ftS_B (g := fun i => (momN sw nc nm K U I O G L cf ct cd md my mt (gdI se K nd.toNat) day (se (gdI se K nd.toNat).toNat)).getD i 0) (ok := fun m => alI se (fun j => nowI sw nc nm K U I O G L cf ct cd md my mt (j : Nat) day m) nd.toNat) (s := s0) (by decide) (by decide) (momN sw nc nm K U I O G L cf ct cd md my mt (gdI se K nd.toNat) day (se (gdI se K nd.toNat).toNat)).length (fun j hj => getD_B m2 j hj)
      have e0 : s0.1 = 0 := rfl
      rw [e0] at b1
      exact ⟨⟨b1.1, by omega⟩, b2.1⟩

theorem l_X8_days {t : Nat → Int} {tp : Nat} {fpl hlaw himg : Int} {rf : Nat → Int} {nd sw nc hl hs : Int} {K U I O G L cf ct fc nx cd : Nat → Int} {nr ns nm : Int} {rd ry rm rt se md my mt : Nat → Int} {M : ND} {ls : LSm} {h0 : aH} {oc : Nat} (hoc : oc = 0) {X : String → Nat → aH → Prop} {w : Int} (hw : 0 ≤ w ∧ w ≤ 2) : ∀ (k j : Nat) (h : aH), j + k = 365 → CanC h (t, tp, fpl, rf, hlaw, himg, ((nd, sw, nc), (hl, hs), K, U, I, O, G, L, cf, ct, fc, nx, cd), ((nr, ns, nm), rd, ry, rm, rt, se, md, my, mt), M, ls) → FrC h0 h → Ev RX8 "days" cX8_days 6 (some .int) 9 0 0 (PubQ oc (some (iv (mnV (dyS (fun d => fitN nd sw nc nm K U I O G L cf ct cd md my mt se d s0) 365) w))) h0 (t, tp, fpl, rf, hlaw, himg, ((nd, sw, nc), (hl, hs), K, U, I, O, G, L, cf, ct, fc, nx, cd), ((nr, ns, nm), rd, ry, rm, rt, se, md, my, mt), M, ls)) X 97 h 15 [(0, .ref 0), (1, iv w), (2, iv (dyS (fun d => fitN nd sw nc nm K U I O G L cf ct cd md my mt se d s0) j).1), (3, iv (dyS (fun d => fitN nd sw nc nm K U I O G L cf ct cd md my mt se d s0) j).2.1), (4, iv (dyS (fun d => fitN nd sw nc nm K U I O G L cf ct cd md my mt se d s0) j).2.2), (5, iv j)] [] := by
  intro k
  induction k with
  | zero =>
    intro j h hj cc fr
    obtain rfl : j = 365 := by omega
    refine r_iload dX8_days_15 rfl ?_
    refine r_sipush dX8_days_17 rfl ?_
    refine r_icmp_ge (tgt := 79) dX8_days_20 (by decide) ⟨by omega, by omega⟩ ⟨by omega, by omega⟩ (fun g20 => ?_) (fun g20 => absurd g20 (by omega))
    refine r_iload_n dX8_days_79 rfl rfl ?_
    refine r_lk2 (td := 112) (t0 := 108) (t1 := 110) dX8_days_80 rfl ⟨by omega, by omega⟩ (by decide) (by decide) (by decide) (fun g80 => ?_) (fun g80 => ?_) (fun g80 => ?_)
    · refine r_iload dX8_days_112 rfl ?_
      refine r_iret dX8_days_114 ?_
      exact ⟨hoc, (ivE (by unfold mnV; rw [if_neg (by omega), if_neg (by omega)])), rfl, cls_of cc, fr⟩
    · refine r_iload_n dX8_days_108 rfl rfl ?_
      refine r_iret dX8_days_109 ?_
      exact ⟨hoc, (ivE (by unfold mnV; rw [if_pos (by omega)])), rfl, cls_of cc, fr⟩
    · refine r_iload_n dX8_days_110 rfl rfl ?_
      refine r_iret dX8_days_111 ?_
      exact ⟨hoc, (ivE (by unfold mnV; rw [if_neg (by omega), if_pos (by omega)])), rfl, cls_of cc, fr⟩
  | succ k ih =>
    intro j h hj cc fr
    obtain ⟨c0, c1, c2, ⟨ht, htp, phl, phi⟩, pC, nC, mC, lC, s3, s4, s5, s17, s34, s58, s62, s65, s66, s67⟩ := id cc
    obtain ⟨c6, c7, c8, c9, c10, c11, c12, c13, c14, c15, c16, pi⟩ := id pC
    obtain ⟨c40, c41, c42, c43, c44, c45, c46, c47, c48, ni, nsn⟩ := id nC
    obtain ⟨pnd, psw, pnc, pK, pU, pI, pO, pG, pL, pcf, pct, pfc, pnx⟩ := id pi
    obtain ⟨pnr, pns, pnm, prd, pry, prm, prt, pse, pmd, pmy, pmt⟩ := id ni
    obtain ⟨mf, c67⟩ := id s67
    obtain ⟨tt0, ss0, dr, f63, g64, c62, c63, c64⟩ := id s62
    have b1 := fit_B (nd := nd) (nc := nc) (nm := nm) (K := K) (U := U) (I := I) (O := O) (G := G) (cf := cf) (ct := ct) (cd := cd) (md := md) (my := my) (mt := mt) (se := se) (day := j) psw pL (by omega)
    have b2 := dyS_B (fun d => fitN nd sw nc nm K U I O G L cf ct cd md my mt se d s0) j
    have hi := fun h => ih (j + 1) h (by omega)
    rw [dyS_s (fun d => fitN nd sw nc nm K U I O G L cf ct cd md my mt se d s0) j] at hi
    dsimp only at hi b2
    refine r_iload dX8_days_15 rfl ?_
    refine r_sipush dX8_days_17 rfl ?_
    refine r_icmp_ge (tgt := 79) dX8_days_20 (by decide) ⟨by omega, by omega⟩ ⟨by omega, by omega⟩ (fun g20 => absurd g20 (by omega)) (fun g20 => ?_)
    refine r_aload_n dX8_days_23 rfl rfl ?_
    refine r_get (fs := [_, _, _, _, _, _, _, _, _, _, _, _, _, _, _, _, _, _, _, _]) dX8_days_24 fl_X8_92 (by decide) c0 rfl ?_
    refine r_callV 62 [] (s_X7_clear c62) dX8_days_27 cs_X8_163 im_X7_clear (by decide) c62 rfl (by decide) (by decide) (by decide) rfl rfl (Nat.le_of_ble_eq_true rfl) (fun _ _ _ q => q.elim) (fun v n2 h2 q => ?_)
    obtain ⟨rfl, rfl, hh⟩ := q
    obtain rfl := hh.symm
    refine ⟨rfl, ?_⟩
    dsimp only [Option.toList, List.cons_append, List.nil_append]
    refine r_aload_n dX8_days_30 rfl rfl ?_
    refine r_iload dX8_days_31 rfl ?_
    refine r_callV 0 [_] (s_X8_addFitting (by exact c6) (by exact c7) (by exact c8) (by exact c9) (by exact c10) (by exact c11) (by exact c12) (by exact c13) (by exact c14) (by exact c15) (by exact c16) (by exact c40) (by exact c41) (by exact c42) (by exact c43) (by exact c44) (by exact c45) (by exact c46) (by exact c47) (by exact c48) (by exact c0) (by rfl) (by exact c67) pi ni (by omega) (by decide)) dX8_days_33 cs_X8_286 im_X8_addFitting (by decide) c0 rfl (by decide) (by decide) (by decide) rfl rfl (Nat.le_of_ble_eq_true rfl) (fun _ _ _ q => q.elim) (fun v n2 h2 q => ?_)
    obtain ⟨rfl, rfl, f2, rfl⟩ := q
    refine ⟨rfl, ?_⟩
    dsimp only [Option.toList, List.cons_append, List.nil_append]
    refine r_iload_n dX8_days_36 rfl rfl ?_
    refine r_aload_n dX8_days_37 rfl rfl ?_
    refine r_get (fs := [_, _, _, _, _, _, _, _, _, _, _, _, _, _, _, _, _, _, _, _]) dX8_days_38 fl_X8_92 (by decide) c0 rfl ?_
    refine r_get (fs := [_, _, _, _, _, _, _, _, _, _]) dX8_days_41 fl_X8_289 (by decide) rfl rfl ?_
    refine r_iadd dX8_days_44 ?_
    refine r_istore_n (lv2 := [(0, _), (1, _), (2, _), (3, _), (4, _), (5, _)]) dX8_days_45 rfl (by decide) rfl rfl ?_
    refine r_iload_n dX8_days_46 rfl rfl ?_
    refine r_iconst dX8_days_47 ?_
    refine r_icmp_ne (tgt := 73) dX8_days_48 (by decide) ⟨by omega, by omega⟩ ⟨by omega, by omega⟩ (fun g48 => ?_) (fun g48 => ?_)
    · refine r_iinc (lv2 := [(0, _), (1, _), (2, _), (3, _), (4, _), (5, _)]) dX8_days_73 (by decide) rfl rfl rfl ?_
      refine r_goto (tgt := 15) dX8_days_76 (by decide) ?_
      rw [show (j : Int) + 1 = ((j + 1 : Nat) : Int) by omega]
      first
        | rw [if_pos (by omega), if_pos (by omega)] at hi
        | rw [if_neg (by omega), if_neg (by omega)] at hi
      exact hi _ ⟨(by first | rfl | exact c0), (by first | rfl | exact c1), (by first | rfl | exact c2), ⟨ht, htp, phl, phi⟩, (by exact pC), (by exact nC), (by exact mC), (by exact lC), (by exact s3), (by exact s4), (by exact s5), (by exact s17), (by exact s34), (by exact s58), ⟨_, _, _, _, _, (by first | rfl | exact c62), (by first | rfl | exact c63), (by first | rfl | exact c64)⟩, (by exact s65), (by exact s66), ⟨_, rfl⟩⟩ (by repeat (first | exact fr | refine fr_up ?_ (by decide)))
    · refine r_aload_n dX8_days_51 rfl rfl ?_
      refine r_get (fs := [_, _, _, _, _, _, _, _, _, _, _, _, _, _, _, _, _, _, _, _]) dX8_days_52 fl_X8_92 (by decide) c0 rfl ?_
      refine r_get (fs := [_, _, _, _, _, _, _, _, _, _]) dX8_days_55 fl_X8_289 (by decide) rfl rfl ?_
      refine r_if_le (tgt := 73) dX8_days_58 (by decide) ⟨by omega, by omega⟩ (fun g58 => ?_) (fun g58 => ?_)
      · refine r_iinc (lv2 := [(0, _), (1, _), (2, _), (3, _), (4, _), (5, _)]) dX8_days_73 (by decide) rfl rfl rfl ?_
        refine r_goto (tgt := 15) dX8_days_76 (by decide) ?_
        rw [show (j : Int) + 1 = ((j + 1 : Nat) : Int) by omega]
        first
          | rw [if_pos (by omega), if_pos (by omega)] at hi
          | rw [if_neg (by omega), if_neg (by omega)] at hi
        exact hi _ ⟨(by first | rfl | exact c0), (by first | rfl | exact c1), (by first | rfl | exact c2), ⟨ht, htp, phl, phi⟩, (by exact pC), (by exact nC), (by exact mC), (by exact lC), (by exact s3), (by exact s4), (by exact s5), (by exact s17), (by exact s34), (by exact s58), ⟨_, _, _, _, _, (by first | rfl | exact c62), (by first | rfl | exact c63), (by first | rfl | exact c64)⟩, (by exact s65), (by exact s66), ⟨_, rfl⟩⟩ (by repeat (first | exact fr | refine fr_up ?_ (by decide)))
      · refine r_iload dX8_days_61 rfl ?_
        refine r_istore_n (lv2 := [(0, _), (1, _), (2, _), (3, _), (4, _), (5, _)]) dX8_days_63 rfl (by decide) rfl rfl ?_
        refine r_aload_n dX8_days_64 rfl rfl ?_
        refine r_get (fs := [_, _, _, _, _, _, _, _, _, _, _, _, _, _, _, _, _, _, _, _]) dX8_days_65 fl_X8_92 (by decide) c0 rfl ?_
        refine r_get (fs := [_, _, _, _, _, _, _, _, _, _]) dX8_days_68 fl_X8_292 (by decide) rfl rfl ?_
        refine r_istore (lv2 := [(0, _), (1, _), (2, _), (3, _), (4, _), (5, _)]) dX8_days_71 (by decide) rfl rfl ?_
        refine r_iinc (lv2 := [(0, _), (1, _), (2, _), (3, _), (4, _), (5, _)]) dX8_days_73 (by decide) rfl rfl rfl ?_
        refine r_goto (tgt := 15) dX8_days_76 (by decide) ?_
        rw [show (j : Int) + 1 = ((j + 1 : Nat) : Int) by omega]
        first
          | rw [if_pos (by omega), if_pos (by omega)] at hi
          | rw [if_neg (by omega), if_neg (by omega)] at hi
        exact hi _ ⟨(by first | rfl | exact c0), (by first | rfl | exact c1), (by first | rfl | exact c2), ⟨ht, htp, phl, phi⟩, (by exact pC), (by exact nC), (by exact mC), (by exact lC), (by exact s3), (by exact s4), (by exact s5), (by exact s17), (by exact s34), (by exact s58), ⟨_, _, _, _, _, (by first | rfl | exact c62), (by first | rfl | exact c63), (by first | rfl | exact c64)⟩, (by exact s65), (by exact s66), ⟨_, rfl⟩⟩ (by repeat (first | exact fr | refine fr_up ?_ (by decide)))

theorem s_X8_days {h : aH} {t : Nat → Int} {tp : Nat} {fpl hlaw himg : Int} {rf : Nat → Int} {nd sw nc hl hs : Int} {K U I O G L cf ct fc nx cd : Nat → Int} {nr ns nm : Int} {rd ry rm rt se md my mt : Nat → Int} {M : ND} {ls : LSm} (cc : CanC h (t, tp, fpl, rf, hlaw, himg, ((nd, sw, nc), (hl, hs), K, U, I, O, G, L, cf, ct, fc, nx, cd), ((nr, ns, nm), rd, ry, rm, rt, se, md, my, mt), M, ls)) {w : Int} (iw : inR w)  : mSem yX8_days cX8_days 6 (some .int) 9 1 6 [.ref 0, iv w] 97 h (PubQ (ocL [(whaB w 2, 1)]) (some (iv (mnV (dyS (fun d => fitN nd sw nc nm K U I O G L cf ct cd md my mt se d s0) 365) w))) h (t, tp, fpl, rf, hlaw, himg, ((nd, sw, nc), (hl, hs), K, U, I, O, G, L, cf, ct, fc, nx, cd), ((nr, ns, nm), rd, ry, rm, rt, se, md, my, mt), M, ls)) (PubX (ocL [(whaB w 2, 1)]) h (t, tp, fpl, rf, hlaw, himg, ((nd, sw, nc), (hl, hs), K, U, I, O, G, L, cf, ct, fc, nx, cd), ((nr, ns, nm), rd, ry, rm, rt, se, md, my, mt), M, ls)) := by
  obtain ⟨c0, c1, c2, ⟨ht, htp, phl, phi⟩, pC, nC, mC, lC, s3, s4, s5, s17, s34, s58, s62, s65, s66, s67⟩ := id cc
  obtain ⟨c6, c7, c8, c9, c10, c11, c12, c13, c14, c15, c16, pi⟩ := id pC
  obtain ⟨c40, c41, c42, c43, c44, c45, c46, c47, c48, ni, nsn⟩ := id nC
  obtain ⟨pnd, psw, pnc, pK, pU, pI, pO, pG, pL, pcf, pct, pfc, pnx⟩ := id pi
  obtain ⟨pnr, pns, pnm, prd, pry, prm, prt, pse, pmd, pmy, pmt⟩ := id ni
  unfold inR at iw
  refine mSem_of (own := RX8) (name := "days") pn_X8 rfl rfl (Nat.le_of_ble_eq_true rfl) ?_
  refine r_iload_n dX8_days_0 rfl rfl ?_
  refine r_iconst dX8_days_1 ?_
  refine r_callS [_, _] (s_X8_needWhat iw ⟨by decide, by decide⟩) dX8_days_2 cs_X8_160 sm_X8_needWhat (by decide) (by decide) (by decide) rfl rfl (Nat.le_of_ble_eq_true rfl) (fun E n2 h2 q => by
    obtain ⟨rfl, nk, rfl, rfl⟩ := q
    exact ⟨rfl, Or.inl ⟨by simp [ocL, nk], rfl⟩, rfl, cls_of cc, fun _ _ => rfl⟩) (fun v n2 h2 q => ?_)
  obtain ⟨k1, rfl, rfl, hh⟩ := q
  obtain rfl := hh.symm
  have bw := of_decide_eq_true k1
  refine ⟨rfl, ?_⟩
  dsimp only [Option.toList, List.cons_append, List.nil_append]
  refine r_iconst dX8_days_5 ?_
  refine r_istore_n (lv2 := [(0, _), (1, _), (2, _)]) dX8_days_6 rfl (by decide) rfl rfl ?_
  refine r_iconst dX8_days_7 ?_
  refine r_istore_n (lv2 := [(0, _), (1, _), (2, _), (3, _)]) dX8_days_8 rfl (by decide) rfl rfl ?_
  refine r_iconst dX8_days_9 ?_
  refine r_istore (lv2 := [(0, _), (1, _), (2, _), (3, _), (4, _)]) dX8_days_10 (by decide) rfl rfl ?_
  refine r_iconst dX8_days_12 ?_
  refine r_istore (lv2 := [(0, _), (1, _), (2, _), (3, _), (4, _), (5, _)]) dX8_days_13 (by decide) rfl rfl ?_
  exact l_X8_days (by simp [ocL, k1]) (by omega) 365 0 h (by omega) cc (fun _ _ => rfl)

theorem l_X8_live {t : Nat → Int} {tp : Nat} {fpl hlaw himg : Int} {rf : Nat → Int} {nd sw nc hl hs : Int} {K U I O G L cf ct fc nx cd : Nat → Int} {nr ns nm : Int} {rd ry rm rt se md my mt : Nat → Int} {M : ND} {ls : LSm} {h0 : aH} {oc : Nat} (hoc : oc = 0) {X : String → Nat → aH → Prop} {m : Int} (hm : 0 ≤ m ∧ m < 1440) : ∀ (k j : Nat) (h : aH), j + k = nd.toNat → CanC h (t, tp, fpl, rf, hlaw, himg, ((nd, sw, nc), (hl, hs), K, U, I, O, G, L, cf, ct, fc, nx, cd), ((nr, ns, nm), rd, ry, rm, rt, se, md, my, mt), M, ls) → FrC h0 h → Ev RX8 "live" cX8_live 7 (some .int) 8 0 0 (PubQ oc (some (iv (lvS (fun j => ((yT (fun d => nowI sw nc nm K U I O G L cf ct cd md my mt (j : Nat) d m) m 365).1, (yT (fun d => nowI sw nc nm K U I O G L cf ct cd md my mt (j : Nat) d m) m 365).2.1)) nd.toNat).1)) h0 (t, tp, fpl, rf, hlaw, himg, ((nd, sw, nc), (hl, hs), K, U, I, O, G, L, cf, ct, fc, nx, cd), ((nr, ns, nm), rd, ry, rm, rt, se, md, my, mt), M, ls)) X 97 h 14 [(0, .ref 0), (1, iv m), (2, iv (lvS (fun j => ((yT (fun d => nowI sw nc nm K U I O G L cf ct cd md my mt (j : Nat) d m) m 365).1, (yT (fun d => nowI sw nc nm K U I O G L cf ct cd md my mt (j : Nat) d m) m 365).2.1)) j).1), (3, iv (lvS (fun j => ((yT (fun d => nowI sw nc nm K U I O G L cf ct cd md my mt (j : Nat) d m) m 365).1, (yT (fun d => nowI sw nc nm K U I O G L cf ct cd md my mt (j : Nat) d m) m 365).2.1)) j).2.1), (4, iv (lvS (fun j => ((yT (fun d => nowI sw nc nm K U I O G L cf ct cd md my mt (j : Nat) d m) m 365).1, (yT (fun d => nowI sw nc nm K U I O G L cf ct cd md my mt (j : Nat) d m) m 365).2.1)) j).2.2), (5, iv j)] [] := by
  intro k
  induction k with
  | zero =>
    intro j h hj cc fr
    obtain ⟨c0, c1, c2, ⟨ht, htp, phl, phi⟩, pC, nC, mC, lC, s3, s4, s5, s17, s34, s58, s62, s65, s66, s67⟩ := id cc
    obtain ⟨c6, c7, c8, c9, c10, c11, c12, c13, c14, c15, c16, pi⟩ := id pC
    obtain ⟨c40, c41, c42, c43, c44, c45, c46, c47, c48, ni, nsn⟩ := id nC
    obtain ⟨pnd, psw, pnc, pK, pU, pI, pO, pG, pL, pcf, pct, pfc, pnx⟩ := id pi
    obtain ⟨pnr, pns, pnm, prd, pry, prm, prt, pse, pmd, pmy, pmt⟩ := id ni
    obtain rfl : nd = (j : Int) := by omega
    refine r_iload dX8_live_14 rfl ?_
    refine r_aload_n dX8_live_16 rfl rfl ?_
    refine r_get (fs := [_, _, _, _, _, _, _, _, _, _, _, _, _, _, _, _, _, _, _, _]) dX8_live_17 fl_X8_48 (by decide) c0 rfl ?_
    refine r_get (fs := [_, _, _, _, _, _, _, _, _, _, _, _, _]) dX8_live_20 fl_X8_127 (by decide) c6 rfl ?_
    refine r_icmp_ge (tgt := 110) dX8_live_23 (by decide) ⟨by omega, by omega⟩ ⟨by omega, by omega⟩ (fun g23 => ?_) (fun g23 => absurd g23 (by omega))
    refine r_iload_n dX8_live_110 rfl rfl ?_
    refine r_iret dX8_live_111 ?_
    exact ⟨hoc, rfl, rfl, cls_of cc, fr⟩
  | succ k ih =>
    intro j h hj cc fr
    obtain ⟨c0, c1, c2, ⟨ht, htp, phl, phi⟩, pC, nC, mC, lC, s3, s4, s5, s17, s34, s58, s62, s65, s66, s67⟩ := id cc
    obtain ⟨c6, c7, c8, c9, c10, c11, c12, c13, c14, c15, c16, pi⟩ := id pC
    obtain ⟨c40, c41, c42, c43, c44, c45, c46, c47, c48, ni, nsn⟩ := id nC
    obtain ⟨pnd, psw, pnc, pK, pU, pI, pO, pG, pL, pcf, pct, pfc, pnx⟩ := id pi
    obtain ⟨pnr, pns, pnm, prd, pry, prm, prt, pse, pmd, pmy, pmt⟩ := id ni
    obtain ⟨tt0, ss0, dr, f63, g64, c62, c63, c64⟩ := id s62
    have by1 : ∀ q : Nat, (0 ≤ ((fun j => ((yT (fun d => nowI sw nc nm K U I O G L cf ct cd md my mt (j : Nat) d m) m 365).1, (yT (fun d => nowI sw nc nm K U I O G L cf ct cd md my mt (j : Nat) d m) m 365).2.1)) q).1 ∧ ((fun j => ((yT (fun d => nowI sw nc nm K U I O G L cf ct cd md my mt (j : Nat) d m) m 365).1, (yT (fun d => nowI sw nc nm K U I O G L cf ct cd md my mt (j : Nat) d m) m 365).2.1)) q).1 ≤ 365) ∧ 0 ≤ ((fun j => ((yT (fun d => nowI sw nc nm K U I O G L cf ct cd md my mt (j : Nat) d m) m 365).1, (yT (fun d => nowI sw nc nm K U I O G L cf ct cd md my mt (j : Nat) d m) m 365).2.1)) q).2 ∧ ((fun j => ((yT (fun d => nowI sw nc nm K U I O G L cf ct cd md my mt (j : Nat) d m) m 365).1, (yT (fun d => nowI sw nc nm K U I O G L cf ct cd md my mt (j : Nat) d m) m 365).2.1)) q).2 ≤ 262800 := fun q => yT_1 (now := fun d => nowI sw nc nm K U I O G L cf ct cd md my mt (q : Nat) d m) (fun _ => (now_B _ _ _ _ _ _ _ _ _ _ _ _ _ _ _ _ _ _)) hm 365
    have b2 := lvS_B by1 j
    have b3 := by1 j
    have hi := fun h => ih (j + 1) h (by omega)
    rw [lvS_s (fun j => ((yT (fun d => nowI sw nc nm K U I O G L cf ct cd md my mt (j : Nat) d m) m 365).1, (yT (fun d => nowI sw nc nm K U I O G L cf ct cd md my mt (j : Nat) d m) m 365).2.1)) j] at hi
    dsimp only at hi b2 b3
    refine r_iload dX8_live_14 rfl ?_
    refine r_aload_n dX8_live_16 rfl rfl ?_
    refine r_get (fs := [_, _, _, _, _, _, _, _, _, _, _, _, _, _, _, _, _, _, _, _]) dX8_live_17 fl_X8_48 (by decide) c0 rfl ?_
    refine r_get (fs := [_, _, _, _, _, _, _, _, _, _, _, _, _]) dX8_live_20 fl_X8_127 (by decide) c6 rfl ?_
    refine r_icmp_ge (tgt := 110) dX8_live_23 (by decide) ⟨by omega, by omega⟩ ⟨by omega, by omega⟩ (fun g23 => absurd g23 (by omega)) (fun g23 => ?_)
    refine r_aload_n dX8_live_26 rfl rfl ?_
    refine r_iload dX8_live_27 rfl ?_
    refine r_iload_n dX8_live_29 rfl rfl ?_
    refine r_callV 0 [_, _] (s_X8_tallyYear c6 c7 c8 c9 c10 c11 c12 c13 c14 c15 c16 c40 c41 c42 c43 c44 c45 c46 c47 c48 c0 c62 pi ni (by omega) (by omega)) dX8_live_30 cs_X8_351 im_X8_tallyYear (by decide) c0 rfl (by decide) (by decide) (by decide) rfl rfl (Nat.le_of_ble_eq_true rfl) (fun _ _ _ q => q.elim) (fun v n2 h2 q => ?_)
    obtain ⟨rfl, rfl, hh⟩ := q
    obtain rfl := hh.symm
    refine ⟨rfl, ?_⟩
    dsimp only [Option.toList, List.cons_append, List.nil_append]
    refine r_aload_n dX8_live_33 rfl rfl ?_
    refine r_get (fs := [_, _, _, _, _, _, _, _, _, _, _, _, _, _, _, _, _, _, _, _]) dX8_live_34 fl_X8_92 (by decide) c0 rfl ?_
    refine r_get (fs := [_, _, _, _, _, _, _, _, _, _]) dX8_live_37 fl_X8_172 (by decide) rfl rfl ?_
    refine r_iload_n dX8_live_40 rfl rfl ?_
    refine r_icmp_gt (tgt := 67) dX8_live_41 (by decide) ⟨by omega, by omega⟩ ⟨by omega, by omega⟩ (fun g41 => ?_) (fun g41 => ?_)
    · refine r_iconst dX8_live_67 ?_
      refine r_goto (tgt := 72) dX8_live_68 (by decide) ?_
      refine r_istore (lv2 := [(0, _), (1, _), (2, _), (3, _), (4, _), (5, _), (6, _)]) dX8_live_72 (by decide) rfl rfl ?_
      refine r_iload_n dX8_live_74 rfl rfl ?_
      refine r_iconst dX8_live_75 ?_
      refine r_icmp_eq (tgt := 84) dX8_live_76 (by decide) ⟨by omega, by omega⟩ ⟨by omega, by omega⟩ (fun g76 => ?_) (fun g76 => ?_)
      · refine r_iload dX8_live_84 rfl ?_
        refine r_istore_n (lv2 := [(0, _), (1, _), (2, _), (3, _), (4, _), (5, _), (6, _)]) dX8_live_86 rfl (by decide) rfl rfl ?_
        refine r_aload_n dX8_live_87 rfl rfl ?_
        refine r_get (fs := [_, _, _, _, _, _, _, _, _, _, _, _, _, _, _, _, _, _, _, _]) dX8_live_88 fl_X8_92 (by decide) c0 rfl ?_
        refine r_get (fs := [_, _, _, _, _, _, _, _, _, _]) dX8_live_91 fl_X8_172 (by decide) rfl rfl ?_
        refine r_istore_n (lv2 := [(0, _), (1, _), (2, _), (3, _), (4, _), (5, _), (6, _)]) dX8_live_94 rfl (by decide) rfl rfl ?_
        refine r_aload_n dX8_live_95 rfl rfl ?_
        refine r_get (fs := [_, _, _, _, _, _, _, _, _, _, _, _, _, _, _, _, _, _, _, _]) dX8_live_96 fl_X8_92 (by decide) c0 rfl ?_
        refine r_get (fs := [_, _, _, _, _, _, _, _, _, _]) dX8_live_99 fl_X8_175 (by decide) rfl rfl ?_
        refine r_istore (lv2 := [(0, _), (1, _), (2, _), (3, _), (4, _), (5, _), (6, _)]) dX8_live_102 (by decide) rfl rfl ?_
        refine r_iinc (lv2 := [(0, _), (1, _), (2, _), (3, _), (4, _), (5, _), (6, _)]) dX8_live_104 (by decide) rfl rfl rfl ?_
        refine r_goto (tgt := 14) dX8_live_107 (by decide) ?_
        refine r_lv (lv2 := [(0, _), (1, _), (2, _), (3, _), (4, _), (5, _)]) rfl ?_
        rw [show (j : Int) + 1 = ((j + 1 : Nat) : Int) by omega]
        first
          | rw [if_pos (by omega)] at hi
          | rw [if_neg (by omega)] at hi
        exact hi _ ⟨(by first | rfl | exact c0), (by first | rfl | exact c1), (by first | rfl | exact c2), ⟨ht, htp, phl, phi⟩, (by exact pC), (by exact nC), (by exact mC), (by exact lC), (by exact s3), (by exact s4), (by exact s5), (by exact s17), (by exact s34), (by exact s58), ⟨_, _, _, _, _, (by first | rfl | exact c62), (by first | rfl | exact c63), (by first | rfl | exact c64)⟩, (by exact s65), (by exact s66), (by exact s67)⟩ (by repeat (first | exact fr | refine fr_up ?_ (by decide)))
      · refine r_iload dX8_live_79 rfl ?_
        refine r_if_eq (tgt := 104) dX8_live_81 (by decide) ⟨by omega, by omega⟩ (fun g81 => absurd g81 (by omega)) (fun g81 => ?_)
        refine r_iload dX8_live_84 rfl ?_
        refine r_istore_n (lv2 := [(0, _), (1, _), (2, _), (3, _), (4, _), (5, _), (6, _)]) dX8_live_86 rfl (by decide) rfl rfl ?_
        refine r_aload_n dX8_live_87 rfl rfl ?_
        refine r_get (fs := [_, _, _, _, _, _, _, _, _, _, _, _, _, _, _, _, _, _, _, _]) dX8_live_88 fl_X8_92 (by decide) c0 rfl ?_
        refine r_get (fs := [_, _, _, _, _, _, _, _, _, _]) dX8_live_91 fl_X8_172 (by decide) rfl rfl ?_
        refine r_istore_n (lv2 := [(0, _), (1, _), (2, _), (3, _), (4, _), (5, _), (6, _)]) dX8_live_94 rfl (by decide) rfl rfl ?_
        refine r_aload_n dX8_live_95 rfl rfl ?_
        refine r_get (fs := [_, _, _, _, _, _, _, _, _, _, _, _, _, _, _, _, _, _, _, _]) dX8_live_96 fl_X8_92 (by decide) c0 rfl ?_
        refine r_get (fs := [_, _, _, _, _, _, _, _, _, _]) dX8_live_99 fl_X8_175 (by decide) rfl rfl ?_
        refine r_istore (lv2 := [(0, _), (1, _), (2, _), (3, _), (4, _), (5, _), (6, _)]) dX8_live_102 (by decide) rfl rfl ?_
        refine r_iinc (lv2 := [(0, _), (1, _), (2, _), (3, _), (4, _), (5, _), (6, _)]) dX8_live_104 (by decide) rfl rfl rfl ?_
        refine r_goto (tgt := 14) dX8_live_107 (by decide) ?_
        refine r_lv (lv2 := [(0, _), (1, _), (2, _), (3, _), (4, _), (5, _)]) rfl ?_
        rw [show (j : Int) + 1 = ((j + 1 : Nat) : Int) by omega]
        first
          | rw [if_pos (by omega)] at hi
          | rw [if_neg (by omega)] at hi
        exact hi _ ⟨(by first | rfl | exact c0), (by first | rfl | exact c1), (by first | rfl | exact c2), ⟨ht, htp, phl, phi⟩, (by exact pC), (by exact nC), (by exact mC), (by exact lC), (by exact s3), (by exact s4), (by exact s5), (by exact s17), (by exact s34), (by exact s58), ⟨_, _, _, _, _, (by first | rfl | exact c62), (by first | rfl | exact c63), (by first | rfl | exact c64)⟩, (by exact s65), (by exact s66), (by exact s67)⟩ (by repeat (first | exact fr | refine fr_up ?_ (by decide)))
    · refine r_aload_n dX8_live_44 rfl rfl ?_
      refine r_get (fs := [_, _, _, _, _, _, _, _, _, _, _, _, _, _, _, _, _, _, _, _]) dX8_live_45 fl_X8_92 (by decide) c0 rfl ?_
      refine r_get (fs := [_, _, _, _, _, _, _, _, _, _]) dX8_live_48 fl_X8_172 (by decide) rfl rfl ?_
      refine r_iload_n dX8_live_51 rfl rfl ?_
      refine r_icmp_ne (tgt := 71) dX8_live_52 (by decide) ⟨by omega, by omega⟩ ⟨by omega, by omega⟩ (fun g52 => ?_) (fun g52 => ?_)
      · refine r_iconst dX8_live_71 ?_
        refine r_istore (lv2 := [(0, _), (1, _), (2, _), (3, _), (4, _), (5, _), (6, _)]) dX8_live_72 (by decide) rfl rfl ?_
        refine r_iload_n dX8_live_74 rfl rfl ?_
        refine r_iconst dX8_live_75 ?_
        refine r_icmp_eq (tgt := 84) dX8_live_76 (by decide) ⟨by omega, by omega⟩ ⟨by omega, by omega⟩ (fun g76 => ?_) (fun g76 => ?_)
        · refine r_iload dX8_live_84 rfl ?_
          refine r_istore_n (lv2 := [(0, _), (1, _), (2, _), (3, _), (4, _), (5, _), (6, _)]) dX8_live_86 rfl (by decide) rfl rfl ?_
          refine r_aload_n dX8_live_87 rfl rfl ?_
          refine r_get (fs := [_, _, _, _, _, _, _, _, _, _, _, _, _, _, _, _, _, _, _, _]) dX8_live_88 fl_X8_92 (by decide) c0 rfl ?_
          refine r_get (fs := [_, _, _, _, _, _, _, _, _, _]) dX8_live_91 fl_X8_172 (by decide) rfl rfl ?_
          refine r_istore_n (lv2 := [(0, _), (1, _), (2, _), (3, _), (4, _), (5, _), (6, _)]) dX8_live_94 rfl (by decide) rfl rfl ?_
          refine r_aload_n dX8_live_95 rfl rfl ?_
          refine r_get (fs := [_, _, _, _, _, _, _, _, _, _, _, _, _, _, _, _, _, _, _, _]) dX8_live_96 fl_X8_92 (by decide) c0 rfl ?_
          refine r_get (fs := [_, _, _, _, _, _, _, _, _, _]) dX8_live_99 fl_X8_175 (by decide) rfl rfl ?_
          refine r_istore (lv2 := [(0, _), (1, _), (2, _), (3, _), (4, _), (5, _), (6, _)]) dX8_live_102 (by decide) rfl rfl ?_
          refine r_iinc (lv2 := [(0, _), (1, _), (2, _), (3, _), (4, _), (5, _), (6, _)]) dX8_live_104 (by decide) rfl rfl rfl ?_
          refine r_goto (tgt := 14) dX8_live_107 (by decide) ?_
          refine r_lv (lv2 := [(0, _), (1, _), (2, _), (3, _), (4, _), (5, _)]) rfl ?_
          rw [show (j : Int) + 1 = ((j + 1 : Nat) : Int) by omega]
          first
            | rw [if_pos (by omega)] at hi
            | rw [if_neg (by omega)] at hi
          exact hi _ ⟨(by first | rfl | exact c0), (by first | rfl | exact c1), (by first | rfl | exact c2), ⟨ht, htp, phl, phi⟩, (by exact pC), (by exact nC), (by exact mC), (by exact lC), (by exact s3), (by exact s4), (by exact s5), (by exact s17), (by exact s34), (by exact s58), ⟨_, _, _, _, _, (by first | rfl | exact c62), (by first | rfl | exact c63), (by first | rfl | exact c64)⟩, (by exact s65), (by exact s66), (by exact s67)⟩ (by repeat (first | exact fr | refine fr_up ?_ (by decide)))
        · refine r_iload dX8_live_79 rfl ?_
          refine r_if_eq (tgt := 104) dX8_live_81 (by decide) ⟨by omega, by omega⟩ (fun g81 => ?_) (fun g81 => absurd g81 (by omega))
          refine r_iinc (lv2 := [(0, _), (1, _), (2, _), (3, _), (4, _), (5, _), (6, _)]) dX8_live_104 (by decide) rfl rfl rfl ?_
          refine r_goto (tgt := 14) dX8_live_107 (by decide) ?_
          refine r_lv (lv2 := [(0, _), (1, _), (2, _), (3, _), (4, _), (5, _)]) rfl ?_
          rw [show (j : Int) + 1 = ((j + 1 : Nat) : Int) by omega]
          first
            | rw [if_pos (by omega)] at hi
            | rw [if_neg (by omega)] at hi
          exact hi _ ⟨(by first | rfl | exact c0), (by first | rfl | exact c1), (by first | rfl | exact c2), ⟨ht, htp, phl, phi⟩, (by exact pC), (by exact nC), (by exact mC), (by exact lC), (by exact s3), (by exact s4), (by exact s5), (by exact s17), (by exact s34), (by exact s58), ⟨_, _, _, _, _, (by first | rfl | exact c62), (by first | rfl | exact c63), (by first | rfl | exact c64)⟩, (by exact s65), (by exact s66), (by exact s67)⟩ (by repeat (first | exact fr | refine fr_up ?_ (by decide)))
      · refine r_aload_n dX8_live_55 rfl rfl ?_
        refine r_get (fs := [_, _, _, _, _, _, _, _, _, _, _, _, _, _, _, _, _, _, _, _]) dX8_live_56 fl_X8_92 (by decide) c0 rfl ?_
        refine r_get (fs := [_, _, _, _, _, _, _, _, _, _]) dX8_live_59 fl_X8_175 (by decide) rfl rfl ?_
        refine r_iload dX8_live_62 rfl ?_
        refine r_icmp_ge (tgt := 71) dX8_live_64 (by decide) ⟨by omega, by omega⟩ ⟨by omega, by omega⟩ (fun g64 => ?_) (fun g64 => ?_)
        · refine r_iconst dX8_live_71 ?_
          refine r_istore (lv2 := [(0, _), (1, _), (2, _), (3, _), (4, _), (5, _), (6, _)]) dX8_live_72 (by decide) rfl rfl ?_
          refine r_iload_n dX8_live_74 rfl rfl ?_
          refine r_iconst dX8_live_75 ?_
          refine r_icmp_eq (tgt := 84) dX8_live_76 (by decide) ⟨by omega, by omega⟩ ⟨by omega, by omega⟩ (fun g76 => ?_) (fun g76 => ?_)
          · refine r_iload dX8_live_84 rfl ?_
            refine r_istore_n (lv2 := [(0, _), (1, _), (2, _), (3, _), (4, _), (5, _), (6, _)]) dX8_live_86 rfl (by decide) rfl rfl ?_
            refine r_aload_n dX8_live_87 rfl rfl ?_
            refine r_get (fs := [_, _, _, _, _, _, _, _, _, _, _, _, _, _, _, _, _, _, _, _]) dX8_live_88 fl_X8_92 (by decide) c0 rfl ?_
            refine r_get (fs := [_, _, _, _, _, _, _, _, _, _]) dX8_live_91 fl_X8_172 (by decide) rfl rfl ?_
            refine r_istore_n (lv2 := [(0, _), (1, _), (2, _), (3, _), (4, _), (5, _), (6, _)]) dX8_live_94 rfl (by decide) rfl rfl ?_
            refine r_aload_n dX8_live_95 rfl rfl ?_
            refine r_get (fs := [_, _, _, _, _, _, _, _, _, _, _, _, _, _, _, _, _, _, _, _]) dX8_live_96 fl_X8_92 (by decide) c0 rfl ?_
            refine r_get (fs := [_, _, _, _, _, _, _, _, _, _]) dX8_live_99 fl_X8_175 (by decide) rfl rfl ?_
            refine r_istore (lv2 := [(0, _), (1, _), (2, _), (3, _), (4, _), (5, _), (6, _)]) dX8_live_102 (by decide) rfl rfl ?_
            refine r_iinc (lv2 := [(0, _), (1, _), (2, _), (3, _), (4, _), (5, _), (6, _)]) dX8_live_104 (by decide) rfl rfl rfl ?_
            refine r_goto (tgt := 14) dX8_live_107 (by decide) ?_
            refine r_lv (lv2 := [(0, _), (1, _), (2, _), (3, _), (4, _), (5, _)]) rfl ?_
            rw [show (j : Int) + 1 = ((j + 1 : Nat) : Int) by omega]
            first
              | rw [if_pos (by omega)] at hi
              | rw [if_neg (by omega)] at hi
            exact hi _ ⟨(by first | rfl | exact c0), (by first | rfl | exact c1), (by first | rfl | exact c2), ⟨ht, htp, phl, phi⟩, (by exact pC), (by exact nC), (by exact mC), (by exact lC), (by exact s3), (by exact s4), (by exact s5), (by exact s17), (by exact s34), (by exact s58), ⟨_, _, _, _, _, (by first | rfl | exact c62), (by first | rfl | exact c63), (by first | rfl | exact c64)⟩, (by exact s65), (by exact s66), (by exact s67)⟩ (by repeat (first | exact fr | refine fr_up ?_ (by decide)))
          · refine r_iload dX8_live_79 rfl ?_
            refine r_if_eq (tgt := 104) dX8_live_81 (by decide) ⟨by omega, by omega⟩ (fun g81 => ?_) (fun g81 => absurd g81 (by omega))
            refine r_iinc (lv2 := [(0, _), (1, _), (2, _), (3, _), (4, _), (5, _), (6, _)]) dX8_live_104 (by decide) rfl rfl rfl ?_
            refine r_goto (tgt := 14) dX8_live_107 (by decide) ?_
            refine r_lv (lv2 := [(0, _), (1, _), (2, _), (3, _), (4, _), (5, _)]) rfl ?_
            rw [show (j : Int) + 1 = ((j + 1 : Nat) : Int) by omega]
            first
              | rw [if_pos (by omega)] at hi
              | rw [if_neg (by omega)] at hi
            exact hi _ ⟨(by first | rfl | exact c0), (by first | rfl | exact c1), (by first | rfl | exact c2), ⟨ht, htp, phl, phi⟩, (by exact pC), (by exact nC), (by exact mC), (by exact lC), (by exact s3), (by exact s4), (by exact s5), (by exact s17), (by exact s34), (by exact s58), ⟨_, _, _, _, _, (by first | rfl | exact c62), (by first | rfl | exact c63), (by first | rfl | exact c64)⟩, (by exact s65), (by exact s66), (by exact s67)⟩ (by repeat (first | exact fr | refine fr_up ?_ (by decide)))
        · refine r_iconst dX8_live_67 ?_
          refine r_goto (tgt := 72) dX8_live_68 (by decide) ?_
          refine r_istore (lv2 := [(0, _), (1, _), (2, _), (3, _), (4, _), (5, _), (6, _)]) dX8_live_72 (by decide) rfl rfl ?_
          refine r_iload_n dX8_live_74 rfl rfl ?_
          refine r_iconst dX8_live_75 ?_
          refine r_icmp_eq (tgt := 84) dX8_live_76 (by decide) ⟨by omega, by omega⟩ ⟨by omega, by omega⟩ (fun g76 => ?_) (fun g76 => ?_)
          · refine r_iload dX8_live_84 rfl ?_
            refine r_istore_n (lv2 := [(0, _), (1, _), (2, _), (3, _), (4, _), (5, _), (6, _)]) dX8_live_86 rfl (by decide) rfl rfl ?_
            refine r_aload_n dX8_live_87 rfl rfl ?_
            refine r_get (fs := [_, _, _, _, _, _, _, _, _, _, _, _, _, _, _, _, _, _, _, _]) dX8_live_88 fl_X8_92 (by decide) c0 rfl ?_
            refine r_get (fs := [_, _, _, _, _, _, _, _, _, _]) dX8_live_91 fl_X8_172 (by decide) rfl rfl ?_
            refine r_istore_n (lv2 := [(0, _), (1, _), (2, _), (3, _), (4, _), (5, _), (6, _)]) dX8_live_94 rfl (by decide) rfl rfl ?_
            refine r_aload_n dX8_live_95 rfl rfl ?_
            refine r_get (fs := [_, _, _, _, _, _, _, _, _, _, _, _, _, _, _, _, _, _, _, _]) dX8_live_96 fl_X8_92 (by decide) c0 rfl ?_
            refine r_get (fs := [_, _, _, _, _, _, _, _, _, _]) dX8_live_99 fl_X8_175 (by decide) rfl rfl ?_
            refine r_istore (lv2 := [(0, _), (1, _), (2, _), (3, _), (4, _), (5, _), (6, _)]) dX8_live_102 (by decide) rfl rfl ?_
            refine r_iinc (lv2 := [(0, _), (1, _), (2, _), (3, _), (4, _), (5, _), (6, _)]) dX8_live_104 (by decide) rfl rfl rfl ?_
            refine r_goto (tgt := 14) dX8_live_107 (by decide) ?_
            refine r_lv (lv2 := [(0, _), (1, _), (2, _), (3, _), (4, _), (5, _)]) rfl ?_
            rw [show (j : Int) + 1 = ((j + 1 : Nat) : Int) by omega]
            first
              | rw [if_pos (by omega)] at hi
              | rw [if_neg (by omega)] at hi
            exact hi _ ⟨(by first | rfl | exact c0), (by first | rfl | exact c1), (by first | rfl | exact c2), ⟨ht, htp, phl, phi⟩, (by exact pC), (by exact nC), (by exact mC), (by exact lC), (by exact s3), (by exact s4), (by exact s5), (by exact s17), (by exact s34), (by exact s58), ⟨_, _, _, _, _, (by first | rfl | exact c62), (by first | rfl | exact c63), (by first | rfl | exact c64)⟩, (by exact s65), (by exact s66), (by exact s67)⟩ (by repeat (first | exact fr | refine fr_up ?_ (by decide)))
          · refine r_iload dX8_live_79 rfl ?_
            refine r_if_eq (tgt := 104) dX8_live_81 (by decide) ⟨by omega, by omega⟩ (fun g81 => absurd g81 (by omega)) (fun g81 => ?_)
            refine r_iload dX8_live_84 rfl ?_
            refine r_istore_n (lv2 := [(0, _), (1, _), (2, _), (3, _), (4, _), (5, _), (6, _)]) dX8_live_86 rfl (by decide) rfl rfl ?_
            refine r_aload_n dX8_live_87 rfl rfl ?_
            refine r_get (fs := [_, _, _, _, _, _, _, _, _, _, _, _, _, _, _, _, _, _, _, _]) dX8_live_88 fl_X8_92 (by decide) c0 rfl ?_
            refine r_get (fs := [_, _, _, _, _, _, _, _, _, _]) dX8_live_91 fl_X8_172 (by decide) rfl rfl ?_
            refine r_istore_n (lv2 := [(0, _), (1, _), (2, _), (3, _), (4, _), (5, _), (6, _)]) dX8_live_94 rfl (by decide) rfl rfl ?_
            refine r_aload_n dX8_live_95 rfl rfl ?_
            refine r_get (fs := [_, _, _, _, _, _, _, _, _, _, _, _, _, _, _, _, _, _, _, _]) dX8_live_96 fl_X8_92 (by decide) c0 rfl ?_
            refine r_get (fs := [_, _, _, _, _, _, _, _, _, _]) dX8_live_99 fl_X8_175 (by decide) rfl rfl ?_
            refine r_istore (lv2 := [(0, _), (1, _), (2, _), (3, _), (4, _), (5, _), (6, _)]) dX8_live_102 (by decide) rfl rfl ?_
            refine r_iinc (lv2 := [(0, _), (1, _), (2, _), (3, _), (4, _), (5, _), (6, _)]) dX8_live_104 (by decide) rfl rfl rfl ?_
            refine r_goto (tgt := 14) dX8_live_107 (by decide) ?_
            refine r_lv (lv2 := [(0, _), (1, _), (2, _), (3, _), (4, _), (5, _)]) rfl ?_
            rw [show (j : Int) + 1 = ((j + 1 : Nat) : Int) by omega]
            first
              | rw [if_pos (by omega)] at hi
              | rw [if_neg (by omega)] at hi
            exact hi _ ⟨(by first | rfl | exact c0), (by first | rfl | exact c1), (by first | rfl | exact c2), ⟨ht, htp, phl, phi⟩, (by exact pC), (by exact nC), (by exact mC), (by exact lC), (by exact s3), (by exact s4), (by exact s5), (by exact s17), (by exact s34), (by exact s58), ⟨_, _, _, _, _, (by first | rfl | exact c62), (by first | rfl | exact c63), (by first | rfl | exact c64)⟩, (by exact s65), (by exact s66), (by exact s67)⟩ (by repeat (first | exact fr | refine fr_up ?_ (by decide)))

theorem s_X8_live {h : aH} {t : Nat → Int} {tp : Nat} {fpl hlaw himg : Int} {rf : Nat → Int} {nd sw nc hl hs : Int} {K U I O G L cf ct fc nx cd : Nat → Int} {nr ns nm : Int} {rd ry rm rt se md my mt : Nat → Int} {M : ND} {ls : LSm} (cc : CanC h (t, tp, fpl, rf, hlaw, himg, ((nd, sw, nc), (hl, hs), K, U, I, O, G, L, cf, ct, fc, nx, cd), ((nr, ns, nm), rd, ry, rm, rt, se, md, my, mt), M, ls)) {m : Int} (im : inR m)  : mSem yX8_live cX8_live 7 (some .int) 8 1 6 [.ref 0, iv m] 97 h (PubQ (ocL [(minB m, 1)]) (some (iv (lvS (fun j => ((yT (fun d => nowI sw nc nm K U I O G L cf ct cd md my mt (j : Nat) d m) m 365).1, (yT (fun d => nowI sw nc nm K U I O G L cf ct cd md my mt (j : Nat) d m) m 365).2.1)) nd.toNat).1)) h (t, tp, fpl, rf, hlaw, himg, ((nd, sw, nc), (hl, hs), K, U, I, O, G, L, cf, ct, fc, nx, cd), ((nr, ns, nm), rd, ry, rm, rt, se, md, my, mt), M, ls)) (PubX (ocL [(minB m, 1)]) h (t, tp, fpl, rf, hlaw, himg, ((nd, sw, nc), (hl, hs), K, U, I, O, G, L, cf, ct, fc, nx, cd), ((nr, ns, nm), rd, ry, rm, rt, se, md, my, mt), M, ls)) := by
  obtain ⟨c0, c1, c2, ⟨ht, htp, phl, phi⟩, pC, nC, mC, lC, s3, s4, s5, s17, s34, s58, s62, s65, s66, s67⟩ := id cc
  obtain ⟨c6, c7, c8, c9, c10, c11, c12, c13, c14, c15, c16, pi⟩ := id pC
  obtain ⟨c40, c41, c42, c43, c44, c45, c46, c47, c48, ni, nsn⟩ := id nC
  obtain ⟨pnd, psw, pnc, pK, pU, pI, pO, pG, pL, pcf, pct, pfc, pnx⟩ := id pi
  obtain ⟨pnr, pns, pnm, prd, pry, prm, prt, pse, pmd, pmy, pmt⟩ := id ni
  unfold inR at im
  refine mSem_of (own := RX8) (name := "live") pn_X8 rfl rfl (Nat.le_of_ble_eq_true rfl) ?_
  refine r_iload_n dX8_live_0 rfl rfl ?_
  refine r_callS [_] (s_X8_needMinute im) dX8_live_1 cs_X8_142 sm_X8_needMinute (by decide) (by decide) (by decide) rfl rfl (Nat.le_of_ble_eq_true rfl) (fun E n2 h2 q => by
    obtain ⟨rfl, nk, rfl, rfl⟩ := q
    exact ⟨rfl, Or.inl ⟨by simp [ocL, nk], rfl⟩, rfl, cls_of cc, fun _ _ => rfl⟩) (fun v n2 h2 q => ?_)
  obtain ⟨k1, rfl, rfl, hh⟩ := q
  obtain rfl := hh.symm
  have bm := of_decide_eq_true k1
  refine ⟨rfl, ?_⟩
  dsimp only [Option.toList, List.cons_append, List.nil_append]
  refine r_iconst dX8_live_4 ?_
  refine r_istore_n (lv2 := [(0, _), (1, _), (2, _)]) dX8_live_5 rfl (by decide) rfl rfl ?_
  refine r_iconst dX8_live_6 ?_
  refine r_istore_n (lv2 := [(0, _), (1, _), (2, _), (3, _)]) dX8_live_7 rfl (by decide) rfl rfl ?_
  refine r_iconst dX8_live_8 ?_
  refine r_istore (lv2 := [(0, _), (1, _), (2, _), (3, _), (4, _)]) dX8_live_9 (by decide) rfl rfl ?_
  refine r_iconst dX8_live_11 ?_
  refine r_istore (lv2 := [(0, _), (1, _), (2, _), (3, _), (4, _), (5, _)]) dX8_live_12 (by decide) rfl rfl ?_
  exact l_X8_live (by simp [ocL, k1]) (by omega) nd.toNat 0 h (by omega) cc (fun _ _ => rfl)

theorem l_X8_judged {t : Nat → Int} {tp : Nat} {fpl hlaw himg : Int} {rf : Nat → Int} {nd sw nc hl hs : Int} {K U I O G L cf ct fc nx cd : Nat → Int} {nr ns nm : Int} {rd ry rm rt se md my mt : Nat → Int} {M : ND} {ls : LSm} {h0 : aH} {oc : Nat} (hoc : oc = 0) {X : String → Nat → aH → Prop} {m w : Int} (hm : 0 ≤ m ∧ m < 1440) (hw : 0 ≤ w ∧ w ≤ 3) (hl1 : hlaw = 1) : ∀ (k j : Nat) (h : aH), j + k = 365 → CanC h (t, tp, fpl, rf, hlaw, himg, ((nd, sw, nc), (hl, hs), K, U, I, O, G, L, cf, ct, fc, nx, cd), ((nr, ns, nm), rd, ry, rm, rt, se, md, my, mt), M, ls) → FrC h0 h → (∃ dr, h 62 = TAL (yT (fun d => ls (fun j => nowI sw nc nm K U I O G L cf ct cd md my mt (j : Nat) d m) (d / 31)) m j) s0 dr) → ((-1 ≤ (yT (fun d => ls (fun j => nowI sw nc nm K U I O G L cf ct cd md my mt (j : Nat) d m) (d / 31)) m j).2.2.2 ∧ (yT (fun d => ls (fun j => nowI sw nc nm K U I O G L cf ct cd md my mt (j : Nat) d m) (d / 31)) m j).2.2.2 ≤ 720)) → Ev RX8 "judged" cX8_judged 6 (some .int) 30 0 0 (PubQ oc (some (iv (jdV (yT (fun d => ls (fun j => nowI sw nc nm K U I O G L cf ct cd md my mt (j : Nat) d m) (d / 31)) m 365) (ubS (fun d => ls (fun j => nowI sw nc nm K U I O G L cf ct cd md my mt (j : Nat) d m) (d / 31)) (fun d j => nowI sw nc nm K U I O G L cf ct cd md my mt ((j : Nat) : Int) d m) m nd.toNat 365) w))) h0 (t, tp, fpl, rf, hlaw, himg, ((nd, sw, nc), (hl, hs), K, U, I, O, G, L, cf, ct, fc, nx, cd), ((nr, ns, nm), rd, ry, rm, rt, se, md, my, mt), M, ls)) X 97 h 25 [(0, .ref 0), (1, iv m), (2, iv w), (3, iv (ubS (fun d => ls (fun j => nowI sw nc nm K U I O G L cf ct cd md my mt (j : Nat) d m) (d / 31)) (fun d j => nowI sw nc nm K U I O G L cf ct cd md my mt ((j : Nat) : Int) d m) m nd.toNat j)), (4, iv j)] [] := by
  intro k
  induction k with
  | zero =>
    intro j h hj cc fr ⟨dr, c62⟩ bt
    obtain ⟨c0, c1, c2, ⟨ht, htp, phl, phi⟩, pC, nC, mC, lC, s3, s4, s5, s17, s34, s58, s62, s65, s66, s67⟩ := id cc
    obtain ⟨c6, c7, c8, c9, c10, c11, c12, c13, c14, c15, c16, pi⟩ := id pC
    obtain ⟨c40, c41, c42, c43, c44, c45, c46, c47, c48, ni, nsn⟩ := id nC
    obtain ⟨pnd, psw, pnc, pK, pU, pI, pO, pG, pL, pcf, pct, pfc, pnx⟩ := id pi
    obtain ⟨pnr, pns, pnm, prd, pry, prm, prt, pse, pmd, pmy, pmt⟩ := id ni
    obtain rfl : j = 365 := by omega
    refine r_iload dX8_judged_25 rfl ?_
    refine r_sipush dX8_judged_27 rfl ?_
    refine r_icmp_ge (tgt := 73) dX8_judged_30 (by decide) ⟨by omega, by omega⟩ ⟨by omega, by omega⟩ (fun g30 => ?_) (fun g30 => absurd g30 (by omega))
    refine r_iload_n dX8_judged_73 rfl rfl ?_
    refine r_tsw3 (td := 124) (t0 := 100) (t1 := 108) (t2 := 116) dX8_judged_74 rfl ⟨by omega, by omega⟩ (by decide) (by decide) (by decide) (by decide) (fun g74 => ?_) (fun g74 => ?_) (fun g74 => ?_) (fun g74 => ?_)
    · refine r_iload_n dX8_judged_124 rfl rfl ?_
      refine r_iret dX8_judged_125 ?_
      exact ⟨hoc, (ivE (by unfold jdV; rw [if_neg (by omega), if_neg (by omega), if_neg (by omega)])), rfl, cls_of cc, fr⟩
    · refine r_aload_n dX8_judged_100 rfl rfl ?_
      refine r_get (fs := [_, _, _, _, _, _, _, _, _, _, _, _, _, _, _, _, _, _, _, _]) dX8_judged_101 fl_X8_92 (by decide) c0 rfl ?_
      refine r_get (fs := [_, _, _, _, _, _, _, _, _, _]) dX8_judged_104 fl_X8_172 (by decide) c62 rfl ?_
      refine r_iret dX8_judged_107 ?_
      exact ⟨hoc, (ivE (by unfold jdV; rw [if_pos (by omega)])), rfl, cls_of cc, fr⟩
    · refine r_aload_n dX8_judged_108 rfl rfl ?_
      refine r_get (fs := [_, _, _, _, _, _, _, _, _, _, _, _, _, _, _, _, _, _, _, _]) dX8_judged_109 fl_X8_92 (by decide) c0 rfl ?_
      refine r_get (fs := [_, _, _, _, _, _, _, _, _, _]) dX8_judged_112 fl_X8_175 (by decide) c62 rfl ?_
      refine r_iret dX8_judged_115 ?_
      exact ⟨hoc, (ivE (by unfold jdV; rw [if_neg (by omega), if_pos (by omega)])), rfl, cls_of cc, fr⟩
    · refine r_aload_n dX8_judged_116 rfl rfl ?_
      refine r_get (fs := [_, _, _, _, _, _, _, _, _, _, _, _, _, _, _, _, _, _, _, _]) dX8_judged_117 fl_X8_92 (by decide) c0 rfl ?_
      refine r_get (fs := [_, _, _, _, _, _, _, _, _, _]) dX8_judged_120 fl_X8_178 (by decide) c62 rfl ?_
      refine r_iret dX8_judged_123 ?_
      exact ⟨hoc, (ivE (by unfold jdV; rw [if_neg (by omega), if_neg (by omega), if_pos (by omega)])), rfl, cls_of cc, fr⟩
  | succ k ih =>
    intro j h hj cc fr ⟨dr, c62⟩ bt
    obtain ⟨c0, c1, c2, ⟨ht, htp, phl, phi⟩, pC, nC, mC, lC, s3, s4, s5, s17, s34, s58, s62, s65, s66, s67⟩ := id cc
    obtain ⟨c6, c7, c8, c9, c10, c11, c12, c13, c14, c15, c16, pi⟩ := id pC
    obtain ⟨c40, c41, c42, c43, c44, c45, c46, c47, c48, ni, nsn⟩ := id nC
    obtain ⟨pnd, psw, pnc, pK, pU, pI, pO, pG, pL, pcf, pct, pfc, pnx⟩ := id pi
    obtain ⟨pnr, pns, pnm, prd, pry, prm, prt, pse, pmd, pmy, pmt⟩ := id ni
    obtain ⟨D, tv, m0, sgf, c28, c29, c30, c31, c32, c33, lo, lsem⟩ := id lC
    obtain ⟨tf, c65, htf⟩ := id s65
    obtain ⟨tt0, ss0, dr0, f63, g64, c62o, c63, c64⟩ := id s62
    have hi := fun h => ih (j + 1) h (by omega)
    rw [ubS_s (fun d => ls (fun j => nowI sw nc nm K U I O G L cf ct cd md my mt (j : Nat) d m) (d / 31)) (fun d j => nowI sw nc nm K U I O G L cf ct cd md my mt ((j : Nat) : Int) d m) m nd.toNat j] at hi
    have bb := b2i_01 (btnI ((fun d j => nowI sw nc nm K U I O G L cf ct cd md my mt ((j : Nat) : Int) d m) j) ((fun d => ls (fun j => nowI sw nc nm K U I O G L cf ct cd md my mt (j : Nat) d m) (d / 31)) j) m nd.toNat)
    have eb : ∀ g to, btnI (cpyF (fun q => nowI sw nc nm K U I O G L cf ct cd md my mt (q : Nat) j m) g nd.toNat) to m nd.toNat = btnI ((fun d j => nowI sw nc nm K U I O G L cf ct cd md my mt ((j : Nat) : Int) d m) j) to m nd.toNat := fun g to => btnI_congr (fun q hq => cpy_lo (nd := nd) q (by omega))
    dsimp only at hi bb eb
    refine r_iload dX8_judged_25 rfl ?_
    refine r_sipush dX8_judged_27 rfl ?_
    refine r_icmp_ge (tgt := 73) dX8_judged_30 (by decide) ⟨by omega, by omega⟩ ⟨by omega, by omega⟩ (fun g30 => absurd g30 (by omega)) (fun g30 => ?_)
    refine r_aload_n dX8_judged_33 rfl rfl ?_
    refine r_iload dX8_judged_34 rfl ?_
    refine r_iload_n dX8_judged_36 rfl rfl ?_
    refine r_callV 0 [_, _] (s_X8_lawTells c6 c7 c8 c9 c10 c11 c12 c13 c14 c15 c16 c40 c41 c42 c43 c44 c45 c46 c47 c48 c0 c65 pi ni c28 c29 c30 c31 c32 c33 lo htf (by omega) (by omega)) dX8_judged_37 cs_X8_148 im_X8_lawTells (by decide) c0 rfl (by decide) (by decide) (by decide) rfl rfl (Nat.le_of_ble_eq_true rfl) (fun _ _ _ q => q.elim) (fun v n2 h2 q => ?_)
    obtain ⟨rfl, rfl, f2, rfl⟩ := q
    have bl := (evI_B (N := (D.1 : Int)) (so := D.2.1) (va := D.2.2.1) (fp := D.2.2.2.1) (np := D.2.2.2.2) (mo := (j : Int) / 31) (cpy_L (n := nd.toNat) (fun q => now_B sw nc nm K U I O G L cf ct cd md my mt (q : Nat) j m) htf) 12).1 0
    have el : evD D (cpyF (fun q => nowI sw nc nm K U I O G L cf ct cd md my mt (q : Nat) j m) tf nd.toNat) ((j : Int) / 31) 12 true 0 = (fun d => ls (fun j => nowI sw nc nm K U I O G L cf ct cd md my mt (j : Nat) d m) (d / 31)) j := ((lsem hl1).1 _ _).trans ((lsem hl1).2 _ _ _ (fun q hq => cpy_lo q hq))
    have bl2 : -1 ≤ (fun d => ls (fun j => nowI sw nc nm K U I O G L cf ct cd md my mt (j : Nat) d m) (d / 31)) j ∧ (fun d => ls (fun j => nowI sw nc nm K U I O G L cf ct cd md my mt (j : Nat) d m) (d / 31)) j < 1440 := by rw [← el]; exact bl
    dsimp only at bl2 el
    rw [el]
    refine ⟨rfl, ?_⟩
    dsimp only [Option.toList, List.cons_append, List.nil_append]
    refine r_istore (lv2 := [(0, _), (1, _), (2, _), (3, _), (4, _), (5, _)]) dX8_judged_40 (by decide) rfl rfl ?_
    refine r_aload_n dX8_judged_42 rfl rfl ?_
    refine r_get (fs := [_, _, _, _, _, _, _, _, _, _, _, _, _, _, _, _, _, _, _, _]) dX8_judged_43 fl_X8_92 (by decide) c0 rfl ?_
    refine r_iload dX8_judged_46 rfl ?_
    refine r_iload dX8_judged_48 rfl ?_
    refine r_iload_n dX8_judged_50 rfl rfl ?_
    refine r_callV 62 [_, _, _] (s_X7_add (by exact c62) (by omega) hm bt) dX8_judged_51 cs_X8_164 im_X7_add (by decide) c62 rfl (by decide) (by decide) (by decide) rfl rfl (Nat.le_of_ble_eq_true rfl) (fun _ _ _ q => q.elim) (fun v n2 h2 q => ?_)
    obtain ⟨rfl, rfl, hh⟩ := q
    obtain rfl := hh.symm
    refine ⟨rfl, ?_⟩
    dsimp only [Option.toList, List.cons_append, List.nil_append]
    refine r_aload_n dX8_judged_54 rfl rfl ?_
    refine r_iload dX8_judged_55 rfl ?_
    refine r_iload_n dX8_judged_57 rfl rfl ?_
    refine r_callV 0 [_, _] (s_X8_isBeaten (by exact c6) (by exact c7) (by exact c8) (by exact c9) (by exact c10) (by exact c11) (by exact c12) (by exact c13) (by exact c14) (by exact c15) (by exact c16) (by exact c40) (by exact c41) (by exact c42) (by exact c43) (by exact c44) (by exact c45) (by exact c46) (by exact c47) (by exact c48) (by exact c0) (by rfl) pi ni (cpy_L (fun q => now_B sw nc nm K U I O G L cf ct cd md my mt (q : Nat) j m) htf) (by omega) (by omega)) dX8_judged_58 cs_X8_168 im_X8_isBeaten (by decide) c0 rfl (by decide) (by decide) (by decide) rfl rfl (Nat.le_of_ble_eq_true rfl) (fun _ _ _ q => q.elim) (fun v n2 h2 q => ?_)
    obtain ⟨rfl, rfl, hh⟩ := q
    obtain rfl := hh.symm
    refine ⟨rfl, ?_⟩
    dsimp only [Option.toList, List.cons_append, List.nil_append]
    rw [eb]
    refine r_if_ne (tgt := 67) dX8_judged_61 (by decide) ⟨by omega, by omega⟩ (fun g61 => ?_) (fun g61 => ?_)
    · refine r_iinc (lv2 := [(0, _), (1, _), (2, _), (3, _), (4, _), (5, _)]) dX8_judged_67 (by decide) rfl rfl rfl ?_
      refine r_goto (tgt := 25) dX8_judged_70 (by decide) ?_
      refine r_lv (lv2 := [(0, _), (1, _), (2, _), (3, _), (4, _)]) rfl ?_
      rw [show (j : Int) + 1 = ((j + 1 : Nat) : Int) by omega]
      have bt2 := tAdd_B (day := (j : Int)) bl2 hm bt
      first
        | (rw [b2i_0] at g61
           rw [if_neg (by rw [g61]; decide)] at hi)
        | (rw [b2i_0, Bool.not_eq_false] at g61
           rw [if_pos g61] at hi)
      exact hi _ ⟨(by first | rfl | exact c0), (by first | rfl | exact c1), (by first | rfl | exact c2), ⟨ht, htp, phl, phi⟩, (by exact pC), (by exact nC), (by exact mC), ⟨D, _, _, _, (by first | rfl | exact c28), (by first | rfl | exact c29), (by first | rfl | exact c30), (by first | rfl | exact c31), (by first | rfl | exact c32), (by first | rfl | exact c33), lo, lsem⟩, (by exact s3), (by exact s4), (by exact s5), (by exact s17), (by exact s34), (by exact s58), ⟨_, _, _, _, _, (by first | rfl | exact c62), (by first | rfl | exact c63), (by first | rfl | exact c64)⟩, ⟨_, (by first | rfl | exact c65), (by exact cpy_L (fun q => now_B sw nc nm K U I O G L cf ct cd md my mt (q : Nat) j m) htf)⟩, (by exact s66), (by exact s67)⟩ (by repeat (first | exact fr | refine fr_up ?_ (by decide))) ⟨_, rfl⟩ bt2
    · refine r_iinc (lv2 := [(0, _), (1, _), (2, _), (3, _), (4, _), (5, _)]) dX8_judged_64 (by decide) rfl rfl rfl ?_
      refine r_iinc (lv2 := [(0, _), (1, _), (2, _), (3, _), (4, _), (5, _)]) dX8_judged_67 (by decide) rfl rfl rfl ?_
      refine r_goto (tgt := 25) dX8_judged_70 (by decide) ?_
      refine r_lv (lv2 := [(0, _), (1, _), (2, _), (3, _), (4, _)]) rfl ?_
      rw [show (j : Int) + 1 = ((j + 1 : Nat) : Int) by omega]
      have bt2 := tAdd_B (day := (j : Int)) bl2 hm bt
      first
        | (rw [b2i_0] at g61
           rw [if_neg (by rw [g61]; decide)] at hi)
        | (rw [b2i_0, Bool.not_eq_false] at g61
           rw [if_pos g61] at hi)
      exact hi _ ⟨(by first | rfl | exact c0), (by first | rfl | exact c1), (by first | rfl | exact c2), ⟨ht, htp, phl, phi⟩, (by exact pC), (by exact nC), (by exact mC), ⟨D, _, _, _, (by first | rfl | exact c28), (by first | rfl | exact c29), (by first | rfl | exact c30), (by first | rfl | exact c31), (by first | rfl | exact c32), (by first | rfl | exact c33), lo, lsem⟩, (by exact s3), (by exact s4), (by exact s5), (by exact s17), (by exact s34), (by exact s58), ⟨_, _, _, _, _, (by first | rfl | exact c62), (by first | rfl | exact c63), (by first | rfl | exact c64)⟩, ⟨_, (by first | rfl | exact c65), (by exact cpy_L (fun q => now_B sw nc nm K U I O G L cf ct cd md my mt (q : Nat) j m) htf)⟩, (by exact s66), (by exact s67)⟩ (by repeat (first | exact fr | refine fr_up ?_ (by decide))) ⟨_, rfl⟩ bt2

theorem s_X8_judged {h : aH} {t : Nat → Int} {tp : Nat} {fpl hlaw himg : Int} {rf : Nat → Int} {nd sw nc hl hs : Int} {K U I O G L cf ct fc nx cd : Nat → Int} {nr ns nm : Int} {rd ry rm rt se md my mt : Nat → Int} {M : ND} {ls : LSm} (cc : CanC h (t, tp, fpl, rf, hlaw, himg, ((nd, sw, nc), (hl, hs), K, U, I, O, G, L, cf, ct, fc, nx, cd), ((nr, ns, nm), rd, ry, rm, rt, se, md, my, mt), M, ls)) {m w : Int} (im : inR m) (iw : inR w)  : mSem yX8_judged cX8_judged 6 (some .int) 30 3 18 [.ref 0, iv m, iv w] 97 h (PubQ (ocL [(minB m, 1), (whaB w 3, 1), (decide (hlaw = 1), 2)]) (some (iv (jdV (yT (fun d => ls (fun j => nowI sw nc nm K U I O G L cf ct cd md my mt (j : Nat) d m) (d / 31)) m 365) (ubS (fun d => ls (fun j => nowI sw nc nm K U I O G L cf ct cd md my mt (j : Nat) d m) (d / 31)) (fun d j => nowI sw nc nm K U I O G L cf ct cd md my mt ((j : Nat) : Int) d m) m nd.toNat 365) w))) h (t, tp, fpl, rf, hlaw, himg, ((nd, sw, nc), (hl, hs), K, U, I, O, G, L, cf, ct, fc, nx, cd), ((nr, ns, nm), rd, ry, rm, rt, se, md, my, mt), M, ls)) (PubX (ocL [(minB m, 1), (whaB w 3, 1), (decide (hlaw = 1), 2)]) h (t, tp, fpl, rf, hlaw, himg, ((nd, sw, nc), (hl, hs), K, U, I, O, G, L, cf, ct, fc, nx, cd), ((nr, ns, nm), rd, ry, rm, rt, se, md, my, mt), M, ls)) := by
  obtain ⟨c0, c1, c2, ⟨ht, htp, phl, phi⟩, pC, nC, mC, lC, s3, s4, s5, s17, s34, s58, s62, s65, s66, s67⟩ := id cc
  obtain ⟨c6, c7, c8, c9, c10, c11, c12, c13, c14, c15, c16, pi⟩ := id pC
  obtain ⟨c40, c41, c42, c43, c44, c45, c46, c47, c48, ni, nsn⟩ := id nC
  obtain ⟨pnd, psw, pnc, pK, pU, pI, pO, pG, pL, pcf, pct, pfc, pnx⟩ := id pi
  obtain ⟨pnr, pns, pnm, prd, pry, prm, prt, pse, pmd, pmy, pmt⟩ := id ni
  unfold inR at im iw
  obtain ⟨tt0, ss0, dr, f63, g64, c62, c63, c64⟩ := id s62
  refine mSem_of (own := RX8) (name := "judged") pn_X8 rfl rfl (Nat.le_of_ble_eq_true rfl) ?_
  refine r_iload_n dX8_judged_0 rfl rfl ?_
  refine r_callS [_] (s_X8_needMinute im) dX8_judged_1 cs_X8_142 sm_X8_needMinute (by decide) (by decide) (by decide) rfl rfl (Nat.le_of_ble_eq_true rfl) (fun E n2 h2 q => by
    obtain ⟨rfl, nk, rfl, rfl⟩ := q
    exact ⟨rfl, Or.inl ⟨by simp [ocL, nk], rfl⟩, rfl, cls_of cc, fun _ _ => rfl⟩) (fun v n2 h2 q => ?_)
  obtain ⟨k1, rfl, rfl, hh⟩ := q
  obtain rfl := hh.symm
  have bm := of_decide_eq_true k1
  refine ⟨rfl, ?_⟩
  dsimp only [Option.toList, List.cons_append, List.nil_append]
  refine r_iload_n dX8_judged_4 rfl rfl ?_
  refine r_iconst dX8_judged_5 ?_
  refine r_callS [_, _] (s_X8_needWhat iw ⟨by decide, by decide⟩) dX8_judged_6 cs_X8_160 sm_X8_needWhat (by decide) (by decide) (by decide) rfl rfl (Nat.le_of_ble_eq_true rfl) (fun E n2 h2 q => by
    obtain ⟨rfl, nk, rfl, rfl⟩ := q
    exact ⟨rfl, Or.inl ⟨by simp [ocL, k1, nk], rfl⟩, rfl, cls_of cc, fun _ _ => rfl⟩) (fun v n2 h2 q => ?_)
  obtain ⟨k2, rfl, rfl, hh⟩ := q
  obtain rfl := hh.symm
  have bw := of_decide_eq_true k2
  refine ⟨rfl, ?_⟩
  dsimp only [Option.toList, List.cons_append, List.nil_append]
  refine r_aload_n dX8_judged_9 rfl rfl ?_
  refine r_callV 0 [] (s_X8_needLaw c0 phl) dX8_judged_10 cs_X8_145 im_X8_needLaw (by decide) c0 rfl (by decide) (by decide) (by decide) rfl rfl (Nat.le_of_ble_eq_true rfl) (fun E n2 h2 q => by
    obtain ⟨rfl, nk, rfl, rfl⟩ := q
    exact ⟨rfl, Or.inr ⟨by simp [ocL, k1, k2, nk], rfl⟩, rfl, cls_of cc, fun _ _ => rfl⟩) (fun v n2 h2 q => ?_)
  obtain ⟨k3, rfl, rfl, hh⟩ := q
  obtain rfl := hh.symm
  have blaw := of_decide_eq_true k3
  refine ⟨rfl, ?_⟩
  dsimp only [Option.toList, List.cons_append, List.nil_append]
  refine r_aload_n dX8_judged_13 rfl rfl ?_
  refine r_get (fs := [_, _, _, _, _, _, _, _, _, _, _, _, _, _, _, _, _, _, _, _]) dX8_judged_14 fl_X8_92 (by decide) c0 rfl ?_
  refine r_callV 62 [] (s_X7_clear c62) dX8_judged_17 cs_X8_163 im_X7_clear (by decide) c62 rfl (by decide) (by decide) (by decide) rfl rfl (Nat.le_of_ble_eq_true rfl) (fun _ _ _ q => q.elim) (fun v n2 h2 q => ?_)
  obtain ⟨rfl, rfl, hh⟩ := q
  obtain rfl := hh.symm
  refine ⟨rfl, ?_⟩
  dsimp only [Option.toList, List.cons_append, List.nil_append]
  refine r_iconst dX8_judged_20 ?_
  refine r_istore_n (lv2 := [(0, _), (1, _), (2, _), (3, _)]) dX8_judged_21 rfl (by decide) rfl rfl ?_
  refine r_iconst dX8_judged_22 ?_
  refine r_istore (lv2 := [(0, _), (1, _), (2, _), (3, _), (4, _)]) dX8_judged_23 (by decide) rfl rfl ?_
  exact l_X8_judged (by simp [ocL, k1, k2, k3]) (by omega) (by omega) blaw 365 0 _ (by omega) ⟨(by first | rfl | exact c0), (by first | rfl | exact c1), (by first | rfl | exact c2), ⟨ht, htp, phl, phi⟩, (by exact pC), (by exact nC), (by exact mC), (by exact lC), (by exact s3), (by exact s4), (by exact s5), (by exact s17), (by exact s34), (by exact s58), ⟨_, _, _, _, _, (by first | rfl | exact c62), (by first | rfl | exact c63), (by first | rfl | exact c64)⟩, (by exact s65), (by exact s66), (by exact s67)⟩ (by repeat (first | exact fun _ _ => rfl | refine fr_up ?_ (by decide))) ⟨_, rfl⟩ ⟨show (-1 : Int) ≤ -1 by decide, show (-1 : Int) ≤ 720 by decide⟩
