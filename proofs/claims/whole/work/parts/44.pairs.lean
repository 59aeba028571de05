/-! ===== the public methods: best, together, faults, next ===== -/
def rtS (pl : Int → Int) (kind m w : Int) : Nat → Nat → Int
  | 0 => fun _ => 0
  | k + 1 => rtI (rtS pl kind m w k) kind (pl k) m w
theorem pSum_up (f : Nat → Int) (i : Nat) (x : Int) : ∀ k, pSum (va_up f i x) k = pSum f k + (if i < k then x - f i else 0) := by
  intro k
  induction k with
  | zero => rw [if_neg (by omega)]; rfl
  | succ k ih =>
    rw [pSum_s, pSum_s, ih]
    by_cases c : k = i
    · subst c
      rw [va_up_self, if_neg (by omega), if_pos (by omega)]
      omega
    · rw [va_up_ne _ _ c]
      split <;> split <;> omega
theorem tsAdd_p (f : Nat → Int) (a b : Int) (k : Nat) : pSum f k ≤ pSum (tsAdd f a b) k ∧ pSum (tsAdd f a b) k ≤ pSum f k + 1 := by
  unfold tsAdd
  split
  · rw [pSum_up, pSum_up]
    rw [show ∀ x : Int, x - 1 - x = -1 from fun x => by omega, show ∀ x : Int, x + 1 - x = 1 from fun x => by omega]
    split <;> split <;> omega
  · omega
theorem rtS_p (pl : Int → Int) (kind m w : Int) : ∀ k j : Nat, 0 ≤ pSum (rtS pl kind m w k) j ∧ pSum (rtS pl kind m w k) j ≤ k := by
  intro k
  induction k with
  | zero =>
    intro j
    have e : pSum (rtS pl kind m w 0) j = 0 := by
      induction j with
      | zero => rfl
      | succ j ih => rw [pSum_s, ih]; rfl
    rw [e]
    exact ⟨Int.le_refl _, Int.le_refl _⟩
  | succ k ih =>
    intro j
    have h1 := ih j
    show 0 ≤ pSum (rtI (rtS pl kind m w k) kind (pl k) m w) j ∧ pSum (rtI (rtS pl kind m w k) kind (pl k) m w) j ≤ ((k + 1 : Nat) : Int)
    unfold rtI
    split
    · omega
    · split
      · have := tsAdd_p (rtS pl kind m w k) (-w - aroundI (pl k - m)) (w - aroundI (pl k - m)) j
        omega
      · split
        · have := tsAdd_p (rtS pl kind m w k) (aroundI (720 - pl k)) (aroundI (720 - pl k)) j
          omega
        · omega
def bsV (own : Int) (f : Nat → Int) (w : Int) : Int := if w = 0 then (btS own f 241).1 else (btS own f 241).2.2
def grS (lit : Nat → Nat) : Nat → Nat → Int
  | 0 => fun _ => 0
  | k + 1 => va_up (grS lit k) (lit k) (grS lit k (lit k) + 1)
theorem gSum_up (g : Nat → Int) (i q : Nat) : ∀ k, gSum (va_up g i (g i + 1)) q k = gSum g q k + (if i < k ∧ i &&& q = q then 1 else 0) := by
  intro k
  induction k with
  | zero => rw [if_neg (by omega)]; rfl
  | succ k ih =>
    rw [gSum_s, gSum_s, ih]
    by_cases c : k = i
    · subst c
      rw [va_up_self, if_neg (show ¬ (k < k ∧ _) from fun z => by omega)]
      by_cases c2 : k &&& q = q
      · rw [if_pos c2, if_pos c2, if_pos ⟨by omega, c2⟩]; omega
      · rw [if_neg c2, if_neg c2, if_neg (fun z => c2 z.2)]
    · rw [va_up_ne _ _ c]
      by_cases c2 : i &&& q = q
      · by_cases c3 : i < k
        · simp only [c2, c3, show i < k + 1 by omega, and_self, if_true]; omega
        · simp only [c2, c3, show ¬ i < k + 1 by omega, false_and, if_false]; omega
      · simp only [c2, and_false, if_false]; omega
theorem grS_B (lit : Nat → Nat) (q j : Nat) : ∀ k : Nat, 0 ≤ gSum (grS lit k) q j ∧ gSum (grS lit k) q j ≤ k := by
  intro k
  induction k with
  | zero =>
    have e : gSum (grS lit 0) q j = 0 := by
      induction j with
      | zero => rfl
      | succ j ih => rw [gSum_s, ih]; simp [grS]
    rw [e]
    exact ⟨Int.le_refl _, Int.le_refl _⟩
  | succ k ih =>
    show 0 ≤ gSum (va_up (grS lit k) (lit k) (grS lit k (lit k) + 1)) q j ∧ gSum (va_up (grS lit k) (lit k) (grS lit k (lit k) + 1)) q j ≤ ((k + 1 : Nat) : Int)
    rw [gSum_up]
    split <;> omega
def tgI (bo : Nat → Nat → Int) (one : Nat) : Nat → Nat → Int × Int → Int × Int
  | 0, _, s => s
  | k + 1, o, s => tgI bo one k (o + 1) (if s.1 = -1 ∨ s.2 < bo one o then (10 * (one : Int) + (o : Int), bo one o) else s)
def tgO (bo : Nat → Nat → Int) (nd : Nat) : Nat → Nat → Int × Int → Int × Int
  | 0, _, s => s
  | k + 1, i, s => tgO bo nd k (i + 1) (tgI bo i (nd - (i + 1)) (i + 1) s)
def ftV (cp : Int) (fr tt : Nat → Int) (w : Int) : Int := if w = 0 then cp else if w = 1 then ltI fr tt 41 else if w = 2 then gtI fr tt 41 else if w = 3 then lsI fr tt 0 41 else gsI fr tt 41
def nxS (gg : Int → Int) : Nat → Int × Int
  | 0 => (-1, -1)
  | k + 1 => if (nxS gg k).1 = -1 ∨ gg (15 * (k : Int)) < (nxS gg k).2 then (15 * (k : Int), gg (15 * (k : Int))) else nxS gg k
theorem nxS_s (gg : Int → Int) (k : Nat) : nxS gg (k + 1) = if (nxS gg k).1 = -1 ∨ gg (15 * (k : Int)) < (nxS gg k).2 then (15 * (k : Int), gg (15 * (k : Int))) else nxS gg k := rfl
theorem nxS_B {gg : Int → Int} (h : ∀ m, -1000000 ≤ gg m ∧ gg m ≤ 1000000) : ∀ k : Nat, (-1 ≤ (nxS gg k).1 ∧ (nxS gg k).1 ≤ 15 * k) ∧ -1000000 ≤ (nxS gg k).2 ∧ (nxS gg k).2 ≤ 1000000 := by
  intro k
  induction k with
  | zero => exact ⟨⟨Int.le_refl _, show (-1 : Int) ≤ 15 * 0 by decide⟩, show (-1000000 : Int) ≤ -1 by decide, show (-1 : Int) ≤ 1000000 by decide⟩
  | succ k ih =>
    have := h (15 * (k : Int))
    rw [nxS_s]
    split
    · dsimp only; omega
    · omega
theorem gg_B {fr tt : Nat → Int} {plain : Int → Int} {kind cp : Int} (hcp : 0 ≤ cp ∧ cp ≤ 10000) : -1000000 ≤ ggI fr tt plain kind cp ∧ ggI fr tt plain kind cp ≤ 1000000 := by
  unfold ggI
  split
  · omega
  · split
    · have := coI_B fr tt (aroundI (720 - plain 0)) 41
      omega
    · have := (hi_B (f := gsS fr tt (fun ti => aroundI (plain ti - plain 0)) (fun _ => 0) 41) (fun j hj => by
        have := gsS_B (fr := fr) (tt := tt) (off := fun ti => aroundI (plain ti - plain 0)) (b := fun _ => 0) (fun _ _ => ⟨show (-1 : Int) ≤ 0 by decide, show (0 : Int) ≤ 1 by decide⟩) 41 j hj
        omega) 621 (Nat.le_refl _)).2
      omega

theorem l_X8_best {t : Nat → Int} {tp : Nat} {fpl hlaw himg : Int} {rf : Nat → Int} {nd sw nc hl hs : Int} {K U I O G L cf ct fc nx cd : Nat → Int} {nr ns nm : Int} {rd ry rm rt se md my mt : Nat → Int} {M : ND} {ls : LSm} {h0 : aH} {oc : Nat} (hoc : oc = 0) {X : String → Nat → aH → Prop} {di m wi w : Int} (bdi : 0 ≤ di ∧ di < nd) (hm : 0 ≤ m ∧ m < 1440) (hwi : 0 ≤ wi ∧ wi ≤ 120) (hw : 0 ≤ w ∧ w ≤ 1) : ∀ (k j : Nat) (h : aH), j + k = 365 → CanC h (t, tp, fpl, rf, hlaw, himg, ((nd, sw, nc), (hl, hs), K, U, I, O, G, L, cf, ct, fc, nx, cd), ((nr, ns, nm), rd, ry, rm, rt, se, md, my, mt), M, ls) → FrC h0 h → h 63 = .inl (0, 242, (rtS (fun d => plnI sw nc K I O G L cf ct cd di d m) (K di.toNat) m wi j)) → Ev RX8 "best" cX8_best 6 (some .int) 7 1 6 (PubQ oc (some (iv (bsV (U di.toNat) (rtS (fun d => plnI sw nc K I O G L cf ct cd di d m) (K di.toNat) m wi 365) w))) h0 (t, tp, fpl, rf, hlaw, himg, ((nd, sw, nc), (hl, hs), K, U, I, O, G, L, cf, ct, fc, nx, cd), ((nr, ns, nm), rd, ry, rm, rt, se, md, my, mt), M, ls)) X 97 h 70 [(0, .ref 0), (1, iv di), (2, iv m), (3, iv wi), (4, iv w), (5, iv j)] [] := by
  intro k
  induction k with
  | zero =>
    intro j h hj cc fr c63
    obtain ⟨c0, c1, c2, ⟨ht, htp, phl, phi⟩, pC, nC, mC, lC, s3, s4, s5, s17, s34, s58, s62, s65, s66, s67⟩ := id cc
    obtain ⟨c6, c7, c8, c9, c10, c11, c12, c13, c14, c15, c16, pi⟩ := id pC
    obtain ⟨c40, c41, c42, c43, c44, c45, c46, c47, c48, ni, nsn⟩ := id nC
    obtain ⟨pnd, psw, pnc, pK, pU, pI, pO, pG, pL, pcf, pct, pfc, pnx⟩ := id pi
    obtain ⟨pnr, pns, pnm, prd, pry, prm, prt, pse, pmd, pmy, pmt⟩ := id ni
    obtain ⟨tt0, ss0, dr, f63, g64, c62, c63o, c64⟩ := id s62
    obtain rfl : j = 365 := by omega
    have hp : ∀ k, k ≤ 241 → -1000000 ≤ pSum (rtS (fun d => plnI sw nc K I O G L cf ct cd di d m) (K di.toNat) m wi 365) k ∧ pSum (rtS (fun d => plnI sw nc K I O G L cf ct cd di d m) (K di.toNat) m wi 365) k ≤ 1000000 := fun k _ => by have := rtS_p (fun d => plnI sw nc K I O G L cf ct cd di d m) (K di.toNat) m wi 365 k; omega
    have bU := pU di.toNat
    refine r_iload dX8_best_70 rfl ?_
    refine r_sipush dX8_best_72 rfl ?_
    refine r_icmp_ge (tgt := 93) dX8_best_75 (by decide) ⟨by omega, by omega⟩ ⟨by omega, by omega⟩ (fun g75 => ?_) (fun g75 => absurd g75 (by omega))
    refine r_aload_n dX8_best_93 rfl rfl ?_
    refine r_get (fs := [_, _, _, _, _, _, _, _, _, _, _, _, _, _, _, _, _, _, _, _]) dX8_best_94 fl_X8_92 (by decide) c0 rfl ?_
    refine r_aload_n dX8_best_97 rfl rfl ?_
    refine r_get (fs := [_, _, _, _, _, _, _, _, _, _, _, _, _, _, _, _, _, _, _, _]) dX8_best_98 fl_X8_48 (by decide) c0 rfl ?_
    refine r_get (fs := [_, _, _, _, _, _, _, _, _, _, _, _, _]) dX8_best_101 fl_X8_215 (by decide) c6 rfl ?_
    refine r_iload_n dX8_best_104 rfl rfl ?_
    refine r_ald dX8_best_105 (by decide) c8 (by omega) (by omega) (by decide) ?_
    refine r_callV 62 [_] (s_X7_bestTurn c62 c63 hp (by omega)) dX8_best_106 cs_X8_336 im_X7_bestTurn (by decide) c62 rfl (by decide) (by decide) (by decide) rfl rfl (Nat.le_of_ble_eq_true rfl) (fun _ _ _ q => q.elim) (fun v n2 h2 q => ?_)
    obtain ⟨rfl, rfl, hh⟩ := q
    obtain rfl := hh.symm
    refine ⟨rfl, ?_⟩
    dsimp only [Option.toList, List.cons_append, List.nil_append]
    refine r_istore (lv2 := [(0, _), (1, _), (2, _), (3, _), (4, _), (5, _)]) dX8_best_109 (by decide) rfl rfl ?_
    refine r_iload dX8_best_111 rfl ?_
    refine r_if_ne (tgt := 121) dX8_best_113 (by decide) ⟨by omega, by omega⟩ (fun g113 => ?_) (fun g113 => ?_)
    · refine r_aload_n dX8_best_121 rfl rfl ?_
      refine r_get (fs := [_, _, _, _, _, _, _, _, _, _, _, _, _, _, _, _, _, _, _, _]) dX8_best_122 fl_X8_92 (by decide) c0 rfl ?_
      refine r_get (fs := [_, _, _, _, _, _, _, _, _, _]) dX8_best_125 fl_X8_339 (by decide) rfl rfl ?_
      refine r_iret dX8_best_128 ?_
      exact ⟨hoc, (ivE (by unfold bsV; first | rw [if_pos g113] | rw [if_neg g113])), rfl, cls_of ⟨(by first | rfl | exact c0), (by first | rfl | exact c1), (by first | rfl | exact c2), ⟨ht, htp, phl, phi⟩, (by exact pC), (by exact nC), (by exact mC), (by exact lC), (by exact s3), (by exact s4), (by exact s5), (by exact s17), (by exact s34), (by exact s58), ⟨_, _, _, _, _, (by first | rfl | exact c62), (by first | rfl | exact c63), (by first | rfl | exact c64)⟩, (by exact s65), (by exact s66), (by exact s67)⟩, (by repeat (first | exact fr | refine fr_up ?_ (by decide)))⟩
    · refine r_iload dX8_best_116 rfl ?_
      refine r_goto (tgt := 128) dX8_best_118 (by decide) ?_
      refine r_iret dX8_best_128 ?_
      exact ⟨hoc, (ivE (by unfold bsV; first | rw [if_pos g113] | rw [if_neg g113])), rfl, cls_of ⟨(by first | rfl | exact c0), (by first | rfl | exact c1), (by first | rfl | exact c2), ⟨ht, htp, phl, phi⟩, (by exact pC), (by exact nC), (by exact mC), (by exact lC), (by exact s3), (by exact s4), (by exact s5), (by exact s17), (by exact s34), (by exact s58), ⟨_, _, _, _, _, (by first | rfl | exact c62), (by first | rfl | exact c63), (by first | rfl | exact c64)⟩, (by exact s65), (by exact s66), (by exact s67)⟩, (by repeat (first | exact fr | refine fr_up ?_ (by decide)))⟩
  | succ k ih =>
    intro j h hj cc fr c63
    obtain ⟨c0, c1, c2, ⟨ht, htp, phl, phi⟩, pC, nC, mC, lC, s3, s4, s5, s17, s34, s58, s62, s65, s66, s67⟩ := id cc
    obtain ⟨c6, c7, c8, c9, c10, c11, c12, c13, c14, c15, c16, pi⟩ := id pC
    obtain ⟨c40, c41, c42, c43, c44, c45, c46, c47, c48, ni, nsn⟩ := id nC
    obtain ⟨pnd, psw, pnc, pK, pU, pI, pO, pG, pL, pcf, pct, pfc, pnx⟩ := id pi
    obtain ⟨pnr, pns, pnm, prd, pry, prm, prt, pse, pmd, pmy, pmt⟩ := id ni
    obtain ⟨tt0, ss0, dr, f63, g64, c62, c63o, c64⟩ := id s62
    have hi := fun h => ih (j + 1) h (by omega)
    refine r_iload dX8_best_70 rfl ?_
    refine r_sipush dX8_best_72 rfl ?_
    refine r_icmp_ge (tgt := 93) dX8_best_75 (by decide) ⟨by omega, by omega⟩ ⟨by omega, by omega⟩ (fun g75 => absurd g75 (by omega)) (fun g75 => ?_)
    refine r_aload_n dX8_best_78 rfl rfl ?_
    refine r_iload_n dX8_best_79 rfl rfl ?_
    refine r_iload dX8_best_80 rfl ?_
    refine r_iload_n dX8_best_82 rfl rfl ?_
    refine r_iload_n dX8_best_83 rfl rfl ?_
    refine r_callV 0 [_, _, _, _] (s_X8_addRightTurns c6 c7 c8 c9 c10 c11 c12 c13 c14 c15 c16 c40 c41 c42 c43 c44 c45 c46 c47 c48 c0 c62 c63 pi ni (by omega) (by omega) (by omega) (by omega)) dX8_best_84 cs_X8_332 im_X8_addRightTurns (by decide) c0 rfl (by decide) (by decide) (by decide) rfl rfl (Nat.le_of_ble_eq_true rfl) (fun _ _ _ q => q.elim) (fun v n2 h2 q => ?_)
    obtain ⟨rfl, rfl, hh⟩ := q
    obtain rfl := hh.symm
    refine ⟨rfl, ?_⟩
    dsimp only [Option.toList, List.cons_append, List.nil_append]
    refine r_iinc (lv2 := [(0, _), (1, _), (2, _), (3, _), (4, _), (5, _)]) dX8_best_87 (by decide) rfl rfl rfl ?_
    refine r_goto (tgt := 70) dX8_best_90 (by decide) ?_
    rw [show (j : Int) + 1 = ((j + 1 : Nat) : Int) by omega]
    exact hi _ ⟨(by first | rfl | exact c0), (by first | rfl | exact c1), (by first | rfl | exact c2), ⟨ht, htp, phl, phi⟩, (by exact pC), (by exact nC), (by exact mC), (by exact lC), (by exact s3), (by exact s4), (by exact s5), (by exact s17), (by exact s34), (by exact s58), ⟨_, _, _, _, _, (by first | rfl | exact c62), (by first | rfl | exact c63), (by first | rfl | exact c64)⟩, (by exact s65), (by exact s66), (by exact s67)⟩ (by repeat (first | exact fr | refine fr_up ?_ (by decide))) rfl

theorem s_X8_best {h : aH} {t : Nat → Int} {tp : Nat} {fpl hlaw himg : Int} {rf : Nat → Int} {nd sw nc hl hs : Int} {K U I O G L cf ct fc nx cd : Nat → Int} {nr ns nm : Int} {rd ry rm rt se md my mt : Nat → Int} {M : ND} {ls : LSm} (cc : CanC h (t, tp, fpl, rf, hlaw, himg, ((nd, sw, nc), (hl, hs), K, U, I, O, G, L, cf, ct, fc, nx, cd), ((nr, ns, nm), rd, ry, rm, rt, se, md, my, mt), M, ls)) {di m wi w : Int} (idi : inR di) (im : inR m) (iwi : inR wi) (iw : inR w)  : mSem yX8_best cX8_best 6 (some .int) 7 4 24 [.ref 0, iv di, iv m, iv wi, iv w] 97 h (PubQ (ocL [(diaB nd di, 1), (minB m, 1), (whaB w 1, 1), (decide (0 ≤ wi ∧ wi ≤ 120), 2), (decide (¬ K di.toNat = 5), 2)]) (some (iv (bsV (U di.toNat) (rtS (fun d => plnI sw nc K I O G L cf ct cd di d m) (K di.toNat) m wi 365) w))) h (t, tp, fpl, rf, hlaw, himg, ((nd, sw, nc), (hl, hs), K, U, I, O, G, L, cf, ct, fc, nx, cd), ((nr, ns, nm), rd, ry, rm, rt, se, md, my, mt), M, ls)) (PubX (ocL [(diaB nd di, 1), (minB m, 1), (whaB w 1, 1), (decide (0 ≤ wi ∧ wi ≤ 120), 2), (decide (¬ K di.toNat = 5), 2)]) h (t, tp, fpl, rf, hlaw, himg, ((nd, sw, nc), (hl, hs), K, U, I, O, G, L, cf, ct, fc, nx, cd), ((nr, ns, nm), rd, ry, rm, rt, se, md, my, mt), M, ls)) := by
  obtain ⟨c0, c1, c2, ⟨ht, htp, phl, phi⟩, pC, nC, mC, lC, s3, s4, s5, s17, s34, s58, s62, s65, s66, s67⟩ := id cc
  obtain ⟨c6, c7, c8, c9, c10, c11, c12, c13, c14, c15, c16, pi⟩ := id pC
  obtain ⟨c40, c41, c42, c43, c44, c45, c46, c47, c48, ni, nsn⟩ := id nC
  obtain ⟨pnd, psw, pnc, pK, pU, pI, pO, pG, pL, pcf, pct, pfc, pnx⟩ := id pi
  obtain ⟨pnr, pns, pnm, prd, pry, prm, prt, pse, pmd, pmy, pmt⟩ := id ni
  unfold inR at idi im iwi iw
  obtain ⟨tt0, ss0, dr, f63, g64, c62, c63, c64⟩ := id s62
  have bK := pK di.toNat
  refine mSem_of (own := RX8) (name := "best") pn_X8 rfl rfl (Nat.le_of_ble_eq_true rfl) ?_
  refine r_aload_n dX8_best_0 rfl rfl ?_
  refine r_iload_n dX8_best_1 rfl rfl ?_
  refine r_callV 0 [_] (s_X8_needDial c0 c6 pnd idi) dX8_best_2 cs_X8_209 im_X8_needDial (by decide) c0 rfl (by decide) (by decide) (by decide) rfl rfl (Nat.le_of_ble_eq_true rfl) (fun E n2 h2 q => by
    obtain ⟨rfl, nk, rfl, rfl⟩ := q
    exact ⟨rfl, Or.inl ⟨by simp [ocL, nk], rfl⟩, rfl, cls_of cc, fun _ _ => rfl⟩) (fun v n2 h2 q => ?_)
  obtain ⟨k1, rfl, rfl, hh⟩ := q
  obtain rfl := hh.symm
  have bdi := of_decide_eq_true k1
  refine ⟨rfl, ?_⟩
  dsimp only [Option.toList, List.cons_append, List.nil_append]
  refine r_iload_n dX8_best_5 rfl rfl ?_
  refine r_callS [_] (s_X8_needMinute im) dX8_best_6 cs_X8_142 sm_X8_needMinute (by decide) (by decide) (by decide) rfl rfl (Nat.le_of_ble_eq_true rfl) (fun E n2 h2 q => by
    obtain ⟨rfl, nk, rfl, rfl⟩ := q
    exact ⟨rfl, Or.inl ⟨by simp [ocL, k1, nk], rfl⟩, rfl, cls_of cc, fun _ _ => rfl⟩) (fun v n2 h2 q => ?_)
  obtain ⟨k2, rfl, rfl, hh⟩ := q
  obtain rfl := hh.symm
  have bm := of_decide_eq_true k2
  refine ⟨rfl, ?_⟩
  dsimp only [Option.toList, List.cons_append, List.nil_append]
  refine r_iload dX8_best_9 rfl ?_
  refine r_iconst dX8_best_11 ?_
  refine r_callS [_, _] (s_X8_needWhat iw ⟨by decide, by decide⟩) dX8_best_12 cs_X8_160 sm_X8_needWhat (by decide) (by decide) (by decide) rfl rfl (Nat.le_of_ble_eq_true rfl) (fun E n2 h2 q => by
    obtain ⟨rfl, nk, rfl, rfl⟩ := q
    exact ⟨rfl, Or.inl ⟨by simp [ocL, k1, k2, nk], rfl⟩, rfl, cls_of cc, fun _ _ => rfl⟩) (fun v n2 h2 q => ?_)
  obtain ⟨k3, rfl, rfl, hh⟩ := q
  obtain rfl := hh.symm
  have bw := of_decide_eq_true k3
  refine ⟨rfl, ?_⟩
  dsimp only [Option.toList, List.cons_append, List.nil_append]
  refine r_iload_n dX8_best_15 rfl rfl ?_
  refine r_if_lt (tgt := 25) dX8_best_16 (by decide) ⟨by omega, by omega⟩ (fun g16 => ?_) (fun g16 => ?_)
  · refine r_throwI (is := 325) (i := 31) (k := 3) (tx := "within 0 to 120 minutes") (by decide +kernel) dX8_best_25 dX8_best_28 (Or.inr ⟨dX8_best_29, rfl⟩) dX8_best_32 dX8_best_35 (by decide) (by decide) (by decide) (Nat.le_of_ble_eq_true rfl) ?_
    exact ⟨Or.inr ⟨by simp only [ocL, k1, k2, k3, if_true]; rw [if_neg (by rw [decide_eq_true_eq]; omega)], rfl⟩, rfl, cls_of cc, fun _ _ => rfl⟩
  · refine r_iload_n dX8_best_19 rfl rfl ?_
    refine r_bipush dX8_best_20 rfl ?_
    refine r_icmp_le (tgt := 36) dX8_best_22 (by decide) ⟨by omega, by omega⟩ ⟨by omega, by omega⟩ (fun g22 => ?_) (fun g22 => ?_)
    · refine r_aload_n dX8_best_36 rfl rfl ?_
      refine r_get (fs := [_, _, _, _, _, _, _, _, _, _, _, _, _, _, _, _, _, _, _, _]) dX8_best_37 fl_X8_48 (by decide) c0 rfl ?_
      refine r_get (fs := [_, _, _, _, _, _, _, _, _, _, _, _, _]) dX8_best_40 fl_X8_212 (by decide) c6 rfl ?_
      refine r_iload_n dX8_best_43 rfl rfl ?_
      refine r_ald dX8_best_44 (by decide) c7 (by omega) (by omega) (by decide) ?_
      refine r_iconst dX8_best_45 ?_
      have bK := pK di.toNat
      refine r_icmp_ne (tgt := 60) dX8_best_46 (by decide) ⟨by omega, by omega⟩ ⟨by omega, by omega⟩ (fun g46 => ?_) (fun g46 => ?_)
      · refine r_aload_n dX8_best_60 rfl rfl ?_
        refine r_get (fs := [_, _, _, _, _, _, _, _, _, _, _, _, _, _, _, _, _, _, _, _]) dX8_best_61 fl_X8_92 (by decide) c0 rfl ?_
        refine r_callV 62 [] (s_X7_clearTurns c62 c63) dX8_best_64 cs_X8_329 im_X7_clearTurns (by decide) c62 rfl (by decide) (by decide) (by decide) rfl rfl (Nat.le_of_ble_eq_true rfl) (fun _ _ _ q => q.elim) (fun v n2 h2 q => ?_)
        obtain ⟨rfl, rfl, hh⟩ := q
        obtain rfl := hh.symm
        refine ⟨rfl, ?_⟩
        dsimp only [Option.toList, List.cons_append, List.nil_append]
        refine r_iconst dX8_best_67 ?_
        refine r_istore (lv2 := [(0, _), (1, _), (2, _), (3, _), (4, _), (5, _)]) dX8_best_68 (by decide) rfl rfl ?_
        refine ev_arr 63 (fun _ => 0) rfl (fun j hj => by unfold fillF; rw [if_pos hj]) ?_
        exact l_X8_best (by simp only [ocL, k1, k2, k3, if_true]; rw [if_pos (by rw [decide_eq_true_eq]; omega), if_pos (by rw [decide_eq_true_eq]; omega)]) bdi bm (by omega) bw 365 0 _ (by omega) ⟨(by first | rfl | exact c0), (by first | rfl | exact c1), (by first | rfl | exact c2), ⟨ht, htp, phl, phi⟩, (by exact pC), (by exact nC), (by exact mC), (by exact lC), (by exact s3), (by exact s4), (by exact s5), (by exact s17), (by exact s34), (by exact s58), ⟨_, _, _, _, _, (by first | rfl | exact c62), (by first | rfl | exact c63), (by first | rfl | exact c64)⟩, (by exact s65), (by exact s66), (by exact s67)⟩ (by repeat (first | exact fun _ _ => rfl | refine fr_up ?_ (by decide))) rfl
      · refine r_throwI (is := 327) (i := 32) (k := 3) (tx := "a painted dial is not mended") (by decide +kernel) dX8_best_49 dX8_best_52 (Or.inr ⟨dX8_best_53, rfl⟩) dX8_best_56 dX8_best_59 (by decide) (by decide) (by decide) (Nat.le_of_ble_eq_true rfl) ?_
        exact ⟨Or.inr ⟨by simp only [ocL, k1, k2, k3, if_true]; rw [if_pos (by rw [decide_eq_true_eq]; omega), if_neg (by rw [decide_eq_true_eq]; omega)], rfl⟩, rfl, cls_of cc, fun _ _ => rfl⟩
    · refine r_throwI (is := 325) (i := 31) (k := 3) (tx := "within 0 to 120 minutes") (by decide +kernel) dX8_best_25 dX8_best_28 (Or.inr ⟨dX8_best_29, rfl⟩) dX8_best_32 dX8_best_35 (by decide) (by decide) (by decide) (Nat.le_of_ble_eq_true rfl) ?_
      exact ⟨Or.inr ⟨by simp only [ocL, k1, k2, k3, if_true]; rw [if_neg (by rw [decide_eq_true_eq]; omega)], rfl⟩, rfl, cls_of cc, fun _ _ => rfl⟩

theorem l_X8_together2 {t : Nat → Int} {tp : Nat} {fpl hlaw himg : Int} {rf : Nat → Int} {nd sw nc hl hs : Int} {K U I O G L cf ct fc nx cd : Nat → Int} {nr ns nm : Int} {rd ry rm rt se md my mt : Nat → Int} {M : ND} {ls : LSm} {h0 : aH} {Q : Option Value → Nat → aH → Prop} {X : String → Nat → aH → Prop} {day w : Int} (bday : 0 ≤ day ∧ day < 365) (bw : 0 ≤ w ∧ w ≤ 1) (h : aH) (cc : CanC h (t, tp, fpl, rf, hlaw, himg, ((nd, sw, nc), (hl, hs), K, U, I, O, G, L, cf, ct, fc, nx, cd), ((nr, ns, nm), rd, ry, rm, rt, se, md, my, mt), M, ls)) (fr : FrC h0 h) {g : Nat → Int} (c64 : h 64 = .inl (0, 512, g)) {bo : Nat → Nat → Int} (hbo : ∀ x y, gSum g (2 ^ x ||| 2 ^ y) 512 = bo x y) (bG : ∀ x y, 0 ≤ bo x y ∧ bo x y ≤ 1440) {i : Nat} (hi : (i : Int) < nd) : ∀ (k o : Nat) (s : Int × Int), o + k = nd.toNat → ((-1 ≤ s.1 ∧ s.1 ≤ 1000) ∧ 0 ≤ s.2 ∧ s.2 ≤ 1440) →
    (∀ s2 : Int × Int, s2 = tgI bo i k o s → ((-1 ≤ s2.1 ∧ s2.1 ≤ 1000) ∧ 0 ≤ s2.2 ∧ s2.2 ≤ 1440) → Ev RX8 "together" cX8_together 8 (some .int) 8 0 0 Q X 97 h 52 [(0, .ref 0), (1, iv day), (2, iv w), (3, iv s2.1), (4, iv s2.2), (5, iv ((i + 1 : Nat) : Int))] []) → Ev RX8 "together" cX8_together 8 (some .int) 8 0 0 Q X 97 h 70 [(0, .ref 0), (1, iv day), (2, iv w), (3, iv s.1), (4, iv s.2), (5, iv i), (6, iv o)] [] := by
  obtain ⟨c0, c1, c2, ⟨ht, htp, phl, phi⟩, pC, nC, mC, lC, s3, s4, s5, s17, s34, s58, s62, s65, s66, s67⟩ := id cc
  obtain ⟨c6, c7, c8, c9, c10, c11, c12, c13, c14, c15, c16, pi⟩ := id pC
  obtain ⟨c40, c41, c42, c43, c44, c45, c46, c47, c48, ni, nsn⟩ := id nC
  obtain ⟨pnd, psw, pnc, pK, pU, pI, pO, pG, pL, pcf, pct, pfc, pnx⟩ := id pi
  obtain ⟨pnr, pns, pnm, prd, pry, prm, prt, pse, pmd, pmy, pmt⟩ := id ni
  obtain ⟨tt0, ss0, dr, f63, g64, c62, c63, c64o⟩ := id s62
  intro k
  induction k with
  | zero =>
    intro o s ho hs kk
    refine r_iload dX8_together_70 rfl ?_
    refine r_aload_n dX8_together_72 rfl rfl ?_
    refine r_get (fs := [_, _, _, _, _, _, _, _, _, _, _, _, _, _, _, _, _, _, _, _]) dX8_together_73 fl_X8_48 (by decide) c0 rfl ?_
    refine r_get (fs := [_, _, _, _, _, _, _, _, _, _, _, _, _]) dX8_together_76 fl_X8_127 (by decide) c6 rfl ?_
    refine r_icmp_ge (tgt := 126) dX8_together_79 (by decide) ⟨by omega, by omega⟩ ⟨by omega, by omega⟩ (fun g79 => ?_) (fun g79 => absurd g79 (by omega))
    refine r_iinc (lv2 := [(0, _), (1, _), (2, _), (3, _), (4, _), (5, _), (6, _)]) dX8_together_126 (by decide) rfl rfl rfl ?_
    refine r_goto (tgt := 52) dX8_together_129 (by decide) ?_
    refine r_lv (lv2 := [(0, _), (1, _), (2, _), (3, _), (4, _), (5, _)]) rfl ?_
    rw [show (i : Int) + 1 = ((i + 1 : Nat) : Int) by omega]
    exact kk s rfl hs
  | succ k ih =>
    intro o s ho hs kk
    have b1 := bG i o
    have e1 : tgI bo i (k + 1) o s = tgI bo i k (o + 1) (if s.1 = -1 ∨ s.2 < bo i o then (10 * (i : Int) + (o : Int), bo i o) else s) := rfl
    rw [e1] at kk
    refine r_iload dX8_together_70 rfl ?_
    refine r_aload_n dX8_together_72 rfl rfl ?_
    refine r_get (fs := [_, _, _, _, _, _, _, _, _, _, _, _, _, _, _, _, _, _, _, _]) dX8_together_73 fl_X8_48 (by decide) c0 rfl ?_
    refine r_get (fs := [_, _, _, _, _, _, _, _, _, _, _, _, _]) dX8_together_76 fl_X8_127 (by decide) c6 rfl ?_
    refine r_icmp_ge (tgt := 126) dX8_together_79 (by decide) ⟨by omega, by omega⟩ ⟨by omega, by omega⟩ (fun g79 => absurd g79 (by omega)) (fun g79 => ?_)
    refine r_aload_n dX8_together_82 rfl rfl ?_
    refine r_get (fs := [_, _, _, _, _, _, _, _, _, _, _, _, _, _, _, _, _, _, _, _]) dX8_together_83 fl_X8_92 (by decide) c0 rfl ?_
    refine r_iload dX8_together_86 rfl ?_
    refine r_iload dX8_together_88 rfl ?_
    refine r_callV 62 [_, _] (s_X7_minutesOfBoth c62 c64 (by omega) (by omega)) dX8_together_90 cs_X8_369 im_X7_minutesOfBoth (by decide) c62 rfl (by decide) (by decide) (by decide) rfl rfl (Nat.le_of_ble_eq_true rfl) (fun _ _ _ q => q.elim) (fun v n2 h2 q => ?_)
    obtain ⟨rfl, rfl, hh⟩ := q
    obtain rfl := hh.symm
    refine ⟨rfl, ?_⟩
    dsimp only [Option.toList, List.cons_append, List.nil_append]
    rw [hbo]
    refine r_istore (lv2 := [(0, _), (1, _), (2, _), (3, _), (4, _), (5, _), (6, _), (7, _)]) dX8_together_93 (by decide) rfl rfl ?_
    refine r_iload_n dX8_together_95 rfl rfl ?_
    refine r_iconst dX8_together_96 ?_
    refine r_icmp_eq (tgt := 107) dX8_together_97 (by decide) ⟨by omega, by omega⟩ ⟨by omega, by omega⟩ (fun g97 => ?_) (fun g97 => ?_)
    · refine r_bipush dX8_together_107 rfl ?_
      refine r_iload dX8_together_109 rfl ?_
      refine r_imul dX8_together_111 ?_
      refine r_iload dX8_together_112 rfl ?_
      refine r_iadd dX8_together_114 ?_
      refine r_istore_n (lv2 := [(0, _), (1, _), (2, _), (3, _), (4, _), (5, _), (6, _), (7, _)]) dX8_together_115 rfl (by decide) rfl rfl ?_
      refine r_iload dX8_together_116 rfl ?_
      refine r_istore (lv2 := [(0, _), (1, _), (2, _), (3, _), (4, _), (5, _), (6, _), (7, _)]) dX8_together_118 (by decide) rfl rfl ?_
      refine r_iinc (lv2 := [(0, _), (1, _), (2, _), (3, _), (4, _), (5, _), (6, _), (7, _)]) dX8_together_120 (by decide) rfl rfl rfl ?_
      refine r_goto (tgt := 70) dX8_together_123 (by decide) ?_
      refine r_lv (lv2 := [(0, _), (1, _), (2, _), (3, _), (4, _), (5, _), (6, _)]) rfl ?_
      rw [show (o : Int) + 1 = ((o + 1 : Nat) : Int) by omega]
      first
        | (rw [if_pos (by omega)] at kk
           exact ih (o + 1) (10 * (i : Int) + (o : Int), bo i o) (by omega) ⟨⟨by show (-1 : Int) ≤ 10 * (i : Int) + (o : Int); omega, by show 10 * (i : Int) + (o : Int) ≤ 1000; omega⟩, b1⟩ kk)
        | (rw [if_neg (by omega)] at kk
           exact ih (o + 1) s (by omega) hs kk)
    · refine r_iload dX8_together_100 rfl ?_
      refine r_iload dX8_together_102 rfl ?_
      refine r_icmp_le (tgt := 120) dX8_together_104 (by decide) ⟨by omega, by omega⟩ ⟨by omega, by omega⟩ (fun g104 => ?_) (fun g104 => ?_)
      · refine r_iinc (lv2 := [(0, _), (1, _), (2, _), (3, _), (4, _), (5, _), (6, _), (7, _)]) dX8_together_120 (by decide) rfl rfl rfl ?_
        refine r_goto (tgt := 70) dX8_together_123 (by decide) ?_
        refine r_lv (lv2 := [(0, _), (1, _), (2, _), (3, _), (4, _), (5, _), (6, _)]) rfl ?_
        rw [show (o : Int) + 1 = ((o + 1 : Nat) : Int) by omega]
        first
          | (rw [if_pos (by omega)] at kk
             exact ih (o + 1) (10 * (i : Int) + (o : Int), bo i o) (by omega) ⟨⟨by show (-1 : Int) ≤ 10 * (i : Int) + (o : Int); omega, by show 10 * (i : Int) + (o : Int) ≤ 1000; omega⟩, b1⟩ kk)
          | (rw [if_neg (by omega)] at kk
             exact ih (o + 1) s (by omega) hs kk)
      · refine r_bipush dX8_together_107 rfl ?_
        refine r_iload dX8_together_109 rfl ?_
        refine r_imul dX8_together_111 ?_
        refine r_iload dX8_together_112 rfl ?_
        refine r_iadd dX8_together_114 ?_
        refine r_istore_n (lv2 := [(0, _), (1, _), (2, _), (3, _), (4, _), (5, _), (6, _), (7, _)]) dX8_together_115 rfl (by decide) rfl rfl ?_
        refine r_iload dX8_together_116 rfl ?_
        refine r_istore (lv2 := [(0, _), (1, _), (2, _), (3, _), (4, _), (5, _), (6, _), (7, _)]) dX8_together_118 (by decide) rfl rfl ?_
        refine r_iinc (lv2 := [(0, _), (1, _), (2, _), (3, _), (4, _), (5, _), (6, _), (7, _)]) dX8_together_120 (by decide) rfl rfl rfl ?_
        refine r_goto (tgt := 70) dX8_together_123 (by decide) ?_
        refine r_lv (lv2 := [(0, _), (1, _), (2, _), (3, _), (4, _), (5, _), (6, _)]) rfl ?_
        rw [show (o : Int) + 1 = ((o + 1 : Nat) : Int) by omega]
        first
          | (rw [if_pos (by omega)] at kk
             exact ih (o + 1) (10 * (i : Int) + (o : Int), bo i o) (by omega) ⟨⟨by show (-1 : Int) ≤ 10 * (i : Int) + (o : Int); omega, by show 10 * (i : Int) + (o : Int) ≤ 1000; omega⟩, b1⟩ kk)
          | (rw [if_neg (by omega)] at kk
             exact ih (o + 1) s (by omega) hs kk)

theorem l_X8_together3 {t : Nat → Int} {tp : Nat} {fpl hlaw himg : Int} {rf : Nat → Int} {nd sw nc hl hs : Int} {K U I O G L cf ct fc nx cd : Nat → Int} {nr ns nm : Int} {rd ry rm rt se md my mt : Nat → Int} {M : ND} {ls : LSm} {h0 : aH} {oc : Nat} (hoc : oc = 0) {X : String → Nat → aH → Prop} {day w : Int} (bday : 0 ≤ day ∧ day < 365) (bw : 0 ≤ w ∧ w ≤ 1) (h : aH) (cc : CanC h (t, tp, fpl, rf, hlaw, himg, ((nd, sw, nc), (hl, hs), K, U, I, O, G, L, cf, ct, fc, nx, cd), ((nr, ns, nm), rd, ry, rm, rt, se, md, my, mt), M, ls)) (fr : FrC h0 h) {g : Nat → Int} (c64 : h 64 = .inl (0, 512, g)) {bo : Nat → Nat → Int} (hbo : ∀ x y, gSum g (2 ^ x ||| 2 ^ y) 512 = bo x y) (bG : ∀ x y, 0 ≤ bo x y ∧ bo x y ≤ 1440) : ∀ (k i : Nat) (s : Int × Int), i + k = nd.toNat → ((-1 ≤ s.1 ∧ s.1 ≤ 1000) ∧ 0 ≤ s.2 ∧ s.2 ≤ 1440) → tgO bo nd.toNat k i s = (tgO bo nd.toNat nd.toNat 0 (-1, 0)) → Ev RX8 "together" cX8_together 8 (some .int) 8 0 0 (PubQ oc (some (iv (if w = 0 then (tgO bo nd.toNat nd.toNat 0 (-1, 0)).1 else (tgO bo nd.toNat nd.toNat 0 (-1, 0)).2))) h0 (t, tp, fpl, rf, hlaw, himg, ((nd, sw, nc), (hl, hs), K, U, I, O, G, L, cf, ct, fc, nx, cd), ((nr, ns, nm), rd, ry, rm, rt, se, md, my, mt), M, ls)) X 97 h 52 [(0, .ref 0), (1, iv day), (2, iv w), (3, iv s.1), (4, iv s.2), (5, iv i)] [] := by
  obtain ⟨c0, c1, c2, ⟨ht, htp, phl, phi⟩, pC, nC, mC, lC, s3, s4, s5, s17, s34, s58, s62, s65, s66, s67⟩ := id cc
  obtain ⟨c6, c7, c8, c9, c10, c11, c12, c13, c14, c15, c16, pi⟩ := id pC
  obtain ⟨c40, c41, c42, c43, c44, c45, c46, c47, c48, ni, nsn⟩ := id nC
  obtain ⟨pnd, psw, pnc, pK, pU, pI, pO, pG, pL, pcf, pct, pfc, pnx⟩ := id pi
  obtain ⟨pnr, pns, pnm, prd, pry, prm, prt, pse, pmd, pmy, pmt⟩ := id ni
  intro k
  induction k with
  | zero =>
    intro i s ho hs hT
    have e1 : s = (tgO bo nd.toNat nd.toNat 0 (-1, 0)) := hT
    refine r_iload dX8_together_52 rfl ?_
    refine r_aload_n dX8_together_54 rfl rfl ?_
    refine r_get (fs := [_, _, _, _, _, _, _, _, _, _, _, _, _, _, _, _, _, _, _, _]) dX8_together_55 fl_X8_48 (by decide) c0 rfl ?_
    refine r_get (fs := [_, _, _, _, _, _, _, _, _, _, _, _, _]) dX8_together_58 fl_X8_127 (by decide) c6 rfl ?_
    refine r_icmp_ge (tgt := 132) dX8_together_61 (by decide) ⟨by omega, by omega⟩ ⟨by omega, by omega⟩ (fun g61 => ?_) (fun g61 => absurd g61 (by omega))
    refine r_iload_n dX8_together_132 rfl rfl ?_
    refine r_if_ne (tgt := 140) dX8_together_133 (by decide) ⟨by omega, by omega⟩ (fun g133 => ?_) (fun g133 => ?_)
    · refine r_iload dX8_together_140 rfl ?_
      refine r_iret dX8_together_142 ?_
      exact ⟨hoc, (ivE (by rw [← e1]; first | rw [if_pos g133] | rw [if_neg g133])), rfl, cls_of cc, fr⟩
    · refine r_iload_n dX8_together_136 rfl rfl ?_
      refine r_goto (tgt := 142) dX8_together_137 (by decide) ?_
      refine r_iret dX8_together_142 ?_
      exact ⟨hoc, (ivE (by rw [← e1]; first | rw [if_pos g133] | rw [if_neg g133])), rfl, cls_of cc, fr⟩
  | succ k ih =>
    intro i s ho hs hT
    refine r_iload dX8_together_52 rfl ?_
    refine r_aload_n dX8_together_54 rfl rfl ?_
    refine r_get (fs := [_, _, _, _, _, _, _, _, _, _, _, _, _, _, _, _, _, _, _, _]) dX8_together_55 fl_X8_48 (by decide) c0 rfl ?_
    refine r_get (fs := [_, _, _, _, _, _, _, _, _, _, _, _, _]) dX8_together_58 fl_X8_127 (by decide) c6 rfl ?_
    refine r_icmp_ge (tgt := 132) dX8_together_61 (by decide) ⟨by omega, by omega⟩ ⟨by omega, by omega⟩ (fun g61 => absurd g61 (by omega)) (fun g61 => ?_)
    refine r_iload dX8_together_64 rfl ?_
    refine r_iconst dX8_together_66 ?_
    refine r_iadd dX8_together_67 ?_
    refine r_istore (lv2 := [(0, _), (1, _), (2, _), (3, _), (4, _), (5, _), (6, _)]) dX8_together_68 (by decide) rfl rfl ?_
    rw [show (i : Int) + 1 = ((i + 1 : Nat) : Int) by omega]
    exact l_X8_together2 bday bw h cc fr c64 hbo bG (i := i) (by omega) (nd.toNat - (i + 1)) (i + 1) s (by omega) hs (fun s2 e2 h2 => ih (i + 1) s2 (by omega) h2 (by rw [e2]; exact hT))

theorem l_X8_together {t : Nat → Int} {tp : Nat} {fpl hlaw himg : Int} {rf : Nat → Int} {nd sw nc hl hs : Int} {K U I O G L cf ct fc nx cd : Nat → Int} {nr ns nm : Int} {rd ry rm rt se md my mt : Nat → Int} {M : ND} {ls : LSm} {h0 : aH} {oc : Nat} (hoc : oc = 0) {X : String → Nat → aH → Prop} {day w : Int} (bday : 0 ≤ day ∧ day < 365) (bw : 0 ≤ w ∧ w ≤ 1) : ∀ (k j : Nat) (h : aH), j + k = 1440 → CanC h (t, tp, fpl, rf, hlaw, himg, ((nd, sw, nc), (hl, hs), K, U, I, O, G, L, cf, ct, fc, nx, cd), ((nr, ns, nm), rd, ry, rm, rt, se, md, my, mt), M, ls) → FrC h0 h → h 64 = .inl (0, 512, (grS (fun q => lbI (fun j => decide (nowI sw nc nm K U I O G L cf ct cd md my mt (j : Nat) day (q : Nat) ≠ -1)) nd.toNat) j)) → Ev RX8 "together" cX8_together 8 (some .int) 8 0 0 (PubQ oc (some (iv (if w = 0 then (tgO (fun x y => gSum (grS (fun q => lbI (fun j => decide (nowI sw nc nm K U I O G L cf ct cd md my mt (j : Nat) day (q : Nat) ≠ -1)) nd.toNat) 1440) (2 ^ x ||| 2 ^ y) 512) nd.toNat nd.toNat 0 (-1, 0)).1 else (tgO (fun x y => gSum (grS (fun q => lbI (fun j => decide (nowI sw nc nm K U I O G L cf ct cd md my mt (j : Nat) day (q : Nat) ≠ -1)) nd.toNat) 1440) (2 ^ x ||| 2 ^ y) 512) nd.toNat nd.toNat 0 (-1, 0)).2))) h0 (t, tp, fpl, rf, hlaw, himg, ((nd, sw, nc), (hl, hs), K, U, I, O, G, L, cf, ct, fc, nx, cd), ((nr, ns, nm), rd, ry, rm, rt, se, md, my, mt), M, ls)) X 97 h 18 [(0, .ref 0), (1, iv day), (2, iv w), (3, iv j)] [] := by
  intro k
  induction k with
  | zero =>
    intro j h hj cc fr c64
    obtain rfl : j = 1440 := by omega
    refine r_iload_n dX8_together_18 rfl rfl ?_
    refine r_sipush dX8_together_19 rfl ?_
    refine r_icmp_ge (tgt := 44) dX8_together_22 (by decide) ⟨by omega, by omega⟩ ⟨by omega, by omega⟩ (fun g22 => ?_) (fun g22 => absurd g22 (by omega))
    refine r_iconst dX8_together_44 ?_
    refine r_istore_n (lv2 := [(0, _), (1, _), (2, _), (3, _)]) dX8_together_45 rfl (by decide) rfl rfl ?_
    refine r_iconst dX8_together_46 ?_
    refine r_istore (lv2 := [(0, _), (1, _), (2, _), (3, _), (4, _)]) dX8_together_47 (by decide) rfl rfl ?_
    refine r_iconst dX8_together_49 ?_
    refine r_istore (lv2 := [(0, _), (1, _), (2, _), (3, _), (4, _), (5, _)]) dX8_together_50 (by decide) rfl rfl ?_
    obtain ⟨c0, c1, c2, inv, pC, nC, rest⟩ := id cc
    have pnd := pC.2.2.2.2.2.2.2.2.2.2.2.1
    exact l_X8_together3 hoc bday bw h cc fr c64 (bo := (fun x y => gSum (grS (fun q => lbI (fun j => decide (nowI sw nc nm K U I O G L cf ct cd md my mt (j : Nat) day (q : Nat) ≠ -1)) nd.toNat) 1440) (2 ^ x ||| 2 ^ y) 512)) (fun _ _ => rfl) (fun x y => grS_B (fun q => lbI (fun j => decide (nowI sw nc nm K U I O G L cf ct cd md my mt (j : Nat) day (q : Nat) ≠ -1)) nd.toNat) (2 ^ x ||| 2 ^ y) 512 1440) nd.toNat 0 (-1, 0) (by omega) ⟨⟨show (-1 : Int) ≤ -1 by decide, show (-1 : Int) ≤ 1000 by decide⟩, show (0 : Int) ≤ 0 by decide, show (0 : Int) ≤ 1440 by decide⟩ rfl
  | succ k ih =>
    intro j h hj cc fr c64
    obtain ⟨c0, c1, c2, ⟨ht, htp, phl, phi⟩, pC, nC, mC, lC, s3, s4, s5, s17, s34, s58, s62, s65, s66, s67⟩ := id cc
    obtain ⟨c6, c7, c8, c9, c10, c11, c12, c13, c14, c15, c16, pi⟩ := id pC
    obtain ⟨c40, c41, c42, c43, c44, c45, c46, c47, c48, ni, nsn⟩ := id nC
    obtain ⟨pnd, psw, pnc, pK, pU, pI, pO, pG, pL, pcf, pct, pfc, pnx⟩ := id pi
    obtain ⟨pnr, pns, pnm, prd, pry, prm, prt, pse, pmd, pmy, pmt⟩ := id ni
    obtain ⟨tt0, ss0, dr, f63, g64, c62, c63, c64o⟩ := id s62
    have hi := fun h => ih (j + 1) h (by omega)
    have b5 := lbI_B (fun x => decide (nowI sw nc nm K U I O G L cf ct cd md my mt (x : Nat) day (j : Nat) ≠ -1)) nd.toNat
    have b6 : (2 : Nat) ^ nd.toNat ≤ 2 ^ 9 := Nat.pow_le_pow_right (by decide) (by omega)
    have b7 : (2 : Nat) ^ 9 = 512 := rfl
    have b8 : lbI (fun x => decide (nowI sw nc nm K U I O G L cf ct cd md my mt (x : Nat) day (j : Nat) ≠ -1)) nd.toNat < 512 := by omega
    refine r_iload_n dX8_together_18 rfl rfl ?_
    refine r_sipush dX8_together_19 rfl ?_
    refine r_icmp_ge (tgt := 44) dX8_together_22 (by decide) ⟨by omega, by omega⟩ ⟨by omega, by omega⟩ (fun g22 => absurd g22 (by omega)) (fun g22 => ?_)
    refine r_aload_n dX8_together_25 rfl rfl ?_
    refine r_get (fs := [_, _, _, _, _, _, _, _, _, _, _, _, _, _, _, _, _, _, _, _]) dX8_together_26 fl_X8_92 (by decide) c0 rfl ?_
    refine r_aload_n dX8_together_29 rfl rfl ?_
    refine r_iload_n dX8_together_30 rfl rfl ?_
    refine r_iload_n dX8_together_31 rfl rfl ?_
    refine r_callV 0 [_, _] (s_X8_litDials c6 c7 c8 c9 c10 c11 c12 c13 c14 c15 c16 c40 c41 c42 c43 c44 c45 c46 c47 c48 c0 pi ni (by omega) (by omega)) dX8_together_32 cs_X8_363 im_X8_litDials (by decide) c0 rfl (by decide) (by decide) (by decide) rfl rfl (Nat.le_of_ble_eq_true rfl) (fun _ _ _ q => q.elim) (fun v n2 h2 q => ?_)
    obtain ⟨rfl, rfl, hh⟩ := q
    obtain rfl := hh.symm
    refine ⟨rfl, ?_⟩
    dsimp only [Option.toList, List.cons_append, List.nil_append]
    refine r_callV 62 [_] (s_X7_addGroup c62 c64 (by omega)) dX8_together_35 cs_X8_366 im_X7_addGroup (by decide) c62 rfl (by decide) (by decide) (by decide) rfl rfl (Nat.le_of_ble_eq_true rfl) (fun _ _ _ q => q.elim) (fun v n2 h2 q => ?_)
    obtain ⟨rfl, rfl, hh⟩ := q
    obtain rfl := hh.symm
    refine ⟨rfl, ?_⟩
    dsimp only [Option.toList, List.cons_append, List.nil_append]
    refine r_iinc (lv2 := [(0, _), (1, _), (2, _), (3, _)]) dX8_together_38 (by decide) rfl rfl rfl ?_
    refine r_goto (tgt := 18) dX8_together_41 (by decide) ?_
    rw [show (j : Int) + 1 = ((j + 1 : Nat) : Int) by omega]
    exact hi _ ⟨(by first | rfl | exact c0), (by first | rfl | exact c1), (by first | rfl | exact c2), ⟨ht, htp, phl, phi⟩, (by exact pC), (by exact nC), (by exact mC), (by exact lC), (by exact s3), (by exact s4), (by exact s5), (by exact s17), (by exact s34), (by exact s58), ⟨_, _, _, _, _, (by first | rfl | exact c62), (by first | rfl | exact c63), (by first | rfl | exact c64)⟩, (by exact s65), (by exact s66), (by exact s67)⟩ (by repeat (first | exact fr | refine fr_up ?_ (by decide))) rfl

theorem s_X8_together {h : aH} {t : Nat → Int} {tp : Nat} {fpl hlaw himg : Int} {rf : Nat → Int} {nd sw nc hl hs : Int} {K U I O G L cf ct fc nx cd : Nat → Int} {nr ns nm : Int} {rd ry rm rt se md my mt : Nat → Int} {M : ND} {ls : LSm} (cc : CanC h (t, tp, fpl, rf, hlaw, himg, ((nd, sw, nc), (hl, hs), K, U, I, O, G, L, cf, ct, fc, nx, cd), ((nr, ns, nm), rd, ry, rm, rt, se, md, my, mt), M, ls)) {day w : Int} (iday : inR day) (iw : inR w)  : mSem yX8_together cX8_together 8 (some .int) 8 2 12 [.ref 0, iv day, iv w] 97 h (PubQ (ocL [(dayB day, 1), (whaB w 1, 1)]) (some (iv (if w = 0 then (tgO (fun x y => gSum (grS (fun q => lbI (fun j => decide (nowI sw nc nm K U I O G L cf ct cd md my mt (j : Nat) day (q : Nat) ≠ -1)) nd.toNat) 1440) (2 ^ x ||| 2 ^ y) 512) nd.toNat nd.toNat 0 (-1, 0)).1 else (tgO (fun x y => gSum (grS (fun q => lbI (fun j => decide (nowI sw nc nm K U I O G L cf ct cd md my mt (j : Nat) day (q : Nat) ≠ -1)) nd.toNat) 1440) (2 ^ x ||| 2 ^ y) 512) nd.toNat nd.toNat 0 (-1, 0)).2))) h (t, tp, fpl, rf, hlaw, himg, ((nd, sw, nc), (hl, hs), K, U, I, O, G, L, cf, ct, fc, nx, cd), ((nr, ns, nm), rd, ry, rm, rt, se, md, my, mt), M, ls)) (PubX (ocL [(dayB day, 1), (whaB w 1, 1)]) h (t, tp, fpl, rf, hlaw, himg, ((nd, sw, nc), (hl, hs), K, U, I, O, G, L, cf, ct, fc, nx, cd), ((nr, ns, nm), rd, ry, rm, rt, se, md, my, mt), M, ls)) := by
  obtain ⟨c0, c1, c2, ⟨ht, htp, phl, phi⟩, pC, nC, mC, lC, s3, s4, s5, s17, s34, s58, s62, s65, s66, s67⟩ := id cc
  obtain ⟨c6, c7, c8, c9, c10, c11, c12, c13, c14, c15, c16, pi⟩ := id pC
  obtain ⟨c40, c41, c42, c43, c44, c45, c46, c47, c48, ni, nsn⟩ := id nC
  obtain ⟨pnd, psw, pnc, pK, pU, pI, pO, pG, pL, pcf, pct, pfc, pnx⟩ := id pi
  obtain ⟨pnr, pns, pnm, prd, pry, prm, prt, pse, pmd, pmy, pmt⟩ := id ni
  unfold inR at iday iw
  obtain ⟨tt0, ss0, dr, f63, g64, c62, c63, c64⟩ := id s62
  refine mSem_of (own := RX8) (name := "together") pn_X8 rfl rfl (Nat.le_of_ble_eq_true rfl) ?_
  refine r_iload_n dX8_together_0 rfl rfl ?_
  refine r_callS [_] (s_X8_needDay iday) dX8_together_1 cs_X8_139 sm_X8_needDay (by decide) (by decide) (by decide) rfl rfl (Nat.le_of_ble_eq_true rfl) (fun E n2 h2 q => by
    obtain ⟨rfl, nk, rfl, rfl⟩ := q
    exact ⟨rfl, Or.inl ⟨by simp [ocL, nk], rfl⟩, rfl, cls_of cc, fun _ _ => rfl⟩) (fun v n2 h2 q => ?_)
  obtain ⟨k1, rfl, rfl, hh⟩ := q
  obtain rfl := hh.symm
  have bday := of_decide_eq_true k1
  refine ⟨rfl, ?_⟩
  dsimp only [Option.toList, List.cons_append, List.nil_append]
  refine r_iload_n dX8_together_4 rfl rfl ?_
  refine r_iconst dX8_together_5 ?_
  refine r_callS [_, _] (s_X8_needWhat iw ⟨by decide, by decide⟩) dX8_together_6 cs_X8_160 sm_X8_needWhat (by decide) (by decide) (by decide) rfl rfl (Nat.le_of_ble_eq_true rfl) (fun E n2 h2 q => by
    obtain ⟨rfl, nk, rfl, rfl⟩ := q
    exact ⟨rfl, Or.inl ⟨by simp [ocL, k1, nk], rfl⟩, rfl, cls_of cc, fun _ _ => rfl⟩) (fun v n2 h2 q => ?_)
  obtain ⟨k2, rfl, rfl, hh⟩ := q
  obtain rfl := hh.symm
  have bw := of_decide_eq_true k2
  refine ⟨rfl, ?_⟩
  dsimp only [Option.toList, List.cons_append, List.nil_append]
  refine r_aload_n dX8_together_9 rfl rfl ?_
  refine r_get (fs := [_, _, _, _, _, _, _, _, _, _, _, _, _, _, _, _, _, _, _, _]) dX8_together_10 fl_X8_92 (by decide) c0 rfl ?_
  refine r_callV 62 [] (s_X7_clearGroups c62 c64) dX8_together_13 cs_X8_360 im_X7_clearGroups (by decide) c62 rfl (by decide) (by decide) (by decide) rfl rfl (Nat.le_of_ble_eq_true rfl) (fun _ _ _ q => q.elim) (fun v n2 h2 q => ?_)
  obtain ⟨rfl, rfl, hh⟩ := q
  obtain rfl := hh.symm
  refine ⟨rfl, ?_⟩
  dsimp only [Option.toList, List.cons_append, List.nil_append]
  refine r_iconst dX8_together_16 ?_
  refine r_istore_n (lv2 := [(0, _), (1, _), (2, _), (3, _)]) dX8_together_17 rfl (by decide) rfl rfl ?_
  refine ev_arr 64 (fun _ => 0) rfl (fun j hj => by unfold fillF; rw [if_pos hj]) ?_
  exact l_X8_together (by simp [ocL, k1, k2]) bday bw 1440 0 _ (by omega) ⟨(by first | rfl | exact c0), (by first | rfl | exact c1), (by first | rfl | exact c2), ⟨ht, htp, phl, phi⟩, (by exact pC), (by exact nC), (by exact mC), (by exact lC), (by exact s3), (by exact s4), (by exact s5), (by exact s17), (by exact s34), (by exact s58), ⟨_, _, _, _, _, (by first | rfl | exact c62), (by first | rfl | exact c63), (by first | rfl | exact c64)⟩, (by exact s65), (by exact s66), (by exact s67)⟩ (by repeat (first | exact fun _ _ => rfl | refine fr_up ?_ (by decide))) rfl
