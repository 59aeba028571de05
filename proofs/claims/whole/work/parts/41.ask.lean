/-! ===== the public methods: the questions ===== -/
def metS (lt : Int → Int) (w : Int) : Nat → Int → Int → Int → Int
  | 0, _, b, _ => b
  | k + 1, on, b, l => if lt on = -1 then metS lt w k (on + 1) b l else if w = 0 then on else if b = -1 ∨ lt on < l then metS lt w k (on + 1) on (lt on) else metS lt w k (on + 1) b l
def mnV (p : Int × Int × Int) (w : Int) : Int := if w = 0 then p.1 else if w = 1 then p.2.1 else p.2.2
def tkS2 (f : Int → Int) : Nat → Int → Int → Int
  | 0, _, a => a
  | k + 1, on, a => tkS2 f k (on + 1) (a + f on)
theorem latI_B {a b : Int} (ha : -1 ≤ a ∧ a < 1440) (hb : -1 ≤ b ∧ b < 1440) : -1 ≤ latI a b ∧ latI a b < 1440 := by unfold latI; split <;> omega
theorem ftS_1 {g : Nat → Int} {ok : Int → Bool} {s : Int × Int × Int} : ∀ k : Nat, s.1 ≤ (ftS g ok s k).1 ∧ (ftS g ok s k).1 ≤ s.1 + k := by
  intro k
  induction k with
  | zero => exact ⟨Int.le_refl _, by show s.1 ≤ s.1 + 0; omega⟩
  | succ k ih =>
    rw [ftS_s]
    split
    · show s.1 ≤ (ftS g ok s k).1 + 1 ∧ (ftS g ok s k).1 + 1 ≤ s.1 + ((k + 1 : Nat) : Int)
      omega
    · omega
theorem yT_1 {now : Int → Int} {m : Int} (hn : ∀ d, -1 ≤ now d ∧ now d < 1440) (hm : 0 ≤ m ∧ m < 1440) : ∀ k : Nat, (0 ≤ (yT now m k).1 ∧ (yT now m k).1 ≤ k) ∧ 0 ≤ (yT now m k).2.1 ∧ (yT now m k).2.1 ≤ 720 * k := by
  intro k
  induction k with
  | zero => exact ⟨⟨Int.le_refl _, Int.le_refl _⟩, Int.le_refl _, Int.le_refl _⟩
  | succ k ih =>
    show (0 ≤ (tAdd (yT now m k) k (now k) m).1 ∧ (tAdd (yT now m k) k (now k) m).1 ≤ ((k + 1 : Nat) : Int)) ∧ 0 ≤ (tAdd (yT now m k) k (now k) m).2.1 ∧ (tAdd (yT now m k) k (now k) m).2.1 ≤ 720 * ((k + 1 : Nat) : Int)
    unfold tAdd
    split
    · omega
    · have := wrong_B (a := now k) (b := m) (by have := hn k; omega) hm
      dsimp only
      omega

theorem s_X8_late {h : aH} {t : Nat → Int} {tp : Nat} {fpl hlaw himg : Int} {rf : Nat → Int} {nd sw nc hl hs : Int} {K U I O G L cf ct fc nx cd : Nat → Int} {nr ns nm : Int} {rd ry rm rt se md my mt : Nat → Int} {M : ND} {ls : LSm} (cc : CanC h (t, tp, fpl, rf, hlaw, himg, ((nd, sw, nc), (hl, hs), K, U, I, O, G, L, cf, ct, fc, nx, cd), ((nr, ns, nm), rd, ry, rm, rt, se, md, my, mt), M, ls)) {a b x day : Int} (ia : inR a) (ib : inR b) (ix : inR x) (iday : inR day)  : mSem yX8_late cX8_late 5 (some .int) 9 4 24 [.ref 0, iv a, iv b, iv x, iv day] 97 h (PubQ (ocL [(diaB nd a, 1), (diaB nd b, 1), (minB x, 1), (dayB day, 1)]) (some (iv ((fun d => latI (frsN sw nc nm K U I O G L cf ct cd md my mt a d x) (frsN sw nc nm K U I O G L cf ct cd md my mt b d x)) day))) h (t, tp, fpl, rf, hlaw, himg, ((nd, sw, nc), (hl, hs), K, U, I, O, G, L, cf, ct, fc, nx, cd), ((nr, ns, nm), rd, ry, rm, rt, se, md, my, mt), M, ls)) (PubX (ocL [(diaB nd a, 1), (diaB nd b, 1), (minB x, 1), (dayB day, 1)]) h (t, tp, fpl, rf, hlaw, himg, ((nd, sw, nc), (hl, hs), K, U, I, O, G, L, cf, ct, fc, nx, cd), ((nr, ns, nm), rd, ry, rm, rt, se, md, my, mt), M, ls)) := by
  obtain ⟨c0, c1, c2, ⟨ht, htp, phl, phi⟩, pC, nC, mC, lC, s3, s4, s5, s17, s34, s58, s62, s65, s66, s67⟩ := id cc
  obtain ⟨c6, c7, c8, c9, c10, c11, c12, c13, c14, c15, c16, pi⟩ := id pC
  obtain ⟨c40, c41, c42, c43, c44, c45, c46, c47, c48, ni, nsn⟩ := id nC
  obtain ⟨pnd, psw, pnc, pK, pU, pI, pO, pG, pL, pcf, pct, pfc, pnx⟩ := id pi
  obtain ⟨pnr, pns, pnm, prd, pry, prm, prt, pse, pmd, pmy, pmt⟩ := id ni
  unfold inR at ia ib ix iday
  obtain ⟨mf, c67⟩ := id s67
  refine mSem_of (own := RX8) (name := "late") pn_X8 rfl rfl (Nat.le_of_ble_eq_true rfl) ?_
  refine r_aload_n dX8_late_0 rfl rfl ?_
  refine r_iload_n dX8_late_1 rfl rfl ?_
  refine r_callV 0 [_] (s_X8_needDial c0 c6 pnd ia) dX8_late_2 cs_X8_209 im_X8_needDial (by decide) c0 rfl (by decide) (by decide) (by decide) rfl rfl (Nat.le_of_ble_eq_true rfl) (fun E n2 h2 q => by
    obtain ⟨rfl, nk, rfl, rfl⟩ := q
    exact ⟨rfl, Or.inl ⟨by simp [ocL, nk], rfl⟩, rfl, cls_of cc, fun _ _ => rfl⟩) (fun v n2 h2 q => ?_)
  obtain ⟨k1, rfl, rfl, hh⟩ := q
  obtain rfl := hh.symm
  have ba := of_decide_eq_true k1
  refine ⟨rfl, ?_⟩
  dsimp only [Option.toList, List.cons_append, List.nil_append]
  refine r_aload_n dX8_late_5 rfl rfl ?_
  refine r_iload_n dX8_late_6 rfl rfl ?_
  refine r_callV 0 [_] (s_X8_needDial c0 c6 pnd ib) dX8_late_7 cs_X8_209 im_X8_needDial (by decide) c0 rfl (by decide) (by decide) (by decide) rfl rfl (Nat.le_of_ble_eq_true rfl) (fun E n2 h2 q => by
    obtain ⟨rfl, nk, rfl, rfl⟩ := q
    exact ⟨rfl, Or.inl ⟨by simp [ocL, k1, nk], rfl⟩, rfl, cls_of cc, fun _ _ => rfl⟩) (fun v n2 h2 q => ?_)
  obtain ⟨k2, rfl, rfl, hh⟩ := q
  obtain rfl := hh.symm
  have bb := of_decide_eq_true k2
  refine ⟨rfl, ?_⟩
  dsimp only [Option.toList, List.cons_append, List.nil_append]
  refine r_iload_n dX8_late_10 rfl rfl ?_
  refine r_callS [_] (s_X8_needMinute ix) dX8_late_11 cs_X8_142 sm_X8_needMinute (by decide) (by decide) (by decide) rfl rfl (Nat.le_of_ble_eq_true rfl) (fun E n2 h2 q => by
    obtain ⟨rfl, nk, rfl, rfl⟩ := q
    exact ⟨rfl, Or.inl ⟨by simp [ocL, k1, k2, nk], rfl⟩, rfl, cls_of cc, fun _ _ => rfl⟩) (fun v n2 h2 q => ?_)
  obtain ⟨k3, rfl, rfl, hh⟩ := q
  obtain rfl := hh.symm
  have bx := of_decide_eq_true k3
  refine ⟨rfl, ?_⟩
  dsimp only [Option.toList, List.cons_append, List.nil_append]
  refine r_iload dX8_late_14 rfl ?_
  refine r_callS [_] (s_X8_needDay iday) dX8_late_16 cs_X8_139 sm_X8_needDay (by decide) (by decide) (by decide) rfl rfl (Nat.le_of_ble_eq_true rfl) (fun E n2 h2 q => by
    obtain ⟨rfl, nk, rfl, rfl⟩ := q
    exact ⟨rfl, Or.inl ⟨by simp [ocL, k1, k2, k3, nk], rfl⟩, rfl, cls_of cc, fun _ _ => rfl⟩) (fun v n2 h2 q => ?_)
  obtain ⟨k4, rfl, rfl, hh⟩ := q
  obtain rfl := hh.symm
  have bday := of_decide_eq_true k4
  refine ⟨rfl, ?_⟩
  dsimp only [Option.toList, List.cons_append, List.nil_append]
  refine r_aload_n dX8_late_19 rfl rfl ?_
  refine r_iload_n dX8_late_20 rfl rfl ?_
  refine r_iload_n dX8_late_21 rfl rfl ?_
  refine r_iload_n dX8_late_22 rfl rfl ?_
  refine r_iload dX8_late_23 rfl ?_
  refine r_callV 0 [_, _, _, _] (s_X8_lateOn c6 c7 c8 c9 c10 c11 c12 c13 c14 c15 c16 c40 c41 c42 c43 c44 c45 c46 c47 c48 c0 c67 pi ni (by omega) (by omega) (by omega) (by omega)) dX8_late_25 cs_X8_311 im_X8_lateOn (by decide) c0 rfl (by decide) (by decide) (by decide) rfl rfl (Nat.le_of_ble_eq_true rfl) (fun _ _ _ q => q.elim) (fun v n2 h2 q => ?_)
  obtain ⟨rfl, rfl, f2, rfl⟩ := q
  refine ⟨rfl, ?_⟩
  dsimp only [Option.toList, List.cons_append, List.nil_append]
  refine r_iret dX8_late_28 ?_
  exact ⟨(by simp [ocL, k1, k2, k3, k4]), rfl, rfl, cls_of ⟨(by first | rfl | exact c0), (by first | rfl | exact c1), (by first | rfl | exact c2), ⟨ht, htp, phl, phi⟩, (by exact pC), (by exact nC), (by exact mC), (by exact lC), (by exact s3), (by exact s4), (by exact s5), (by exact s17), (by exact s34), (by exact s58), (by exact s62), (by exact s65), (by exact s66), ⟨_, rfl⟩⟩, (by repeat (first | exact fun _ _ => rfl | refine fr_up ?_ (by decide)))⟩

theorem l_X8_meet {h : aH} {nd sw nc : Int} {K U I O G L cf ct fc nx cd : Nat → Int} (c6 : h 6 = .inr (4, [iv nd, iv sw, iv nc, .ref 7, .ref 8, .ref 9, .ref 10, .ref 11, .ref 12, .ref 13, .ref 14, .ref 15, .ref 16])) (c7 : h 7 = .inl (0, 9, K)) (c8 : h 8 = .inl (0, 9, U)) (c9 : h 9 = .inl (0, 9, I)) (c10 : h 10 = .inl (0, 9, O)) (c11 : h 11 = .inl (0, 9, G)) (c12 : h 12 = .inl (0, 12, L)) (c13 : h 13 = .inl (0, 20, cf)) (c14 : h 14 = .inl (0, 20, ct)) (c15 : h 15 = .inl (0, 365, fc)) (c16 : h 16 = .inl (0, 20, nx)) {nr ns nm : Int} {rd ry rm rt se md my mt : Nat → Int} (c40 : h 40 = .inr (3, [iv nr, iv ns, iv nm, .ref 41, .ref 42, .ref 43, .ref 44, .ref 45, .ref 46, .ref 47, .ref 48])) (c41 : h 41 = .inl (0, 12, rd)) (c42 : h 42 = .inl (0, 12, ry)) (c43 : h 43 = .inl (0, 12, rm)) (c44 : h 44 = .inl (0, 12, rt)) (c45 : h 45 = .inl (0, 9, se)) (c46 : h 46 = .inl (0, 40, md)) (c47 : h 47 = .inl (0, 40, my)) (c48 : h 48 = .inl (0, 40, mt)) {taped fpl hlaw himg : Int} (c0 : h 0 = .inr (8, [.ref 1, iv taped, iv fpl, .ref 2, .ref 3, .ref 4, .ref 5, .ref 6, .ref 17, .ref 28, .ref 34, iv hlaw, .ref 40, .ref 49, iv himg, .ref 58, .ref 62, .ref 65, .ref 66, .ref 67])) {mf : Nat → Int} (c67 : h 67 = .inl (0, 14, mf)) (pi : PInv nd sw nc K U I O G L cf ct fc nx cd) (ni : NInv nr ns nm rd ry rm rt se md my mt) {a b x : Int} (ha : 0 ≤ a ∧ a < 9) (hb : 0 ≤ b ∧ b < 9) (hx : 0 ≤ x ∧ x < 1440) {w : Int} (hw : 0 ≤ w ∧ w ≤ 1) {d0 : Int} : ∀ (k : Nat) (on bb l : Int) (g : Nat → Int), on + k = 365 → 0 ≤ on → (-1 ≤ bb ∧ bb < 365) → (-1 ≤ l ∧ l < 1440) → Ev RX8 "meet" cX8_meet 10 (some .int) 9 0 0 (RetM (metS (fun d => latI (frsN sw nc nm K U I O G L cf ct cd md my mt a d x) (frsN sw nc nm K U I O G L cf ct cd md my mt b d x)) w k on bb l) h) noX 97 (va_up h 67 (.inl (0, 14, g))) 35 [(0, .ref 0), (1, iv a), (2, iv b), (3, iv x), (4, iv d0), (5, iv w), (6, iv bb), (7, iv l), (8, iv on)] [] := by
  obtain ⟨pnd, psw, pnc, pK, pU, pI, pO, pG, pL, pcf, pct, pfc, pnx⟩ := id pi
  obtain ⟨pnr, pns, pnm, prd, pry, prm, prt, pse, pmd, pmy, pmt⟩ := id ni
  intro k
  induction k with
  | zero =>
    intro on bb l g hk h0 h1 h2
    refine r_iload dX8_meet_35 rfl ?_
    refine r_sipush dX8_meet_37 rfl ?_
    refine r_icmp_ge (tgt := 98) dX8_meet_40 (by decide) ⟨by omega, by omega⟩ ⟨by omega, by omega⟩ (fun g40 => ?_) (fun g40 => absurd g40 (by omega))
    refine r_iload dX8_meet_98 rfl ?_
    refine r_iret dX8_meet_100 ?_
    exact ⟨rfl, rfl, g, rfl⟩
  | succ k ih =>
    intro on bb l g hk h0 h1 h2
    have f1 := frs_B (nc := nc) (nm := nm) (K := K) (U := U) (I := I) (O := O) (G := G) (cf := cf) (ct := ct) (cd := cd) (md := md) (my := my) (mt := mt) (di := a) (told := x) psw pL (show 0 ≤ on ∧ on < 365 by omega)
    have f2 := frs_B (nc := nc) (nm := nm) (K := K) (U := U) (I := I) (O := O) (G := G) (cf := cf) (ct := ct) (cd := cd) (md := md) (my := my) (mt := mt) (di := b) (told := x) psw pL (show 0 ≤ on ∧ on < 365 by omega)
    have f3 := latI_B f1 f2
    have e1 : metS (fun d => latI (frsN sw nc nm K U I O G L cf ct cd md my mt a d x) (frsN sw nc nm K U I O G L cf ct cd md my mt b d x)) w (k + 1) on bb l = if (fun d => latI (frsN sw nc nm K U I O G L cf ct cd md my mt a d x) (frsN sw nc nm K U I O G L cf ct cd md my mt b d x)) on = -1 then metS (fun d => latI (frsN sw nc nm K U I O G L cf ct cd md my mt a d x) (frsN sw nc nm K U I O G L cf ct cd md my mt b d x)) w k (on + 1) bb l else if w = 0 then on else if bb = -1 ∨ (fun d => latI (frsN sw nc nm K U I O G L cf ct cd md my mt a d x) (frsN sw nc nm K U I O G L cf ct cd md my mt b d x)) on < l then metS (fun d => latI (frsN sw nc nm K U I O G L cf ct cd md my mt a d x) (frsN sw nc nm K U I O G L cf ct cd md my mt b d x)) w k (on + 1) on ((fun d => latI (frsN sw nc nm K U I O G L cf ct cd md my mt a d x) (frsN sw nc nm K U I O G L cf ct cd md my mt b d x)) on) else metS (fun d => latI (frsN sw nc nm K U I O G L cf ct cd md my mt a d x) (frsN sw nc nm K U I O G L cf ct cd md my mt b d x)) w k (on + 1) bb l := rfl
    dsimp only at e1
    refine r_iload dX8_meet_35 rfl ?_
    refine r_sipush dX8_meet_37 rfl ?_
    refine r_icmp_ge (tgt := 98) dX8_meet_40 (by decide) ⟨by omega, by omega⟩ ⟨by omega, by omega⟩ (fun g40 => absurd g40 (by omega)) (fun g40 => ?_)
    refine r_aload_n dX8_meet_43 rfl rfl ?_
    refine r_iload_n dX8_meet_44 rfl rfl ?_
    refine r_iload_n dX8_meet_45 rfl rfl ?_
    refine r_iload_n dX8_meet_46 rfl rfl ?_
    refine r_iload dX8_meet_47 rfl ?_
    refine r_callV 0 [_, _, _, _] (s_X8_lateOn (by exact c6) (by exact c7) (by exact c8) (by exact c9) (by exact c10) (by exact c11) (by exact c12) (by exact c13) (by exact c14) (by exact c15) (by exact c16) (by exact c40) (by exact c41) (by exact c42) (by exact c43) (by exact c44) (by exact c45) (by exact c46) (by exact c47) (by exact c48) (by exact c0) (by rfl) pi ni (by omega) (by omega) (by omega) (by omega)) dX8_meet_49 cs_X8_311 im_X8_lateOn (by decide) c0 rfl (by decide) (by decide) (by decide) rfl rfl (Nat.le_of_ble_eq_true rfl) (fun _ _ _ q => q.elim) (fun v n2 h2 q => ?_)
    obtain ⟨rfl, rfl, f2, rfl⟩ := q
    refine ⟨rfl, ?_⟩
    dsimp only [Option.toList, List.cons_append, List.nil_append]
    refine r_istore (lv2 := [(0, _), (1, _), (2, _), (3, _), (4, _), (5, _), (6, _), (7, _), (8, _), (9, _)]) dX8_meet_52 (by decide) rfl rfl ?_
    refine r_iload dX8_meet_54 rfl ?_
    refine r_iconst dX8_meet_56 ?_
    refine r_icmp_ne (tgt := 63) dX8_meet_57 (by decide) ⟨by omega, by omega⟩ ⟨by omega, by omega⟩ (fun g57 => ?_) (fun g57 => ?_)
    · refine r_iload dX8_meet_63 rfl ?_
      refine r_if_ne (tgt := 71) dX8_meet_65 (by decide) ⟨by omega, by omega⟩ (fun g65 => ?_) (fun g65 => ?_)
      · refine r_iload dX8_meet_71 rfl ?_
        refine r_iconst dX8_meet_73 ?_
        refine r_icmp_eq (tgt := 84) dX8_meet_74 (by decide) ⟨by omega, by omega⟩ ⟨by omega, by omega⟩ (fun g74 => ?_) (fun g74 => ?_)
        · refine r_iload dX8_meet_84 rfl ?_
          refine r_istore (lv2 := [(0, _), (1, _), (2, _), (3, _), (4, _), (5, _), (6, _), (7, _), (8, _), (9, _)]) dX8_meet_86 (by decide) rfl rfl ?_
          refine r_iload dX8_meet_88 rfl ?_
          refine r_istore (lv2 := [(0, _), (1, _), (2, _), (3, _), (4, _), (5, _), (6, _), (7, _), (8, _), (9, _)]) dX8_meet_90 (by decide) rfl rfl ?_
          refine r_iinc (lv2 := [(0, _), (1, _), (2, _), (3, _), (4, _), (5, _), (6, _), (7, _), (8, _), (9, _)]) dX8_meet_92 (by decide) rfl rfl rfl ?_
          refine r_goto (tgt := 35) dX8_meet_95 (by decide) ?_
          refine r_lv (lv2 := [(0, _), (1, _), (2, _), (3, _), (4, _), (5, _), (6, _), (7, _), (8, _)]) rfl ?_
          first
            | rw [e1, if_pos (by omega), bx_uu]
            | rw [e1, if_neg (by omega), if_neg (by omega), if_pos (by omega), bx_uu]
            | rw [e1, if_neg (by omega), if_neg (by omega), if_neg (by omega), bx_uu]
          exact ih _ _ _ _ (by omega) (by omega) (by omega) (by omega)
        · refine r_iload dX8_meet_77 rfl ?_
          refine r_iload dX8_meet_79 rfl ?_
          refine r_icmp_ge (tgt := 92) dX8_meet_81 (by decide) ⟨by omega, by omega⟩ ⟨by omega, by omega⟩ (fun g81 => ?_) (fun g81 => ?_)
          · refine r_iinc (lv2 := [(0, _), (1, _), (2, _), (3, _), (4, _), (5, _), (6, _), (7, _), (8, _), (9, _)]) dX8_meet_92 (by decide) rfl rfl rfl ?_
            refine r_goto (tgt := 35) dX8_meet_95 (by decide) ?_
            refine r_lv (lv2 := [(0, _), (1, _), (2, _), (3, _), (4, _), (5, _), (6, _), (7, _), (8, _)]) rfl ?_
            first
              | rw [e1, if_pos (by omega), bx_uu]
              | rw [e1, if_neg (by omega), if_neg (by omega), if_pos (by omega), bx_uu]
              | rw [e1, if_neg (by omega), if_neg (by omega), if_neg (by omega), bx_uu]
            exact ih _ _ _ _ (by omega) (by omega) (by omega) (by omega)
          · refine r_iload dX8_meet_84 rfl ?_
            refine r_istore (lv2 := [(0, _), (1, _), (2, _), (3, _), (4, _), (5, _), (6, _), (7, _), (8, _), (9, _)]) dX8_meet_86 (by decide) rfl rfl ?_
            refine r_iload dX8_meet_88 rfl ?_
            refine r_istore (lv2 := [(0, _), (1, _), (2, _), (3, _), (4, _), (5, _), (6, _), (7, _), (8, _), (9, _)]) dX8_meet_90 (by decide) rfl rfl ?_
            refine r_iinc (lv2 := [(0, _), (1, _), (2, _), (3, _), (4, _), (5, _), (6, _), (7, _), (8, _), (9, _)]) dX8_meet_92 (by decide) rfl rfl rfl ?_
            refine r_goto (tgt := 35) dX8_meet_95 (by decide) ?_
            refine r_lv (lv2 := [(0, _), (1, _), (2, _), (3, _), (4, _), (5, _), (6, _), (7, _), (8, _)]) rfl ?_
            first
              | rw [e1, if_pos (by omega), bx_uu]
              | rw [e1, if_neg (by omega), if_neg (by omega), if_pos (by omega), bx_uu]
              | rw [e1, if_neg (by omega), if_neg (by omega), if_neg (by omega), bx_uu]
            exact ih _ _ _ _ (by omega) (by omega) (by omega) (by omega)
      · refine r_iload dX8_meet_68 rfl ?_
        refine r_iret dX8_meet_70 ?_
        exact ⟨ivE (by rw [e1, if_neg (by omega), if_pos (by omega)]), rfl, _, bx_uu _ _ _ _⟩
    · refine r_goto (tgt := 92) dX8_meet_60 (by decide) ?_
      refine r_iinc (lv2 := [(0, _), (1, _), (2, _), (3, _), (4, _), (5, _), (6, _), (7, _), (8, _), (9, _)]) dX8_meet_92 (by decide) rfl rfl rfl ?_
      refine r_goto (tgt := 35) dX8_meet_95 (by decide) ?_
      refine r_lv (lv2 := [(0, _), (1, _), (2, _), (3, _), (4, _), (5, _), (6, _), (7, _), (8, _)]) rfl ?_
      first
        | rw [e1, if_pos (by omega), bx_uu]
        | rw [e1, if_neg (by omega), if_neg (by omega), if_pos (by omega), bx_uu]
        | rw [e1, if_neg (by omega), if_neg (by omega), if_neg (by omega), bx_uu]
      exact ih _ _ _ _ (by omega) (by omega) (by omega) (by omega)

theorem s_X8_meet {h : aH} {t : Nat → Int} {tp : Nat} {fpl hlaw himg : Int} {rf : Nat → Int} {nd sw nc hl hs : Int} {K U I O G L cf ct fc nx cd : Nat → Int} {nr ns nm : Int} {rd ry rm rt se md my mt : Nat → Int} {M : ND} {ls : LSm} (cc : CanC h (t, tp, fpl, rf, hlaw, himg, ((nd, sw, nc), (hl, hs), K, U, I, O, G, L, cf, ct, fc, nx, cd), ((nr, ns, nm), rd, ry, rm, rt, se, md, my, mt), M, ls)) {a b x day w : Int} (ia : inR a) (ib : inR b) (ix : inR x) (iday : inR day) (iw : inR w)  : mSem yX8_meet cX8_meet 10 (some .int) 9 5 30 [.ref 0, iv a, iv b, iv x, iv day, iv w] 97 h (PubQ (ocL [(diaB nd a, 1), (diaB nd b, 1), (minB x, 1), (dayB day, 1), (whaB w 1, 1)]) (some (iv (metS (fun d => latI (frsN sw nc nm K U I O G L cf ct cd md my mt a d x) (frsN sw nc nm K U I O G L cf ct cd md my mt b d x)) w (365 - day).toNat day (-1) (-1)))) h (t, tp, fpl, rf, hlaw, himg, ((nd, sw, nc), (hl, hs), K, U, I, O, G, L, cf, ct, fc, nx, cd), ((nr, ns, nm), rd, ry, rm, rt, se, md, my, mt), M, ls)) (PubX (ocL [(diaB nd a, 1), (diaB nd b, 1), (minB x, 1), (dayB day, 1), (whaB w 1, 1)]) h (t, tp, fpl, rf, hlaw, himg, ((nd, sw, nc), (hl, hs), K, U, I, O, G, L, cf, ct, fc, nx, cd), ((nr, ns, nm), rd, ry, rm, rt, se, md, my, mt), M, ls)) := by
  obtain ⟨c0, c1, c2, ⟨ht, htp, phl, phi⟩, pC, nC, mC, lC, s3, s4, s5, s17, s34, s58, s62, s65, s66, s67⟩ := id cc
  obtain ⟨c6, c7, c8, c9, c10, c11, c12, c13, c14, c15, c16, pi⟩ := id pC
  obtain ⟨c40, c41, c42, c43, c44, c45, c46, c47, c48, ni, nsn⟩ := id nC
  obtain ⟨pnd, psw, pnc, pK, pU, pI, pO, pG, pL, pcf, pct, pfc, pnx⟩ := id pi
  obtain ⟨pnr, pns, pnm, prd, pry, prm, prt, pse, pmd, pmy, pmt⟩ := id ni
  unfold inR at ia ib ix iday iw
  obtain ⟨mf, c67⟩ := id s67
  refine mSem_of (own := RX8) (name := "meet") pn_X8 rfl rfl (Nat.le_of_ble_eq_true rfl) ?_
  refine r_aload_n dX8_meet_0 rfl rfl ?_
  refine r_iload_n dX8_meet_1 rfl rfl ?_
  refine r_callV 0 [_] (s_X8_needDial c0 c6 pnd ia) dX8_meet_2 cs_X8_209 im_X8_needDial (by decide) c0 rfl (by decide) (by decide) (by decide) rfl rfl (Nat.le_of_ble_eq_true rfl) (fun E n2 h2 q => by
    obtain ⟨rfl, nk, rfl, rfl⟩ := q
    exact ⟨rfl, Or.inl ⟨by simp [ocL, nk], rfl⟩, rfl, cls_of cc, fun _ _ => rfl⟩) (fun v n2 h2 q => ?_)
  obtain ⟨k1, rfl, rfl, hh⟩ := q
  obtain rfl := hh.symm
  have ba := of_decide_eq_true k1
  refine ⟨rfl, ?_⟩
  dsimp only [Option.toList, List.cons_append, List.nil_append]
  refine r_aload_n dX8_meet_5 rfl rfl ?_
  refine r_iload_n dX8_meet_6 rfl rfl ?_
  refine r_callV 0 [_] (s_X8_needDial c0 c6 pnd ib) dX8_meet_7 cs_X8_209 im_X8_needDial (by decide) c0 rfl (by decide) (by decide) (by decide) rfl rfl (Nat.le_of_ble_eq_true rfl) (fun E n2 h2 q => by
    obtain ⟨rfl, nk, rfl, rfl⟩ := q
    exact ⟨rfl, Or.inl ⟨by simp [ocL, k1, nk], rfl⟩, rfl, cls_of cc, fun _ _ => rfl⟩) (fun v n2 h2 q => ?_)
  obtain ⟨k2, rfl, rfl, hh⟩ := q
  obtain rfl := hh.symm
  have bb := of_decide_eq_true k2
  refine ⟨rfl, ?_⟩
  dsimp only [Option.toList, List.cons_append, List.nil_append]
  refine r_iload_n dX8_meet_10 rfl rfl ?_
  refine r_callS [_] (s_X8_needMinute ix) dX8_meet_11 cs_X8_142 sm_X8_needMinute (by decide) (by decide) (by decide) rfl rfl (Nat.le_of_ble_eq_true rfl) (fun E n2 h2 q => by
    obtain ⟨rfl, nk, rfl, rfl⟩ := q
    exact ⟨rfl, Or.inl ⟨by simp [ocL, k1, k2, nk], rfl⟩, rfl, cls_of cc, fun _ _ => rfl⟩) (fun v n2 h2 q => ?_)
  obtain ⟨k3, rfl, rfl, hh⟩ := q
  obtain rfl := hh.symm
  have bx := of_decide_eq_true k3
  refine ⟨rfl, ?_⟩
  dsimp only [Option.toList, List.cons_append, List.nil_append]
  refine r_iload dX8_meet_14 rfl ?_
  refine r_callS [_] (s_X8_needDay iday) dX8_meet_16 cs_X8_139 sm_X8_needDay (by decide) (by decide) (by decide) rfl rfl (Nat.le_of_ble_eq_true rfl) (fun E n2 h2 q => by
    obtain ⟨rfl, nk, rfl, rfl⟩ := q
    exact ⟨rfl, Or.inl ⟨by simp [ocL, k1, k2, k3, nk], rfl⟩, rfl, cls_of cc, fun _ _ => rfl⟩) (fun v n2 h2 q => ?_)
  obtain ⟨k4, rfl, rfl, hh⟩ := q
  obtain rfl := hh.symm
  have bday := of_decide_eq_true k4
  refine ⟨rfl, ?_⟩
  dsimp only [Option.toList, List.cons_append, List.nil_append]
  refine r_iload dX8_meet_19 rfl ?_
  refine r_iconst dX8_meet_21 ?_
  refine r_callS [_, _] (s_X8_needWhat iw ⟨by decide, by decide⟩) dX8_meet_22 cs_X8_160 sm_X8_needWhat (by decide) (by decide) (by decide) rfl rfl (Nat.le_of_ble_eq_true rfl) (fun E n2 h2 q => by
    obtain ⟨rfl, nk, rfl, rfl⟩ := q
    exact ⟨rfl, Or.inl ⟨by simp [ocL, k1, k2, k3, k4, nk], rfl⟩, rfl, cls_of cc, fun _ _ => rfl⟩) (fun v n2 h2 q => ?_)
  obtain ⟨k5, rfl, rfl, hh⟩ := q
  obtain rfl := hh.symm
  have bw := of_decide_eq_true k5
  refine ⟨rfl, ?_⟩
  dsimp only [Option.toList, List.cons_append, List.nil_append]
  refine r_iconst dX8_meet_25 ?_
  refine r_istore (lv2 := [(0, _), (1, _), (2, _), (3, _), (4, _), (5, _), (6, _)]) dX8_meet_26 (by decide) rfl rfl ?_
  refine r_iconst dX8_meet_28 ?_
  refine r_istore (lv2 := [(0, _), (1, _), (2, _), (3, _), (4, _), (5, _), (6, _), (7, _)]) dX8_meet_29 (by decide) rfl rfl ?_
  refine r_iload dX8_meet_31 rfl ?_
  refine r_istore (lv2 := [(0, _), (1, _), (2, _), (3, _), (4, _), (5, _), (6, _), (7, _), (8, _)]) dX8_meet_33 (by decide) rfl rfl ?_
  refine ev_h (up_same c67) ?_
  refine ev_post (l_X8_meet c6 c7 c8 c9 c10 c11 c12 c13 c14 c15 c16 c40 c41 c42 c43 c44 c45 c46 c47 c48 c0 c67 pi ni (by omega) (by omega) (by omega) (by omega) (365 - day).toNat day (-1) (-1) mf (by omega) (by omega) (by omega) (by omega)) (fun v n2 h2 q => ?_) (fun _ _ _ q => q.elim)
  obtain ⟨rfl, rfl, f9, rfl⟩ := q
  exact ⟨(by simp [ocL, k1, k2, k3, k4, k5]), rfl, rfl, cls_of ⟨(by first | rfl | exact c0), (by first | rfl | exact c1), (by first | rfl | exact c2), ⟨ht, htp, phl, phi⟩, (by exact pC), (by exact nC), (by exact mC), (by exact lC), (by exact s3), (by exact s4), (by exact s5), (by exact s17), (by exact s34), (by exact s58), (by exact s62), (by exact s65), (by exact s66), ⟨_, rfl⟩⟩, (by repeat (first | exact fun _ _ => rfl | refine fr_up ?_ (by decide)))⟩

theorem s_X8_minutes {h : aH} {t : Nat → Int} {tp : Nat} {fpl hlaw himg : Int} {rf : Nat → Int} {nd sw nc hl hs : Int} {K U I O G L cf ct fc nx cd : Nat → Int} {nr ns nm : Int} {rd ry rm rt se md my mt : Nat → Int} {M : ND} {ls : LSm} (cc : CanC h (t, tp, fpl, rf, hlaw, himg, ((nd, sw, nc), (hl, hs), K, U, I, O, G, L, cf, ct, fc, nx, cd), ((nr, ns, nm), rd, ry, rm, rt, se, md, my, mt), M, ls)) {day w : Int} (iday : inR day) (iw : inR w)  : mSem yX8_minutes cX8_minutes 3 (some .int) 9 2 12 [.ref 0, iv day, iv w] 97 h (PubQ (ocL [(dayB day, 1), (whaB w 2, 1)]) (some (iv (mnV (fitN nd sw nc nm K U I O G L cf ct cd md my mt se day s0) w))) h (t, tp, fpl, rf, hlaw, himg, ((nd, sw, nc), (hl, hs), K, U, I, O, G, L, cf, ct, fc, nx, cd), ((nr, ns, nm), rd, ry, rm, rt, se, md, my, mt), M, ls)) (PubX (ocL [(dayB day, 1), (whaB w 2, 1)]) h (t, tp, fpl, rf, hlaw, himg, ((nd, sw, nc), (hl, hs), K, U, I, O, G, L, cf, ct, fc, nx, cd), ((nr, ns, nm), rd, ry, rm, rt, se, md, my, mt), M, ls)) := by
  obtain ⟨c0, c1, c2, ⟨ht, htp, phl, phi⟩, pC, nC, mC, lC, s3, s4, s5, s17, s34, s58, s62, s65, s66, s67⟩ := id cc
  obtain ⟨c6, c7, c8, c9, c10, c11, c12, c13, c14, c15, c16, pi⟩ := id pC
  obtain ⟨c40, c41, c42, c43, c44, c45, c46, c47, c48, ni, nsn⟩ := id nC
  obtain ⟨pnd, psw, pnc, pK, pU, pI, pO, pG, pL, pcf, pct, pfc, pnx⟩ := id pi
  obtain ⟨pnr, pns, pnm, prd, pry, prm, prt, pse, pmd, pmy, pmt⟩ := id ni
  unfold inR at iday iw
  obtain ⟨mf, c67⟩ := id s67
  obtain ⟨tt0, ss0, dr, f63, g64, c62, c63, c64⟩ := id s62
  refine mSem_of (own := RX8) (name := "minutes") pn_X8 rfl rfl (Nat.le_of_ble_eq_true rfl) ?_
  refine r_iload_n dX8_minutes_0 rfl rfl ?_
  refine r_callS [_] (s_X8_needDay iday) dX8_minutes_1 cs_X8_139 sm_X8_needDay (by decide) (by decide) (by decide) rfl rfl (Nat.le_of_ble_eq_true rfl) (fun E n2 h2 q => by
    obtain ⟨rfl, nk, rfl, rfl⟩ := q
    exact ⟨rfl, Or.inl ⟨by simp [ocL, nk], rfl⟩, rfl, cls_of cc, fun _ _ => rfl⟩) (fun v n2 h2 q => ?_)
  obtain ⟨k1, rfl, rfl, hh⟩ := q
  obtain rfl := hh.symm
  have bday := of_decide_eq_true k1
  refine ⟨rfl, ?_⟩
  dsimp only [Option.toList, List.cons_append, List.nil_append]
  refine r_iload_n dX8_minutes_4 rfl rfl ?_
  refine r_iconst dX8_minutes_5 ?_
  refine r_callS [_, _] (s_X8_needWhat iw ⟨by decide, by decide⟩) dX8_minutes_6 cs_X8_160 sm_X8_needWhat (by decide) (by decide) (by decide) rfl rfl (Nat.le_of_ble_eq_true rfl) (fun E n2 h2 q => by
    obtain ⟨rfl, nk, rfl, rfl⟩ := q
    exact ⟨rfl, Or.inl ⟨by simp [ocL, k1, nk], rfl⟩, rfl, cls_of cc, fun _ _ => rfl⟩) (fun v n2 h2 q => ?_)
  obtain ⟨k2, rfl, rfl, hh⟩ := q
  obtain rfl := hh.symm
  have bw := of_decide_eq_true k2
  refine ⟨rfl, ?_⟩
  dsimp only [Option.toList, List.cons_append, List.nil_append]
  refine r_aload_n dX8_minutes_9 rfl rfl ?_
  refine r_get (fs := [_, _, _, _, _, _, _, _, _, _, _, _, _, _, _, _, _, _, _, _]) dX8_minutes_10 fl_X8_92 (by decide) c0 rfl ?_
  refine r_callV 62 [] (s_X7_clear c62) dX8_minutes_13 cs_X8_163 im_X7_clear (by decide) c62 rfl (by decide) (by decide) (by decide) rfl rfl (Nat.le_of_ble_eq_true rfl) (fun _ _ _ q => q.elim) (fun v n2 h2 q => ?_)
  obtain ⟨rfl, rfl, hh⟩ := q
  obtain rfl := hh.symm
  refine ⟨rfl, ?_⟩
  dsimp only [Option.toList, List.cons_append, List.nil_append]
  refine r_aload_n dX8_minutes_16 rfl rfl ?_
  refine r_iload_n dX8_minutes_17 rfl rfl ?_
  refine r_callV 0 [_] (s_X8_addFitting (by exact c6) (by exact c7) (by exact c8) (by exact c9) (by exact c10) (by exact c11) (by exact c12) (by exact c13) (by exact c14) (by exact c15) (by exact c16) (by exact c40) (by exact c41) (by exact c42) (by exact c43) (by exact c44) (by exact c45) (by exact c46) (by exact c47) (by exact c48) (by exact c0) (by rfl) (by exact c67) pi ni (by omega) (by decide)) dX8_minutes_18 cs_X8_286 im_X8_addFitting (by decide) c0 rfl (by decide) (by decide) (by decide) rfl rfl (Nat.le_of_ble_eq_true rfl) (fun _ _ _ q => q.elim) (fun v n2 h2 q => ?_)
  obtain ⟨rfl, rfl, f2, rfl⟩ := q
  refine ⟨rfl, ?_⟩
  dsimp only [Option.toList, List.cons_append, List.nil_append]
  refine r_iload_n dX8_minutes_21 rfl rfl ?_
  refine r_lk2 (td := 64) (t0 := 48) (t1 := 56) dX8_minutes_22 rfl ⟨by omega, by omega⟩ (by decide) (by decide) (by decide) (fun g22 => ?_) (fun g22 => ?_) (fun g22 => ?_)
  · refine r_aload_n dX8_minutes_64 rfl rfl ?_
    refine r_get (fs := [_, _, _, _, _, _, _, _, _, _, _, _, _, _, _, _, _, _, _, _]) dX8_minutes_65 fl_X8_92 (by decide) c0 rfl ?_
    refine r_get (fs := [_, _, _, _, _, _, _, _, _, _]) dX8_minutes_68 fl_X8_295 (by decide) rfl rfl ?_
    refine r_iret dX8_minutes_71 ?_
    exact ⟨(by simp [ocL, k1, k2]), (ivE (by unfold mnV; rw [if_neg (by omega), if_neg (by omega)])), rfl, cls_of ⟨(by first | rfl | exact c0), (by first | rfl | exact c1), (by first | rfl | exact c2), ⟨ht, htp, phl, phi⟩, (by exact pC), (by exact nC), (by exact mC), (by exact lC), (by exact s3), (by exact s4), (by exact s5), (by exact s17), (by exact s34), (by exact s58), ⟨_, _, _, _, _, (by first | rfl | exact c62), (by first | rfl | exact c63), (by first | rfl | exact c64)⟩, (by exact s65), (by exact s66), ⟨_, rfl⟩⟩, (by repeat (first | exact fun _ _ => rfl | refine fr_up ?_ (by decide)))⟩
  · refine r_aload_n dX8_minutes_48 rfl rfl ?_
    refine r_get (fs := [_, _, _, _, _, _, _, _, _, _, _, _, _, _, _, _, _, _, _, _]) dX8_minutes_49 fl_X8_92 (by decide) c0 rfl ?_
    refine r_get (fs := [_, _, _, _, _, _, _, _, _, _]) dX8_minutes_52 fl_X8_289 (by decide) rfl rfl ?_
    refine r_iret dX8_minutes_55 ?_
    exact ⟨(by simp [ocL, k1, k2]), (ivE (by unfold mnV; rw [if_pos (by omega)])), rfl, cls_of ⟨(by first | rfl | exact c0), (by first | rfl | exact c1), (by first | rfl | exact c2), ⟨ht, htp, phl, phi⟩, (by exact pC), (by exact nC), (by exact mC), (by exact lC), (by exact s3), (by exact s4), (by exact s5), (by exact s17), (by exact s34), (by exact s58), ⟨_, _, _, _, _, (by first | rfl | exact c62), (by first | rfl | exact c63), (by first | rfl | exact c64)⟩, (by exact s65), (by exact s66), ⟨_, rfl⟩⟩, (by repeat (first | exact fun _ _ => rfl | refine fr_up ?_ (by decide)))⟩
  · refine r_aload_n dX8_minutes_56 rfl rfl ?_
    refine r_get (fs := [_, _, _, _, _, _, _, _, _, _, _, _, _, _, _, _, _, _, _, _]) dX8_minutes_57 fl_X8_92 (by decide) c0 rfl ?_
    refine r_get (fs := [_, _, _, _, _, _, _, _, _, _]) dX8_minutes_60 fl_X8_292 (by decide) rfl rfl ?_
    refine r_iret dX8_minutes_63 ?_
    exact ⟨(by simp [ocL, k1, k2]), (ivE (by unfold mnV; rw [if_neg (by omega), if_pos (by omega)])), rfl, cls_of ⟨(by first | rfl | exact c0), (by first | rfl | exact c1), (by first | rfl | exact c2), ⟨ht, htp, phl, phi⟩, (by exact pC), (by exact nC), (by exact mC), (by exact lC), (by exact s3), (by exact s4), (by exact s5), (by exact s17), (by exact s34), (by exact s58), ⟨_, _, _, _, _, (by first | rfl | exact c62), (by first | rfl | exact c63), (by first | rfl | exact c64)⟩, (by exact s65), (by exact s66), ⟨_, rfl⟩⟩, (by repeat (first | exact fun _ _ => rfl | refine fr_up ?_ (by decide)))⟩

theorem s_X8_year {h : aH} {t : Nat → Int} {tp : Nat} {fpl hlaw himg : Int} {rf : Nat → Int} {nd sw nc hl hs : Int} {K U I O G L cf ct fc nx cd : Nat → Int} {nr ns nm : Int} {rd ry rm rt se md my mt : Nat → Int} {M : ND} {ls : LSm} (cc : CanC h (t, tp, fpl, rf, hlaw, himg, ((nd, sw, nc), (hl, hs), K, U, I, O, G, L, cf, ct, fc, nx, cd), ((nr, ns, nm), rd, ry, rm, rt, se, md, my, mt), M, ls)) {di m w : Int} (idi : inR di) (im : inR m) (iw : inR w)  : mSem yX8_year cX8_year 4 (some .int) 8 3 18 [.ref 0, iv di, iv m, iv w] 97 h (PubQ (ocL [(diaB nd di, 1), (minB m, 1), (whaB w 1, 1)]) (some (iv (if w = 0 then (yT (fun d => nowI sw nc nm K U I O G L cf ct cd md my mt di d m) m 365).1 else (yT (fun d => nowI sw nc nm K U I O G L cf ct cd md my mt di d m) m 365).2.1))) h (t, tp, fpl, rf, hlaw, himg, ((nd, sw, nc), (hl, hs), K, U, I, O, G, L, cf, ct, fc, nx, cd), ((nr, ns, nm), rd, ry, rm, rt, se, md, my, mt), M, ls)) (PubX (ocL [(diaB nd di, 1), (minB m, 1), (whaB w 1, 1)]) h (t, tp, fpl, rf, hlaw, himg, ((nd, sw, nc), (hl, hs), K, U, I, O, G, L, cf, ct, fc, nx, cd), ((nr, ns, nm), rd, ry, rm, rt, se, md, my, mt), M, ls)) := by
  obtain ⟨c0, c1, c2, ⟨ht, htp, phl, phi⟩, pC, nC, mC, lC, s3, s4, s5, s17, s34, s58, s62, s65, s66, s67⟩ := id cc
  obtain ⟨c6, c7, c8, c9, c10, c11, c12, c13, c14, c15, c16, pi⟩ := id pC
  obtain ⟨c40, c41, c42, c43, c44, c45, c46, c47, c48, ni, nsn⟩ := id nC
  obtain ⟨pnd, psw, pnc, pK, pU, pI, pO, pG, pL, pcf, pct, pfc, pnx⟩ := id pi
  obtain ⟨pnr, pns, pnm, prd, pry, prm, prt, pse, pmd, pmy, pmt⟩ := id ni
  unfold inR at idi im iw
  obtain ⟨tt0, ss0, dr, f63, g64, c62, c63, c64⟩ := id s62
  refine mSem_of (own := RX8) (name := "year") pn_X8 rfl rfl (Nat.le_of_ble_eq_true rfl) ?_
  refine r_aload_n dX8_year_0 rfl rfl ?_
  refine r_iload_n dX8_year_1 rfl rfl ?_
  refine r_callV 0 [_] (s_X8_needDial c0 c6 pnd idi) dX8_year_2 cs_X8_209 im_X8_needDial (by decide) c0 rfl (by decide) (by decide) (by decide) rfl rfl (Nat.le_of_ble_eq_true rfl) (fun E n2 h2 q => by
    obtain ⟨rfl, nk, rfl, rfl⟩ := q
    exact ⟨rfl, Or.inl ⟨by simp [ocL, nk], rfl⟩, rfl, cls_of cc, fun _ _ => rfl⟩) (fun v n2 h2 q => ?_)
  obtain ⟨k1, rfl, rfl, hh⟩ := q
  obtain rfl := hh.symm
  have bdi := of_decide_eq_true k1
  refine ⟨rfl, ?_⟩
  dsimp only [Option.toList, List.cons_append, List.nil_append]
  refine r_iload_n dX8_year_5 rfl rfl ?_
  refine r_callS [_] (s_X8_needMinute im) dX8_year_6 cs_X8_142 sm_X8_needMinute (by decide) (by decide) (by decide) rfl rfl (Nat.le_of_ble_eq_true rfl) (fun E n2 h2 q => by
    obtain ⟨rfl, nk, rfl, rfl⟩ := q
    exact ⟨rfl, Or.inl ⟨by simp [ocL, k1, nk], rfl⟩, rfl, cls_of cc, fun _ _ => rfl⟩) (fun v n2 h2 q => ?_)
  obtain ⟨k2, rfl, rfl, hh⟩ := q
  obtain rfl := hh.symm
  have bm := of_decide_eq_true k2
  refine ⟨rfl, ?_⟩
  dsimp only [Option.toList, List.cons_append, List.nil_append]
  refine r_iload_n dX8_year_9 rfl rfl ?_
  refine r_iconst dX8_year_10 ?_
  refine r_callS [_, _] (s_X8_needWhat iw ⟨by decide, by decide⟩) dX8_year_11 cs_X8_160 sm_X8_needWhat (by decide) (by decide) (by decide) rfl rfl (Nat.le_of_ble_eq_true rfl) (fun E n2 h2 q => by
    obtain ⟨rfl, nk, rfl, rfl⟩ := q
    exact ⟨rfl, Or.inl ⟨by simp [ocL, k1, k2, nk], rfl⟩, rfl, cls_of cc, fun _ _ => rfl⟩) (fun v n2 h2 q => ?_)
  obtain ⟨k3, rfl, rfl, hh⟩ := q
  obtain rfl := hh.symm
  have bw := of_decide_eq_true k3
  refine ⟨rfl, ?_⟩
  dsimp only [Option.toList, List.cons_append, List.nil_append]
  refine r_aload_n dX8_year_14 rfl rfl ?_
  refine r_iload_n dX8_year_15 rfl rfl ?_
  refine r_iload_n dX8_year_16 rfl rfl ?_
  refine r_callV 0 [_, _] (s_X8_tallyYear c6 c7 c8 c9 c10 c11 c12 c13 c14 c15 c16 c40 c41 c42 c43 c44 c45 c46 c47 c48 c0 c62 pi ni (by omega) (by omega)) dX8_year_17 cs_X8_351 im_X8_tallyYear (by decide) c0 rfl (by decide) (by decide) (by decide) rfl rfl (Nat.le_of_ble_eq_true rfl) (fun _ _ _ q => q.elim) (fun v n2 h2 q => ?_)
  obtain ⟨rfl, rfl, hh⟩ := q
  obtain rfl := hh.symm
  refine ⟨rfl, ?_⟩
  dsimp only [Option.toList, List.cons_append, List.nil_append]
  refine r_iload_n dX8_year_20 rfl rfl ?_
  refine r_if_ne (tgt := 34) dX8_year_21 (by decide) ⟨by omega, by omega⟩ (fun g21 => ?_) (fun g21 => ?_)
  · refine r_aload_n dX8_year_34 rfl rfl ?_
    refine r_get (fs := [_, _, _, _, _, _, _, _, _, _, _, _, _, _, _, _, _, _, _, _]) dX8_year_35 fl_X8_92 (by decide) c0 rfl ?_
    refine r_get (fs := [_, _, _, _, _, _, _, _, _, _]) dX8_year_38 fl_X8_175 (by decide) rfl rfl ?_
    refine r_iret dX8_year_41 ?_
    exact ⟨(by simp [ocL, k1, k2, k3]), (ivE (by first | rw [if_pos g21] | rw [if_neg g21])), rfl, cls_of ⟨(by first | rfl | exact c0), (by first | rfl | exact c1), (by first | rfl | exact c2), ⟨ht, htp, phl, phi⟩, (by exact pC), (by exact nC), (by exact mC), (by exact lC), (by exact s3), (by exact s4), (by exact s5), (by exact s17), (by exact s34), (by exact s58), ⟨_, _, _, _, _, (by first | rfl | exact c62), (by first | rfl | exact c63), (by first | rfl | exact c64)⟩, (by exact s65), (by exact s66), (by exact s67)⟩, (by repeat (first | exact fun _ _ => rfl | refine fr_up ?_ (by decide)))⟩
  · refine r_aload_n dX8_year_24 rfl rfl ?_
    refine r_get (fs := [_, _, _, _, _, _, _, _, _, _, _, _, _, _, _, _, _, _, _, _]) dX8_year_25 fl_X8_92 (by decide) c0 rfl ?_
    refine r_get (fs := [_, _, _, _, _, _, _, _, _, _]) dX8_year_28 fl_X8_172 (by decide) rfl rfl ?_
    refine r_goto (tgt := 41) dX8_year_31 (by decide) ?_
    refine r_iret dX8_year_41 ?_
    exact ⟨(by simp [ocL, k1, k2, k3]), (ivE (by first | rw [if_pos g21] | rw [if_neg g21])), rfl, cls_of ⟨(by first | rfl | exact c0), (by first | rfl | exact c1), (by first | rfl | exact c2), ⟨ht, htp, phl, phi⟩, (by exact pC), (by exact nC), (by exact mC), (by exact lC), (by exact s3), (by exact s4), (by exact s5), (by exact s17), (by exact s34), (by exact s58), ⟨_, _, _, _, _, (by first | rfl | exact c62), (by first | rfl | exact c63), (by first | rfl | exact c64)⟩, (by exact s65), (by exact s66), (by exact s67)⟩, (by repeat (first | exact fun _ _ => rfl | refine fr_up ?_ (by decide)))⟩

theorem l_X8_takes {h : aH} {nd sw nc : Int} {K U I O G L cf ct fc nx cd : Nat → Int} (c6 : h 6 = .inr (4, [iv nd, iv sw, iv nc, .ref 7, .ref 8, .ref 9, .ref 10, .ref 11, .ref 12, .ref 13, .ref 14, .ref 15, .ref 16])) (c7 : h 7 = .inl (0, 9, K)) (c8 : h 8 = .inl (0, 9, U)) (c9 : h 9 = .inl (0, 9, I)) (c10 : h 10 = .inl (0, 9, O)) (c11 : h 11 = .inl (0, 9, G)) (c12 : h 12 = .inl (0, 12, L)) (c13 : h 13 = .inl (0, 20, cf)) (c14 : h 14 = .inl (0, 20, ct)) (c15 : h 15 = .inl (0, 365, fc)) (c16 : h 16 = .inl (0, 20, nx)) {nr ns nm : Int} {rd ry rm rt se md my mt : Nat → Int} (c40 : h 40 = .inr (3, [iv nr, iv ns, iv nm, .ref 41, .ref 42, .ref 43, .ref 44, .ref 45, .ref 46, .ref 47, .ref 48])) (c41 : h 41 = .inl (0, 12, rd)) (c42 : h 42 = .inl (0, 12, ry)) (c43 : h 43 = .inl (0, 12, rm)) (c44 : h 44 = .inl (0, 12, rt)) (c45 : h 45 = .inl (0, 9, se)) (c46 : h 46 = .inl (0, 40, md)) (c47 : h 47 = .inl (0, 40, my)) (c48 : h 48 = .inl (0, 40, mt)) {taped fpl hlaw himg : Int} (c0 : h 0 = .inr (8, [.ref 1, iv taped, iv fpl, .ref 2, .ref 3, .ref 4, .ref 5, .ref 6, .ref 17, .ref 28, .ref 34, iv hlaw, .ref 40, .ref 49, iv himg, .ref 58, .ref 62, .ref 65, .ref 66, .ref 67])) {mf : Nat → Int} (c67 : h 67 = .inl (0, 14, mf)) (pi : PInv nd sw nc K U I O G L cf ct fc nx cd) (ni : NInv nr ns nm rd ry rm rt se md my mt) {di : Int} (hdi : 0 ≤ di ∧ di < 9) {d0 : Int} : ∀ (k : Nat) (on a : Int) (g : Nat → Int), on + k = 365 → 0 ≤ on → Ev RX8 "takes" cX8_takes 5 (some .int) 8 0 0 (RetM (tkS2 (fun d => takN sw nc nm K U I O G L cf ct cd md my mt di d) k on a) h) noX 97 (va_up h 67 (.inl (0, 14, g))) 14 [(0, .ref 0), (1, iv di), (2, iv d0), (3, iv a), (4, iv on)] [] := by
  obtain ⟨pnd, psw, pnc, pK, pU, pI, pO, pG, pL, pcf, pct, pfc, pnx⟩ := id pi
  obtain ⟨pnr, pns, pnm, prd, pry, prm, prt, pse, pmd, pmy, pmt⟩ := id ni
  intro k
  induction k with
  | zero =>
    intro on a g hk h0
    refine r_iload dX8_takes_14 rfl ?_
    refine r_sipush dX8_takes_16 rfl ?_
    refine r_icmp_ge (tgt := 38) dX8_takes_19 (by decide) ⟨by omega, by omega⟩ ⟨by omega, by omega⟩ (fun g19 => ?_) (fun g19 => absurd g19 (by omega))
    refine r_iload_n dX8_takes_38 rfl rfl ?_
    refine r_iret dX8_takes_39 ?_
    exact ⟨rfl, rfl, g, rfl⟩
  | succ k ih =>
    intro on a g hk h0
    refine r_iload dX8_takes_14 rfl ?_
    refine r_sipush dX8_takes_16 rfl ?_
    refine r_icmp_ge (tgt := 38) dX8_takes_19 (by decide) ⟨by omega, by omega⟩ ⟨by omega, by omega⟩ (fun g19 => absurd g19 (by omega)) (fun g19 => ?_)
    refine r_iload_n dX8_takes_22 rfl rfl ?_
    refine r_aload_n dX8_takes_23 rfl rfl ?_
    refine r_iload_n dX8_takes_24 rfl rfl ?_
    refine r_iload dX8_takes_25 rfl ?_
    refine r_callV 0 [_, _] (s_X8_takenOn (by exact c6) (by exact c7) (by exact c8) (by exact c9) (by exact c10) (by exact c11) (by exact c12) (by exact c13) (by exact c14) (by exact c15) (by exact c16) (by exact c40) (by exact c41) (by exact c42) (by exact c43) (by exact c44) (by exact c45) (by exact c46) (by exact c47) (by exact c48) (by exact c0) (by rfl) pi ni (by omega) (by omega)) dX8_takes_27 cs_X8_372 im_X8_takenOn (by decide) c0 rfl (by decide) (by decide) (by decide) rfl rfl (Nat.le_of_ble_eq_true rfl) (fun _ _ _ q => q.elim) (fun v n2 h2 q => ?_)
    obtain ⟨rfl, rfl, f2, rfl⟩ := q
    refine ⟨rfl, ?_⟩
    dsimp only [Option.toList, List.cons_append, List.nil_append]
    refine r_iadd dX8_takes_30 ?_
    refine r_istore_n (lv2 := [(0, _), (1, _), (2, _), (3, _), (4, _)]) dX8_takes_31 rfl (by decide) rfl rfl ?_
    refine r_iinc (lv2 := [(0, _), (1, _), (2, _), (3, _), (4, _)]) dX8_takes_32 (by decide) rfl rfl rfl ?_
    refine r_goto (tgt := 14) dX8_takes_35 (by decide) ?_
    rw [bx_uu]
    exact ih _ _ _ (by omega) (by omega)

theorem s_X8_takes {h : aH} {t : Nat → Int} {tp : Nat} {fpl hlaw himg : Int} {rf : Nat → Int} {nd sw nc hl hs : Int} {K U I O G L cf ct fc nx cd : Nat → Int} {nr ns nm : Int} {rd ry rm rt se md my mt : Nat → Int} {M : ND} {ls : LSm} (cc : CanC h (t, tp, fpl, rf, hlaw, himg, ((nd, sw, nc), (hl, hs), K, U, I, O, G, L, cf, ct, fc, nx, cd), ((nr, ns, nm), rd, ry, rm, rt, se, md, my, mt), M, ls)) {di day : Int} (idi : inR di) (iday : inR day)  : mSem yX8_takes cX8_takes 5 (some .int) 8 2 12 [.ref 0, iv di, iv day] 97 h (PubQ (ocL [(diaB nd di, 1), (dayB day, 1)]) (some (iv (tkS2 (fun d => takN sw nc nm K U I O G L cf ct cd md my mt di d) (365 - day).toNat day 0))) h (t, tp, fpl, rf, hlaw, himg, ((nd, sw, nc), (hl, hs), K, U, I, O, G, L, cf, ct, fc, nx, cd), ((nr, ns, nm), rd, ry, rm, rt, se, md, my, mt), M, ls)) (PubX (ocL [(diaB nd di, 1), (dayB day, 1)]) h (t, tp, fpl, rf, hlaw, himg, ((nd, sw, nc), (hl, hs), K, U, I, O, G, L, cf, ct, fc, nx, cd), ((nr, ns, nm), rd, ry, rm, rt, se, md, my, mt), M, ls)) := by
  obtain ⟨c0, c1, c2, ⟨ht, htp, phl, phi⟩, pC, nC, mC, lC, s3, s4, s5, s17, s34, s58, s62, s65, s66, s67⟩ := id cc
  obtain ⟨c6, c7, c8, c9, c10, c11, c12, c13, c14, c15, c16, pi⟩ := id pC
  obtain ⟨c40, c41, c42, c43, c44, c45, c46, c47, c48, ni, nsn⟩ := id nC
  obtain ⟨pnd, psw, pnc, pK, pU, pI, pO, pG, pL, pcf, pct, pfc, pnx⟩ := id pi
  obtain ⟨pnr, pns, pnm, prd, pry, prm, prt, pse, pmd, pmy, pmt⟩ := id ni
  unfold inR at idi iday
  obtain ⟨mf, c67⟩ := id s67
  refine mSem_of (own := RX8) (name := "takes") pn_X8 rfl rfl (Nat.le_of_ble_eq_true rfl) ?_
  refine r_aload_n dX8_takes_0 rfl rfl ?_
  refine r_iload_n dX8_takes_1 rfl rfl ?_
  refine r_callV 0 [_] (s_X8_needDial c0 c6 pnd idi) dX8_takes_2 cs_X8_209 im_X8_needDial (by decide) c0 rfl (by decide) (by decide) (by decide) rfl rfl (Nat.le_of_ble_eq_true rfl) (fun E n2 h2 q => by
    obtain ⟨rfl, nk, rfl, rfl⟩ := q
    exact ⟨rfl, Or.inl ⟨by simp [ocL, nk], rfl⟩, rfl, cls_of cc, fun _ _ => rfl⟩) (fun v n2 h2 q => ?_)
  obtain ⟨k1, rfl, rfl, hh⟩ := q
  obtain rfl := hh.symm
  have bdi := of_decide_eq_true k1
  refine ⟨rfl, ?_⟩
  dsimp only [Option.toList, List.cons_append, List.nil_append]
  refine r_iload_n dX8_takes_5 rfl rfl ?_
  refine r_callS [_] (s_X8_needDay iday) dX8_takes_6 cs_X8_139 sm_X8_needDay (by decide) (by decide) (by decide) rfl rfl (Nat.le_of_ble_eq_true rfl) (fun E n2 h2 q => by
    obtain ⟨rfl, nk, rfl, rfl⟩ := q
    exact ⟨rfl, Or.inl ⟨by simp [ocL, k1, nk], rfl⟩, rfl, cls_of cc, fun _ _ => rfl⟩) (fun v n2 h2 q => ?_)
  obtain ⟨k2, rfl, rfl, hh⟩ := q
  obtain rfl := hh.symm
  have bday := of_decide_eq_true k2
  refine ⟨rfl, ?_⟩
  dsimp only [Option.toList, List.cons_append, List.nil_append]
  refine r_iconst dX8_takes_9 ?_
  refine r_istore_n (lv2 := [(0, _), (1, _), (2, _), (3, _)]) dX8_takes_10 rfl (by decide) rfl rfl ?_
  refine r_iload_n dX8_takes_11 rfl rfl ?_
  refine r_istore (lv2 := [(0, _), (1, _), (2, _), (3, _), (4, _)]) dX8_takes_12 (by decide) rfl rfl ?_
  refine ev_h (up_same c67) ?_
  refine ev_post (l_X8_takes c6 c7 c8 c9 c10 c11 c12 c13 c14 c15 c16 c40 c41 c42 c43 c44 c45 c46 c47 c48 c0 c67 pi ni (by omega) (365 - day).toNat day 0 mf (by omega) (by omega)) (fun v n2 h2 q => ?_) (fun _ _ _ q => q.elim)
  obtain ⟨rfl, rfl, f9, rfl⟩ := q
  exact ⟨(by simp [ocL, k1, k2]), rfl, rfl, cls_of ⟨(by first | rfl | exact c0), (by first | rfl | exact c1), (by first | rfl | exact c2), ⟨ht, htp, phl, phi⟩, (by exact pC), (by exact nC), (by exact mC), (by exact lC), (by exact s3), (by exact s4), (by exact s5), (by exact s17), (by exact s34), (by exact s58), (by exact s62), (by exact s65), (by exact s66), ⟨_, rfl⟩⟩, (by repeat (first | exact fun _ _ => rfl | refine fr_up ?_ (by decide)))⟩

theorem s_X8_lawTells {h : aH} {nd sw nc : Int} {K U I O G L cf ct fc nx cd : Nat → Int} (c6 : h 6 = .inr (4, [iv nd, iv sw, iv nc, .ref 7, .ref 8, .ref 9, .ref 10, .ref 11, .ref 12, .ref 13, .ref 14, .ref 15, .ref 16])) (c7 : h 7 = .inl (0, 9, K)) (c8 : h 8 = .inl (0, 9, U)) (c9 : h 9 = .inl (0, 9, I)) (c10 : h 10 = .inl (0, 9, O)) (c11 : h 11 = .inl (0, 9, G)) (c12 : h 12 = .inl (0, 12, L)) (c13 : h 13 = .inl (0, 20, cf)) (c14 : h 14 = .inl (0, 20, ct)) (c15 : h 15 = .inl (0, 365, fc)) (c16 : h 16 = .inl (0, 20, nx)) {nr ns nm : Int} {rd ry rm rt se md my mt : Nat → Int} (c40 : h 40 = .inr (3, [iv nr, iv ns, iv nm, .ref 41, .ref 42, .ref 43, .ref 44, .ref 45, .ref 46, .ref 47, .ref 48])) (c41 : h 41 = .inl (0, 12, rd)) (c42 : h 42 = .inl (0, 12, ry)) (c43 : h 43 = .inl (0, 12, rm)) (c44 : h 44 = .inl (0, 12, rt)) (c45 : h 45 = .inl (0, 9, se)) (c46 : h 46 = .inl (0, 40, md)) (c47 : h 47 = .inl (0, 40, my)) (c48 : h 48 = .inl (0, 40, mt)) {taped fpl hlaw himg : Int} (c0 : h 0 = .inr (8, [.ref 1, iv taped, iv fpl, .ref 2, .ref 3, .ref 4, .ref 5, .ref 6, .ref 17, .ref 28, .ref 34, iv hlaw, .ref 40, .ref 49, iv himg, .ref 58, .ref 62, .ref 65, .ref 66, .ref 67])) {tf : Nat → Int} (c65 : h 65 = .inl (0, 9, tf)) (pi : PInv nd sw nc K U I O G L cf ct fc nx cd) (ni : NInv nr ns nm rd ry rm rt se md my mt) {D : LDt} {tv : Value} {m0 : Int} {sgf : Nat → Int} (c28 : h 28 = .inr (1, [iv (D.1 : Int), .ref 29, .ref 30, .ref 31, .ref 32, .ref 33, tv, iv m0])) (c29 : h 29 = .inl (0, 350, D.2.1)) (c30 : h 30 = .inl (0, 350, D.2.2.1)) (c31 : h 31 = .inl (0, 350, D.2.2.2.1)) (c32 : h 32 = .inl (0, 350, D.2.2.2.2)) (c33 : h 33 = .inl (0, 9, sgf)) (lo : LOK D) (htf : ∀ j, -1 ≤ tf j ∧ tf j < 1440) {day : Int} (hd : 0 ≤ day ∧ day < 365) {m : Int} (hm : 0 ≤ m ∧ m < 1440) : mSem yX8_lawTells cX8_lawTells 3 (some .int) 29 0 0 [.ref 0, iv day, iv m] 97 h (fun v n' h' => v = some (iv (evD D (cpyF (fun j => nowI sw nc nm K U I O G L cf ct cd md my mt (j : Nat) day m) tf nd.toNat) (day / 31) 12 true 0)) ∧ n' = 97 ∧ ∃ f, h' = (va_up (va_up (va_up h 65 (.inl (0, 9, (cpyF (fun j => nowI sw nc nm K U I O G L cf ct cd md my mt (j : Nat) day m) tf nd.toNat)))) 28 (L28 (D.1 : Int) (day / 31))) 33 (.inl (0, 9, f)))) noX := by
  obtain ⟨pnd, psw, pnc, pK, pU, pI, pO, pG, pL, pcf, pct, pfc, pnx⟩ := id pi
  obtain ⟨pnr, pns, pnm, prd, pry, prm, prt, pse, pmd, pmy, pmt⟩ := id ni
  refine mSem_of (own := RX8) (name := "lawTells") pn_X8 rfl rfl (Nat.le_of_ble_eq_true rfl) ?_
  refine r_aload_n dX8_lawTells_0 rfl rfl ?_
  refine r_iload_n dX8_lawTells_1 rfl rfl ?_
  refine r_iload_n dX8_lawTells_2 rfl rfl ?_
  refine r_callV 0 [_, _] (s_X8_fillTolds c6 c7 c8 c9 c10 c11 c12 c13 c14 c15 c16 c40 c41 c42 c43 c44 c45 c46 c47 c48 c0 c65 pi ni (by omega) (by omega)) dX8_lawTells_3 cs_X8_152 im_X8_fillTolds (by decide) c0 rfl (by decide) (by decide) (by decide) rfl rfl (Nat.le_of_ble_eq_true rfl) (fun _ _ _ q => q.elim) (fun v n2 h2 q => ?_)
  obtain ⟨rfl, rfl, hh⟩ := q
  obtain rfl := hh.symm
  refine ⟨rfl, ?_⟩
  dsimp only [Option.toList, List.cons_append, List.nil_append]
  refine r_aload_n dX8_lawTells_6 rfl rfl ?_
  refine r_get (fs := [_, _, _, _, _, _, _, _, _, _, _, _, _, _, _, _, _, _, _, _]) dX8_lawTells_7 fl_X8_58 (by decide) c0 rfl ?_
  refine r_aload_n dX8_lawTells_10 rfl rfl ?_
  refine r_get (fs := [_, _, _, _, _, _, _, _, _, _, _, _, _, _, _, _, _, _, _, _]) dX8_lawTells_11 fl_X8_96 (by decide) c0 rfl ?_
  refine r_iload_n dX8_lawTells_14 rfl rfl ?_
  refine r_bipush dX8_lawTells_15 rfl ?_
  refine r_idivN dX8_lawTells_17 (by omega) (by omega) (by omega) (by omega) ?_
  refine r_callV 28 [.ref 65, _] (s_X1_tellsBy (by exact c28) (by exact c29) (by exact c30) (by exact c31) (by exact c32) (by exact c33) (by rfl) (by exact lo) (cpy_L (fun _ => (now_B _ _ _ _ _ _ _ _ _ _ _ _ _ _ _ _ _ _)) htf) (by omega)) dX8_lawTells_18 cs_X8_156 im_X1_tellsBy (by decide) c28 rfl (by decide) (by decide) (by decide) rfl rfl (Nat.le_of_ble_eq_true rfl) (fun _ _ _ q => q.elim) (fun v n2 h2 q => ?_)
  obtain ⟨rfl, rfl, f2, rfl⟩ := q
  refine ⟨rfl, ?_⟩
  dsimp only [Option.toList, List.cons_append, List.nil_append]
  refine r_iret dX8_lawTells_21 ?_
  exact ⟨rfl, rfl, f2, rfl⟩

theorem cpy_lo {f g : Nat → Int} {nd : Int} (j : Nat) (hj : (j : Int) < nd) : cpyF f g nd.toNat j = f j := by
  unfold cpyF
  rw [if_pos (by omega)]
theorem s_X8_lawful {h : aH} {t : Nat → Int} {tp : Nat} {fpl hlaw himg : Int} {rf : Nat → Int} {nd sw nc hl hs : Int} {K U I O G L cf ct fc nx cd : Nat → Int} {nr ns nm : Int} {rd ry rm rt se md my mt : Nat → Int} {M : ND} {ls : LSm} (cc : CanC h (t, tp, fpl, rf, hlaw, himg, ((nd, sw, nc), (hl, hs), K, U, I, O, G, L, cf, ct, fc, nx, cd), ((nr, ns, nm), rd, ry, rm, rt, se, md, my, mt), M, ls)) {day m : Int} (iday : inR day) (im : inR m)  : mSem yX8_lawful cX8_lawful 3 (some .int) 30 3 18 [.ref 0, iv day, iv m] 97 h (PubQ (ocL [(dayB day, 1), (minB m, 1), (decide (hlaw = 1), 2)]) (some (iv (ls (fun j => nowI sw nc nm K U I O G L cf ct cd md my mt (j : Nat) day m) (day / 31)))) h (t, tp, fpl, rf, hlaw, himg, ((nd, sw, nc), (hl, hs), K, U, I, O, G, L, cf, ct, fc, nx, cd), ((nr, ns, nm), rd, ry, rm, rt, se, md, my, mt), M, ls)) (PubX (ocL [(dayB day, 1), (minB m, 1), (decide (hlaw = 1), 2)]) h (t, tp, fpl, rf, hlaw, himg, ((nd, sw, nc), (hl, hs), K, U, I, O, G, L, cf, ct, fc, nx, cd), ((nr, ns, nm), rd, ry, rm, rt, se, md, my, mt), M, ls)) := by
  obtain ⟨c0, c1, c2, ⟨ht, htp, phl, phi⟩, pC, nC, mC, lC, s3, s4, s5, s17, s34, s58, s62, s65, s66, s67⟩ := id cc
  obtain ⟨c6, c7, c8, c9, c10, c11, c12, c13, c14, c15, c16, pi⟩ := id pC
  obtain ⟨c40, c41, c42, c43, c44, c45, c46, c47, c48, ni, nsn⟩ := id nC
  obtain ⟨pnd, psw, pnc, pK, pU, pI, pO, pG, pL, pcf, pct, pfc, pnx⟩ := id pi
  obtain ⟨pnr, pns, pnm, prd, pry, prm, prt, pse, pmd, pmy, pmt⟩ := id ni
  unfold inR at iday im
  obtain ⟨D, tv, m0, sgf, c28, c29, c30, c31, c32, c33, lo, lsem⟩ := id lC
  obtain ⟨tf, c65, htf⟩ := id s65
  refine mSem_of (own := RX8) (name := "lawful") pn_X8 rfl rfl (Nat.le_of_ble_eq_true rfl) ?_
  refine r_iload_n dX8_lawful_0 rfl rfl ?_
  refine r_callS [_] (s_X8_needDay iday) dX8_lawful_1 cs_X8_139 sm_X8_needDay (by decide) (by decide) (by decide) rfl rfl (Nat.le_of_ble_eq_true rfl) (fun E n2 h2 q => by
    obtain ⟨rfl, nk, rfl, rfl⟩ := q
    exact ⟨rfl, Or.inl ⟨by simp [ocL, nk], rfl⟩, rfl, cls_of cc, fun _ _ => rfl⟩) (fun v n2 h2 q => ?_)
  obtain ⟨k1, rfl, rfl, hh⟩ := q
  obtain rfl := hh.symm
  have bday := of_decide_eq_true k1
  refine ⟨rfl, ?_⟩
  dsimp only [Option.toList, List.cons_append, List.nil_append]
  refine r_iload_n dX8_lawful_4 rfl rfl ?_
  refine r_callS [_] (s_X8_needMinute im) dX8_lawful_5 cs_X8_142 sm_X8_needMinute (by decide) (by decide) (by decide) rfl rfl (Nat.le_of_ble_eq_true rfl) (fun E n2 h2 q => by
    obtain ⟨rfl, nk, rfl, rfl⟩ := q
    exact ⟨rfl, Or.inl ⟨by simp [ocL, k1, nk], rfl⟩, rfl, cls_of cc, fun _ _ => rfl⟩) (fun v n2 h2 q => ?_)
  obtain ⟨k2, rfl, rfl, hh⟩ := q
  obtain rfl := hh.symm
  have bm := of_decide_eq_true k2
  refine ⟨rfl, ?_⟩
  dsimp only [Option.toList, List.cons_append, List.nil_append]
  refine r_aload_n dX8_lawful_8 rfl rfl ?_
  refine r_callV 0 [] (s_X8_needLaw c0 phl) dX8_lawful_9 cs_X8_145 im_X8_needLaw (by decide) c0 rfl (by decide) (by decide) (by decide) rfl rfl (Nat.le_of_ble_eq_true rfl) (fun E n2 h2 q => by
    obtain ⟨rfl, nk, rfl, rfl⟩ := q
    exact ⟨rfl, Or.inr ⟨by simp [ocL, k1, k2, nk], rfl⟩, rfl, cls_of cc, fun _ _ => rfl⟩) (fun v n2 h2 q => ?_)
  obtain ⟨k3, rfl, rfl, hh⟩ := q
  obtain rfl := hh.symm
  have blaw := of_decide_eq_true k3
  refine ⟨rfl, ?_⟩
  dsimp only [Option.toList, List.cons_append, List.nil_append]
  refine r_aload_n dX8_lawful_12 rfl rfl ?_
  refine r_iload_n dX8_lawful_13 rfl rfl ?_
  refine r_iload_n dX8_lawful_14 rfl rfl ?_
  refine r_callV 0 [_, _] (s_X8_lawTells c6 c7 c8 c9 c10 c11 c12 c13 c14 c15 c16 c40 c41 c42 c43 c44 c45 c46 c47 c48 c0 c65 pi ni c28 c29 c30 c31 c32 c33 lo htf (by omega) (by omega)) dX8_lawful_15 cs_X8_148 im_X8_lawTells (by decide) c0 rfl (by decide) (by decide) (by decide) rfl rfl (Nat.le_of_ble_eq_true rfl) (fun _ _ _ q => q.elim) (fun v n2 h2 q => ?_)
  obtain ⟨rfl, rfl, f2, rfl⟩ := q
  refine ⟨rfl, ?_⟩
  dsimp only [Option.toList, List.cons_append, List.nil_append]
  refine r_iret dX8_lawful_18 ?_
  exact ⟨(by simp [ocL, k1, k2, k3]), (ivE (((lsem blaw).1 _ _).trans ((lsem blaw).2 _ _ _ (fun j hj => cpy_lo j hj)))), rfl, cls_of ⟨(by first | rfl | exact c0), (by first | rfl | exact c1), (by first | rfl | exact c2), ⟨ht, htp, phl, phi⟩, (by exact pC), (by exact nC), (by exact mC), ⟨D, _, _, _, (by first | rfl | exact c28), (by first | rfl | exact c29), (by first | rfl | exact c30), (by first | rfl | exact c31), (by first | rfl | exact c32), (by first | rfl | exact c33), lo, lsem⟩, (by exact s3), (by exact s4), (by exact s5), (by exact s17), (by exact s34), (by exact s58), (by exact s62), ⟨_, (by first | rfl | exact c65), (by exact cpy_L (fun _ => (now_B _ _ _ _ _ _ _ _ _ _ _ _ _ _ _ _ _ _)) htf)⟩, (by exact s66), (by exact s67)⟩, (by repeat (first | exact fun _ _ => rfl | refine fr_up ?_ (by decide)))⟩

theorem s_X8_middle {h : aH} {t : Nat → Int} {tp : Nat} {fpl hlaw himg : Int} {rf : Nat → Int} {nd sw nc hl hs : Int} {K U I O G L cf ct fc nx cd : Nat → Int} {nr ns nm : Int} {rd ry rm rt se md my mt : Nat → Int} {M : ND} {ls : LSm} (cc : CanC h (t, tp, fpl, rf, hlaw, himg, ((nd, sw, nc), (hl, hs), K, U, I, O, G, L, cf, ct, fc, nx, cd), ((nr, ns, nm), rd, ry, rm, rt, se, md, my, mt), M, ls)) {bi day m : Int} (ibi : inR bi) (iday : inR day) (im : inR m)  : mSem yX8_middle cX8_middle 4 (some .int) 8 3 18 [.ref 0, iv bi, iv day, iv m] 97 h (PubQ (ocL [(dayB day, 1), (minB m, 1), (decide (0 ≤ bi ∧ bi < ((2 ^ nd.toNat : Nat) : Int)), 2)]) (some (iv (midI (midL (fun j => nowI sw nc nm K U I O G L cf ct cd md my mt (j : Nat) day m) bi.toNat 9)))) h (t, tp, fpl, rf, hlaw, himg, ((nd, sw, nc), (hl, hs), K, U, I, O, G, L, cf, ct, fc, nx, cd), ((nr, ns, nm), rd, ry, rm, rt, se, md, my, mt), M, ls)) (PubX (ocL [(dayB day, 1), (minB m, 1), (decide (0 ≤ bi ∧ bi < ((2 ^ nd.toNat : Nat) : Int)), 2)]) h (t, tp, fpl, rf, hlaw, himg, ((nd, sw, nc), (hl, hs), K, U, I, O, G, L, cf, ct, fc, nx, cd), ((nr, ns, nm), rd, ry, rm, rt, se, md, my, mt), M, ls)) := by
  obtain ⟨c0, c1, c2, ⟨ht, htp, phl, phi⟩, pC, nC, mC, lC, s3, s4, s5, s17, s34, s58, s62, s65, s66, s67⟩ := id cc
  obtain ⟨c6, c7, c8, c9, c10, c11, c12, c13, c14, c15, c16, pi⟩ := id pC
  obtain ⟨c40, c41, c42, c43, c44, c45, c46, c47, c48, ni, nsn⟩ := id nC
  obtain ⟨pnd, psw, pnc, pK, pU, pI, pO, pG, pL, pcf, pct, pfc, pnx⟩ := id pi
  obtain ⟨pnr, pns, pnm, prd, pry, prm, prt, pse, pmd, pmy, pmt⟩ := id ni
  unfold inR at ibi iday im
  obtain ⟨tf, c65, htf⟩ := id s65
  obtain ⟨sf, c66⟩ := id s66
  obtain ⟨dn, rfl⟩ : ∃ k : Nat, nd = k := ⟨nd.toNat, by omega⟩
  have edn : (dn : Int).toNat = dn := rfl
  have hp9 : (2 : Nat) ^ dn ≤ 512 := show (2 : Nat) ^ dn ≤ 2 ^ 9 from Nat.pow_le_pow_right (by decide) (by omega)
  obtain ⟨pw2, hpw⟩ : ∃ z : Nat, 2 ^ dn = z := ⟨_, rfl⟩
  rw [hpw] at hp9
  refine mSem_of (own := RX8) (name := "middle") pn_X8 rfl rfl (Nat.le_of_ble_eq_true rfl) ?_
  refine r_iload_n dX8_middle_0 rfl rfl ?_
  refine r_callS [_] (s_X8_needDay iday) dX8_middle_1 cs_X8_139 sm_X8_needDay (by decide) (by decide) (by decide) rfl rfl (Nat.le_of_ble_eq_true rfl) (fun E n2 h2 q => by
    obtain ⟨rfl, nk, rfl, rfl⟩ := q
    exact ⟨rfl, Or.inl ⟨by simp [ocL, nk], rfl⟩, rfl, cls_of cc, fun _ _ => rfl⟩) (fun v n2 h2 q => ?_)
  obtain ⟨k1, rfl, rfl, hh⟩ := q
  obtain rfl := hh.symm
  have bday := of_decide_eq_true k1
  refine ⟨rfl, ?_⟩
  dsimp only [Option.toList, List.cons_append, List.nil_append]
  refine r_iload_n dX8_middle_4 rfl rfl ?_
  refine r_callS [_] (s_X8_needMinute im) dX8_middle_5 cs_X8_142 sm_X8_needMinute (by decide) (by decide) (by decide) rfl rfl (Nat.le_of_ble_eq_true rfl) (fun E n2 h2 q => by
    obtain ⟨rfl, nk, rfl, rfl⟩ := q
    exact ⟨rfl, Or.inl ⟨by simp [ocL, k1, nk], rfl⟩, rfl, cls_of cc, fun _ _ => rfl⟩) (fun v n2 h2 q => ?_)
  obtain ⟨k2, rfl, rfl, hh⟩ := q
  obtain rfl := hh.symm
  have bm := of_decide_eq_true k2
  refine ⟨rfl, ?_⟩
  dsimp only [Option.toList, List.cons_append, List.nil_append]
  refine r_iload_n dX8_middle_8 rfl rfl ?_
  refine r_if_lt (tgt := 25) dX8_middle_9 (by decide) ⟨by omega, by omega⟩ (fun g9 => ?_) (fun g9 => ?_)
  · refine r_throwI (is := 354) (i := 33) (k := 3) (tx := "no such dials") (by decide +kernel) dX8_middle_25 dX8_middle_28 (Or.inr ⟨dX8_middle_29, rfl⟩) dX8_middle_32 dX8_middle_35 (by decide) (by decide) (by decide) (Nat.le_of_ble_eq_true rfl) ?_
    exact ⟨Or.inr ⟨by rw [edn, hpw]; simp only [ocL, k1, k2, if_true]; rw [if_neg (by rw [decide_eq_true_eq]; omega)], rfl⟩, rfl, cls_of cc, fun _ _ => rfl⟩
  · refine r_iload_n dX8_middle_12 rfl rfl ?_
    refine r_iconst dX8_middle_13 ?_
    refine r_aload_n dX8_middle_14 rfl rfl ?_
    refine r_get (fs := [_, _, _, _, _, _, _, _, _, _, _, _, _, _, _, _, _, _, _, _]) dX8_middle_15 fl_X8_48 (by decide) c0 rfl ?_
    refine r_get (fs := [_, _, _, _, _, _, _, _, _, _, _, _, _]) dX8_middle_18 fl_X8_127 (by decide) c6 rfl ?_
    refine r_ishl (pw2 : Int) dX8_middle_21 (by rw [← hpw]; exact shl1 dn (by omega)) ?_
    refine r_icmp_lt (tgt := 36) dX8_middle_22 (by decide) ⟨by omega, by omega⟩ ⟨by omega, by omega⟩ (fun g22 => ?_) (fun g22 => ?_)
    · obtain ⟨bn, rfl⟩ : ∃ k : Nat, bi = k := ⟨bi.toNat, by omega⟩
      refine r_aload_n dX8_middle_36 rfl rfl ?_
      refine r_iload_n dX8_middle_37 rfl rfl ?_
      refine r_iload_n dX8_middle_38 rfl rfl ?_
      refine r_callV 0 [_, _] (s_X8_fillTolds c6 c7 c8 c9 c10 c11 c12 c13 c14 c15 c16 c40 c41 c42 c43 c44 c45 c46 c47 c48 c0 c65 pi ni (by omega) (by omega)) dX8_middle_39 cs_X8_152 im_X8_fillTolds (by decide) c0 rfl (by decide) (by decide) (by decide) rfl rfl (Nat.le_of_ble_eq_true rfl) (fun _ _ _ q => q.elim) (fun v n2 h2 q => ?_)
      obtain ⟨rfl, rfl, hh⟩ := q
      obtain rfl := hh.symm
      refine ⟨rfl, ?_⟩
      dsimp only [Option.toList, List.cons_append, List.nil_append]
      refine r_aload_n dX8_middle_42 rfl rfl ?_
      refine r_get (fs := [_, _, _, _, _, _, _, _, _, _, _, _, _, _, _, _, _, _, _, _]) dX8_middle_43 fl_X8_96 (by decide) c0 rfl ?_
      refine r_iload_n dX8_middle_46 rfl rfl ?_
      refine r_aload_n dX8_middle_47 rfl rfl ?_
      refine r_get (fs := [_, _, _, _, _, _, _, _, _, _, _, _, _, _, _, _, _, _, _, _]) dX8_middle_48 fl_X8_99 (by decide) c0 rfl ?_
      refine r_callS [.ref 65, _, .ref 66] (s_X8_middleOf_66 (b := bn) (by rfl) (cpy_L (fun _ => (now_B _ _ _ _ _ _ _ _ _ _ _ _ _ _ _ _ _ _)) htf) (by omega) (by exact c66)) dX8_middle_51 cs_X8_356 sm_X8_middleOf (by decide) (by decide) (by decide) rfl rfl (Nat.le_of_ble_eq_true rfl) (fun _ _ _ q => q.elim) (fun v n2 h2 q => ?_)
      obtain ⟨rfl, rfl, f2, rfl⟩ := q
      refine ⟨rfl, ?_⟩
      dsimp only [Option.toList, List.cons_append, List.nil_append]
      refine r_iret dX8_middle_54 ?_
      refine ⟨by rw [edn, hpw]; simp only [ocL, k1, k2, if_true]; exact if_pos (by rw [decide_eq_true_eq]; omega), (ivE (by show midI (midL _ bn 9) = midI (midL _ bn 9); rw [midL_congr (g := (fun j => nowI sw nc nm K U I O G L cf ct cd md my mt (j : Nat) day m)) 9 (fun j _ hj => by
        by_cases c : (j : Int) < (dn : Int)
        · exact cpy_lo (nd := (dn : Int)) j c
        · have h1 : 2 ^ dn ≤ 2 ^ j := Nat.pow_le_pow_right (by decide) (by omega)
          rw [hpw] at h1
          rw [Nat.testBit_lt_two_pow (Nat.lt_of_lt_of_le (show bn < pw2 by omega) h1)] at hj
          cases hj)])), rfl, cls_of ⟨(by first | rfl | exact c0), (by first | rfl | exact c1), (by first | rfl | exact c2), ⟨ht, htp, phl, phi⟩, (by exact pC), (by exact nC), (by exact mC), (by exact lC), (by exact s3), (by exact s4), (by exact s5), (by exact s17), (by exact s34), (by exact s58), (by exact s62), ⟨_, (by first | rfl | exact c65), (by exact cpy_L (fun _ => (now_B _ _ _ _ _ _ _ _ _ _ _ _ _ _ _ _ _ _)) htf)⟩, ⟨_, rfl⟩, (by exact s67)⟩, (by repeat (first | exact fun _ _ => rfl | refine fr_up ?_ (by decide)))⟩
    · refine r_throwI (is := 354) (i := 33) (k := 3) (tx := "no such dials") (by decide +kernel) dX8_middle_25 dX8_middle_28 (Or.inr ⟨dX8_middle_29, rfl⟩) dX8_middle_32 dX8_middle_35 (by decide) (by decide) (by decide) (Nat.le_of_ble_eq_true rfl) ?_
      exact ⟨Or.inr ⟨by rw [edn, hpw]; simp only [ocL, k1, k2, if_true]; rw [if_neg (by rw [decide_eq_true_eq]; omega)], rfl⟩, rfl, cls_of cc, fun _ _ => rfl⟩
