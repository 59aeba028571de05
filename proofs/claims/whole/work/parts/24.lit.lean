/-! ===== LyingDials: turns, lit dials, the middle ===== -/
def rtI (f : Nat → Int) (kind plain m w : Int) : Nat → Int := if plain = -1 then f else if kind ≠ 4 then tsAdd f (-w - aroundI (plain - m)) (w - aroundI (plain - m)) else if wrongI 720 m ≤ w then tsAdd f (aroundI (720 - plain)) (aroundI (720 - plain)) else f
theorem shrA : ∀ (b : Fin 512) (k : Fin 9), Int32.ofInt b.val >>> (Int32.ofInt k.val &&& 31) = Int32.ofInt ((b.val >>> k.val : Nat) : Int) := by decide +kernel
theorem shrI {b k : Nat} (hb : b < 512) (hk : k < 9) : Int32.ofInt b >>> (Int32.ofInt k &&& 31) = Int32.ofInt ((b >>> k : Nat) : Int) := shrA ⟨b, hb⟩ ⟨k, hk⟩
theorem bit_0 (b k : Nat) : ((((b >>> k) &&& 1 : Nat) : Int) = 0) ↔ b.testBit k = false := by
  unfold Nat.testBit
  rw [Nat.and_comm]
  generalize 1 &&& b >>> k = z
  cases z with
  | zero => simp
  | succ z => simp; omega
theorem bit_B (b k : Nat) : (b >>> k) &&& 1 < 2 := Nat.lt_of_le_of_lt Nat.and_le_right (by decide)
def lbI (lit : Nat → Bool) : Nat → Nat
  | 0 => 0
  | k + 1 => if lit k = true then lbI lit k ||| 2 ^ k else lbI lit k
theorem lbI_s (lit : Nat → Bool) (k : Nat) : lbI lit (k + 1) = if lit k = true then lbI lit k ||| 2 ^ k else lbI lit k := rfl
theorem lbI_B (lit : Nat → Bool) : ∀ k, lbI lit k < 2 ^ k := by
  intro k
  induction k with
  | zero => exact Nat.zero_lt_one
  | succ k ih =>
    rw [lbI_s]
    have h2 : 2 ^ k < 2 ^ (k + 1) := Nat.pow_lt_pow_right (by decide) (by omega)
    split
    · exact Nat.or_lt_two_pow (by omega) h2
    · omega
theorem lit_plain {sw nc nm : Int} {K U I O G L cf ct cd md my mt : Nat → Int} {di day m : Int} : (nowI sw nc nm K U I O G L cf ct cd md my mt di day m = -1 ↔ plnI sw nc K I O G L cf ct cd di day m = -1) ∨ K di.toNat = 4 := by
  by_cases h : K di.toNat = 4
  · exact Or.inr h
  · refine Or.inl ?_
    unfold nowI plnI toldI
    split
    · next q => exact ⟨fun _ => q, fun _ => rfl⟩
    · next q =>
      rw [if_neg (fun z => h z.1)]
      exact ⟨fun z => by omega, fun z => absurd z q⟩
theorem lit_dark {sw nc nm : Int} {K U I O G L cf ct cd md my mt : Nat → Int} {di day m : Int} (h : plnI sw nc K I O G L cf ct cd di day m = -1) : nowI sw nc nm K U I O G L cf ct cd md my mt di day m = -1 := by
  unfold nowI toldI
  exact if_pos h

theorem s_X8_addRightTurns {h : aH} {nd sw nc : Int} {K U I O G L cf ct fc nx cd : Nat → Int} (c6 : h 6 = .inr (4, [iv nd, iv sw, iv nc, .ref 7, .ref 8, .ref 9, .ref 10, .ref 11, .ref 12, .ref 13, .ref 14, .ref 15, .ref 16])) (c7 : h 7 = .inl (0, 9, K)) (c8 : h 8 = .inl (0, 9, U)) (c9 : h 9 = .inl (0, 9, I)) (c10 : h 10 = .inl (0, 9, O)) (c11 : h 11 = .inl (0, 9, G)) (c12 : h 12 = .inl (0, 12, L)) (c13 : h 13 = .inl (0, 20, cf)) (c14 : h 14 = .inl (0, 20, ct)) (c15 : h 15 = .inl (0, 365, fc)) (c16 : h 16 = .inl (0, 20, nx)) {nr ns nm : Int} {rd ry rm rt se md my mt : Nat → Int} (c40 : h 40 = .inr (3, [iv nr, iv ns, iv nm, .ref 41, .ref 42, .ref 43, .ref 44, .ref 45, .ref 46, .ref 47, .ref 48])) (c41 : h 41 = .inl (0, 12, rd)) (c42 : h 42 = .inl (0, 12, ry)) (c43 : h 43 = .inl (0, 12, rm)) (c44 : h 44 = .inl (0, 12, rt)) (c45 : h 45 = .inl (0, 9, se)) (c46 : h 46 = .inl (0, 40, md)) (c47 : h 47 = .inl (0, 40, my)) (c48 : h 48 = .inl (0, 40, mt)) {taped fpl hlaw himg : Int} (c0 : h 0 = .inr (8, [.ref 1, iv taped, iv fpl, .ref 2, .ref 3, .ref 4, .ref 5, .ref 6, .ref 17, .ref 28, .ref 34, iv hlaw, .ref 40, .ref 49, iv himg, .ref 58, .ref 62, .ref 65, .ref 66, .ref 67])) {t : Int × Int × Int × Int} {s : Int × Int × Int} {dr : Int} (c62 : h 62 = TAL t s dr) {f : Nat → Int} (c63 : h 63 = .inl (0, 242, f)) (pi : PInv nd sw nc K U I O G L cf ct fc nx cd) (ni : NInv nr ns nm rd ry rm rt se md my mt) {di : Int} (hdi : 0 ≤ di ∧ di < 9) {day : Int} (hd : 0 ≤ day ∧ day < 365) {m : Int} (hm : 0 ≤ m ∧ m < 1440) {w : Int} (hw : 0 ≤ w ∧ w ≤ 120) : mSem yX8_addRightTurns cX8_addRightTurns 7 none 5 0 0 [.ref 0, iv di, iv day, iv m, iv w] 97 h (RetV (va_up h 63 (.inl (0, 242, rtI f (K di.toNat) (plnI sw nc K I O G L cf ct cd di day m) m w)))) noX := by
  obtain ⟨pnd, psw, pnc, pK, pU, pI, pO, pG, pL, pcf, pct, pfc, pnx⟩ := id pi
  obtain ⟨pnr, pns, pnm, prd, pry, prm, prt, pse, pmd, pmy, pmt⟩ := id ni
  refine mSem_of (own := RX8) (name := "addRightTurns") pn_X8 rfl rfl (Nat.le_of_ble_eq_true rfl) ?_
  have bI := pI di.toNat
  have bK := pK di.toNat
  have bp : -1 ≤ (plnI sw nc K I O G L cf ct cd di day m) ∧ (plnI sw nc K I O G L cf ct cd di day m) < 1440 := plain_B _ _ _ _ _ _ _ _ _
  have bw := wrong_B (a := 720) (b := m) (by omega) hm
  have a1 := around_B ((plnI sw nc K I O G L cf ct cd di day m) - m)
  have a2 := around_B (720 - (plnI sw nc K I O G L cf ct cd di day m))
  refine r_aload_n dX8_addRightTurns_0 rfl rfl ?_
  refine r_get (fs := [_, _, _, _, _, _, _, _, _, _, _, _, _, _, _, _, _, _, _, _]) dX8_addRightTurns_1 fl_X8_48 (by decide) c0 rfl ?_
  refine r_iload_n dX8_addRightTurns_4 rfl rfl ?_
  refine r_iload_n dX8_addRightTurns_5 rfl rfl ?_
  refine r_iload_n dX8_addRightTurns_6 rfl rfl ?_
  refine r_aload_n dX8_addRightTurns_7 rfl rfl ?_
  refine r_get (fs := [_, _, _, _, _, _, _, _, _, _, _, _, _, _, _, _, _, _, _, _]) dX8_addRightTurns_8 fl_X8_48 (by decide) c0 rfl ?_
  refine r_get (fs := [_, _, _, _, _, _, _, _, _, _, _, _, _]) dX8_addRightTurns_11 fl_X8_218 (by decide) c6 rfl ?_
  refine r_iload_n dX8_addRightTurns_14 rfl rfl ?_
  refine r_ald dX8_addRightTurns_15 (by decide) c9 (by omega) (by omega) (by decide) ?_
  refine r_callV 6 [_, _, _, _] (s_X4_plainlyTold c6 c7 c8 c9 c10 c11 c12 c13 c14 c15 c16 pi (by omega) hd hm (by omega)) dX8_addRightTurns_16 cs_X8_342 im_X4_plainlyTold (by decide) c6 rfl (by decide) (by decide) (by decide) rfl rfl (Nat.le_of_ble_eq_true rfl) (fun _ _ _ q => q.elim) (fun v n2 h2 q => ?_)
  obtain ⟨rfl, rfl, hh⟩ := q
  obtain rfl := hh.symm
  rw [show plainI (K di.toNat) (I di.toNat) (O di.toNat) (G di.toNat) day m (noonI L day) (halfI sw day) (cUp cd cf ct day m nc.toNat) = (plnI sw nc K I O G L cf ct cd di day m) from rfl]
  refine ⟨rfl, ?_⟩
  dsimp only [Option.toList, List.cons_append, List.nil_append]
  refine r_istore (lv2 := [(0, _), (1, _), (2, _), (3, _), (4, _), (5, _)]) dX8_addRightTurns_19 (by decide) rfl rfl ?_
  refine r_iload dX8_addRightTurns_21 rfl ?_
  refine r_iconst dX8_addRightTurns_23 ?_
  refine r_icmp_ne (tgt := 28) dX8_addRightTurns_24 (by decide) ⟨by omega, by omega⟩ ⟨by omega, by omega⟩ (fun g24 => ?_) (fun g24 => ?_)
  · refine r_aload_n dX8_addRightTurns_28 rfl rfl ?_
    refine r_get (fs := [_, _, _, _, _, _, _, _, _, _, _, _, _, _, _, _, _, _, _, _]) dX8_addRightTurns_29 fl_X8_48 (by decide) c0 rfl ?_
    refine r_get (fs := [_, _, _, _, _, _, _, _, _, _, _, _, _]) dX8_addRightTurns_32 fl_X8_212 (by decide) c6 rfl ?_
    refine r_iload_n dX8_addRightTurns_35 rfl rfl ?_
    refine r_ald dX8_addRightTurns_36 (by decide) c7 (by omega) (by omega) (by decide) ?_
    refine r_iconst dX8_addRightTurns_37 ?_
    refine r_icmp_eq (tgt := 71) dX8_addRightTurns_38 (by decide) ⟨by omega, by omega⟩ ⟨by omega, by omega⟩ (fun g38 => ?_) (fun g38 => ?_)
    · refine r_sipush dX8_addRightTurns_71 rfl ?_
      refine r_iload_n dX8_addRightTurns_74 rfl rfl ?_
      refine r_callS [_, _] (s_X8_wrongBy (by omega) (by omega)) dX8_addRightTurns_75 cs_X8_181 sm_X8_wrongBy (by decide) (by decide) (by decide) rfl rfl (Nat.le_of_ble_eq_true rfl) (fun _ _ _ q => q.elim) (fun v n2 h2 q => ?_)
      obtain ⟨rfl, rfl, hh⟩ := q
      obtain rfl := hh.symm
      refine ⟨rfl, ?_⟩
      dsimp only [Option.toList, List.cons_append, List.nil_append]
      refine r_iload dX8_addRightTurns_78 rfl ?_
      refine r_icmp_gt (tgt := 105) dX8_addRightTurns_80 (by decide) ⟨by omega, by omega⟩ ⟨by omega, by omega⟩ (fun g80 => ?_) (fun g80 => ?_)
      · refine r_vret dX8_addRightTurns_105 ?_
        exact ⟨rfl, rfl, by unfold rtI; rw [if_neg g24]; first | rw [if_pos g38] | (rw [if_neg (by omega)]; first | rw [if_pos (by omega)] | (rw [if_neg (by omega)]; exact up_same c63))⟩
      · refine r_sipush dX8_addRightTurns_83 rfl ?_
        refine r_iload dX8_addRightTurns_86 rfl ?_
        refine r_isub dX8_addRightTurns_88 ?_
        refine r_callS [_] (s_X8_around (by omega)) dX8_addRightTurns_89 cs_X8_345 sm_X8_around (by decide) (by decide) (by decide) rfl rfl (Nat.le_of_ble_eq_true rfl) (fun _ _ _ q => q.elim) (fun v n2 h2 q => ?_)
        obtain ⟨rfl, rfl, hh⟩ := q
        obtain rfl := hh.symm
        refine ⟨rfl, ?_⟩
        dsimp only [Option.toList, List.cons_append, List.nil_append]
        refine r_istore (lv2 := [(0, _), (1, _), (2, _), (3, _), (4, _), (5, _), (6, _)]) dX8_addRightTurns_92 (by decide) rfl rfl ?_
        refine r_aload_n dX8_addRightTurns_94 rfl rfl ?_
        refine r_get (fs := [_, _, _, _, _, _, _, _, _, _, _, _, _, _, _, _, _, _, _, _]) dX8_addRightTurns_95 fl_X8_92 (by decide) c0 rfl ?_
        refine r_iload dX8_addRightTurns_98 rfl ?_
        refine r_iload dX8_addRightTurns_100 rfl ?_
        refine r_callV 62 [_, _] (s_X7_addTurns c62 c63 (by omega) (by omega)) dX8_addRightTurns_102 cs_X8_348 im_X7_addTurns (by decide) c62 rfl (by decide) (by decide) (by decide) rfl rfl (Nat.le_of_ble_eq_true rfl) (fun _ _ _ q => q.elim) (fun v n2 h2 q => ?_)
        obtain ⟨rfl, rfl, hh⟩ := q
        obtain rfl := hh.symm
        refine ⟨rfl, ?_⟩
        dsimp only [Option.toList, List.cons_append, List.nil_append]
        refine r_vret dX8_addRightTurns_105 ?_
        exact ⟨rfl, rfl, by unfold rtI; rw [if_neg g24]; first | rw [if_pos g38] | (rw [if_neg (by omega)]; first | rw [if_pos (by omega)] | (rw [if_neg (by omega)]; exact up_same c63))⟩
    · refine r_iload dX8_addRightTurns_41 rfl ?_
      refine r_iload_n dX8_addRightTurns_43 rfl rfl ?_
      refine r_isub dX8_addRightTurns_44 ?_
      refine r_callS [_] (s_X8_around (by omega)) dX8_addRightTurns_45 cs_X8_345 sm_X8_around (by decide) (by decide) (by decide) rfl rfl (Nat.le_of_ble_eq_true rfl) (fun _ _ _ q => q.elim) (fun v n2 h2 q => ?_)
      obtain ⟨rfl, rfl, hh⟩ := q
      obtain rfl := hh.symm
      refine ⟨rfl, ?_⟩
      dsimp only [Option.toList, List.cons_append, List.nil_append]
      refine r_istore (lv2 := [(0, _), (1, _), (2, _), (3, _), (4, _), (5, _), (6, _)]) dX8_addRightTurns_48 (by decide) rfl rfl ?_
      refine r_aload_n dX8_addRightTurns_50 rfl rfl ?_
      refine r_get (fs := [_, _, _, _, _, _, _, _, _, _, _, _, _, _, _, _, _, _, _, _]) dX8_addRightTurns_51 fl_X8_92 (by decide) c0 rfl ?_
      refine r_iload dX8_addRightTurns_54 rfl ?_
      refine r_ineg dX8_addRightTurns_56 ?_
      refine r_iload dX8_addRightTurns_57 rfl ?_
      refine r_isub dX8_addRightTurns_59 ?_
      refine r_iload dX8_addRightTurns_60 rfl ?_
      refine r_iload dX8_addRightTurns_62 rfl ?_
      refine r_isub dX8_addRightTurns_64 ?_
      refine r_callV 62 [_, _] (s_X7_addTurns c62 c63 (by omega) (by omega)) dX8_addRightTurns_65 cs_X8_348 im_X7_addTurns (by decide) c62 rfl (by decide) (by decide) (by decide) rfl rfl (Nat.le_of_ble_eq_true rfl) (fun _ _ _ q => q.elim) (fun v n2 h2 q => ?_)
      obtain ⟨rfl, rfl, hh⟩ := q
      obtain rfl := hh.symm
      refine ⟨rfl, ?_⟩
      dsimp only [Option.toList, List.cons_append, List.nil_append]
      refine r_goto (tgt := 105) dX8_addRightTurns_68 (by decide) ?_
      refine r_vret dX8_addRightTurns_105 ?_
      exact ⟨rfl, rfl, by unfold rtI; rw [if_neg g24]; first | rw [if_pos g38] | (rw [if_neg (by omega)]; first | rw [if_pos (by omega)] | (rw [if_neg (by omega)]; exact up_same c63))⟩
  · refine r_vret dX8_addRightTurns_27 ?_
    exact ⟨rfl, rfl, by unfold rtI; rw [if_pos g24]; exact up_same c63⟩

theorem l_X8_litDials {h : aH} {nd sw nc : Int} {K U I O G L cf ct fc nx cd : Nat → Int} (c6 : h 6 = .inr (4, [iv nd, iv sw, iv nc, .ref 7, .ref 8, .ref 9, .ref 10, .ref 11, .ref 12, .ref 13, .ref 14, .ref 15, .ref 16])) (c7 : h 7 = .inl (0, 9, K)) (c8 : h 8 = .inl (0, 9, U)) (c9 : h 9 = .inl (0, 9, I)) (c10 : h 10 = .inl (0, 9, O)) (c11 : h 11 = .inl (0, 9, G)) (c12 : h 12 = .inl (0, 12, L)) (c13 : h 13 = .inl (0, 20, cf)) (c14 : h 14 = .inl (0, 20, ct)) (c15 : h 15 = .inl (0, 365, fc)) (c16 : h 16 = .inl (0, 20, nx)) {nr ns nm : Int} {rd ry rm rt se md my mt : Nat → Int} (c40 : h 40 = .inr (3, [iv nr, iv ns, iv nm, .ref 41, .ref 42, .ref 43, .ref 44, .ref 45, .ref 46, .ref 47, .ref 48])) (c41 : h 41 = .inl (0, 12, rd)) (c42 : h 42 = .inl (0, 12, ry)) (c43 : h 43 = .inl (0, 12, rm)) (c44 : h 44 = .inl (0, 12, rt)) (c45 : h 45 = .inl (0, 9, se)) (c46 : h 46 = .inl (0, 40, md)) (c47 : h 47 = .inl (0, 40, my)) (c48 : h 48 = .inl (0, 40, mt)) {taped fpl hlaw himg : Int} (c0 : h 0 = .inr (8, [.ref 1, iv taped, iv fpl, .ref 2, .ref 3, .ref 4, .ref 5, .ref 6, .ref 17, .ref 28, .ref 34, iv hlaw, .ref 40, .ref 49, iv himg, .ref 58, .ref 62, .ref 65, .ref 66, .ref 67])) (pi : PInv nd sw nc K U I O G L cf ct fc nx cd) (ni : NInv nr ns nm rd ry rm rt se md my mt) {day : Int} (hd : 0 ≤ day ∧ day < 365) {m : Int} (hm : 0 ≤ m ∧ m < 1440) : ∀ (w k : Nat), (k : Int) + w = nd → Ev RX8 "litDials" cX8_litDials 6 (some .int) 7 0 0 (Ret (lbI (fun j => decide (nowI sw nc nm K U I O G L cf ct cd md my mt (j : Nat) day m ≠ -1)) nd.toNat : Nat) h) noX 97 h 5 [(0, .ref 0), (1, iv day), (2, iv m), (3, iv (lbI (fun j => decide (nowI sw nc nm K U I O G L cf ct cd md my mt (j : Nat) day m ≠ -1)) k : Nat)), (4, iv k)] [] := by
  obtain ⟨pnd, psw, pnc, pK, pU, pI, pO, pG, pL, pcf, pct, pfc, pnx⟩ := id pi
  obtain ⟨pnr, pns, pnm, prd, pry, prm, prt, pse, pmd, pmy, pmt⟩ := id ni
  intro w
  induction w with
  | zero =>
    intro k hk
    obtain rfl : nd = (k : Int) := by omega
    refine r_iload dX8_litDials_5 rfl ?_
    refine r_aload_n dX8_litDials_7 rfl rfl ?_
    refine r_get (fs := [_, _, _, _, _, _, _, _, _, _, _, _, _, _, _, _, _, _, _, _]) dX8_litDials_8 fl_X8_48 (by decide) c0 rfl ?_
    refine r_get (fs := [_, _, _, _, _, _, _, _, _, _, _, _, _]) dX8_litDials_11 fl_X8_127 (by decide) c6 rfl ?_
    refine r_icmp_ge (tgt := 89) dX8_litDials_14 (by decide) ⟨by omega, by omega⟩ ⟨by omega, by omega⟩ (fun g14 => ?_) (fun g14 => absurd g14 (by omega))
    refine r_iload_n dX8_litDials_89 rfl rfl ?_
    refine r_iret dX8_litDials_90 ?_
    exact ⟨ivE (by rw [Int.toNat_natCast]), rfl, rfl⟩
  | succ w ih =>
    intro k hk
    have bI := pI k
    have bK := pK k
    have b2 := now_B sw nc nm K U I O G L cf ct cd md my mt k day m
    have b3 : -1 ≤ (plnI sw nc K I O G L cf ct cd k day m) ∧ (plnI sw nc K I O G L cf ct cd k day m) < 1440 := plain_B _ _ _ _ _ _ _ _ _
    have b4 := @lit_plain sw nc nm K U I O G L cf ct cd md my mt k day m
    have b5 := @lit_dark sw nc nm K U I O G L cf ct cd md my mt k day m
    rw [Int.toNat_natCast] at b4
    have hi := ih (k + 1) (by omega)
    rw [lbI_s] at hi
    refine r_iload dX8_litDials_5 rfl ?_
    refine r_aload_n dX8_litDials_7 rfl rfl ?_
    refine r_get (fs := [_, _, _, _, _, _, _, _, _, _, _, _, _, _, _, _, _, _, _, _]) dX8_litDials_8 fl_X8_48 (by decide) c0 rfl ?_
    refine r_get (fs := [_, _, _, _, _, _, _, _, _, _, _, _, _]) dX8_litDials_11 fl_X8_127 (by decide) c6 rfl ?_
    refine r_icmp_ge (tgt := 89) dX8_litDials_14 (by decide) ⟨by omega, by omega⟩ ⟨by omega, by omega⟩ (fun g14 => absurd g14 (by omega)) (fun g14 => ?_)
    refine r_aload_n dX8_litDials_17 rfl rfl ?_
    refine r_get (fs := [_, _, _, _, _, _, _, _, _, _, _, _, _, _, _, _, _, _, _, _]) dX8_litDials_18 fl_X8_48 (by decide) c0 rfl ?_
    refine r_iload dX8_litDials_21 rfl ?_
    refine r_iload_n dX8_litDials_23 rfl rfl ?_
    refine r_iload_n dX8_litDials_24 rfl rfl ?_
    refine r_aload_n dX8_litDials_25 rfl rfl ?_
    refine r_get (fs := [_, _, _, _, _, _, _, _, _, _, _, _, _, _, _, _, _, _, _, _]) dX8_litDials_26 fl_X8_48 (by decide) c0 rfl ?_
    refine r_get (fs := [_, _, _, _, _, _, _, _, _, _, _, _, _]) dX8_litDials_29 fl_X8_218 (by decide) c6 rfl ?_
    refine r_iload dX8_litDials_32 rfl ?_
    refine r_ald dX8_litDials_34 (by decide) c9 (by omega) (by omega) (by decide) ?_
    rw [Int.toNat_natCast]
    refine r_callV 6 [_, _, _, _] (s_X4_plainlyTold c6 c7 c8 c9 c10 c11 c12 c13 c14 c15 c16 pi (by omega) hd hm (by omega)) dX8_litDials_35 cs_X8_342 im_X4_plainlyTold (by decide) c6 rfl (by decide) (by decide) (by decide) rfl rfl (Nat.le_of_ble_eq_true rfl) (fun _ _ _ q => q.elim) (fun v n2 h2 q => ?_)
    obtain ⟨rfl, rfl, hh⟩ := q
    obtain rfl := hh.symm
    have ep : plainI (K (k : Int).toNat) (I k) (O (k : Int).toNat) (G (k : Int).toNat) day m (noonI L day) (halfI sw day) (cUp cd cf ct day m nc.toNat) = (plnI sw nc K I O G L cf ct cd k day m) := rfl
    rw [ep]
    refine ⟨rfl, ?_⟩
    dsimp only [Option.toList, List.cons_append, List.nil_append]
    refine r_istore (lv2 := [(0, _), (1, _), (2, _), (3, _), (4, _), (5, _)]) dX8_litDials_38 (by decide) rfl rfl ?_
    refine r_iload dX8_litDials_40 rfl ?_
    refine r_iconst dX8_litDials_42 ?_
    refine r_icmp_eq (tgt := 70) dX8_litDials_43 (by decide) ⟨by omega, by omega⟩ ⟨by omega, by omega⟩ (fun g43 => ?_) (fun g43 => ?_)
    · refine r_iload dX8_litDials_70 rfl ?_
      refine r_iconst dX8_litDials_72 ?_
      refine r_icmp_eq (tgt := 83) dX8_litDials_73 (by decide) ⟨by omega, by omega⟩ ⟨by omega, by omega⟩ (fun g73 => ?_) (fun g73 => ?_)
      · refine r_iinc (lv2 := [(0, _), (1, _), (2, _), (3, _), (4, _), (5, _)]) dX8_litDials_83 (by decide) rfl rfl rfl ?_
        refine r_goto (tgt := 5) dX8_litDials_86 (by decide) ?_
        refine r_lv (lv2 := [(0, _), (1, _), (2, _), (3, _), (4, _)]) rfl ?_
        rw [show (k : Int) + 1 = ((k + 1 : Nat) : Int) by omega]
        first
          | exact absurd g73 (by omega)
          | (have z : (nowI sw nc nm K U I O G L cf ct cd md my mt k day m) = -1 := by first | omega | exact b5 (by omega)
             rw [if_neg (by simp [z])] at hi
             exact hi)
          | (have z : ¬ (nowI sw nc nm K U I O G L cf ct cd md my mt k day m) = -1 := by first | omega | exact fun z => b4.elim (fun q => by have := q.mp z; omega) (fun q => by omega)
             rw [if_pos (decide_eq_true z)] at hi
             exact hi)
      · refine r_iload_n dX8_litDials_76 rfl rfl ?_
        refine r_iconst dX8_litDials_77 ?_
        refine r_iload dX8_litDials_78 rfl ?_
        refine r_ishl _ dX8_litDials_80 (shl1 k (by omega)) ?_
        refine r_ior _ dX8_litDials_81 (orI _ _) ?_
        refine r_istore_n (lv2 := [(0, _), (1, _), (2, _), (3, _), (4, _), (5, _)]) dX8_litDials_82 rfl (by decide) rfl rfl ?_
        refine r_iinc (lv2 := [(0, _), (1, _), (2, _), (3, _), (4, _), (5, _)]) dX8_litDials_83 (by decide) rfl rfl rfl ?_
        refine r_goto (tgt := 5) dX8_litDials_86 (by decide) ?_
        refine r_lv (lv2 := [(0, _), (1, _), (2, _), (3, _), (4, _)]) rfl ?_
        rw [show (k : Int) + 1 = ((k + 1 : Nat) : Int) by omega]
        first
          | exact absurd g73 (by omega)
          | (have z : (nowI sw nc nm K U I O G L cf ct cd md my mt k day m) = -1 := by first | omega | exact b5 (by omega)
             rw [if_neg (by simp [z])] at hi
             exact hi)
          | (have z : ¬ (nowI sw nc nm K U I O G L cf ct cd md my mt k day m) = -1 := by first | omega | exact fun z => b4.elim (fun q => by have := q.mp z; omega) (fun q => by omega)
             rw [if_pos (decide_eq_true z)] at hi
             exact hi)
    · refine r_aload_n dX8_litDials_46 rfl rfl ?_
      refine r_get (fs := [_, _, _, _, _, _, _, _, _, _, _, _, _, _, _, _, _, _, _, _]) dX8_litDials_47 fl_X8_48 (by decide) c0 rfl ?_
      refine r_get (fs := [_, _, _, _, _, _, _, _, _, _, _, _, _]) dX8_litDials_50 fl_X8_212 (by decide) c6 rfl ?_
      refine r_iload dX8_litDials_53 rfl ?_
      refine r_ald dX8_litDials_55 (by decide) c7 (by omega) (by omega) (by decide) ?_
      rw [Int.toNat_natCast]
      refine r_iconst dX8_litDials_56 ?_
      refine r_icmp_ne (tgt := 70) dX8_litDials_57 (by decide) ⟨by omega, by omega⟩ ⟨by omega, by omega⟩ (fun g57 => ?_) (fun g57 => ?_)
      · refine r_iload dX8_litDials_70 rfl ?_
        refine r_iconst dX8_litDials_72 ?_
        refine r_icmp_eq (tgt := 83) dX8_litDials_73 (by decide) ⟨by omega, by omega⟩ ⟨by omega, by omega⟩ (fun g73 => ?_) (fun g73 => ?_)
        · refine r_iinc (lv2 := [(0, _), (1, _), (2, _), (3, _), (4, _), (5, _)]) dX8_litDials_83 (by decide) rfl rfl rfl ?_
          refine r_goto (tgt := 5) dX8_litDials_86 (by decide) ?_
          refine r_lv (lv2 := [(0, _), (1, _), (2, _), (3, _), (4, _)]) rfl ?_
          rw [show (k : Int) + 1 = ((k + 1 : Nat) : Int) by omega]
          first
            | exact absurd g73 (by omega)
            | (have z : (nowI sw nc nm K U I O G L cf ct cd md my mt k day m) = -1 := by first | omega | exact b5 (by omega)
               rw [if_neg (by simp [z])] at hi
               exact hi)
            | (have z : ¬ (nowI sw nc nm K U I O G L cf ct cd md my mt k day m) = -1 := by first | omega | exact fun z => b4.elim (fun q => by have := q.mp z; omega) (fun q => by omega)
               rw [if_pos (decide_eq_true z)] at hi
               exact hi)
        · refine r_iload_n dX8_litDials_76 rfl rfl ?_
          refine r_iconst dX8_litDials_77 ?_
          refine r_iload dX8_litDials_78 rfl ?_
          refine r_ishl _ dX8_litDials_80 (shl1 k (by omega)) ?_
          refine r_ior _ dX8_litDials_81 (orI _ _) ?_
          refine r_istore_n (lv2 := [(0, _), (1, _), (2, _), (3, _), (4, _), (5, _)]) dX8_litDials_82 rfl (by decide) rfl rfl ?_
          refine r_iinc (lv2 := [(0, _), (1, _), (2, _), (3, _), (4, _), (5, _)]) dX8_litDials_83 (by decide) rfl rfl rfl ?_
          refine r_goto (tgt := 5) dX8_litDials_86 (by decide) ?_
          refine r_lv (lv2 := [(0, _), (1, _), (2, _), (3, _), (4, _)]) rfl ?_
          rw [show (k : Int) + 1 = ((k + 1 : Nat) : Int) by omega]
          first
            | exact absurd g73 (by omega)
            | (have z : (nowI sw nc nm K U I O G L cf ct cd md my mt k day m) = -1 := by first | omega | exact b5 (by omega)
               rw [if_neg (by simp [z])] at hi
               exact hi)
            | (have z : ¬ (nowI sw nc nm K U I O G L cf ct cd md my mt k day m) = -1 := by first | omega | exact fun z => b4.elim (fun q => by have := q.mp z; omega) (fun q => by omega)
               rw [if_pos (decide_eq_true z)] at hi
               exact hi)
      · refine r_aload_n dX8_litDials_60 rfl rfl ?_
        refine r_iload dX8_litDials_61 rfl ?_
        refine r_iload_n dX8_litDials_63 rfl rfl ?_
        refine r_iload_n dX8_litDials_64 rfl rfl ?_
        refine r_callV 0 [_, _, _] (s_X8_toldNow c6 c7 c8 c9 c10 c11 c12 c13 c14 c15 c16 c40 c41 c42 c43 c44 c45 c46 c47 c48 c0 pi ni (by omega) (by omega) (by omega)) dX8_litDials_65 cs_X8_234 im_X8_toldNow (by decide) c0 rfl (by decide) (by decide) (by decide) rfl rfl (Nat.le_of_ble_eq_true rfl) (fun _ _ _ q => q.elim) (fun v n2 h2 q => ?_)
        obtain ⟨rfl, rfl, hh⟩ := q
        obtain rfl := hh.symm
        refine ⟨rfl, ?_⟩
        dsimp only [Option.toList, List.cons_append, List.nil_append]
        refine r_istore (lv2 := [(0, _), (1, _), (2, _), (3, _), (4, _), (5, _)]) dX8_litDials_68 (by decide) rfl rfl ?_
        refine r_iload dX8_litDials_70 rfl ?_
        refine r_iconst dX8_litDials_72 ?_
        refine r_icmp_eq (tgt := 83) dX8_litDials_73 (by decide) ⟨by omega, by omega⟩ ⟨by omega, by omega⟩ (fun g73 => ?_) (fun g73 => ?_)
        · refine r_iinc (lv2 := [(0, _), (1, _), (2, _), (3, _), (4, _), (5, _)]) dX8_litDials_83 (by decide) rfl rfl rfl ?_
          refine r_goto (tgt := 5) dX8_litDials_86 (by decide) ?_
          refine r_lv (lv2 := [(0, _), (1, _), (2, _), (3, _), (4, _)]) rfl ?_
          rw [show (k : Int) + 1 = ((k + 1 : Nat) : Int) by omega]
          first
            | exact absurd g73 (by omega)
            | (have z : (nowI sw nc nm K U I O G L cf ct cd md my mt k day m) = -1 := by first | omega | exact b5 (by omega)
               rw [if_neg (by simp [z])] at hi
               exact hi)
            | (have z : ¬ (nowI sw nc nm K U I O G L cf ct cd md my mt k day m) = -1 := by first | omega | exact fun z => b4.elim (fun q => by have := q.mp z; omega) (fun q => by omega)
               rw [if_pos (decide_eq_true z)] at hi
               exact hi)
        · refine r_iload_n dX8_litDials_76 rfl rfl ?_
          refine r_iconst dX8_litDials_77 ?_
          refine r_iload dX8_litDials_78 rfl ?_
          refine r_ishl _ dX8_litDials_80 (shl1 k (by omega)) ?_
          refine r_ior _ dX8_litDials_81 (orI _ _) ?_
          refine r_istore_n (lv2 := [(0, _), (1, _), (2, _), (3, _), (4, _), (5, _)]) dX8_litDials_82 rfl (by decide) rfl rfl ?_
          refine r_iinc (lv2 := [(0, _), (1, _), (2, _), (3, _), (4, _), (5, _)]) dX8_litDials_83 (by decide) rfl rfl rfl ?_
          refine r_goto (tgt := 5) dX8_litDials_86 (by decide) ?_
          refine r_lv (lv2 := [(0, _), (1, _), (2, _), (3, _), (4, _)]) rfl ?_
          rw [show (k : Int) + 1 = ((k + 1 : Nat) : Int) by omega]
          first
            | exact absurd g73 (by omega)
            | (have z : (nowI sw nc nm K U I O G L cf ct cd md my mt k day m) = -1 := by first | omega | exact b5 (by omega)
               rw [if_neg (by simp [z])] at hi
               exact hi)
            | (have z : ¬ (nowI sw nc nm K U I O G L cf ct cd md my mt k day m) = -1 := by first | omega | exact fun z => b4.elim (fun q => by have := q.mp z; omega) (fun q => by omega)
               rw [if_pos (decide_eq_true z)] at hi
               exact hi)

theorem s_X8_litDials {h : aH} {nd sw nc : Int} {K U I O G L cf ct fc nx cd : Nat → Int} (c6 : h 6 = .inr (4, [iv nd, iv sw, iv nc, .ref 7, .ref 8, .ref 9, .ref 10, .ref 11, .ref 12, .ref 13, .ref 14, .ref 15, .ref 16])) (c7 : h 7 = .inl (0, 9, K)) (c8 : h 8 = .inl (0, 9, U)) (c9 : h 9 = .inl (0, 9, I)) (c10 : h 10 = .inl (0, 9, O)) (c11 : h 11 = .inl (0, 9, G)) (c12 : h 12 = .inl (0, 12, L)) (c13 : h 13 = .inl (0, 20, cf)) (c14 : h 14 = .inl (0, 20, ct)) (c15 : h 15 = .inl (0, 365, fc)) (c16 : h 16 = .inl (0, 20, nx)) {nr ns nm : Int} {rd ry rm rt se md my mt : Nat → Int} (c40 : h 40 = .inr (3, [iv nr, iv ns, iv nm, .ref 41, .ref 42, .ref 43, .ref 44, .ref 45, .ref 46, .ref 47, .ref 48])) (c41 : h 41 = .inl (0, 12, rd)) (c42 : h 42 = .inl (0, 12, ry)) (c43 : h 43 = .inl (0, 12, rm)) (c44 : h 44 = .inl (0, 12, rt)) (c45 : h 45 = .inl (0, 9, se)) (c46 : h 46 = .inl (0, 40, md)) (c47 : h 47 = .inl (0, 40, my)) (c48 : h 48 = .inl (0, 40, mt)) {taped fpl hlaw himg : Int} (c0 : h 0 = .inr (8, [.ref 1, iv taped, iv fpl, .ref 2, .ref 3, .ref 4, .ref 5, .ref 6, .ref 17, .ref 28, .ref 34, iv hlaw, .ref 40, .ref 49, iv himg, .ref 58, .ref 62, .ref 65, .ref 66, .ref 67])) (pi : PInv nd sw nc K U I O G L cf ct fc nx cd) (ni : NInv nr ns nm rd ry rm rt se md my mt) {day : Int} (hd : 0 ≤ day ∧ day < 365) {m : Int} (hm : 0 ≤ m ∧ m < 1440) : mSem yX8_litDials cX8_litDials 6 (some .int) 7 0 0 [.ref 0, iv day, iv m] 97 h (Ret (lbI (fun j => decide (nowI sw nc nm K U I O G L cf ct cd md my mt (j : Nat) day m ≠ -1)) nd.toNat : Nat) h) noX := by
  obtain ⟨pnd, psw, pnc, pK, pU, pI, pO, pG, pL, pcf, pct, pfc, pnx⟩ := id pi
  obtain ⟨pnr, pns, pnm, prd, pry, prm, prt, pse, pmd, pmy, pmt⟩ := id ni
  refine mSem_of (own := RX8) (name := "litDials") pn_X8 rfl rfl (Nat.le_of_ble_eq_true rfl) ?_
  refine r_iconst dX8_litDials_0 ?_
  refine r_istore_n (lv2 := [(0, _), (1, _), (2, _), (3, _)]) dX8_litDials_1 rfl (by decide) rfl rfl ?_
  refine r_iconst dX8_litDials_2 ?_
  refine r_istore (lv2 := [(0, _), (1, _), (2, _), (3, _), (4, _)]) dX8_litDials_3 (by decide) rfl rfl ?_
  exact l_X8_litDials c6 c7 c8 c9 c10 c11 c12 c13 c14 c15 c16 c40 c41 c42 c43 c44 c45 c46 c47 c48 c0 pi ni hd hm nd.toNat 0 (by omega)
