/-! ===== the reference: the light of a day, what a dial tells ===== -/
theorem ut_68 (h : aH) (e : aE) (g : Nat → Int) (w : Int) (lt lgt : Nat → Int) : UT (va_up h 68 e) g w lt lgt = UT h g w lt lgt := by
  funext j
  unfold UT va_up
  by_cases q1 : j = 78
  · simp [q1]
  · by_cases q2 : j = 77
    · simp [q2]
    · by_cases q3 : j = 68
      · simp [q3]
      · simp [q1, q2, q3]
theorem ut_87 (h : aH) (g : Nat → Int) (w : Int) (lt lgt lt2 lgt2 : Nat → Int) : va_up (va_up (UT h g w lt lgt) 78 (.inl (2, 1440, lgt2))) 77 (.inl (2, 1440, lt2)) = UT h g w lt2 lgt2 := by
  funext j
  unfold UT va_up
  by_cases q1 : j = 78
  · simp [q1]
  · by_cases q2 : j = 77
    · simp [q2]
    · simp [q1, q2]
theorem ut_77 (h : aH) (g : Nat → Int) (w : Int) (lt lgt lt2 : Nat → Int) : va_up (UT h g w lt lgt) 77 (.inl (2, 1440, lt2)) = UT h g w lt2 lgt := by
  funext j
  unfold UT va_up
  by_cases q1 : j = 78
  · simp [q1]
  · by_cases q2 : j = 77
    · simp [q2]
    · simp [q1, q2]
def ltF (sw : Int) (L cf ct cd : Nat → Int) (day : Int) (c : Nat) (j : Nat) : Int := b2i (lgB sw L day j && !cUp cd cf ct day j c)
def ltG (sw : Int) (L cf ct cd : Nat → Int) (day : Int) (c : Nat) (m : Int) (j : Nat) : Int := if cf c ≤ (j : Int) ∧ (j : Int) < m then 0 else ltF sw L cf ct cd day c j
theorem ltF_no {sw : Int} {L cf ct cd : Nat → Int} {day : Int} {c : Nat} (h : ¬ cd c = day) : ltF sw L cf ct cd day (c + 1) = ltF sw L cf ct cd day c := by
  funext j
  unfold ltF
  rw [show cUp cd cf ct day j (c + 1) = ((decide (cd c = day) && decide (cf c ≤ (j : Int)) && decide ((j : Int) ≤ ct c)) || cUp cd cf ct day j c) from rfl, decide_eq_false h]
  simp
theorem ltG_0 {sw : Int} {L cf ct cd : Nat → Int} {day : Int} {c : Nat} : ltG sw L cf ct cd day c (cf c) = ltF sw L cf ct cd day c := by
  funext j
  unfold ltG
  rw [if_neg (by omega)]
theorem ltG_s {sw : Int} {L cf ct cd : Nat → Int} {day : Int} {c : Nat} {m : Int} (h : cf c ≤ m) (h0 : 0 ≤ m) : va_up (ltG sw L cf ct cd day c m) m.toNat 0 = ltG sw L cf ct cd day c (m + 1) := by
  funext j
  unfold ltG va_up
  by_cases q : j = m.toNat
  · rw [if_pos q, if_pos (by omega)]
  · rw [if_neg q]
    dsimp only
    by_cases q2 : cf c ≤ (j : Int) ∧ (j : Int) < m
    · rw [if_pos q2, if_pos (by omega)]
    · rw [if_neg q2, if_neg (by omega)]
theorem ltG_e {sw : Int} {L cf ct cd : Nat → Int} {day : Int} {c : Nat} {m : Int} (hd : cd c = day) (h1 : ct c < m) (h2 : m ≤ ct c + 1 ∨ m = cf c) : ltG sw L cf ct cd day c m = ltF sw L cf ct cd day (c + 1) := by
  funext j
  unfold ltG ltF
  rw [show cUp cd cf ct day j (c + 1) = ((decide (cd c = day) && decide (cf c ≤ (j : Int)) && decide ((j : Int) ≤ ct c)) || cUp cd cf ct day j c) from rfl, decide_eq_true hd]
  by_cases q : cf c ≤ (j : Int) ∧ (j : Int) ≤ ct c
  · rw [if_pos (by omega), decide_eq_true q.1, decide_eq_true q.2]
    simp [b2i]
  · rw [if_neg (by omega)]
    have e : (decide (cf c ≤ (j : Int)) && decide ((j : Int) ≤ ct c)) = false := by
      by_cases q1 : cf c ≤ (j : Int)
      · rw [decide_eq_true q1, decide_eq_false (fun z => q ⟨q1, z⟩)]; rfl
      · rw [decide_eq_false q1]; rfl
    rw [Bool.true_and, e, Bool.false_or]
theorem tI_p {kind turn tilt town g day m noon half p : Int} {cl : Bool} (h : plainI kind tilt town g day m noon half cl = p) : toldI kind turn tilt town g day m noon half cl = if p = -1 then -1 else if kind = 4 ∧ (p + turn) % 1440 ≠ 720 then -1 else (p + turn) % 1440 := by
  unfold toldI
  rw [h]
theorem tI_no1 {kind turn tilt town g day m noon half : Int} {cl : Bool} (h : grownI g kind day = true) : toldI kind turn tilt town g day m noon half cl = -1 := by
  have hp : plainI kind tilt town g day m noon half cl = -1 := by unfold plainI; rw [if_pos h]
  rw [tI_p hp, if_pos rfl]
theorem tI_no2 {kind turn tilt town g day m noon half : Int} {cl : Bool} (h : grownI g kind day = false) (ha : angI kind day m noon half cl = -100000) : toldI kind turn tilt town g day m noon half cl = -1 := by
  have hp : plainI kind tilt town g day m noon half cl = -1 := by
    unfold plainI
    rw [h, if_neg (by decide), if_pos ha]
  rw [tI_p hp, if_pos rfl]
theorem tI_ok {kind turn tilt town g day m noon half a : Int} {cl : Bool} (h : grownI g kind day = false) (ha : angI kind day m noon half cl = a) (hn : ¬ a = -100000) : toldI kind turn tilt town g day m noon half cl = if kind = 4 ∧ ¬ (720 + (if tiltI kind then (a * (100 + tilt)).tdiv 100 else a) + turn + town) % 1440 = 720 then -1 else (720 + (if tiltI kind then (a * (100 + tilt)).tdiv 100 else a) + turn + town) % 1440 := by
  have hp : plainI kind tilt town g day m noon half cl = (720 + (if tiltI kind then (a * (100 + tilt)).tdiv 100 else a) + town) % 1440 := by
    unfold plainI
    rw [h, if_neg (by decide), ha, if_neg hn]
  rw [tI_p hp]
  generalize (if tiltI kind then (a * (100 + tilt)).tdiv 100 else a) = z
  rw [if_neg (by omega), show ((720 + z + town) % 1440 + turn) % 1440 = (720 + z + turn + town) % 1440 by omega]

theorem l_X9_lights1 {h : aH} {g : Nat → Int} {w : Int} (c68 : h 68 = RG g w) {dl cl lm lt lgt mn : Nat → Int} (c69 : h 69 = .inl (0, 45, dl)) (c70 : h 70 = .inl (0, 60, cl)) (c71 : h 71 = .inl (0, 12, lm)) (c77 : h 77 = .inl (2, 1440, lt)) (c78 : h 78 = .inl (2, 1440, lgt)) (c79 : h 79 = .inl (0, 120, mn)) {nd sw nc nm : Int} {K U I O G L cf ct fc nx cd md my mt : Nat → Int} {gg : Nat → Int} (tg : TellR gg dl cl lm mn nd sw nc nm K U I O G L cf ct cd md my mt) (pi : PInv nd sw nc K U I O G L cf ct fc nx cd) {day : Int} (hd : 0 ≤ day ∧ day < 365) {d : Nat} (hd1 : 2 ≤ d) {Q : Option Value → Nat → aH → Prop} : ∀ (k j : Nat), j + k = 1440 → Ev RX9 "lights" cX9_lights 4 none d 0 0 Q noX 97 (UT h gg w (cpyF (fun j : Nat => b2i (lgB sw L day j)) lt 1440) (cpyF (fun j : Nat => b2i (lgB sw L day j)) lgt 1440)) 69 [(0, .ref 68), (1, iv day), (2, iv (1440 : Nat))] [] → Ev RX9 "lights" cX9_lights 4 none d 0 0 Q noX 97 (UT h gg w (cpyF (fun j : Nat => b2i (lgB sw L day j)) lt j) (cpyF (fun j : Nat => b2i (lgB sw L day j)) lgt j)) 16 [(0, .ref 68), (1, iv day), (2, iv j)] [] := by
  obtain ⟨t1, t2, t3, t31, pnm, tdl, tcl, tlm, tmd, pmt, pmd, pmy⟩ := id tg
  obtain ⟨pnd, psw, pnc, pK, pU, pI, pO, pG, pL, pcf, pct, pfc, pnx⟩ := id pi
  have bn := noon_B (L := L) (day := day) pL
  have bh := half_B psw hd
  intro k
  induction k with
  | zero =>
    intro j hj hk
    obtain rfl : j = 1440 := by omega
    refine r_iload_n dX9_lights_16 rfl rfl ?_
    refine r_sipush dX9_lights_17 rfl ?_
    refine r_icmp_ge (tgt := 69) dX9_lights_20 (by decide) ⟨by omega, by omega⟩ ⟨by omega, by omega⟩ (fun g20 => ?_) (fun g20 => absurd g20 (by omega))
    exact hk
  | succ k ih =>
    intro j hj hk
    have e1 := cpy_s (fun j : Nat => b2i (lgB sw L day j)) lt j
    have e2 := cpy_s (fun j : Nat => b2i (lgB sw L day j)) lgt j
    refine r_iload_n dX9_lights_16 rfl rfl ?_
    refine r_sipush dX9_lights_17 rfl ?_
    refine r_icmp_ge (tgt := 69) dX9_lights_20 (by decide) ⟨by omega, by omega⟩ ⟨by omega, by omega⟩ (fun g20 => absurd g20 (by omega)) (fun g20 => ?_)
    refine r_aload_n dX9_lights_23 rfl rfl ?_
    refine r_get (fs := RGL _ _) dX9_lights_24 fl_X9_45 (by decide) rfl rfl ?_
    refine r_iload_n dX9_lights_27 rfl rfl ?_
    refine r_iload_n dX9_lights_28 rfl rfl ?_
    refine r_aload_n dX9_lights_29 rfl rfl ?_
    refine r_iload_n dX9_lights_30 rfl rfl ?_
    refine r_callV 68 [_] (s_X9_noon (by rfl) (by exact c69) (by exact c70) (by exact c71) (by rfl) (by rfl) (by exact c79) tg pi hd) dX9_lights_31 cs_X9_253 im_X9_noon (by decide) rfl rfl (by omega) (by decide) (by decide) rfl rfl (Nat.le_of_ble_eq_true rfl) (fun _ _ _ q => q.elim) (fun v n2 h2 q => ?_)
    obtain ⟨rfl, rfl, hh⟩ := q
    obtain rfl := hh.symm
    refine ⟨rfl, ?_⟩
    dsimp only [Option.toList, List.cons_append, List.nil_append]
    refine r_callS [_, _] (s_X9_off (by omega) (by omega)) dX9_lights_34 cs_X9_250 sm_X9_off (by omega) (by decide) (by decide) rfl rfl (Nat.le_of_ble_eq_true rfl) (fun _ _ _ q => q.elim) (fun v n2 h2 q => ?_)
    obtain ⟨rfl, rfl, hh⟩ := q
    obtain rfl := hh.symm
    refine ⟨rfl, ?_⟩
    dsimp only [Option.toList, List.cons_append, List.nil_append]
    refine r_aload_n dX9_lights_37 rfl rfl ?_
    refine r_iload_n dX9_lights_38 rfl rfl ?_
    refine r_callV 68 [_] (s_X9_half (by rfl) (by exact c69) (by exact c70) (by exact c71) (by rfl) (by rfl) (by exact c79) tg pi hd) dX9_lights_39 cs_X9_256 im_X9_half (by decide) rfl rfl (by omega) (by decide) (by decide) rfl rfl (Nat.le_of_ble_eq_true rfl) (fun _ _ _ q => q.elim) (fun v n2 h2 q => ?_)
    obtain ⟨rfl, rfl, hh⟩ := q
    obtain rfl := hh.symm
    refine ⟨rfl, ?_⟩
    dsimp only [Option.toList, List.cons_append, List.nil_append]
    refine r_icmp_gt (tgt := 49) dX9_lights_42 (by decide) ⟨by omega, by omega⟩ ⟨by omega, by omega⟩ (fun g42 => ?_) (fun g42 => ?_)
    · refine r_iconst dX9_lights_49 ?_
      first
        | rw [show (1 : Int) = (fun j : Nat => b2i (lgB sw L day j)) j by dsimp only; unfold lgB b2i; rw [if_pos (decide_eq_true (by omega))]]
        | rw [show (0 : Int) = (fun j : Nat => b2i (lgB sw L day j)) j by dsimp only; unfold lgB b2i; rw [if_neg (by rw [decide_eq_true_eq]; omega)]]
      have bx := b2i_01 (lgB sw L day j)
      refine r_zast dX9_lights_50 (by decide) rfl (by omega) (by omega) (by decide) (by omega) ?_
      refine r_aload_n dX9_lights_51 rfl rfl ?_
      refine r_get (fs := RGL _ _) dX9_lights_52 fl_X9_41 (by decide) rfl rfl ?_
      refine r_iload_n dX9_lights_55 rfl rfl ?_
      refine r_aload_n dX9_lights_56 rfl rfl ?_
      refine r_get (fs := RGL _ _) dX9_lights_57 fl_X9_45 (by decide) rfl rfl ?_
      refine r_iload_n dX9_lights_60 rfl rfl ?_
      refine r_zald dX9_lights_61 (by decide) rfl (by omega) (by omega) (by decide) ?_
      rw [Int.toNat_natCast, va_up_self]
      refine r_zast dX9_lights_62 (by decide) rfl (by omega) (by omega) (by decide) (by omega) ?_
      refine r_iinc (lv2 := [(0, _), (1, _), (2, _)]) dX9_lights_63 (by decide) rfl rfl rfl ?_
      refine r_goto (tgt := 16) dX9_lights_66 (by decide) ?_
      rw [Int.toNat_natCast, e1, e2, ut_87, show (j : Int) + 1 = ((j + 1 : Nat) : Int) by omega]
      exact ih (j + 1) (by omega) hk
    · refine r_iconst dX9_lights_45 ?_
      refine r_goto (tgt := 50) dX9_lights_46 (by decide) ?_
      first
        | rw [show (1 : Int) = (fun j : Nat => b2i (lgB sw L day j)) j by dsimp only; unfold lgB b2i; rw [if_pos (decide_eq_true (by omega))]]
        | rw [show (0 : Int) = (fun j : Nat => b2i (lgB sw L day j)) j by dsimp only; unfold lgB b2i; rw [if_neg (by rw [decide_eq_true_eq]; omega)]]
      have bx := b2i_01 (lgB sw L day j)
      refine r_zast dX9_lights_50 (by decide) rfl (by omega) (by omega) (by decide) (by omega) ?_
      refine r_aload_n dX9_lights_51 rfl rfl ?_
      refine r_get (fs := RGL _ _) dX9_lights_52 fl_X9_41 (by decide) rfl rfl ?_
      refine r_iload_n dX9_lights_55 rfl rfl ?_
      refine r_aload_n dX9_lights_56 rfl rfl ?_
      refine r_get (fs := RGL _ _) dX9_lights_57 fl_X9_45 (by decide) rfl rfl ?_
      refine r_iload_n dX9_lights_60 rfl rfl ?_
      refine r_zald dX9_lights_61 (by decide) rfl (by omega) (by omega) (by decide) ?_
      rw [Int.toNat_natCast, va_up_self]
      refine r_zast dX9_lights_62 (by decide) rfl (by omega) (by omega) (by decide) (by omega) ?_
      refine r_iinc (lv2 := [(0, _), (1, _), (2, _)]) dX9_lights_63 (by decide) rfl rfl rfl ?_
      refine r_goto (tgt := 16) dX9_lights_66 (by decide) ?_
      rw [Int.toNat_natCast, e1, e2, ut_87, show (j : Int) + 1 = ((j + 1 : Nat) : Int) by omega]
      exact ih (j + 1) (by omega) hk

theorem l_X9_lights3 {h : aH} {g : Nat → Int} {w : Int} (c68 : h 68 = RG g w) {dl cl lm lt lgt mn : Nat → Int} (c69 : h 69 = .inl (0, 45, dl)) (c70 : h 70 = .inl (0, 60, cl)) (c71 : h 71 = .inl (0, 12, lm)) (c77 : h 77 = .inl (2, 1440, lt)) (c78 : h 78 = .inl (2, 1440, lgt)) (c79 : h 79 = .inl (0, 120, mn)) {nd sw nc nm : Int} {K U I O G L cf ct fc nx cd md my mt : Nat → Int} {gg : Nat → Int} (tg : TellR gg dl cl lm mn nd sw nc nm K U I O G L cf ct cd md my mt) (pi : PInv nd sw nc K U I O G L cf ct fc nx cd) {day : Int} (hd : 0 ≤ day ∧ day < 365) {d c : Nat} (hc : (c : Int) < nc) (hcd : cd c = day) {Q : Option Value → Nat → aH → Prop} : ∀ (k : Nat) (m : Int), (ct c + 1 - m).toNat = k → cf c ≤ m → (m ≤ ct c + 1 ∨ m = cf c) → Ev RX9 "lights" cX9_lights 4 none d 0 0 Q noX 97 (UT h gg w (ltF sw L cf ct cd day (c + 1)) (fun j : Nat => b2i (lgB sw L day j))) 71 [(0, .ref 68), (1, iv day), (2, iv ((c + 1 : Nat) : Int))] [] → Ev RX9 "lights" cX9_lights 4 none d 0 0 Q noX 97 (UT h gg w (ltG sw L cf ct cd day c m) (fun j : Nat => b2i (lgB sw L day j))) 105 [(0, .ref 68), (1, iv day), (2, iv c), (3, iv m)] [] := by
  obtain ⟨t1, t2, t3, t31, pnm, tdl, tcl, tlm, tmd, pmt, pmd, pmy⟩ := id tg
  obtain ⟨pnd, psw, pnc, pK, pU, pI, pO, pG, pL, pcf, pct, pfc, pnx⟩ := id pi
  obtain ⟨k1, k2, k3, k4⟩ := tcl c hc
  have b1 := pcf c
  have b2 := pct c
  have ek : (3 * (c : Int) + 2).toNat = 3 * c + 2 := by omega
  intro k
  induction k with
  | zero =>
    intro m hm h1 h2 hk
    refine r_iload_n dX9_lights_105 rfl rfl ?_
    refine r_aload_n dX9_lights_106 rfl rfl ?_
    refine r_get (fs := RGL _ _) dX9_lights_107 fl_X9_17 (by decide) rfl rfl ?_
    refine r_iconst dX9_lights_110 ?_
    refine r_iload_n dX9_lights_111 rfl rfl ?_
    refine r_imul dX9_lights_112 ?_
    refine r_iconst dX9_lights_113 ?_
    refine r_iadd dX9_lights_114 ?_
    refine r_ald dX9_lights_115 (by decide) c70 (by omega) (by omega) (by decide) ?_
    rw [ek, k3]
    refine r_icmp_gt (tgt := 132) dX9_lights_116 (by decide) ⟨by omega, by omega⟩ ⟨by omega, by omega⟩ (fun g116 => ?_) (fun g116 => absurd g116 (by omega))
    refine r_iinc (lv2 := [(0, _), (1, _), (2, _), (3, _)]) dX9_lights_132 (by decide) rfl rfl rfl ?_
    refine r_goto (tgt := 71) dX9_lights_135 (by decide) ?_
    refine r_lv (lv2 := [(0, _), (1, _), (2, _)]) rfl ?_
    rw [ltG_e hcd (by omega) h2, show (c : Int) + 1 = ((c + 1 : Nat) : Int) by omega]
    exact hk
  | succ k ih =>
    intro m hm h1 h2 hk
    refine r_iload_n dX9_lights_105 rfl rfl ?_
    refine r_aload_n dX9_lights_106 rfl rfl ?_
    refine r_get (fs := RGL _ _) dX9_lights_107 fl_X9_17 (by decide) rfl rfl ?_
    refine r_iconst dX9_lights_110 ?_
    refine r_iload_n dX9_lights_111 rfl rfl ?_
    refine r_imul dX9_lights_112 ?_
    refine r_iconst dX9_lights_113 ?_
    refine r_iadd dX9_lights_114 ?_
    refine r_ald dX9_lights_115 (by decide) c70 (by omega) (by omega) (by decide) ?_
    rw [ek, k3]
    refine r_icmp_gt (tgt := 132) dX9_lights_116 (by decide) ⟨by omega, by omega⟩ ⟨by omega, by omega⟩ (fun g116 => absurd g116 (by omega)) (fun g116 => ?_)
    refine r_aload_n dX9_lights_119 rfl rfl ?_
    refine r_get (fs := RGL _ _) dX9_lights_120 fl_X9_41 (by decide) rfl rfl ?_
    refine r_iload_n dX9_lights_123 rfl rfl ?_
    refine r_iconst dX9_lights_124 ?_
    refine r_zast dX9_lights_125 (by decide) rfl (by omega) (by omega) (by decide) (by omega) ?_
    refine r_iinc (lv2 := [(0, _), (1, _), (2, _), (3, _)]) dX9_lights_126 (by decide) rfl rfl rfl ?_
    refine r_goto (tgt := 105) dX9_lights_129 (by decide) ?_
    rw [ltG_s h1 (by omega), ut_77]
    exact ih (m + 1) (by omega) (by omega) (by omega) hk

theorem l_X9_lights2 {h : aH} {g : Nat → Int} {w : Int} (c68 : h 68 = RG g w) {dl cl lm lt lgt mn : Nat → Int} (c69 : h 69 = .inl (0, 45, dl)) (c70 : h 70 = .inl (0, 60, cl)) (c71 : h 71 = .inl (0, 12, lm)) (c77 : h 77 = .inl (2, 1440, lt)) (c78 : h 78 = .inl (2, 1440, lgt)) (c79 : h 79 = .inl (0, 120, mn)) {nd sw nc nm : Int} {K U I O G L cf ct fc nx cd md my mt : Nat → Int} {gg : Nat → Int} (tg : TellR gg dl cl lm mn nd sw nc nm K U I O G L cf ct cd md my mt) (pi : PInv nd sw nc K U I O G L cf ct fc nx cd) {day : Int} (hd : 0 ≤ day ∧ day < 365) {d : Nat} {Q : Option Value → Nat → aH → Prop} (hq : Q none 97 (UT h gg w (ltF sw L cf ct cd day nc.toNat) (fun j : Nat => b2i (lgB sw L day j)))) : ∀ (k c : Nat), c + k = nc.toNat → Ev RX9 "lights" cX9_lights 4 none d 0 0 Q noX 97 (UT h gg w (ltF sw L cf ct cd day c) (fun j : Nat => b2i (lgB sw L day j))) 71 [(0, .ref 68), (1, iv day), (2, iv c)] [] := by
  obtain ⟨t1, t2, t3, t31, pnm, tdl, tcl, tlm, tmd, pmt, pmd, pmy⟩ := id tg
  obtain ⟨pnd, psw, pnc, pK, pU, pI, pO, pG, pL, pcf, pct, pfc, pnx⟩ := id pi
  intro k
  induction k with
  | zero =>
    intro c hc
    obtain rfl : c = nc.toNat := by omega
    refine r_iload_n dX9_lights_71 rfl rfl ?_
    refine r_aload_n dX9_lights_72 rfl rfl ?_
    refine r_getR (z := (gg 2)) dX9_lights_73 fl_X9_217 (by decide) rfl rfl ?_
    refine r_icmp_ge (tgt := 138) dX9_lights_76 (by decide) ⟨by omega, by omega⟩ ⟨by omega, by omega⟩ (fun g76 => ?_) (fun g76 => absurd g76 (by omega))
    refine r_vret dX9_lights_138 ?_
    exact hq
  | succ k ih =>
    intro c hc
    obtain ⟨k1, k2, k3, k4⟩ := tcl c (by omega)
    have b1 := pcf c
    have b2 := pct c
    have ek : (3 * (c : Int)).toNat = 3 * c := by omega
    have ek1 : (3 * (c : Int) + 1).toNat = 3 * c + 1 := by omega
    refine r_iload_n dX9_lights_71 rfl rfl ?_
    refine r_aload_n dX9_lights_72 rfl rfl ?_
    refine r_getR (z := (gg 2)) dX9_lights_73 fl_X9_217 (by decide) rfl rfl ?_
    refine r_icmp_ge (tgt := 138) dX9_lights_76 (by decide) ⟨by omega, by omega⟩ ⟨by omega, by omega⟩ (fun g76 => absurd g76 (by omega)) (fun g76 => ?_)
    refine r_aload_n dX9_lights_79 rfl rfl ?_
    refine r_get (fs := RGL _ _) dX9_lights_80 fl_X9_17 (by decide) rfl rfl ?_
    refine r_iconst dX9_lights_83 ?_
    refine r_iload_n dX9_lights_84 rfl rfl ?_
    refine r_imul dX9_lights_85 ?_
    refine r_ald dX9_lights_86 (by decide) c70 (by omega) (by omega) (by decide) ?_
    refine r_iload_n dX9_lights_87 rfl rfl ?_
    rw [ek, k1]
    refine r_icmp_eq (tgt := 94) dX9_lights_88 (by decide) ⟨by omega, by omega⟩ ⟨by omega, by omega⟩ (fun g88 => ?_) (fun g88 => ?_)
    · refine r_aload_n dX9_lights_94 rfl rfl ?_
      refine r_get (fs := RGL _ _) dX9_lights_95 fl_X9_17 (by decide) rfl rfl ?_
      refine r_iconst dX9_lights_98 ?_
      refine r_iload_n dX9_lights_99 rfl rfl ?_
      refine r_imul dX9_lights_100 ?_
      refine r_iconst dX9_lights_101 ?_
      refine r_iadd dX9_lights_102 ?_
      refine r_ald dX9_lights_103 (by decide) c70 (by omega) (by omega) (by decide) ?_
      rw [ek1, k2]
      refine r_istore_n (lv2 := [(0, _), (1, _), (2, _), (3, _)]) dX9_lights_104 rfl (by decide) rfl rfl ?_
      rw [← ltG_0]
      exact l_X9_lights3 c68 c69 c70 c71 c77 c78 c79 tg pi hd (by omega) g88 (ct c + 1 - cf c).toNat (cf c) rfl (by omega) (Or.inr rfl) (ih (c + 1) (by omega))
    · refine r_goto (tgt := 132) dX9_lights_91 (by decide) ?_
      refine r_iinc (lv2 := [(0, _), (1, _), (2, _)]) dX9_lights_132 (by decide) rfl rfl rfl ?_
      refine r_goto (tgt := 71) dX9_lights_135 (by decide) ?_
      rw [show (c : Int) + 1 = ((c + 1 : Nat) : Int) by omega, ← ltF_no (sw := sw) (L := L) (cf := cf) (ct := ct) g88]
      exact ih (c + 1) (by omega)

theorem s_X9_lights {h : aH} {g : Nat → Int} {w : Int} (c68 : h 68 = RG g w) {dl cl lm lt lgt mn : Nat → Int} (c69 : h 69 = .inl (0, 45, dl)) (c70 : h 70 = .inl (0, 60, cl)) (c71 : h 71 = .inl (0, 12, lm)) (c77 : h 77 = .inl (2, 1440, lt)) (c78 : h 78 = .inl (2, 1440, lgt)) (c79 : h 79 = .inl (0, 120, mn)) {nd sw nc nm : Int} {K U I O G L cf ct fc nx cd md my mt : Nat → Int} (tr : TellR g dl cl lm mn nd sw nc nm K U I O G L cf ct cd md my mt) (pi : PInv nd sw nc K U I O G L cf ct fc nx cd) (li : LitR (g 30) lt lgt sw nc L cf ct cd) {day : Int} (hd : 0 ≤ day ∧ day < 365) : mSem yX9_lights cX9_lights 4 none 2 0 0 [.ref 68, iv day] 97 h (fun v n' h' => v = none ∧ n' = 97 ∧ ∃ g2 lt2 lg2, h' = UT h g2 w lt2 lg2 ∧ g2 30 = day ∧ LitR day lt2 lg2 sw nc L cf ct cd ∧ ∀ k, k ≠ 30 → g2 k = g k) noX := by
  obtain ⟨t1, t2, t3, t31, pnm, tdl, tcl, tlm, tmd, pmt, pmd, pmy⟩ := id tr
  obtain ⟨pnd, psw, pnc, pK, pU, pI, pO, pG, pL, pcf, pct, pfc, pnx⟩ := id pi
  refine mSem_of (own := RX9) (name := "lights") pn_X9 rfl rfl (Nat.le_of_ble_eq_true rfl) ?_
  have b30 : -1 ≤ g 30 ∧ g 30 < 365 := by rcases li with z | z <;> omega
  refine r_aload_n dX9_lights_0 rfl rfl ?_
  refine r_getR (z := (g 30)) dX9_lights_1 fl_X9_48 (by decide) c68 rfl ?_
  refine r_iload_n dX9_lights_4 rfl rfl ?_
  refine r_icmp_ne (tgt := 9) dX9_lights_5 (by decide) ⟨by omega, by omega⟩ ⟨by omega, by omega⟩ (fun g5 => ?_) (fun g5 => ?_)
  · refine r_aload_n dX9_lights_9 rfl rfl ?_
    refine r_iload_n dX9_lights_10 rfl rfl ?_
    refine r_putR dX9_lights_11 fp_X9_48 (by decide) c68 (nar_int _) (Nat.le_of_ble_eq_true rfl) setR_30 (fun z0 hz0 => ?_)
    refine r_iconst dX9_lights_14 ?_
    refine r_istore_n (lv2 := [(0, _), (1, _), (2, _)]) dX9_lights_15 rfl (by decide) rfl rfl ?_
    refine ev_h (ut_self (h := va_up h 68 (RG (va_up g 30 z0) w)) rfl c77 c78) ?_
    rw [ut_68]
    have hk := l_X9_lights1 c68 c69 c70 c71 c77 c78 c79 (gg := va_up g 30 z0) (by exact tr) pi hd (d := 2) (Q := (fun v n' h' => v = none ∧ n' = 97 ∧ ∃ g2 lt2 lg2, h' = UT h g2 w lt2 lg2 ∧ g2 30 = day ∧ LitR day lt2 lg2 sw nc L cf ct cd ∧ ∀ k, k ≠ 30 → g2 k = g k)) (by decide) 1440 0 (by omega)
    rw [cpy_0, cpy_0] at hk
    refine hk ?_
    refine ev_arr 77 (ltF sw L cf ct cd day 0) rfl (fun j hj => by unfold cpyF ltF; rw [if_pos hj, show cUp cd cf ct day j 0 = false from rfl]; simp) ?_
    refine ev_arr 78 (fun j : Nat => b2i (lgB sw L day j)) rfl (fun j hj => by unfold cpyF; rw [if_pos hj]) ?_
    refine r_iconst dX9_lights_69 ?_
    refine r_istore_n (lv2 := [(0, _), (1, _), (2, _)]) dX9_lights_70 rfl (by decide) rfl rfl ?_
    rw [show va_up (va_up (UT h (va_up g 30 z0) w (cpyF (fun j : Nat => b2i (lgB sw L day j)) lt 1440) (cpyF (fun j : Nat => b2i (lgB sw L day j)) lgt 1440)) 77 (.inl (2, 1440, (ltF sw L cf ct cd day 0)))) 78 (.inl (2, 1440, (fun j : Nat => b2i (lgB sw L day j)))) = UT h (va_up g 30 z0) w (ltF sw L cf ct cd day 0) (fun j : Nat => b2i (lgB sw L day j)) by rw [ut_77]; exact bx_uu _ _ _ _]
    exact l_X9_lights2 c68 c69 c70 c71 c77 c78 c79 (gg := va_up g 30 z0) (by exact tr) pi hd (d := 2) ⟨rfl, rfl, va_up g 30 z0, _, _, rfl, hz0, Or.inr ⟨hd, fun j hj => ⟨rfl, rfl⟩⟩, fun k hk => va_up_ne _ _ hk⟩ nc.toNat 0 (by omega)
  · refine r_vret dX9_lights_8 ?_
    exact ⟨rfl, rfl, g, lt, lgt, ut_self c68 c77 c78, g5, by rw [g5] at li; exact li, fun _ _ => rfl⟩

