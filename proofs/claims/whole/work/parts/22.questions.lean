/-! ===== LyingDials: the private questions ===== -/
theorem ev_post {own name : String} {cc : ByteArray} {mL : Nat} {rt : Option FieldType} {d mc ms : Nat} {Q Q2 : Option Value → Nat → aH → Prop} {X X2 : String → Nat → aH → Prop} {n : Nat} {h : aH} {pc : Nat} {lv : List (Nat × Value)} {st : List Value} (k : Ev own name cc mL rt d mc ms Q X n h pc lv st) (hq : ∀ v n2 h2, Q v n2 h2 → Q2 v n2 h2) (hx : ∀ E n2 h2, X E n2 h2 → X2 E n2 h2) : Ev own name cc mL rt d mc ms Q2 X2 n h pc lv st := by
  intro p l e R s m args below meth c D tc n0 ad0 ad adK A H locs cells slots MC MS ls fx rm wd hn he hl T hT XX
  obtain ⟨t, a1, o, b1, b2, b3⟩ := k p l e R s m args below meth c D tc n0 ad0 ad adK A H locs cells slots MC MS ls fx rm wd hn he hl T hT XX
  refine ⟨t, a1, o, b1, b2, ?_⟩
  rcases b3 with ⟨⟨⟨v, n2, h2, ad2, c1, c2, c3⟩, c4⟩, b4⟩ | ⟨q, e1, E, ce, L, ⟨⟨n2, h2, ad2, c1, c2⟩, c3⟩, c4⟩
  · exact Or.inl ⟨⟨⟨v, n2, h2, ad2, c1, hq _ _ _ c2, c3⟩, c4⟩, b4⟩
  · exact Or.inr ⟨q, e1, E, ce, L, ⟨⟨n2, h2, ad2, hx _ _ _ c1, c2⟩, c3⟩, c4⟩
theorem mSem_post {y : MethodName} {cc : ByteArray} {mL : Nat} {rt : Option FieldType} {d mc ms : Nat} {av : List Value} {n : Nat} {h : aH} {Q Q2 : Option Value → Nat → aH → Prop} {X X2 : String → Nat → aH → Prop} (k : mSem y cc mL rt d mc ms av n h Q X) (hq : ∀ v n2 h2, Q v n2 h2 → Q2 v n2 h2) (hx : ∀ E n2 h2, X E n2 h2 → X2 E n2 h2) : mSem y cc mL rt d mc ms av n h Q2 X2 := by
  intro l D tc ad adK sz hl p e ha hc hk s m args below hf happ hp hu
  obtain ⟨k, o, h1, h2, h3, b3⟩ := k l D tc ad adK sz hl p e ha hc hk s m args below hf happ hp hu
  refine ⟨k, o, h1, h2, h3, ?_⟩
  rcases b3 with ⟨⟨⟨v, n2, h2, ad2, c1, c2, c3⟩, c4⟩, b4⟩ | ⟨q, e1, E, ce, L, ⟨⟨n2, h2, ad2, c1, c2⟩, c3⟩, c4⟩
  · exact Or.inl ⟨⟨⟨v, n2, h2, ad2, c1, hq _ _ _ c2, c3⟩, c4⟩, b4⟩
  · exact Or.inr ⟨q, e1, E, ce, L, ⟨⟨n2, h2, ad2, hx _ _ _ c1, c2⟩, c3⟩, c4⟩
def nowI (sw nc nm : Int) (K U I O G L cf ct cd md my mt : Nat → Int) (di day m : Int) : Int := toldI (K di.toNat) (turnI md my mt di day (U di.toNat) nm.toNat) (I di.toNat) (O di.toNat) (G di.toNat) day m (noonI L day) (halfI sw day) (cUp cd cf ct day m nc.toNat)
def plnI (sw nc : Int) (K I O G L cf ct cd : Nat → Int) (di day m : Int) : Int := plainI (K di.toNat) (I di.toNat) (O di.toNat) (G di.toNat) day m (noonI L day) (halfI sw day) (cUp cd cf ct day m nc.toNat)
theorem now_B (sw nc nm : Int) (K U I O G L cf ct cd md my mt : Nat → Int) (di day m : Int) : -1 ≤ nowI sw nc nm K U I O G L cf ct cd md my mt di day m ∧ nowI sw nc nm K U I O G L cf ct cd md my mt di day m < 1440 := told_B _ _ _ _ _ _ _ _ _ _
/-- an answer, and the moments' row is another one -/
abbrev RetM (r : Int) (h : aH) : Option Value → Nat → aH → Prop := fun v n' h' => v = some (iv r) ∧ n' = 97 ∧ ∃ f, h' = va_up h 67 (.inl (0, 14, f))
theorem cpy_0 (f g : Nat → Int) : cpyF f g 0 = g := by funext j; simp [cpyF]
theorem cpy_s (f g : Nat → Int) (i : Nat) : va_up (cpyF f g i) i (f i) = cpyF f g (i + 1) := by
  funext j
  by_cases h : j = i
  · subst h; simp [va_up, cpyF]
  · by_cases h2 : j < i
    · simp [va_up, cpyF, h, h2, show j < i + 1 by omega]
    · simp [va_up, cpyF, h, h2, show ¬ j < i + 1 by omega]
def yT (now : Int → Int) (m : Int) : Nat → Int × Int × Int × Int
  | 0 => t0
  | k + 1 => tAdd (yT now m k) k (now k) m
theorem tAdd_B {t : Int × Int × Int × Int} {day told m : Int} (hto : -1 ≤ told ∧ told < 1440) (hm : 0 ≤ m ∧ m < 1440) (h : -1 ≤ t.2.2.2 ∧ t.2.2.2 ≤ 720) : -1 ≤ (tAdd t day told m).2.2.2 ∧ (tAdd t day told m).2.2.2 ≤ 720 := by
  unfold tAdd
  split
  · exact h
  · have := wrong_B (a := told) (b := m) (by omega) hm
    dsimp only
    split <;> omega
theorem yT_B {now : Int → Int} {m : Int} (hn : ∀ d, -1 ≤ now d ∧ now d < 1440) (hm : 0 ≤ m ∧ m < 1440) : ∀ k, -1 ≤ (yT now m k).2.2.2 ∧ (yT now m k).2.2.2 ≤ 720 := by
  intro k
  induction k with
  | zero => exact ⟨show (-1 : Int) ≤ -1 by decide, show (-1 : Int) ≤ 720 by decide⟩
  | succ k ih => exact tAdd_B (hn k) hm ih

theorem s_X8_turnOn {h : aH} {nd sw nc : Int} {K U I O G L cf ct fc nx cd : Nat → Int} (c6 : h 6 = .inr (4, [iv nd, iv sw, iv nc, .ref 7, .ref 8, .ref 9, .ref 10, .ref 11, .ref 12, .ref 13, .ref 14, .ref 15, .ref 16])) (c7 : h 7 = .inl (0, 9, K)) (c8 : h 8 = .inl (0, 9, U)) (c9 : h 9 = .inl (0, 9, I)) (c10 : h 10 = .inl (0, 9, O)) (c11 : h 11 = .inl (0, 9, G)) (c12 : h 12 = .inl (0, 12, L)) (c13 : h 13 = .inl (0, 20, cf)) (c14 : h 14 = .inl (0, 20, ct)) (c15 : h 15 = .inl (0, 365, fc)) (c16 : h 16 = .inl (0, 20, nx)) {nr ns nm : Int} {rd ry rm rt se md my mt : Nat → Int} (c40 : h 40 = .inr (3, [iv nr, iv ns, iv nm, .ref 41, .ref 42, .ref 43, .ref 44, .ref 45, .ref 46, .ref 47, .ref 48])) (c41 : h 41 = .inl (0, 12, rd)) (c42 : h 42 = .inl (0, 12, ry)) (c43 : h 43 = .inl (0, 12, rm)) (c44 : h 44 = .inl (0, 12, rt)) (c45 : h 45 = .inl (0, 9, se)) (c46 : h 46 = .inl (0, 40, md)) (c47 : h 47 = .inl (0, 40, my)) (c48 : h 48 = .inl (0, 40, mt)) {taped fpl hlaw himg : Int} (c0 : h 0 = .inr (8, [.ref 1, iv taped, iv fpl, .ref 2, .ref 3, .ref 4, .ref 5, .ref 6, .ref 17, .ref 28, .ref 34, iv hlaw, .ref 40, .ref 49, iv himg, .ref 58, .ref 62, .ref 65, .ref 66, .ref 67])) (pi : PInv nd sw nc K U I O G L cf ct fc nx cd) (ni : NInv nr ns nm rd ry rm rt se md my mt) {di : Int} (hdi : 0 ≤ di ∧ di < 9) {day : Int} (hd : 0 ≤ day ∧ day < 365) : mSem yX8_turnOn cX8_turnOn 3 (some .int) 1 0 0 [.ref 0, iv di, iv day] 97 h (Ret (turnI md my mt di day (U di.toNat) nm.toNat) h) noX := by
  obtain ⟨pnd, psw, pnc, pK, pU, pI, pO, pG, pL, pcf, pct, pfc, pnx⟩ := id pi
  obtain ⟨pnr, pns, pnm, prd, pry, prm, prt, pse, pmd, pmy, pmt⟩ := id ni
  refine mSem_of (own := RX8) (name := "turnOn") pn_X8 rfl rfl (Nat.le_of_ble_eq_true rfl) ?_
  refine r_aload_n dX8_turnOn_0 rfl rfl ?_
  refine r_get (fs := [_, _, _, _, _, _, _, _, _, _, _, _, _, _, _, _, _, _, _, _]) dX8_turnOn_1 fl_X8_72 (by decide) c0 rfl ?_
  refine r_iload_n dX8_turnOn_4 rfl rfl ?_
  refine r_iload_n dX8_turnOn_5 rfl rfl ?_
  refine r_aload_n dX8_turnOn_6 rfl rfl ?_
  refine r_get (fs := [_, _, _, _, _, _, _, _, _, _, _, _, _, _, _, _, _, _, _, _]) dX8_turnOn_7 fl_X8_48 (by decide) c0 rfl ?_
  refine r_get (fs := [_, _, _, _, _, _, _, _, _, _, _, _, _]) dX8_turnOn_10 fl_X8_215 (by decide) c6 rfl ?_
  refine r_iload_n dX8_turnOn_13 rfl rfl ?_
  refine r_ald dX8_turnOn_14 (by decide) c8 (by omega) (by omega) (by decide) ?_
  refine r_callV 40 [_, _, _] (s_X3_turnBy c40 c41 c42 c43 c44 c45 c46 c47 c48 ni (by omega) hd) dX8_turnOn_15 cs_X8_245 im_X3_turnBy (by decide) c40 rfl (by decide) (by decide) (by decide) rfl rfl (Nat.le_of_ble_eq_true rfl) (fun _ _ _ q => q.elim) (fun v n2 h2 q => ?_)
  obtain ⟨rfl, rfl, hh⟩ := q
  obtain rfl := hh.symm
  refine ⟨rfl, ?_⟩
  dsimp only [Option.toList, List.cons_append, List.nil_append]
  refine r_iret dX8_turnOn_18 ?_
  exact ⟨rfl, rfl, rfl⟩

theorem s_X8_toldNow {h : aH} {nd sw nc : Int} {K U I O G L cf ct fc nx cd : Nat → Int} (c6 : h 6 = .inr (4, [iv nd, iv sw, iv nc, .ref 7, .ref 8, .ref 9, .ref 10, .ref 11, .ref 12, .ref 13, .ref 14, .ref 15, .ref 16])) (c7 : h 7 = .inl (0, 9, K)) (c8 : h 8 = .inl (0, 9, U)) (c9 : h 9 = .inl (0, 9, I)) (c10 : h 10 = .inl (0, 9, O)) (c11 : h 11 = .inl (0, 9, G)) (c12 : h 12 = .inl (0, 12, L)) (c13 : h 13 = .inl (0, 20, cf)) (c14 : h 14 = .inl (0, 20, ct)) (c15 : h 15 = .inl (0, 365, fc)) (c16 : h 16 = .inl (0, 20, nx)) {nr ns nm : Int} {rd ry rm rt se md my mt : Nat → Int} (c40 : h 40 = .inr (3, [iv nr, iv ns, iv nm, .ref 41, .ref 42, .ref 43, .ref 44, .ref 45, .ref 46, .ref 47, .ref 48])) (c41 : h 41 = .inl (0, 12, rd)) (c42 : h 42 = .inl (0, 12, ry)) (c43 : h 43 = .inl (0, 12, rm)) (c44 : h 44 = .inl (0, 12, rt)) (c45 : h 45 = .inl (0, 9, se)) (c46 : h 46 = .inl (0, 40, md)) (c47 : h 47 = .inl (0, 40, my)) (c48 : h 48 = .inl (0, 40, mt)) {taped fpl hlaw himg : Int} (c0 : h 0 = .inr (8, [.ref 1, iv taped, iv fpl, .ref 2, .ref 3, .ref 4, .ref 5, .ref 6, .ref 17, .ref 28, .ref 34, iv hlaw, .ref 40, .ref 49, iv himg, .ref 58, .ref 62, .ref 65, .ref 66, .ref 67])) (pi : PInv nd sw nc K U I O G L cf ct fc nx cd) (ni : NInv nr ns nm rd ry rm rt se md my mt) {di : Int} (hdi : 0 ≤ di ∧ di < 9) {day : Int} (hd : 0 ≤ day ∧ day < 365) {m : Int} (hm : 0 ≤ m ∧ m < 1440) : mSem yX8_toldNow cX8_toldNow 4 (some .int) 6 0 0 [.ref 0, iv di, iv day, iv m] 97 h (Ret (nowI sw nc nm K U I O G L cf ct cd md my mt di day m) h) noX := by
  obtain ⟨pnd, psw, pnc, pK, pU, pI, pO, pG, pL, pcf, pct, pfc, pnx⟩ := id pi
  obtain ⟨pnr, pns, pnm, prd, pry, prm, prt, pse, pmd, pmy, pmt⟩ := id ni
  refine mSem_of (own := RX8) (name := "toldNow") pn_X8 rfl rfl (Nat.le_of_ble_eq_true rfl) ?_
  have bI := pI di.toNat
  have bT := turn_B (md := md) (my := my) (di := di) (day := day) (pU di.toNat) pmt nm.toNat
  refine r_aload_n dX8_toldNow_0 rfl rfl ?_
  refine r_get (fs := [_, _, _, _, _, _, _, _, _, _, _, _, _, _, _, _, _, _, _, _]) dX8_toldNow_1 fl_X8_48 (by decide) c0 rfl ?_
  refine r_iload_n dX8_toldNow_4 rfl rfl ?_
  refine r_iload_n dX8_toldNow_5 rfl rfl ?_
  refine r_iload_n dX8_toldNow_6 rfl rfl ?_
  refine r_aload_n dX8_toldNow_7 rfl rfl ?_
  refine r_iload_n dX8_toldNow_8 rfl rfl ?_
  refine r_iload_n dX8_toldNow_9 rfl rfl ?_
  refine r_callV 0 [_, _] (s_X8_turnOn c6 c7 c8 c9 c10 c11 c12 c13 c14 c15 c16 c40 c41 c42 c43 c44 c45 c46 c47 c48 c0 pi ni (by omega) (by omega)) dX8_toldNow_10 cs_X8_238 im_X8_turnOn (by decide) c0 rfl (by decide) (by decide) (by decide) rfl rfl (Nat.le_of_ble_eq_true rfl) (fun _ _ _ q => q.elim) (fun v n2 h2 q => ?_)
  obtain ⟨rfl, rfl, hh⟩ := q
  obtain rfl := hh.symm
  refine ⟨rfl, ?_⟩
  dsimp only [Option.toList, List.cons_append, List.nil_append]
  refine r_aload_n dX8_toldNow_13 rfl rfl ?_
  refine r_get (fs := [_, _, _, _, _, _, _, _, _, _, _, _, _, _, _, _, _, _, _, _]) dX8_toldNow_14 fl_X8_48 (by decide) c0 rfl ?_
  refine r_get (fs := [_, _, _, _, _, _, _, _, _, _, _, _, _]) dX8_toldNow_17 fl_X8_218 (by decide) c6 rfl ?_
  refine r_iload_n dX8_toldNow_20 rfl rfl ?_
  refine r_ald dX8_toldNow_21 (by decide) c9 (by omega) (by omega) (by decide) ?_
  refine r_callV 6 [_, _, _, _, _] (s_X4_toldBy c6 c7 c8 c9 c10 c11 c12 c13 c14 c15 c16 pi (by omega) hd hm (by omega) (by omega)) dX8_toldNow_22 cs_X8_241 im_X4_toldBy (by decide) c6 rfl (by decide) (by decide) (by decide) rfl rfl (Nat.le_of_ble_eq_true rfl) (fun _ _ _ q => q.elim) (fun v n2 h2 q => ?_)
  obtain ⟨rfl, rfl, hh⟩ := q
  obtain rfl := hh.symm
  refine ⟨rfl, ?_⟩
  dsimp only [Option.toList, List.cons_append, List.nil_append]
  refine r_iret dX8_toldNow_25 ?_
  exact ⟨rfl, rfl, rfl⟩

theorem l_X8_fillTolds {h : aH} {nd sw nc : Int} {K U I O G L cf ct fc nx cd : Nat → Int} (c6 : h 6 = .inr (4, [iv nd, iv sw, iv nc, .ref 7, .ref 8, .ref 9, .ref 10, .ref 11, .ref 12, .ref 13, .ref 14, .ref 15, .ref 16])) (c7 : h 7 = .inl (0, 9, K)) (c8 : h 8 = .inl (0, 9, U)) (c9 : h 9 = .inl (0, 9, I)) (c10 : h 10 = .inl (0, 9, O)) (c11 : h 11 = .inl (0, 9, G)) (c12 : h 12 = .inl (0, 12, L)) (c13 : h 13 = .inl (0, 20, cf)) (c14 : h 14 = .inl (0, 20, ct)) (c15 : h 15 = .inl (0, 365, fc)) (c16 : h 16 = .inl (0, 20, nx)) {nr ns nm : Int} {rd ry rm rt se md my mt : Nat → Int} (c40 : h 40 = .inr (3, [iv nr, iv ns, iv nm, .ref 41, .ref 42, .ref 43, .ref 44, .ref 45, .ref 46, .ref 47, .ref 48])) (c41 : h 41 = .inl (0, 12, rd)) (c42 : h 42 = .inl (0, 12, ry)) (c43 : h 43 = .inl (0, 12, rm)) (c44 : h 44 = .inl (0, 12, rt)) (c45 : h 45 = .inl (0, 9, se)) (c46 : h 46 = .inl (0, 40, md)) (c47 : h 47 = .inl (0, 40, my)) (c48 : h 48 = .inl (0, 40, mt)) {taped fpl hlaw himg : Int} (c0 : h 0 = .inr (8, [.ref 1, iv taped, iv fpl, .ref 2, .ref 3, .ref 4, .ref 5, .ref 6, .ref 17, .ref 28, .ref 34, iv hlaw, .ref 40, .ref 49, iv himg, .ref 58, .ref 62, .ref 65, .ref 66, .ref 67])) {tf : Nat → Int} (c65 : h 65 = .inl (0, 9, tf)) (pi : PInv nd sw nc K U I O G L cf ct fc nx cd) (ni : NInv nr ns nm rd ry rm rt se md my mt) {day : Int} (hd : 0 ≤ day ∧ day < 365) {m : Int} (hm : 0 ≤ m ∧ m < 1440) : ∀ (w k : Nat), (k : Int) + w = nd → Ev RX8 "fillTolds" cX8_fillTolds 4 none 7 0 0 (RetV (va_up h 65 (.inl (0, 9, cpyF (fun j => nowI sw nc nm K U I O G L cf ct cd md my mt (j : Nat) day m) tf nd.toNat)))) noX 97 (va_up h 65 (.inl (0, 9, cpyF (fun j => nowI sw nc nm K U I O G L cf ct cd md my mt (j : Nat) day m) tf k))) 2 [(0, .ref 0), (1, iv day), (2, iv m), (3, iv k)] [] := by
  obtain ⟨pnd, psw, pnc, pK, pU, pI, pO, pG, pL, pcf, pct, pfc, pnx⟩ := id pi
  obtain ⟨pnr, pns, pnm, prd, pry, prm, prt, pse, pmd, pmy, pmt⟩ := id ni
  intro w
  induction w with
  | zero =>
    intro k hk
    obtain rfl : nd = (k : Int) := by omega
    refine r_iload_n dX8_fillTolds_2 rfl rfl ?_
    refine r_aload_n dX8_fillTolds_3 rfl rfl ?_
    refine r_get (fs := [_, _, _, _, _, _, _, _, _, _, _, _, _, _, _, _, _, _, _, _]) dX8_fillTolds_4 fl_X8_48 (by decide) c0 rfl ?_
    refine r_get (fs := [_, _, _, _, _, _, _, _, _, _, _, _, _]) dX8_fillTolds_7 fl_X8_127 (by decide) c6 rfl ?_
    refine r_icmp_ge (tgt := 32) dX8_fillTolds_10 (by decide) ⟨by omega, by omega⟩ ⟨by omega, by omega⟩ (fun g10 => ?_) (fun g10 => absurd g10 (by omega))
    refine r_vret dX8_fillTolds_32 ?_
    exact ⟨rfl, rfl, by rw [Int.toNat_natCast]⟩
  | succ w ih =>
    intro k hk
    refine r_iload_n dX8_fillTolds_2 rfl rfl ?_
    refine r_aload_n dX8_fillTolds_3 rfl rfl ?_
    refine r_get (fs := [_, _, _, _, _, _, _, _, _, _, _, _, _, _, _, _, _, _, _, _]) dX8_fillTolds_4 fl_X8_48 (by decide) c0 rfl ?_
    refine r_get (fs := [_, _, _, _, _, _, _, _, _, _, _, _, _]) dX8_fillTolds_7 fl_X8_127 (by decide) c6 rfl ?_
    refine r_icmp_ge (tgt := 32) dX8_fillTolds_10 (by decide) ⟨by omega, by omega⟩ ⟨by omega, by omega⟩ (fun g10 => absurd g10 (by omega)) (fun g10 => ?_)
    refine r_aload_n dX8_fillTolds_13 rfl rfl ?_
    refine r_get (fs := [_, _, _, _, _, _, _, _, _, _, _, _, _, _, _, _, _, _, _, _]) dX8_fillTolds_14 fl_X8_96 (by decide) c0 rfl ?_
    refine r_iload_n dX8_fillTolds_17 rfl rfl ?_
    refine r_aload_n dX8_fillTolds_18 rfl rfl ?_
    refine r_iload_n dX8_fillTolds_19 rfl rfl ?_
    refine r_iload_n dX8_fillTolds_20 rfl rfl ?_
    refine r_iload_n dX8_fillTolds_21 rfl rfl ?_
    refine r_callV 0 [_, _, _] (s_X8_toldNow (by exact c6) (by exact c7) (by exact c8) (by exact c9) (by exact c10) (by exact c11) (by exact c12) (by exact c13) (by exact c14) (by exact c15) (by exact c16) (by exact c40) (by exact c41) (by exact c42) (by exact c43) (by exact c44) (by exact c45) (by exact c46) (by exact c47) (by exact c48) (by exact c0) pi ni (by omega) (by omega) (by omega)) dX8_fillTolds_22 cs_X8_234 im_X8_toldNow (by decide) c0 rfl (by decide) (by decide) (by decide) rfl rfl (Nat.le_of_ble_eq_true rfl) (fun _ _ _ q => q.elim) (fun v n2 h2 q => ?_)
    obtain ⟨rfl, rfl, hh⟩ := q
    obtain rfl := hh.symm
    refine ⟨rfl, ?_⟩
    dsimp only [Option.toList, List.cons_append, List.nil_append]
    refine r_ast dX8_fillTolds_25 (by decide) rfl (by omega) (by omega) (by decide) ?_
    refine r_iinc (lv2 := [(0, _), (1, _), (2, _), (3, _)]) dX8_fillTolds_26 (by decide) rfl rfl rfl ?_
    refine r_goto (tgt := 2) dX8_fillTolds_29 (by decide) ?_
    have hi := ih (k + 1) (by omega)
    rw [← cpy_s] at hi
    rw [bx_uu, Int.toNat_natCast, show (k : Int) + 1 = ((k + 1 : Nat) : Int) by omega]
    exact hi

theorem s_X8_fillTolds {h : aH} {nd sw nc : Int} {K U I O G L cf ct fc nx cd : Nat → Int} (c6 : h 6 = .inr (4, [iv nd, iv sw, iv nc, .ref 7, .ref 8, .ref 9, .ref 10, .ref 11, .ref 12, .ref 13, .ref 14, .ref 15, .ref 16])) (c7 : h 7 = .inl (0, 9, K)) (c8 : h 8 = .inl (0, 9, U)) (c9 : h 9 = .inl (0, 9, I)) (c10 : h 10 = .inl (0, 9, O)) (c11 : h 11 = .inl (0, 9, G)) (c12 : h 12 = .inl (0, 12, L)) (c13 : h 13 = .inl (0, 20, cf)) (c14 : h 14 = .inl (0, 20, ct)) (c15 : h 15 = .inl (0, 365, fc)) (c16 : h 16 = .inl (0, 20, nx)) {nr ns nm : Int} {rd ry rm rt se md my mt : Nat → Int} (c40 : h 40 = .inr (3, [iv nr, iv ns, iv nm, .ref 41, .ref 42, .ref 43, .ref 44, .ref 45, .ref 46, .ref 47, .ref 48])) (c41 : h 41 = .inl (0, 12, rd)) (c42 : h 42 = .inl (0, 12, ry)) (c43 : h 43 = .inl (0, 12, rm)) (c44 : h 44 = .inl (0, 12, rt)) (c45 : h 45 = .inl (0, 9, se)) (c46 : h 46 = .inl (0, 40, md)) (c47 : h 47 = .inl (0, 40, my)) (c48 : h 48 = .inl (0, 40, mt)) {taped fpl hlaw himg : Int} (c0 : h 0 = .inr (8, [.ref 1, iv taped, iv fpl, .ref 2, .ref 3, .ref 4, .ref 5, .ref 6, .ref 17, .ref 28, .ref 34, iv hlaw, .ref 40, .ref 49, iv himg, .ref 58, .ref 62, .ref 65, .ref 66, .ref 67])) {tf : Nat → Int} (c65 : h 65 = .inl (0, 9, tf)) (pi : PInv nd sw nc K U I O G L cf ct fc nx cd) (ni : NInv nr ns nm rd ry rm rt se md my mt) {day : Int} (hd : 0 ≤ day ∧ day < 365) {m : Int} (hm : 0 ≤ m ∧ m < 1440) : mSem yX8_fillTolds cX8_fillTolds 4 none 7 0 0 [.ref 0, iv day, iv m] 97 h (RetV (va_up h 65 (.inl (0, 9, cpyF (fun j => nowI sw nc nm K U I O G L cf ct cd md my mt (j : Nat) day m) tf nd.toNat)))) noX := by
  obtain ⟨pnd, psw, pnc, pK, pU, pI, pO, pG, pL, pcf, pct, pfc, pnx⟩ := id pi
  obtain ⟨pnr, pns, pnm, prd, pry, prm, prt, pse, pmd, pmy, pmt⟩ := id ni
  refine mSem_of (own := RX8) (name := "fillTolds") pn_X8 rfl rfl (Nat.le_of_ble_eq_true rfl) ?_
  refine r_iconst dX8_fillTolds_0 ?_
  refine r_istore_n (lv2 := [(0, _), (1, _), (2, _), (3, _)]) dX8_fillTolds_1 rfl (by decide) rfl rfl ?_
  refine ev_h (up_same c65) ?_
  have hk := l_X8_fillTolds c6 c7 c8 c9 c10 c11 c12 c13 c14 c15 c16 c40 c41 c42 c43 c44 c45 c46 c47 c48 c0 c65 pi ni hd hm nd.toNat 0 (by omega)
  rw [cpy_0] at hk
  exact hk

theorem l_X8_tallyYear {h : aH} {nd sw nc : Int} {K U I O G L cf ct fc nx cd : Nat → Int} (c6 : h 6 = .inr (4, [iv nd, iv sw, iv nc, .ref 7, .ref 8, .ref 9, .ref 10, .ref 11, .ref 12, .ref 13, .ref 14, .ref 15, .ref 16])) (c7 : h 7 = .inl (0, 9, K)) (c8 : h 8 = .inl (0, 9, U)) (c9 : h 9 = .inl (0, 9, I)) (c10 : h 10 = .inl (0, 9, O)) (c11 : h 11 = .inl (0, 9, G)) (c12 : h 12 = .inl (0, 12, L)) (c13 : h 13 = .inl (0, 20, cf)) (c14 : h 14 = .inl (0, 20, ct)) (c15 : h 15 = .inl (0, 365, fc)) (c16 : h 16 = .inl (0, 20, nx)) {nr ns nm : Int} {rd ry rm rt se md my mt : Nat → Int} (c40 : h 40 = .inr (3, [iv nr, iv ns, iv nm, .ref 41, .ref 42, .ref 43, .ref 44, .ref 45, .ref 46, .ref 47, .ref 48])) (c41 : h 41 = .inl (0, 12, rd)) (c42 : h 42 = .inl (0, 12, ry)) (c43 : h 43 = .inl (0, 12, rm)) (c44 : h 44 = .inl (0, 12, rt)) (c45 : h 45 = .inl (0, 9, se)) (c46 : h 46 = .inl (0, 40, md)) (c47 : h 47 = .inl (0, 40, my)) (c48 : h 48 = .inl (0, 40, mt)) {taped fpl hlaw himg : Int} (c0 : h 0 = .inr (8, [.ref 1, iv taped, iv fpl, .ref 2, .ref 3, .ref 4, .ref 5, .ref 6, .ref 17, .ref 28, .ref 34, iv hlaw, .ref 40, .ref 49, iv himg, .ref 58, .ref 62, .ref 65, .ref 66, .ref 67])) {t : Int × Int × Int × Int} {s : Int × Int × Int} {dr : Int} (c62 : h 62 = TAL t s dr) (pi : PInv nd sw nc K U I O G L cf ct fc nx cd) (ni : NInv nr ns nm rd ry rm rt se md my mt) {di : Int} (hdi : 0 ≤ di ∧ di < 9)  {m : Int} (hm : 0 ≤ m ∧ m < 1440) : ∀ (w k : Nat), k + w = 365 → Ev RX8 "tallyYear" cX8_tallyYear 4 none 7 0 0 (RetV (va_up h 62 (TAL (yT (fun d => nowI sw nc nm K U I O G L cf ct cd md my mt di d m) m 365) s0 dr))) noX 97 (va_up h 62 (TAL (yT (fun d => nowI sw nc nm K U I O G L cf ct cd md my mt di d m) m k) s0 dr)) 9 [(0, .ref 0), (1, iv di), (2, iv m), (3, iv k)] [] := by
  obtain ⟨pnd, psw, pnc, pK, pU, pI, pO, pG, pL, pcf, pct, pfc, pnx⟩ := id pi
  obtain ⟨pnr, pns, pnm, prd, pry, prm, prt, pse, pmd, pmy, pmt⟩ := id ni
  intro w
  induction w with
  | zero =>
    intro k hk
    obtain rfl : k = 365 := by omega
    refine r_iload_n dX8_tallyYear_9 rfl rfl ?_
    refine r_sipush dX8_tallyYear_10 rfl ?_
    refine r_icmp_ge (tgt := 38) dX8_tallyYear_13 (by decide) ⟨by omega, by omega⟩ ⟨by omega, by omega⟩ (fun g13 => ?_) (fun g13 => absurd g13 (by omega))
    refine r_vret dX8_tallyYear_38 ?_
    exact ⟨rfl, rfl, rfl⟩
  | succ w ih =>
    intro k hk
    have b1 := yT_B (now := (fun d => nowI sw nc nm K U I O G L cf ct cd md my mt di d m)) (fun _ => now_B _ _ _ _ _ _ _ _ _ _ _ _ _ _ _ _ _ _) hm k
    have b2 := now_B sw nc nm K U I O G L cf ct cd md my mt di k m
    refine r_iload_n dX8_tallyYear_9 rfl rfl ?_
    refine r_sipush dX8_tallyYear_10 rfl ?_
    refine r_icmp_ge (tgt := 38) dX8_tallyYear_13 (by decide) ⟨by omega, by omega⟩ ⟨by omega, by omega⟩ (fun g13 => absurd g13 (by omega)) (fun g13 => ?_)
    refine r_aload_n dX8_tallyYear_16 rfl rfl ?_
    refine r_get (fs := [_, _, _, _, _, _, _, _, _, _, _, _, _, _, _, _, _, _, _, _]) dX8_tallyYear_17 fl_X8_92 (by decide) c0 rfl ?_
    refine r_iload_n dX8_tallyYear_20 rfl rfl ?_
    refine r_aload_n dX8_tallyYear_21 rfl rfl ?_
    refine r_iload_n dX8_tallyYear_22 rfl rfl ?_
    refine r_iload_n dX8_tallyYear_23 rfl rfl ?_
    refine r_iload_n dX8_tallyYear_24 rfl rfl ?_
    refine r_callV 0 [_, _, _] (s_X8_toldNow (by exact c6) (by exact c7) (by exact c8) (by exact c9) (by exact c10) (by exact c11) (by exact c12) (by exact c13) (by exact c14) (by exact c15) (by exact c16) (by exact c40) (by exact c41) (by exact c42) (by exact c43) (by exact c44) (by exact c45) (by exact c46) (by exact c47) (by exact c48) (by exact c0) pi ni (by omega) (by omega) (by omega)) dX8_tallyYear_25 cs_X8_234 im_X8_toldNow (by decide) c0 rfl (by decide) (by decide) (by decide) rfl rfl (Nat.le_of_ble_eq_true rfl) (fun _ _ _ q => q.elim) (fun v n2 h2 q => ?_)
    obtain ⟨rfl, rfl, hh⟩ := q
    obtain rfl := hh.symm
    refine ⟨rfl, ?_⟩
    dsimp only [Option.toList, List.cons_append, List.nil_append]
    refine r_iload_n dX8_tallyYear_28 rfl rfl ?_
    refine r_callV 62 [_, _, _] (s_X7_add (by rfl) (by omega) hm (by omega)) dX8_tallyYear_29 cs_X8_164 im_X7_add (by decide) rfl rfl (by decide) (by decide) (by decide) rfl rfl (Nat.le_of_ble_eq_true rfl) (fun _ _ _ q => q.elim) (fun v n2 h2 q => ?_)
    obtain ⟨rfl, rfl, hh⟩ := q
    obtain rfl := hh.symm
    refine ⟨rfl, ?_⟩
    dsimp only [Option.toList, List.cons_append, List.nil_append]
    refine r_iinc (lv2 := [(0, _), (1, _), (2, _), (3, _)]) dX8_tallyYear_32 (by decide) rfl rfl rfl ?_
    refine r_goto (tgt := 9) dX8_tallyYear_35 (by decide) ?_
    have hi := ih (k + 1) (by omega)
    rw [bx_uu, show (k : Int) + 1 = ((k + 1 : Nat) : Int) by omega]
    exact hi

theorem s_X8_tallyYear {h : aH} {nd sw nc : Int} {K U I O G L cf ct fc nx cd : Nat → Int} (c6 : h 6 = .inr (4, [iv nd, iv sw, iv nc, .ref 7, .ref 8, .ref 9, .ref 10, .ref 11, .ref 12, .ref 13, .ref 14, .ref 15, .ref 16])) (c7 : h 7 = .inl (0, 9, K)) (c8 : h 8 = .inl (0, 9, U)) (c9 : h 9 = .inl (0, 9, I)) (c10 : h 10 = .inl (0, 9, O)) (c11 : h 11 = .inl (0, 9, G)) (c12 : h 12 = .inl (0, 12, L)) (c13 : h 13 = .inl (0, 20, cf)) (c14 : h 14 = .inl (0, 20, ct)) (c15 : h 15 = .inl (0, 365, fc)) (c16 : h 16 = .inl (0, 20, nx)) {nr ns nm : Int} {rd ry rm rt se md my mt : Nat → Int} (c40 : h 40 = .inr (3, [iv nr, iv ns, iv nm, .ref 41, .ref 42, .ref 43, .ref 44, .ref 45, .ref 46, .ref 47, .ref 48])) (c41 : h 41 = .inl (0, 12, rd)) (c42 : h 42 = .inl (0, 12, ry)) (c43 : h 43 = .inl (0, 12, rm)) (c44 : h 44 = .inl (0, 12, rt)) (c45 : h 45 = .inl (0, 9, se)) (c46 : h 46 = .inl (0, 40, md)) (c47 : h 47 = .inl (0, 40, my)) (c48 : h 48 = .inl (0, 40, mt)) {taped fpl hlaw himg : Int} (c0 : h 0 = .inr (8, [.ref 1, iv taped, iv fpl, .ref 2, .ref 3, .ref 4, .ref 5, .ref 6, .ref 17, .ref 28, .ref 34, iv hlaw, .ref 40, .ref 49, iv himg, .ref 58, .ref 62, .ref 65, .ref 66, .ref 67])) {t : Int × Int × Int × Int} {s : Int × Int × Int} {dr : Int} (c62 : h 62 = TAL t s dr) (pi : PInv nd sw nc K U I O G L cf ct fc nx cd) (ni : NInv nr ns nm rd ry rm rt se md my mt) {di : Int} (hdi : 0 ≤ di ∧ di < 9)  {m : Int} (hm : 0 ≤ m ∧ m < 1440) : mSem yX8_tallyYear cX8_tallyYear 4 none 7 0 0 [.ref 0, iv di, iv m] 97 h (RetV (va_up h 62 (TAL (yT (fun d => nowI sw nc nm K U I O G L cf ct cd md my mt di d m) m 365) s0 dr))) noX := by
  obtain ⟨pnd, psw, pnc, pK, pU, pI, pO, pG, pL, pcf, pct, pfc, pnx⟩ := id pi
  obtain ⟨pnr, pns, pnm, prd, pry, prm, prt, pse, pmd, pmy, pmt⟩ := id ni
  refine mSem_of (own := RX8) (name := "tallyYear") pn_X8 rfl rfl (Nat.le_of_ble_eq_true rfl) ?_
  refine r_aload_n dX8_tallyYear_0 rfl rfl ?_
  refine r_get (fs := [_, _, _, _, _, _, _, _, _, _, _, _, _, _, _, _, _, _, _, _]) dX8_tallyYear_1 fl_X8_92 (by decide) c0 rfl ?_
  refine r_callV 62 [] (s_X7_clear c62) dX8_tallyYear_4 cs_X8_163 im_X7_clear (by decide) c62 rfl (by decide) (by decide) (by decide) rfl rfl (Nat.le_of_ble_eq_true rfl) (fun _ _ _ q => q.elim) (fun v n2 h2 q => ?_)
  obtain ⟨rfl, rfl, hh⟩ := q
  obtain rfl := hh.symm
  refine ⟨rfl, ?_⟩
  dsimp only [Option.toList, List.cons_append, List.nil_append]
  refine r_iconst dX8_tallyYear_7 ?_
  refine r_istore_n (lv2 := [(0, _), (1, _), (2, _), (3, _)]) dX8_tallyYear_8 rfl (by decide) rfl rfl ?_
  exact l_X8_tallyYear c6 c7 c8 c9 c10 c11 c12 c13 c14 c15 c16 c40 c41 c42 c43 c44 c45 c46 c47 c48 c0 c62 pi ni hdi hm 365 0 (by omega)

def momN (sw nc nm : Int) (K U I O G L cf ct cd md my mt : Nat → Int) (di day told : Int) : List Int := momI (K di.toNat) (I di.toNat) (O di.toNat) (turnI md my mt di day (U di.toNat) nm.toNat) told (fun a => minAtI (K di.toNat) day a (noonI L day) (halfI sw day)) (fun m => decide (nowI sw nc nm K U I O G L cf ct cd md my mt di day m = told))
theorem gath_B {mi : Int → Int} {ok : Int → Bool} (hm : ∀ a, -1 ≤ mi a ∧ mi a < 1440) : ∀ (k : Nat) (a : Int), ∀ x ∈ gath mi ok a k, 0 ≤ x ∧ x < 1440 := by
  intro k
  induction k with
  | zero => intro a x hx; exact absurd hx List.not_mem_nil
  | succ k ih =>
    intro a x hx
    unfold gath at hx
    split at hx
    · next h =>
      rcases List.mem_cons.mp hx with rfl | hx
      · have := hm a; have := h.1; omega
      · exact ih _ x hx
    · exact ih _ x hx
theorem mom_B {sw nc nm : Int} {K U I O G L cf ct cd md my mt : Nat → Int} {di day told : Int} (hs : 0 ≤ sw ∧ sw ≤ 240) (hL : ∀ j, -30 ≤ L j ∧ L j ≤ 30) (hd : 0 ≤ day ∧ day < 365) : (momN sw nc nm K U I O G L cf ct cd md my mt di day told).length ≤ 14 ∧ ∀ x ∈ momN sw nc nm K U I O G L cf ct cd md my mt di day told, 0 ≤ x ∧ x < 1440 := by
  have hm : ∀ a, -1 ≤ minAtI (K di.toNat) day a (noonI L day) (halfI sw day) ∧ minAtI (K di.toNat) day a (noonI L day) (halfI sw day) < 1440 := fun a => minAt_B (noon_B hL) (half_B hs hd)
  refine ⟨?_, fun x hx => ?_⟩
  · have e : (momN sw nc nm K U I O G L cf ct cd md my mt di day told).length = (gath _ _ _ 7).length + (gath _ _ _ 7).length := List.length_append
    rw [e]
    exact Nat.add_le_add (gath_len _ _ 7 _) (gath_len _ _ 7 _)
  · rcases List.mem_append.mp hx with hx | hx
    · exact gath_B hm _ _ x hx
    · exact gath_B hm _ _ x hx
theorem putL_get (l : List Int) : ∀ (f : Nat → Int) (i j : Nat), putL f i l j = if i ≤ j ∧ j < i + l.length then l.getD (j - i) 0 else f j := by
  induction l with
  | nil => intro f i j; rw [if_neg (by simp only [List.length_nil]; omega)]; rfl
  | cons x r ih =>
    intro f i j
    show putL (va_up f i x) (i + 1) r j = _
    rw [ih]
    by_cases h1 : i + 1 ≤ j ∧ j < i + 1 + r.length
    · rw [if_pos h1, if_pos (by simp only [List.length_cons]; omega)]
      obtain ⟨q, rfl⟩ : ∃ q, j = i + 1 + q := ⟨j - (i + 1), by omega⟩
      rw [show i + 1 + q - (i + 1) = q by omega, show i + 1 + q - i = q + 1 by omega]
      rfl
    · rw [if_neg h1]
      by_cases h2 : j = i
      · subst h2
        rw [if_pos (by simp only [List.length_cons]; omega), Nat.sub_self]
        simp [va_up]
      · rw [if_neg (by simp only [List.length_cons]; omega)]
        simp [va_up, h2]
/-- the first k of a row: the least; -1: none -/
def fmS (g : Nat → Int) : Nat → Int
  | 0 => -1
  | k + 1 => if fmS g k = -1 ∨ g k < fmS g k then g k else fmS g k
theorem fmS_s (g : Nat → Int) (k : Nat) : fmS g (k + 1) = if fmS g k = -1 ∨ g k < fmS g k then g k else fmS g k := rfl
theorem fmS_congr {g g2 : Nat → Int} : ∀ k, (∀ j, j < k → g j = g2 j) → fmS g k = fmS g2 k := by
  intro k
  induction k with
  | zero => intro _; rfl
  | succ k ih => intro h; rw [fmS_s, fmS_s, ih (fun j hj => h j (by omega)), h k (by omega)]
theorem fmS_B {g : Nat → Int} : ∀ k, (∀ j, j < k → 0 ≤ g j ∧ g j < 1440) → -1 ≤ fmS g k ∧ fmS g k < 1440 := by
  intro k
  induction k with
  | zero => intro _; exact ⟨by show (-1 : Int) ≤ -1; decide, by show (-1 : Int) < 1440; decide⟩
  | succ k ih =>
    intro h
    have h1 := ih (fun j hj => h j (by omega))
    have h2 := h k (by omega)
    rw [fmS_s]
    split <;> omega
def fstI (l : List Int) : Int := fmS (fun i => l.getD i 0) l.length
theorem getD_B {l : List Int} (hl : ∀ x ∈ l, 0 ≤ x ∧ x < 1440) (i : Nat) (hi : i < l.length) : 0 ≤ l.getD i 0 ∧ l.getD i 0 < 1440 := by
  have e : l.getD i 0 = l[i] := by simp [hi]
  rw [e]
  exact hl _ (List.getElem_mem hi)
def frsN (sw nc nm : Int) (K U I O G L cf ct cd md my mt : Nat → Int) (di day told : Int) : Int := if K di.toNat = 5 then (if nowI sw nc nm K U I O G L cf ct cd md my mt di day 0 = told then 0 else -1) else fstI (momN sw nc nm K U I O G L cf ct cd md my mt di day told)
theorem frs_B {sw nc nm : Int} {K U I O G L cf ct cd md my mt : Nat → Int} {di day told : Int} (hs : 0 ≤ sw ∧ sw ≤ 240) (hL : ∀ j, -30 ≤ L j ∧ L j ≤ 30) (hd : 0 ≤ day ∧ day < 365) : -1 ≤ frsN sw nc nm K U I O G L cf ct cd md my mt di day told ∧ frsN sw nc nm K U I O G L cf ct cd md my mt di day told < 1440 := by
  unfold frsN
  split
  · split <;> omega
  · exact fmS_B _ (getD_B (mom_B hs hL hd).2)

theorem l_X8_firstMoment {h : aH} {nd sw nc : Int} {K U I O G L cf ct fc nx cd : Nat → Int} (c6 : h 6 = .inr (4, [iv nd, iv sw, iv nc, .ref 7, .ref 8, .ref 9, .ref 10, .ref 11, .ref 12, .ref 13, .ref 14, .ref 15, .ref 16])) (c7 : h 7 = .inl (0, 9, K)) (c8 : h 8 = .inl (0, 9, U)) (c9 : h 9 = .inl (0, 9, I)) (c10 : h 10 = .inl (0, 9, O)) (c11 : h 11 = .inl (0, 9, G)) (c12 : h 12 = .inl (0, 12, L)) (c13 : h 13 = .inl (0, 20, cf)) (c14 : h 14 = .inl (0, 20, ct)) (c15 : h 15 = .inl (0, 365, fc)) (c16 : h 16 = .inl (0, 20, nx)) {nr ns nm : Int} {rd ry rm rt se md my mt : Nat → Int} (c40 : h 40 = .inr (3, [iv nr, iv ns, iv nm, .ref 41, .ref 42, .ref 43, .ref 44, .ref 45, .ref 46, .ref 47, .ref 48])) (c41 : h 41 = .inl (0, 12, rd)) (c42 : h 42 = .inl (0, 12, ry)) (c43 : h 43 = .inl (0, 12, rm)) (c44 : h 44 = .inl (0, 12, rt)) (c45 : h 45 = .inl (0, 9, se)) (c46 : h 46 = .inl (0, 40, md)) (c47 : h 47 = .inl (0, 40, my)) (c48 : h 48 = .inl (0, 40, mt)) {taped fpl hlaw himg : Int} (c0 : h 0 = .inr (8, [.ref 1, iv taped, iv fpl, .ref 2, .ref 3, .ref 4, .ref 5, .ref 6, .ref 17, .ref 28, .ref 34, iv hlaw, .ref 40, .ref 49, iv himg, .ref 58, .ref 62, .ref 65, .ref 66, .ref 67])) (pi : PInv nd sw nc K U I O G L cf ct fc nx cd) (ni : NInv nr ns nm rd ry rm rt se md my mt) {g : Nat → Int} {N : Nat} (hN : N ≤ 14) (hg : ∀ j, j < N → 0 ≤ g j ∧ g j < 1440) {di day x : Int} : ∀ (w k : Nat), k + w = N → Ev RX8 "firstMoment" cX8_firstMoment 7 (some .int) 7 0 0 (Ret (fmS g N) (va_up h 67 (.inl (0, 14, g)))) noX 97 (va_up h 67 (.inl (0, 14, g))) 58 [(0, .ref 0), (1, iv di), (2, iv day), (3, iv x), (4, iv N), (5, iv (fmS g k)), (6, iv k)] [] := by
  intro w
  induction w with
  | zero =>
    intro k hk
    obtain rfl : k = N := by omega
    have b1 := fmS_B k hg
    refine r_iload dX8_firstMoment_58 rfl ?_
    refine r_iload dX8_firstMoment_60 rfl ?_
    refine r_icmp_ge (tgt := 108) dX8_firstMoment_62 (by decide) ⟨by omega, by omega⟩ ⟨by omega, by omega⟩ (fun g62 => ?_) (fun g62 => absurd g62 (by omega))
    refine r_iload dX8_firstMoment_108 rfl ?_
    refine r_iret dX8_firstMoment_110 ?_
    exact ⟨rfl, rfl, rfl⟩
  | succ w ih =>
    intro k hk
    have b1 := fmS_B k (fun j hj => hg j (by omega))
    have b2 := hg k (by omega)
    have hi := ih (k + 1) (by omega)
    rw [fmS_s] at hi
    refine r_iload dX8_firstMoment_58 rfl ?_
    refine r_iload dX8_firstMoment_60 rfl ?_
    refine r_icmp_ge (tgt := 108) dX8_firstMoment_62 (by decide) ⟨by omega, by omega⟩ ⟨by omega, by omega⟩ (fun g62 => absurd g62 (by omega)) (fun g62 => ?_)
    refine r_iload dX8_firstMoment_65 rfl ?_
    refine r_aload_n dX8_firstMoment_67 rfl rfl ?_
    refine r_get (fs := [_, _, _, _, _, _, _, _, _, _, _, _, _, _, _, _, _, _, _, _]) dX8_firstMoment_68 fl_X8_102 (by decide) c0 rfl ?_
    refine r_alen dX8_firstMoment_71 (by decide) rfl (by decide) ?_
    refine r_icmp_ge (tgt := 108) dX8_firstMoment_72 (by decide) ⟨by omega, by omega⟩ ⟨by omega, by omega⟩ (fun g72 => absurd g72 (by omega)) (fun g72 => ?_)
    refine r_iload dX8_firstMoment_75 rfl ?_
    refine r_iconst dX8_firstMoment_77 ?_
    refine r_icmp_eq (tgt := 93) dX8_firstMoment_78 (by decide) ⟨by omega, by omega⟩ ⟨by omega, by omega⟩ (fun g78 => ?_) (fun g78 => ?_)
    · refine r_aload_n dX8_firstMoment_93 rfl rfl ?_
      refine r_get (fs := [_, _, _, _, _, _, _, _, _, _, _, _, _, _, _, _, _, _, _, _]) dX8_firstMoment_94 fl_X8_102 (by decide) c0 rfl ?_
      refine r_iload dX8_firstMoment_97 rfl ?_
      refine r_ald dX8_firstMoment_99 (by decide) rfl (by omega) (by omega) (by decide) ?_
      rw [Int.toNat_natCast]
      refine r_istore (lv2 := [(0, _), (1, _), (2, _), (3, _), (4, _), (5, _), (6, _)]) dX8_firstMoment_100 (by decide) rfl rfl ?_
      refine r_iinc (lv2 := [(0, _), (1, _), (2, _), (3, _), (4, _), (5, _), (6, _)]) dX8_firstMoment_102 (by decide) rfl rfl rfl ?_
      refine r_goto (tgt := 58) dX8_firstMoment_105 (by decide) ?_
      rw [show (k : Int) + 1 = ((k + 1 : Nat) : Int) by omega]
      first
        | (rw [if_pos (by omega)] at hi
           exact hi)
        | (rw [if_neg (by omega)] at hi
           exact hi)
    · refine r_aload_n dX8_firstMoment_81 rfl rfl ?_
      refine r_get (fs := [_, _, _, _, _, _, _, _, _, _, _, _, _, _, _, _, _, _, _, _]) dX8_firstMoment_82 fl_X8_102 (by decide) c0 rfl ?_
      refine r_iload dX8_firstMoment_85 rfl ?_
      refine r_ald dX8_firstMoment_87 (by decide) rfl (by omega) (by omega) (by decide) ?_
      rw [Int.toNat_natCast]
      refine r_iload dX8_firstMoment_88 rfl ?_
      refine r_icmp_ge (tgt := 102) dX8_firstMoment_90 (by decide) ⟨by omega, by omega⟩ ⟨by omega, by omega⟩ (fun g90 => ?_) (fun g90 => ?_)
      · refine r_iinc (lv2 := [(0, _), (1, _), (2, _), (3, _), (4, _), (5, _), (6, _)]) dX8_firstMoment_102 (by decide) rfl rfl rfl ?_
        refine r_goto (tgt := 58) dX8_firstMoment_105 (by decide) ?_
        rw [show (k : Int) + 1 = ((k + 1 : Nat) : Int) by omega]
        first
          | (rw [if_pos (by omega)] at hi
             exact hi)
          | (rw [if_neg (by omega)] at hi
             exact hi)
      · refine r_aload_n dX8_firstMoment_93 rfl rfl ?_
        refine r_get (fs := [_, _, _, _, _, _, _, _, _, _, _, _, _, _, _, _, _, _, _, _]) dX8_firstMoment_94 fl_X8_102 (by decide) c0 rfl ?_
        refine r_iload dX8_firstMoment_97 rfl ?_
        refine r_ald dX8_firstMoment_99 (by decide) rfl (by omega) (by omega) (by decide) ?_
        rw [Int.toNat_natCast]
        refine r_istore (lv2 := [(0, _), (1, _), (2, _), (3, _), (4, _), (5, _), (6, _)]) dX8_firstMoment_100 (by decide) rfl rfl ?_
        refine r_iinc (lv2 := [(0, _), (1, _), (2, _), (3, _), (4, _), (5, _), (6, _)]) dX8_firstMoment_102 (by decide) rfl rfl rfl ?_
        refine r_goto (tgt := 58) dX8_firstMoment_105 (by decide) ?_
        rw [show (k : Int) + 1 = ((k + 1 : Nat) : Int) by omega]
        first
          | (rw [if_pos (by omega)] at hi
             exact hi)
          | (rw [if_neg (by omega)] at hi
             exact hi)

theorem s_X8_firstMoment {h : aH} {nd sw nc : Int} {K U I O G L cf ct fc nx cd : Nat → Int} (c6 : h 6 = .inr (4, [iv nd, iv sw, iv nc, .ref 7, .ref 8, .ref 9, .ref 10, .ref 11, .ref 12, .ref 13, .ref 14, .ref 15, .ref 16])) (c7 : h 7 = .inl (0, 9, K)) (c8 : h 8 = .inl (0, 9, U)) (c9 : h 9 = .inl (0, 9, I)) (c10 : h 10 = .inl (0, 9, O)) (c11 : h 11 = .inl (0, 9, G)) (c12 : h 12 = .inl (0, 12, L)) (c13 : h 13 = .inl (0, 20, cf)) (c14 : h 14 = .inl (0, 20, ct)) (c15 : h 15 = .inl (0, 365, fc)) (c16 : h 16 = .inl (0, 20, nx)) {nr ns nm : Int} {rd ry rm rt se md my mt : Nat → Int} (c40 : h 40 = .inr (3, [iv nr, iv ns, iv nm, .ref 41, .ref 42, .ref 43, .ref 44, .ref 45, .ref 46, .ref 47, .ref 48])) (c41 : h 41 = .inl (0, 12, rd)) (c42 : h 42 = .inl (0, 12, ry)) (c43 : h 43 = .inl (0, 12, rm)) (c44 : h 44 = .inl (0, 12, rt)) (c45 : h 45 = .inl (0, 9, se)) (c46 : h 46 = .inl (0, 40, md)) (c47 : h 47 = .inl (0, 40, my)) (c48 : h 48 = .inl (0, 40, mt)) {taped fpl hlaw himg : Int} (c0 : h 0 = .inr (8, [.ref 1, iv taped, iv fpl, .ref 2, .ref 3, .ref 4, .ref 5, .ref 6, .ref 17, .ref 28, .ref 34, iv hlaw, .ref 40, .ref 49, iv himg, .ref 58, .ref 62, .ref 65, .ref 66, .ref 67])) {mf : Nat → Int} (c67 : h 67 = .inl (0, 14, mf)) (pi : PInv nd sw nc K U I O G L cf ct fc nx cd) (ni : NInv nr ns nm rd ry rm rt se md my mt) {di : Int} (hdi : 0 ≤ di ∧ di < 9) {day : Int} (hd : 0 ≤ day ∧ day < 365) {x : Int} (hx : 0 ≤ x ∧ x < 1440) : mSem yX8_firstMoment cX8_firstMoment 7 (some .int) 7 0 0 [.ref 0, iv di, iv day, iv x] 97 h (RetM (frsN sw nc nm K U I O G L cf ct cd md my mt di day x) h) noX := by
  obtain ⟨pnd, psw, pnc, pK, pU, pI, pO, pG, pL, pcf, pct, pfc, pnx⟩ := id pi
  obtain ⟨pnr, pns, pnm, prd, pry, prm, prt, pse, pmd, pmy, pmt⟩ := id ni
  refine mSem_of (own := RX8) (name := "firstMoment") pn_X8 rfl rfl (Nat.le_of_ble_eq_true rfl) ?_
  have bI := pI di.toNat
  have bK := pK di.toNat
  have bT := turn_B (md := md) (my := my) (di := di) (day := day) (pU di.toNat) pmt nm.toNat
  have b0 := now_B sw nc nm K U I O G L cf ct cd md my mt di day 0
  refine r_aload_n dX8_firstMoment_0 rfl rfl ?_
  refine r_get (fs := [_, _, _, _, _, _, _, _, _, _, _, _, _, _, _, _, _, _, _, _]) dX8_firstMoment_1 fl_X8_48 (by decide) c0 rfl ?_
  refine r_get (fs := [_, _, _, _, _, _, _, _, _, _, _, _, _]) dX8_firstMoment_4 fl_X8_212 (by decide) c6 rfl ?_
  refine r_iload_n dX8_firstMoment_7 rfl rfl ?_
  refine r_ald dX8_firstMoment_8 (by decide) c7 (by omega) (by omega) (by decide) ?_
  refine r_iconst dX8_firstMoment_9 ?_
  refine r_icmp_ne (tgt := 30) dX8_firstMoment_10 (by decide) ⟨by omega, by omega⟩ ⟨by omega, by omega⟩ (fun g10 => ?_) (fun g10 => ?_)
  · refine r_aload_n dX8_firstMoment_30 rfl rfl ?_
    refine r_get (fs := [_, _, _, _, _, _, _, _, _, _, _, _, _, _, _, _, _, _, _, _]) dX8_firstMoment_31 fl_X8_48 (by decide) c0 rfl ?_
    refine r_iload_n dX8_firstMoment_34 rfl rfl ?_
    refine r_iload_n dX8_firstMoment_35 rfl rfl ?_
    refine r_iload_n dX8_firstMoment_36 rfl rfl ?_
    refine r_aload_n dX8_firstMoment_37 rfl rfl ?_
    refine r_iload_n dX8_firstMoment_38 rfl rfl ?_
    refine r_iload_n dX8_firstMoment_39 rfl rfl ?_
    refine r_callV 0 [_, _] (s_X8_turnOn c6 c7 c8 c9 c10 c11 c12 c13 c14 c15 c16 c40 c41 c42 c43 c44 c45 c46 c47 c48 c0 pi ni (by omega) (by omega)) dX8_firstMoment_40 cs_X8_238 im_X8_turnOn (by decide) c0 rfl (by decide) (by decide) (by decide) rfl rfl (Nat.le_of_ble_eq_true rfl) (fun _ _ _ q => q.elim) (fun v n2 h2 q => ?_)
    obtain ⟨rfl, rfl, hh⟩ := q
    obtain rfl := hh.symm
    refine ⟨rfl, ?_⟩
    dsimp only [Option.toList, List.cons_append, List.nil_append]
    refine r_aload_n dX8_firstMoment_43 rfl rfl ?_
    refine r_get (fs := [_, _, _, _, _, _, _, _, _, _, _, _, _, _, _, _, _, _, _, _]) dX8_firstMoment_44 fl_X8_102 (by decide) c0 rfl ?_
    refine r_callV 6 [_, _, _, _, .ref 67] (s_X4_findMoments c6 c7 c8 c9 c10 c11 c12 c13 c14 c15 c16 pi c67 (by omega) hd (by omega) (by omega)) dX8_firstMoment_47 cs_X8_301 im_X4_findMoments (by decide) c6 rfl (by decide) (by decide) (by decide) rfl rfl (Nat.le_of_ble_eq_true rfl) (fun _ _ _ q => q.elim) (fun v n2 h2 q => ?_)
    obtain ⟨rfl, rfl, hh⟩ := q
    obtain rfl := hh.symm
    refine ⟨rfl, ?_⟩
    dsimp only [Option.toList, List.cons_append, List.nil_append]
    refine r_istore (lv2 := [(0, _), (1, _), (2, _), (3, _), (4, _)]) dX8_firstMoment_50 (by decide) rfl rfl ?_
    refine r_iconst dX8_firstMoment_52 ?_
    refine r_istore (lv2 := [(0, _), (1, _), (2, _), (3, _), (4, _), (5, _)]) dX8_firstMoment_53 (by decide) rfl rfl ?_
    refine r_iconst dX8_firstMoment_55 ?_
    refine r_istore (lv2 := [(0, _), (1, _), (2, _), (3, _), (4, _), (5, _), (6, _)]) dX8_firstMoment_56 (by decide) rfl rfl ?_
    obtain ⟨m1, m2⟩ := mom_B (nc := nc) (nm := nm) (K := K) (U := U) (I := I) (O := O) (G := G) (cf := cf) (ct := ct) (cd := cd) (md := md) (my := my) (mt := mt) (di := di) (told := x) psw pL hd
    have e1 : ∀ j, j < (momN sw nc nm K U I O G L cf ct cd md my mt di day x).length → putL mf 0 (momN sw nc nm K U I O G L cf ct cd md my mt di day x) j = (momN sw nc nm K U I O G L cf ct cd md my mt di day x).getD j 0 := fun j hj => by rw [putL_get, if_pos (by omega), Nat.sub_zero]
    have hk := l_X8_firstMoment c6 c7 c8 c9 c10 c11 c12 c13 c14 c15 c16 c40 c41 c42 c43 c44 c45 c46 c47 c48 c0 pi ni (g := putL mf 0 (momN sw nc nm K U I O G L cf ct cd md my mt di day x)) m1 (fun j hj => by rw [e1 j hj]; exact getD_B m2 j hj) (di := di) (day := day) (x := x) _ 0 (Nat.zero_add _)
    rw [fmS_congr _ e1] at hk
    refine ev_post hk (fun v n2 h2 q => ?_) (fun _ _ _ q => q)
    obtain ⟨rfl, rfl, rfl⟩ := q
    exact ⟨ivE (by unfold frsN; rw [if_neg g10]; rfl), rfl, _, rfl⟩
  · refine r_aload_n dX8_firstMoment_13 rfl rfl ?_
    refine r_iload_n dX8_firstMoment_14 rfl rfl ?_
    refine r_iload_n dX8_firstMoment_15 rfl rfl ?_
    refine r_iconst dX8_firstMoment_16 ?_
    refine r_callV 0 [_, _, _] (s_X8_toldNow c6 c7 c8 c9 c10 c11 c12 c13 c14 c15 c16 c40 c41 c42 c43 c44 c45 c46 c47 c48 c0 pi ni (by omega) (by omega) (by omega)) dX8_firstMoment_17 cs_X8_234 im_X8_toldNow (by decide) c0 rfl (by decide) (by decide) (by decide) rfl rfl (Nat.le_of_ble_eq_true rfl) (fun _ _ _ q => q.elim) (fun v n2 h2 q => ?_)
    obtain ⟨rfl, rfl, hh⟩ := q
    obtain rfl := hh.symm
    refine ⟨rfl, ?_⟩
    dsimp only [Option.toList, List.cons_append, List.nil_append]
    refine r_iload_n dX8_firstMoment_20 rfl rfl ?_
    refine r_icmp_ne (tgt := 28) dX8_firstMoment_21 (by decide) ⟨by omega, by omega⟩ ⟨by omega, by omega⟩ (fun g21 => ?_) (fun g21 => ?_)
    · refine r_iconst dX8_firstMoment_28 ?_
      refine r_iret dX8_firstMoment_29 ?_
      exact ⟨ivE (by unfold frsN; rw [if_pos g10]; first | rw [if_pos g21] | rw [if_neg g21]), rfl, mf, up_same c67⟩
    · refine r_iconst dX8_firstMoment_24 ?_
      refine r_goto (tgt := 29) dX8_firstMoment_25 (by decide) ?_
      refine r_iret dX8_firstMoment_29 ?_
      exact ⟨ivE (by unfold frsN; rw [if_pos g10]; first | rw [if_pos g21] | rw [if_neg g21]), rfl, mf, up_same c67⟩

def latI (a b : Int) : Int := if a = -1 ∨ b = -1 then -1 else ((a - b).natAbs : Int)
theorem s_X8_lateOn {h : aH} {nd sw nc : Int} {K U I O G L cf ct fc nx cd : Nat → Int} (c6 : h 6 = .inr (4, [iv nd, iv sw, iv nc, .ref 7, .ref 8, .ref 9, .ref 10, .ref 11, .ref 12, .ref 13, .ref 14, .ref 15, .ref 16])) (c7 : h 7 = .inl (0, 9, K)) (c8 : h 8 = .inl (0, 9, U)) (c9 : h 9 = .inl (0, 9, I)) (c10 : h 10 = .inl (0, 9, O)) (c11 : h 11 = .inl (0, 9, G)) (c12 : h 12 = .inl (0, 12, L)) (c13 : h 13 = .inl (0, 20, cf)) (c14 : h 14 = .inl (0, 20, ct)) (c15 : h 15 = .inl (0, 365, fc)) (c16 : h 16 = .inl (0, 20, nx)) {nr ns nm : Int} {rd ry rm rt se md my mt : Nat → Int} (c40 : h 40 = .inr (3, [iv nr, iv ns, iv nm, .ref 41, .ref 42, .ref 43, .ref 44, .ref 45, .ref 46, .ref 47, .ref 48])) (c41 : h 41 = .inl (0, 12, rd)) (c42 : h 42 = .inl (0, 12, ry)) (c43 : h 43 = .inl (0, 12, rm)) (c44 : h 44 = .inl (0, 12, rt)) (c45 : h 45 = .inl (0, 9, se)) (c46 : h 46 = .inl (0, 40, md)) (c47 : h 47 = .inl (0, 40, my)) (c48 : h 48 = .inl (0, 40, mt)) {taped fpl hlaw himg : Int} (c0 : h 0 = .inr (8, [.ref 1, iv taped, iv fpl, .ref 2, .ref 3, .ref 4, .ref 5, .ref 6, .ref 17, .ref 28, .ref 34, iv hlaw, .ref 40, .ref 49, iv himg, .ref 58, .ref 62, .ref 65, .ref 66, .ref 67])) {mf : Nat → Int} (c67 : h 67 = .inl (0, 14, mf)) (pi : PInv nd sw nc K U I O G L cf ct fc nx cd) (ni : NInv nr ns nm rd ry rm rt se md my mt) {a b : Int} (ha : 0 ≤ a ∧ a < 9) (hb : 0 ≤ b ∧ b < 9) {x : Int} (hx : 0 ≤ x ∧ x < 1440) {day : Int} (hd : 0 ≤ day ∧ day < 365) : mSem yX8_lateOn cX8_lateOn 7 (some .int) 8 0 0 [.ref 0, iv a, iv b, iv x, iv day] 97 h (RetM (latI (frsN sw nc nm K U I O G L cf ct cd md my mt a day x) (frsN sw nc nm K U I O G L cf ct cd md my mt b day x)) h) noX := by
  obtain ⟨pnd, psw, pnc, pK, pU, pI, pO, pG, pL, pcf, pct, pfc, pnx⟩ := id pi
  obtain ⟨pnr, pns, pnm, prd, pry, prm, prt, pse, pmd, pmy, pmt⟩ := id ni
  refine mSem_of (own := RX8) (name := "lateOn") pn_X8 rfl rfl (Nat.le_of_ble_eq_true rfl) ?_
  have ba := frs_B (nc := nc) (nm := nm) (K := K) (U := U) (I := I) (O := O) (G := G) (cf := cf) (ct := ct) (cd := cd) (md := md) (my := my) (mt := mt) (di := a) (told := x) psw pL hd
  have bb := frs_B (nc := nc) (nm := nm) (K := K) (U := U) (I := I) (O := O) (G := G) (cf := cf) (ct := ct) (cd := cd) (md := md) (my := my) (mt := mt) (di := b) (told := x) psw pL hd
  refine r_aload_n dX8_lateOn_0 rfl rfl ?_
  refine r_iload_n dX8_lateOn_1 rfl rfl ?_
  refine r_iload dX8_lateOn_2 rfl ?_
  refine r_iload_n dX8_lateOn_4 rfl rfl ?_
  refine r_callV 0 [_, _, _] (s_X8_firstMoment c6 c7 c8 c9 c10 c11 c12 c13 c14 c15 c16 c40 c41 c42 c43 c44 c45 c46 c47 c48 c0 c67 pi ni (by omega) (by omega) (by omega)) dX8_lateOn_5 cs_X8_314 im_X8_firstMoment (by decide) c0 rfl (by decide) (by decide) (by decide) rfl rfl (Nat.le_of_ble_eq_true rfl) (fun _ _ _ q => q.elim) (fun v n2 h2 q => ?_)
  obtain ⟨rfl, rfl, f2, rfl⟩ := q
  refine ⟨rfl, ?_⟩
  dsimp only [Option.toList, List.cons_append, List.nil_append]
  refine r_istore (lv2 := [(0, _), (1, _), (2, _), (3, _), (4, _), (5, _)]) dX8_lateOn_8 (by decide) rfl rfl ?_
  refine r_aload_n dX8_lateOn_10 rfl rfl ?_
  refine r_iload_n dX8_lateOn_11 rfl rfl ?_
  refine r_iload dX8_lateOn_12 rfl ?_
  refine r_iload_n dX8_lateOn_14 rfl rfl ?_
  refine r_callV 0 [_, _, _] (s_X8_firstMoment (by exact c6) (by exact c7) (by exact c8) (by exact c9) (by exact c10) (by exact c11) (by exact c12) (by exact c13) (by exact c14) (by exact c15) (by exact c16) (by exact c40) (by exact c41) (by exact c42) (by exact c43) (by exact c44) (by exact c45) (by exact c46) (by exact c47) (by exact c48) (by exact c0) (by rfl) pi ni (by omega) (by omega) (by omega)) dX8_lateOn_15 cs_X8_314 im_X8_firstMoment (by decide) c0 rfl (by decide) (by decide) (by decide) rfl rfl (Nat.le_of_ble_eq_true rfl) (fun _ _ _ q => q.elim) (fun v n2 h2 q => ?_)
  obtain ⟨rfl, rfl, f2, rfl⟩ := q
  refine ⟨rfl, ?_⟩
  dsimp only [Option.toList, List.cons_append, List.nil_append]
  refine r_istore (lv2 := [(0, _), (1, _), (2, _), (3, _), (4, _), (5, _), (6, _)]) dX8_lateOn_18 (by decide) rfl rfl ?_
  refine r_iload dX8_lateOn_20 rfl ?_
  refine r_iconst dX8_lateOn_22 ?_
  refine r_icmp_eq (tgt := 32) dX8_lateOn_23 (by decide) ⟨by omega, by omega⟩ ⟨by omega, by omega⟩ (fun g23 => ?_) (fun g23 => ?_)
  · refine r_iconst dX8_lateOn_32 ?_
    refine r_iret dX8_lateOn_33 ?_
    exact ⟨ivE (by unfold latI; rw [if_pos (by omega)]), rfl, _, bx_uu _ _ _ _⟩
  · refine r_iload dX8_lateOn_26 rfl ?_
    refine r_iconst dX8_lateOn_28 ?_
    refine r_icmp_ne (tgt := 34) dX8_lateOn_29 (by decide) ⟨by omega, by omega⟩ ⟨by omega, by omega⟩ (fun g29 => ?_) (fun g29 => ?_)
    · refine r_iload dX8_lateOn_34 rfl ?_
      refine r_iload dX8_lateOn_36 rfl ?_
      refine r_isub dX8_lateOn_38 ?_
      refine r_callS [_] (s_J9_abs_0f7a4 (by omega)) dX8_lateOn_39 cs_X8_317 sm_J9_abs_0f7a4 (by decide) (by decide) (by decide) rfl rfl (Nat.le_of_ble_eq_true rfl) (fun _ _ _ q => q.elim) (fun v n2 h2 q => ?_)
      obtain ⟨rfl, rfl, hh⟩ := q
      obtain rfl := hh.symm
      refine ⟨rfl, ?_⟩
      dsimp only [Option.toList, List.cons_append, List.nil_append]
      refine r_iret dX8_lateOn_42 ?_
      exact ⟨ivE (by unfold latI; rw [if_neg (by omega)]), rfl, _, bx_uu _ _ _ _⟩
    · refine r_iconst dX8_lateOn_32 ?_
      refine r_iret dX8_lateOn_33 ?_
      exact ⟨ivE (by unfold latI; rw [if_pos (by omega)]), rfl, _, bx_uu _ _ _ _⟩
