/-! ===== the fits ===== -/
abbrev FTO (c : Int) : aE := .inr (0, [iv c, .ref 59, .ref 60, .ref 61])
def tldI (sw nc : Int) (K O G L cf ct cd : Nat → Int) (di day m turn tilt : Int) : Int := toldI (K di.toNat) turn tilt (O di.toNat) (G di.toNat) day m (noonI L day) (halfI sw day) (cUp cd cf ct day m nc.toNat)
def plnT (sw nc : Int) (K O G L cf ct cd : Nat → Int) (di day m tilt : Int) : Int := plainI (K di.toNat) tilt (O di.toNat) (G di.toNat) day m (noonI L day) (halfI sw day) (cUp cd cf ct day m nc.toNat)
theorem plnT_B (sw nc : Int) (K O G L cf ct cd : Nat → Int) (di day m tilt : Int) : -1 ≤ plnT sw nc K O G L cf ct cd di day m tilt ∧ plnT sw nc K O G L cf ct cd di day m tilt < 1440 := plain_B _ _ _ _ _ _ _ _ _
theorem tldI_B (sw nc : Int) (K O G L cf ct cd : Nat → Int) (di day m turn tilt : Int) : -1 ≤ tldI sw nc K O G L cf ct cd di day m turn tilt ∧ tldI sw nc K O G L cf ct cd di day m turn tilt < 1440 := told_B _ _ _ _ _ _ _ _ _ _
def allR (told : Int → Int → Int) (rd ry rm rt : Nat → Int) (di : Int) (k : Nat) : Bool := decide (∀ r, r < k → rd r = di → told (ry r) (rm r) = rt r)
/-- the row of turns that fit tilt i - 20: from, to -/
def wtI (plain : Int → Int) (ok : Int → Int → Bool) (told first : Int) (i : Nat) : Int × Int :=
  if first = -1 then (-60, 60) else if plain ((i : Int) - 20) = -1 then (1, 0) else if ((aroundI (told - plain ((i : Int) - 20))).natAbs : Int) ≤ 60 ∧ ok (aroundI (told - plain ((i : Int) - 20))) ((i : Int) - 20) = true then (aroundI (told - plain ((i : Int) - 20)), aroundI (told - plain ((i : Int) - 20))) else (1, 0)
theorem wtI_B (plain : Int → Int) (ok : Int → Int → Bool) (told first : Int) (i : Nat) : (-60 ≤ (wtI plain ok told first i).1 ∧ (wtI plain ok told first i).1 ≤ 60) ∧ (-60 ≤ (wtI plain ok told first i).2 ∧ (wtI plain ok told first i).2 ≤ 60) ∧ (wtI plain ok told first i).1 ≤ (wtI plain ok told first i).2 + 1 := by
  unfold wtI
  split
  · decide
  · split
    · decide
    · split
      · next h => have := h.1; dsimp only; omega
      · decide
theorem wt_dark {plain : Int → Int} {ok : Int → Int → Bool} {told first : Int} {i : Nat} (h : ¬ first = -1) (h2 : plain ((i : Int) - 20) = -1) : wtI plain ok told first i = (1, 0) := by unfold wtI; rw [if_neg h, if_pos h2]
theorem wt_not {plain : Int → Int} {ok : Int → Int → Bool} {told first : Int} {i : Nat} (h : ¬ first = -1) (h2 : ¬ plain ((i : Int) - 20) = -1) (h3 : ¬ (((aroundI (told - plain ((i : Int) - 20))).natAbs : Int) ≤ 60 ∧ ok (aroundI (told - plain ((i : Int) - 20))) ((i : Int) - 20) = true)) : wtI plain ok told first i = (1, 0) := by unfold wtI; rw [if_neg h, if_neg h2, if_neg h3]
theorem wt_fit {plain : Int → Int} {ok : Int → Int → Bool} {told first : Int} {i : Nat} (h : ¬ first = -1) (h2 : ¬ plain ((i : Int) - 20) = -1) (h3 : ((aroundI (told - plain ((i : Int) - 20))).natAbs : Int) ≤ 60 ∧ ok (aroundI (told - plain ((i : Int) - 20))) ((i : Int) - 20) = true) : wtI plain ok told first i = (aroundI (told - plain ((i : Int) - 20)), aroundI (told - plain ((i : Int) - 20))) := by unfold wtI; rw [if_neg h, if_neg h2, if_pos h3]
def cpS (w : Nat → Int × Int) : Nat → Int
  | 0 => 0
  | k + 1 => cpS w k + ((w k).2 - (w k).1 + 1)
theorem cpS_B {w : Nat → Int × Int} (h : ∀ i, (-60 ≤ (w i).1 ∧ (w i).1 ≤ 60) ∧ (-60 ≤ (w i).2 ∧ (w i).2 ≤ 60) ∧ (w i).1 ≤ (w i).2 + 1) : ∀ k, 0 ≤ cpS w k ∧ cpS w k ≤ 121 * k := by
  intro k
  induction k with
  | zero => exact ⟨Int.le_refl _, Int.le_refl _⟩
  | succ k ih =>
    have := h k
    unfold cpS
    omega
theorem up3 (h : aH) (a b c a2 b2 c2 : aE) : va_up (va_up (va_up (va_up (va_up (va_up h 58 a) 59 b) 60 c) 59 b2) 60 c2) 58 a2 = va_up (va_up (va_up h 58 a2) 59 b2) 60 c2 := by
  funext j
  unfold va_up
  by_cases h1 : j = 58
  · simp [h1]
  · by_cases h2 : j = 59
    · simp [h2]
    · by_cases h3 : j = 60
      · simp [h3]
      · simp [h1, h2, h3]
theorem up2 (h : aH) (b c b2 c2 : aE) : va_up (va_up (va_up (va_up h 59 b) 60 c) 59 b2) 60 c2 = va_up (va_up h 59 b2) 60 c2 := by
  funext j
  unfold va_up
  by_cases h2 : j = 59
  · simp [h2]
  · by_cases h3 : j = 60
    · simp [h3]
    · simp [h2, h3]

theorem l_X0_tellsAllReadings {h : aH} {nd sw nc : Int} {K U I O G L cf ct fc nx cd : Nat → Int} (c6 : h 6 = .inr (4, [iv nd, iv sw, iv nc, .ref 7, .ref 8, .ref 9, .ref 10, .ref 11, .ref 12, .ref 13, .ref 14, .ref 15, .ref 16])) (c7 : h 7 = .inl (0, 9, K)) (c8 : h 8 = .inl (0, 9, U)) (c9 : h 9 = .inl (0, 9, I)) (c10 : h 10 = .inl (0, 9, O)) (c11 : h 11 = .inl (0, 9, G)) (c12 : h 12 = .inl (0, 12, L)) (c13 : h 13 = .inl (0, 20, cf)) (c14 : h 14 = .inl (0, 20, ct)) (c15 : h 15 = .inl (0, 365, fc)) (c16 : h 16 = .inl (0, 20, nx)) {nr ns nm : Int} {rd ry rm rt se md my mt : Nat → Int} (c40 : h 40 = .inr (3, [iv nr, iv ns, iv nm, .ref 41, .ref 42, .ref 43, .ref 44, .ref 45, .ref 46, .ref 47, .ref 48])) (c41 : h 41 = .inl (0, 12, rd)) (c42 : h 42 = .inl (0, 12, ry)) (c43 : h 43 = .inl (0, 12, rm)) (c44 : h 44 = .inl (0, 12, rt)) (c45 : h 45 = .inl (0, 9, se)) (c46 : h 46 = .inl (0, 40, md)) (c47 : h 47 = .inl (0, 40, my)) (c48 : h 48 = .inl (0, 40, mt)) (pi : PInv nd sw nc K U I O G L cf ct fc nx cd) (ni : NInv nr ns nm rd ry rm rt se md my mt) {di : Int} (hdi : 0 ≤ di ∧ di < 9) {tu ti : Int} (htu : -200 ≤ tu ∧ tu ≤ 200) (hti : -50 ≤ ti ∧ ti ≤ 50) : ∀ (w k : Nat), (k : Int) + w = nr → (∀ r, r < k → rd r = di → (fun dy mi => tldI sw nc K O G L cf ct cd di dy mi tu ti) (ry r) (rm r) = rt r) → Ev RX0 "tellsAllReadings" cX0_tellsAllReadings 6 (some .boolean) 6 0 0 (Ret (b2i (allR (fun dy mi => tldI sw nc K O G L cf ct cd di dy mi tu ti) rd ry rm rt di nr.toNat)) h) noX 97 h 3 [(0, .ref 6), (1, .ref 40), (2, iv di), (3, iv tu), (4, iv ti), (5, iv k)] [] := by
  obtain ⟨pnd, psw, pnc, pK, pU, pI, pO, pG, pL, pcf, pct, pfc, pnx⟩ := id pi
  obtain ⟨pnr, pns, pnm, prd, pry, prm, prt, pse, pmd, pmy, pmt⟩ := id ni
  intro w
  induction w with
  | zero =>
    intro k hk hp
    obtain rfl : nr = (k : Int) := by omega
    refine r_iload dX0_tellsAllReadings_3 rfl ?_
    refine r_aload_n dX0_tellsAllReadings_5 rfl rfl ?_
    refine r_get (fs := [_, _, _, _, _, _, _, _, _, _, _]) dX0_tellsAllReadings_6 fl_X0_65 (by decide) c40 rfl ?_
    refine r_icmp_ge (tgt := 63) dX0_tellsAllReadings_9 (by decide) ⟨by omega, by omega⟩ ⟨by omega, by omega⟩ (fun g9 => ?_) (fun g9 => absurd g9 (by omega))
    refine r_iconst dX0_tellsAllReadings_63 ?_
    refine r_zret dX0_tellsAllReadings_64 (nar_z (by omega)) ?_
    exact ⟨ivE (by unfold allR; rw [Int.toNat_natCast, decide_eq_true hp]; rfl), rfl, rfl⟩
  | succ w ih =>
    intro k hk hp
    have b1 := prd k
    have b2 := pry k
    have b3 := prm k
    have b4 := prt k
    have b5 := tldI_B sw nc K O G L cf ct cd di (ry k) (rm k) tu ti
    refine r_iload dX0_tellsAllReadings_3 rfl ?_
    refine r_aload_n dX0_tellsAllReadings_5 rfl rfl ?_
    refine r_get (fs := [_, _, _, _, _, _, _, _, _, _, _]) dX0_tellsAllReadings_6 fl_X0_65 (by decide) c40 rfl ?_
    refine r_icmp_ge (tgt := 63) dX0_tellsAllReadings_9 (by decide) ⟨by omega, by omega⟩ ⟨by omega, by omega⟩ (fun g9 => absurd g9 (by omega)) (fun g9 => ?_)
    refine r_aload_n dX0_tellsAllReadings_12 rfl rfl ?_
    refine r_get (fs := [_, _, _, _, _, _, _, _, _, _, _]) dX0_tellsAllReadings_13 fl_X0_35 (by decide) c40 rfl ?_
    refine r_iload dX0_tellsAllReadings_16 rfl ?_
    refine r_ald dX0_tellsAllReadings_18 (by decide) c41 (by omega) (by omega) (by decide) ?_
    rw [Int.toNat_natCast]
    refine r_iload_n dX0_tellsAllReadings_19 rfl rfl ?_
    refine r_icmp_ne (tgt := 57) dX0_tellsAllReadings_20 (by decide) ⟨by omega, by omega⟩ ⟨by omega, by omega⟩ (fun g20 => ?_) (fun g20 => ?_)
    · refine r_iinc (lv2 := [(0, _), (1, _), (2, _), (3, _), (4, _), (5, _)]) dX0_tellsAllReadings_57 (by decide) rfl rfl rfl ?_
      refine r_goto (tgt := 3) dX0_tellsAllReadings_60 (by decide) ?_
      rw [show (k : Int) + 1 = ((k + 1 : Nat) : Int) by omega]
      refine ih (k + 1) (by omega) (fun j hj hj3 => ?_)
      by_cases hj2 : j = k
      · subst hj2; dsimp only; omega
      · exact hp j (by omega) hj3
    · refine r_aload_n dX0_tellsAllReadings_23 rfl rfl ?_
      refine r_iload_n dX0_tellsAllReadings_24 rfl rfl ?_
      refine r_aload_n dX0_tellsAllReadings_25 rfl rfl ?_
      refine r_get (fs := [_, _, _, _, _, _, _, _, _, _, _]) dX0_tellsAllReadings_26 fl_X0_38 (by decide) c40 rfl ?_
      refine r_iload dX0_tellsAllReadings_29 rfl ?_
      refine r_ald dX0_tellsAllReadings_31 (by decide) c42 (by omega) (by omega) (by decide) ?_
      rw [Int.toNat_natCast]
      refine r_aload_n dX0_tellsAllReadings_32 rfl rfl ?_
      refine r_get (fs := [_, _, _, _, _, _, _, _, _, _, _]) dX0_tellsAllReadings_33 fl_X0_41 (by decide) c40 rfl ?_
      refine r_iload dX0_tellsAllReadings_36 rfl ?_
      refine r_ald dX0_tellsAllReadings_38 (by decide) c43 (by omega) (by omega) (by decide) ?_
      rw [Int.toNat_natCast]
      refine r_iload_n dX0_tellsAllReadings_39 rfl rfl ?_
      refine r_iload dX0_tellsAllReadings_40 rfl ?_
      refine r_callV 6 [_, _, _, _, _] (s_X4_toldBy c6 c7 c8 c9 c10 c11 c12 c13 c14 c15 c16 pi (by omega) (by omega) (by omega) htu hti) dX0_tellsAllReadings_42 cs_X0_68 im_X4_toldBy (by decide) c6 rfl (by decide) (by decide) (by decide) rfl rfl (Nat.le_of_ble_eq_true rfl) (fun _ _ _ q => q.elim) (fun v n2 h2 q => ?_)
      obtain ⟨rfl, rfl, hh⟩ := q
      obtain rfl := hh.symm
      rw [show toldI (K di.toNat) tu ti (O di.toNat) (G di.toNat) (ry k) (rm k) (noonI L (ry k)) (halfI sw (ry k)) (cUp cd cf ct (ry k) (rm k) nc.toNat) = tldI sw nc K O G L cf ct cd di (ry k) (rm k) tu ti from rfl]
      refine ⟨rfl, ?_⟩
      dsimp only [Option.toList, List.cons_append, List.nil_append]
      refine r_aload_n dX0_tellsAllReadings_45 rfl rfl ?_
      refine r_get (fs := [_, _, _, _, _, _, _, _, _, _, _]) dX0_tellsAllReadings_46 fl_X0_50 (by decide) c40 rfl ?_
      refine r_iload dX0_tellsAllReadings_49 rfl ?_
      refine r_ald dX0_tellsAllReadings_51 (by decide) c44 (by omega) (by omega) (by decide) ?_
      rw [Int.toNat_natCast]
      refine r_icmp_eq (tgt := 57) dX0_tellsAllReadings_52 (by decide) ⟨by omega, by omega⟩ ⟨by omega, by omega⟩ (fun g52 => ?_) (fun g52 => ?_)
      · refine r_iinc (lv2 := [(0, _), (1, _), (2, _), (3, _), (4, _), (5, _)]) dX0_tellsAllReadings_57 (by decide) rfl rfl rfl ?_
        refine r_goto (tgt := 3) dX0_tellsAllReadings_60 (by decide) ?_
        rw [show (k : Int) + 1 = ((k + 1 : Nat) : Int) by omega]
        refine ih (k + 1) (by omega) (fun j hj hj3 => ?_)
        by_cases hj2 : j = k
        · subst hj2; dsimp only; omega
        · exact hp j (by omega) hj3
      · refine r_iconst dX0_tellsAllReadings_55 ?_
        refine r_zret dX0_tellsAllReadings_56 (nar_z (by omega)) ?_
        refine ⟨ivE ?_, rfl, rfl⟩
        unfold allR
        rw [decide_eq_false (fun q => ?_)]
        · rfl
        · have := q k (by omega) (by omega)
          dsimp only at this
          omega

theorem s_X0_tellsAllReadings {h : aH} {nd sw nc : Int} {K U I O G L cf ct fc nx cd : Nat → Int} (c6 : h 6 = .inr (4, [iv nd, iv sw, iv nc, .ref 7, .ref 8, .ref 9, .ref 10, .ref 11, .ref 12, .ref 13, .ref 14, .ref 15, .ref 16])) (c7 : h 7 = .inl (0, 9, K)) (c8 : h 8 = .inl (0, 9, U)) (c9 : h 9 = .inl (0, 9, I)) (c10 : h 10 = .inl (0, 9, O)) (c11 : h 11 = .inl (0, 9, G)) (c12 : h 12 = .inl (0, 12, L)) (c13 : h 13 = .inl (0, 20, cf)) (c14 : h 14 = .inl (0, 20, ct)) (c15 : h 15 = .inl (0, 365, fc)) (c16 : h 16 = .inl (0, 20, nx)) {nr ns nm : Int} {rd ry rm rt se md my mt : Nat → Int} (c40 : h 40 = .inr (3, [iv nr, iv ns, iv nm, .ref 41, .ref 42, .ref 43, .ref 44, .ref 45, .ref 46, .ref 47, .ref 48])) (c41 : h 41 = .inl (0, 12, rd)) (c42 : h 42 = .inl (0, 12, ry)) (c43 : h 43 = .inl (0, 12, rm)) (c44 : h 44 = .inl (0, 12, rt)) (c45 : h 45 = .inl (0, 9, se)) (c46 : h 46 = .inl (0, 40, md)) (c47 : h 47 = .inl (0, 40, my)) (c48 : h 48 = .inl (0, 40, mt)) (pi : PInv nd sw nc K U I O G L cf ct fc nx cd) (ni : NInv nr ns nm rd ry rm rt se md my mt) {di : Int} (hdi : 0 ≤ di ∧ di < 9) {tu ti : Int} (htu : -200 ≤ tu ∧ tu ≤ 200) (hti : -50 ≤ ti ∧ ti ≤ 50) : mSem yX0_tellsAllReadings cX0_tellsAllReadings 6 (some .boolean) 6 0 0 [.ref 6, .ref 40, iv di, iv tu, iv ti] 97 h (Ret (b2i (allR (fun dy mi => tldI sw nc K O G L cf ct cd di dy mi tu ti) rd ry rm rt di nr.toNat)) h) noX := by
  obtain ⟨pnd, psw, pnc, pK, pU, pI, pO, pG, pL, pcf, pct, pfc, pnx⟩ := id pi
  obtain ⟨pnr, pns, pnm, prd, pry, prm, prt, pse, pmd, pmy, pmt⟩ := id ni
  refine mSem_of (own := RX0) (name := "tellsAllReadings") pn_X0 rfl rfl (Nat.le_of_ble_eq_true rfl) ?_
  refine r_iconst dX0_tellsAllReadings_0 ?_
  refine r_istore (lv2 := [(0, _), (1, _), (2, _), (3, _), (4, _), (5, _)]) dX0_tellsAllReadings_1 (by decide) rfl rfl ?_
  exact l_X0_tellsAllReadings c6 c7 c8 c9 c10 c11 c12 c13 c14 c15 c16 c40 c41 c42 c43 c44 c45 c46 c47 c48 pi ni hdi htu hti nr.toNat 0 (by omega) (fun j hj => absurd hj (by omega))

theorem s_X0_weighTilt {h : aH} {nd sw nc : Int} {K U I O G L cf ct fc nx cd : Nat → Int} (c6 : h 6 = .inr (4, [iv nd, iv sw, iv nc, .ref 7, .ref 8, .ref 9, .ref 10, .ref 11, .ref 12, .ref 13, .ref 14, .ref 15, .ref 16])) (c7 : h 7 = .inl (0, 9, K)) (c8 : h 8 = .inl (0, 9, U)) (c9 : h 9 = .inl (0, 9, I)) (c10 : h 10 = .inl (0, 9, O)) (c11 : h 11 = .inl (0, 9, G)) (c12 : h 12 = .inl (0, 12, L)) (c13 : h 13 = .inl (0, 20, cf)) (c14 : h 14 = .inl (0, 20, ct)) (c15 : h 15 = .inl (0, 365, fc)) (c16 : h 16 = .inl (0, 20, nx)) {nr ns nm : Int} {rd ry rm rt se md my mt : Nat → Int} (c40 : h 40 = .inr (3, [iv nr, iv ns, iv nm, .ref 41, .ref 42, .ref 43, .ref 44, .ref 45, .ref 46, .ref 47, .ref 48])) (c41 : h 41 = .inl (0, 12, rd)) (c42 : h 42 = .inl (0, 12, ry)) (c43 : h 43 = .inl (0, 12, rm)) (c44 : h 44 = .inl (0, 12, rt)) (c45 : h 45 = .inl (0, 9, se)) (c46 : h 46 = .inl (0, 40, md)) (c47 : h 47 = .inl (0, 40, my)) (c48 : h 48 = .inl (0, 40, mt)) {cp : Int} {fr tt : Nat → Int} (c58 : h 58 = FTO cp) (c59 : h 59 = .inl (0, 41, fr)) (c60 : h 60 = .inl (0, 41, tt)) (pi : PInv nd sw nc K U I O G L cf ct fc nx cd) (ni : NInv nr ns nm rd ry rm rt se md my mt) {first : Int} (hf1 : 0 ≤ first ∧ first < 12) {i : Nat} (hi : i < 41) : mSem yX0_weighTilt cX0_weighTilt 9 none 7 0 0 [.ref 58, .ref 6, .ref 40, iv first, iv i] 97 h (RetV (va_up (va_up h 59 (.inl (0, 41, va_up fr i (wtI (fun ti => plnT sw nc K O G L cf ct cd (rd first.toNat) (ry first.toNat) (rm first.toNat) ti) (fun tu ti => allR (fun dy mi => tldI sw nc K O G L cf ct cd (rd first.toNat) dy mi tu ti) rd ry rm rt (rd first.toNat) nr.toNat) (rt first.toNat) first i).1))) 60 (.inl (0, 41, va_up tt i (wtI (fun ti => plnT sw nc K O G L cf ct cd (rd first.toNat) (ry first.toNat) (rm first.toNat) ti) (fun tu ti => allR (fun dy mi => tldI sw nc K O G L cf ct cd (rd first.toNat) dy mi tu ti) rd ry rm rt (rd first.toNat) nr.toNat) (rt first.toNat) first i).2)))) noX := by
  obtain ⟨pnd, psw, pnc, pK, pU, pI, pO, pG, pL, pcf, pct, pfc, pnx⟩ := id pi
  obtain ⟨pnr, pns, pnm, prd, pry, prm, prt, pse, pmd, pmy, pmt⟩ := id ni
  refine mSem_of (own := RX0) (name := "weighTilt") pn_X0 rfl rfl (Nat.le_of_ble_eq_true rfl) ?_
  have b1 := prd first.toNat
  have b2 := pry first.toNat
  have b3 := prm first.toNat
  have b4 := prt first.toNat
  have b5 := plnT_B sw nc K O G L cf ct cd (rd first.toNat) (ry first.toNat) (rm first.toNat) ((i : Int) - 20)
  have b6 := around_B (rt first.toNat - plnT sw nc K O G L cf ct cd (rd first.toNat) (ry first.toNat) (rm first.toNat) ((i : Int) - 20))
  refine r_aload_n dX0_weighTilt_0 rfl rfl ?_
  refine r_get (fs := [_, _, _, _]) dX0_weighTilt_1 fl_X0_15 (by decide) c58 rfl ?_
  refine r_iload dX0_weighTilt_4 rfl ?_
  refine r_iconst dX0_weighTilt_6 ?_
  refine r_ast dX0_weighTilt_7 (by decide) c59 (by omega) (by omega) (by decide) ?_
  refine r_aload_n dX0_weighTilt_8 rfl rfl ?_
  refine r_get (fs := [_, _, _, _]) dX0_weighTilt_9 fl_X0_19 (by decide) c58 rfl ?_
  refine r_iload dX0_weighTilt_12 rfl ?_
  refine r_iconst dX0_weighTilt_14 ?_
  refine r_ast dX0_weighTilt_15 (by decide) c60 (by omega) (by omega) (by decide) ?_
  refine r_aload_n dX0_weighTilt_16 rfl rfl ?_
  refine r_get (fs := [_, _, _, _, _, _, _, _, _, _, _]) dX0_weighTilt_17 fl_X0_35 (by decide) c40 rfl ?_
  refine r_iload_n dX0_weighTilt_20 rfl rfl ?_
  refine r_ald dX0_weighTilt_21 (by decide) c41 (by omega) (by omega) (by decide) ?_
  refine r_istore (lv2 := [(0, _), (1, _), (2, _), (3, _), (4, _), (5, _)]) dX0_weighTilt_22 (by decide) rfl rfl ?_
  refine r_iload dX0_weighTilt_24 rfl ?_
  refine r_bipush dX0_weighTilt_26 rfl ?_
  refine r_isub dX0_weighTilt_28 ?_
  refine r_istore (lv2 := [(0, _), (1, _), (2, _), (3, _), (4, _), (5, _), (6, _)]) dX0_weighTilt_29 (by decide) rfl rfl ?_
  refine r_aload_n dX0_weighTilt_31 rfl rfl ?_
  refine r_iload dX0_weighTilt_32 rfl ?_
  refine r_aload_n dX0_weighTilt_34 rfl rfl ?_
  refine r_get (fs := [_, _, _, _, _, _, _, _, _, _, _]) dX0_weighTilt_35 fl_X0_38 (by decide) c40 rfl ?_
  refine r_iload_n dX0_weighTilt_38 rfl rfl ?_
  refine r_ald dX0_weighTilt_39 (by decide) c42 (by omega) (by omega) (by decide) ?_
  refine r_aload_n dX0_weighTilt_40 rfl rfl ?_
  refine r_get (fs := [_, _, _, _, _, _, _, _, _, _, _]) dX0_weighTilt_41 fl_X0_41 (by decide) c40 rfl ?_
  refine r_iload_n dX0_weighTilt_44 rfl rfl ?_
  refine r_ald dX0_weighTilt_45 (by decide) c43 (by omega) (by omega) (by decide) ?_
  refine r_iload dX0_weighTilt_46 rfl ?_
  refine r_callV 6 [_, _, _, _] (s_X4_plainlyTold (by exact c6) (by exact c7) (by exact c8) (by exact c9) (by exact c10) (by exact c11) (by exact c12) (by exact c13) (by exact c14) (by exact c15) (by exact c16) pi (by omega) (by omega) (by omega) (by omega)) dX0_weighTilt_48 cs_X0_44 im_X4_plainlyTold (by decide) c6 rfl (by decide) (by decide) (by decide) rfl rfl (Nat.le_of_ble_eq_true rfl) (fun _ _ _ q => q.elim) (fun v n2 h2 q => ?_)
  obtain ⟨rfl, rfl, hh⟩ := q
  obtain rfl := hh.symm
  rw [show plainI (K (rd first.toNat).toNat) ((i : Int) - 20) (O (rd first.toNat).toNat) (G (rd first.toNat).toNat) (ry first.toNat) (rm first.toNat) (noonI L (ry first.toNat)) (halfI sw (ry first.toNat)) (cUp cd cf ct (ry first.toNat) (rm first.toNat) nc.toNat) = plnT sw nc K O G L cf ct cd (rd first.toNat) (ry first.toNat) (rm first.toNat) ((i : Int) - 20) from rfl]
  refine ⟨rfl, ?_⟩
  dsimp only [Option.toList, List.cons_append, List.nil_append]
  refine r_istore (lv2 := [(0, _), (1, _), (2, _), (3, _), (4, _), (5, _), (6, _), (7, _)]) dX0_weighTilt_51 (by decide) rfl rfl ?_
  refine r_iload dX0_weighTilt_53 rfl ?_
  refine r_iconst dX0_weighTilt_55 ?_
  refine r_icmp_ne (tgt := 60) dX0_weighTilt_56 (by decide) ⟨by omega, by omega⟩ ⟨by omega, by omega⟩ (fun g56 => ?_) (fun g56 => ?_)
  · refine r_aload_n dX0_weighTilt_60 rfl rfl ?_
    refine r_get (fs := [_, _, _, _, _, _, _, _, _, _, _]) dX0_weighTilt_61 fl_X0_50 (by decide) c40 rfl ?_
    refine r_iload_n dX0_weighTilt_64 rfl rfl ?_
    refine r_ald dX0_weighTilt_65 (by decide) c44 (by omega) (by omega) (by decide) ?_
    refine r_iload dX0_weighTilt_66 rfl ?_
    refine r_isub dX0_weighTilt_68 ?_
    refine r_callSN (np := 1) [_] (s_X8_around (by omega)) dX0_weighTilt_69 "LyingDials" (by decide +kernel) cd_X8_around ini_X8 ⟨by decide +kernel, by decide +kernel, by decide +kernel⟩ (by decide) sm_X8_around (by decide) (by decide) (by decide) rfl rfl (Nat.le_of_ble_eq_true rfl) (fun v n2 h2 q => ?_)
    obtain ⟨rfl, rfl, hh⟩ := q
    obtain rfl := hh.symm
    refine ⟨rfl, ?_⟩
    dsimp only [Option.toList, List.cons_append, List.nil_append]
    refine r_istore (lv2 := [(0, _), (1, _), (2, _), (3, _), (4, _), (5, _), (6, _), (7, _), (8, _)]) dX0_weighTilt_72 (by decide) rfl rfl ?_
    refine r_iload dX0_weighTilt_74 rfl ?_
    refine r_callS [_] (s_J9_abs_0f7a4 (by omega)) dX0_weighTilt_76 cs_X0_56 sm_J9_abs_0f7a4 (by decide) (by decide) (by decide) rfl rfl (Nat.le_of_ble_eq_true rfl) (fun _ _ _ q => q.elim) (fun v n2 h2 q => ?_)
    obtain ⟨rfl, rfl, hh⟩ := q
    obtain rfl := hh.symm
    refine ⟨rfl, ?_⟩
    dsimp only [Option.toList, List.cons_append, List.nil_append]
    refine r_bipush dX0_weighTilt_79 rfl ?_
    refine r_icmp_gt (tgt := 116) dX0_weighTilt_81 (by decide) ⟨by omega, by omega⟩ ⟨by omega, by omega⟩ (fun g81 => ?_) (fun g81 => ?_)
    · refine r_vret dX0_weighTilt_116 ?_
      refine ⟨rfl, rfl, ?_⟩
      first
        | (have ew : (wtI (fun ti => plnT sw nc K O G L cf ct cd (rd first.toNat) (ry first.toNat) (rm first.toNat) ti) (fun tu ti => allR (fun dy mi => tldI sw nc K O G L cf ct cd (rd first.toNat) dy mi tu ti) rd ry rm rt (rd first.toNat) nr.toNat) (rt first.toNat) first i) = (1, 0) := wt_not (by omega) g56 (fun q => absurd q.1 (by first | omega | (dsimp only; omega)))
           rw [ew, Int.toNat_natCast])
        | (have ew : (wtI (fun ti => plnT sw nc K O G L cf ct cd (rd first.toNat) (ry first.toNat) (rm first.toNat) ti) (fun tu ti => allR (fun dy mi => tldI sw nc K O G L cf ct cd (rd first.toNat) dy mi tu ti) rd ry rm rt (rd first.toNat) nr.toNat) (rt first.toNat) first i) = (1, 0) := wt_not (by omega) g56 (fun q => absurd (q.2.symm.trans (b2i_0.mp g95)) (by decide))
           rw [ew, Int.toNat_natCast])
        | (have ew := wt_fit (plain := (fun ti => plnT sw nc K O G L cf ct cd (rd first.toNat) (ry first.toNat) (rm first.toNat) ti)) (ok := (fun tu ti => allR (fun dy mi => tldI sw nc K O G L cf ct cd (rd first.toNat) dy mi tu ti) rd ry rm rt (rd first.toNat) nr.toNat)) (told := rt first.toNat) (first := first) (i := i) (by omega) g56 ⟨by first | omega | (dsimp only; omega), by rw [b2i_0, Bool.not_eq_false] at g95; exact g95⟩
           rw [ew, Int.toNat_natCast]; simp only [up2, bx_uu])
    · have bc := b2i_01 (allR (fun dy mi => tldI sw nc K O G L cf ct cd (rd first.toNat) dy mi (aroundI (rt first.toNat - plnT sw nc K O G L cf ct cd (rd first.toNat) (ry first.toNat) (rm first.toNat) ((i : Int) - 20))) ((i : Int) - 20)) rd ry rm rt (rd first.toNat) nr.toNat)
      refine r_aload_n dX0_weighTilt_84 rfl rfl ?_
      refine r_aload_n dX0_weighTilt_85 rfl rfl ?_
      refine r_iload dX0_weighTilt_86 rfl ?_
      refine r_iload dX0_weighTilt_88 rfl ?_
      refine r_iload dX0_weighTilt_90 rfl ?_
      refine r_callS [.ref 6, .ref 40, _, _, _] (s_X0_tellsAllReadings (by exact c6) (by exact c7) (by exact c8) (by exact c9) (by exact c10) (by exact c11) (by exact c12) (by exact c13) (by exact c14) (by exact c15) (by exact c16) (by exact c40) (by exact c41) (by exact c42) (by exact c43) (by exact c44) (by exact c45) (by exact c46) (by exact c47) (by exact c48) pi ni (by omega) (by omega) (by omega)) dX0_weighTilt_92 cs_X0_61 sm_X0_tellsAllReadings (by decide) (by decide) (by decide) rfl rfl (Nat.le_of_ble_eq_true rfl) (fun _ _ _ q => q.elim) (fun v n2 h2 q => ?_)
      obtain ⟨rfl, rfl, hh⟩ := q
      obtain rfl := hh.symm
      refine ⟨rfl, ?_⟩
      dsimp only [Option.toList, List.cons_append, List.nil_append]
      refine r_if_eq (tgt := 116) dX0_weighTilt_95 (by decide) ⟨by omega, by omega⟩ (fun g95 => ?_) (fun g95 => ?_)
      · refine r_vret dX0_weighTilt_116 ?_
        refine ⟨rfl, rfl, ?_⟩
        first
          | (have ew : (wtI (fun ti => plnT sw nc K O G L cf ct cd (rd first.toNat) (ry first.toNat) (rm first.toNat) ti) (fun tu ti => allR (fun dy mi => tldI sw nc K O G L cf ct cd (rd first.toNat) dy mi tu ti) rd ry rm rt (rd first.toNat) nr.toNat) (rt first.toNat) first i) = (1, 0) := wt_not (by omega) g56 (fun q => absurd q.1 (by first | omega | (dsimp only; omega)))
             rw [ew, Int.toNat_natCast])
          | (have ew : (wtI (fun ti => plnT sw nc K O G L cf ct cd (rd first.toNat) (ry first.toNat) (rm first.toNat) ti) (fun tu ti => allR (fun dy mi => tldI sw nc K O G L cf ct cd (rd first.toNat) dy mi tu ti) rd ry rm rt (rd first.toNat) nr.toNat) (rt first.toNat) first i) = (1, 0) := wt_not (by omega) g56 (fun q => absurd (q.2.symm.trans (b2i_0.mp g95)) (by decide))
             rw [ew, Int.toNat_natCast])
          | (have ew := wt_fit (plain := (fun ti => plnT sw nc K O G L cf ct cd (rd first.toNat) (ry first.toNat) (rm first.toNat) ti)) (ok := (fun tu ti => allR (fun dy mi => tldI sw nc K O G L cf ct cd (rd first.toNat) dy mi tu ti) rd ry rm rt (rd first.toNat) nr.toNat)) (told := rt first.toNat) (first := first) (i := i) (by omega) g56 ⟨by first | omega | (dsimp only; omega), by rw [b2i_0, Bool.not_eq_false] at g95; exact g95⟩
             rw [ew, Int.toNat_natCast]; simp only [up2, bx_uu])
      · refine r_aload_n dX0_weighTilt_98 rfl rfl ?_
        refine r_get (fs := [_, _, _, _]) dX0_weighTilt_99 fl_X0_15 (by decide) c58 rfl ?_
        refine r_iload dX0_weighTilt_102 rfl ?_
        refine r_iload dX0_weighTilt_104 rfl ?_
        refine r_ast dX0_weighTilt_106 (by decide) rfl (by omega) (by omega) (by decide) ?_
        refine r_aload_n dX0_weighTilt_107 rfl rfl ?_
        refine r_get (fs := [_, _, _, _]) dX0_weighTilt_108 fl_X0_19 (by decide) c58 rfl ?_
        refine r_iload dX0_weighTilt_111 rfl ?_
        refine r_iload dX0_weighTilt_113 rfl ?_
        refine r_ast dX0_weighTilt_115 (by decide) rfl (by omega) (by omega) (by decide) ?_
        refine r_vret dX0_weighTilt_116 ?_
        refine ⟨rfl, rfl, ?_⟩
        first
          | (have ew : (wtI (fun ti => plnT sw nc K O G L cf ct cd (rd first.toNat) (ry first.toNat) (rm first.toNat) ti) (fun tu ti => allR (fun dy mi => tldI sw nc K O G L cf ct cd (rd first.toNat) dy mi tu ti) rd ry rm rt (rd first.toNat) nr.toNat) (rt first.toNat) first i) = (1, 0) := wt_not (by omega) g56 (fun q => absurd q.1 (by first | omega | (dsimp only; omega)))
             rw [ew, Int.toNat_natCast])
          | (have ew : (wtI (fun ti => plnT sw nc K O G L cf ct cd (rd first.toNat) (ry first.toNat) (rm first.toNat) ti) (fun tu ti => allR (fun dy mi => tldI sw nc K O G L cf ct cd (rd first.toNat) dy mi tu ti) rd ry rm rt (rd first.toNat) nr.toNat) (rt first.toNat) first i) = (1, 0) := wt_not (by omega) g56 (fun q => absurd (q.2.symm.trans (b2i_0.mp g95)) (by decide))
             rw [ew, Int.toNat_natCast])
          | (have ew := wt_fit (plain := (fun ti => plnT sw nc K O G L cf ct cd (rd first.toNat) (ry first.toNat) (rm first.toNat) ti)) (ok := (fun tu ti => allR (fun dy mi => tldI sw nc K O G L cf ct cd (rd first.toNat) dy mi tu ti) rd ry rm rt (rd first.toNat) nr.toNat)) (told := rt first.toNat) (first := first) (i := i) (by omega) g56 ⟨by first | omega | (dsimp only; omega), by rw [b2i_0, Bool.not_eq_false] at g95; exact g95⟩
             rw [ew, Int.toNat_natCast]; simp only [up2, bx_uu])
  · refine r_vret dX0_weighTilt_59 ?_
    have ew : (wtI (fun ti => plnT sw nc K O G L cf ct cd (rd first.toNat) (ry first.toNat) (rm first.toNat) ti) (fun tu ti => allR (fun dy mi => tldI sw nc K O G L cf ct cd (rd first.toNat) dy mi tu ti) rd ry rm rt (rd first.toNat) nr.toNat) (rt first.toNat) first i) = (1, 0) := wt_dark (by omega) g56
    exact ⟨rfl, rfl, by rw [ew, Int.toNat_natCast]⟩

theorem l_X0_weigh {h : aH} {nd sw nc : Int} {K U I O G L cf ct fc nx cd : Nat → Int} (c6 : h 6 = .inr (4, [iv nd, iv sw, iv nc, .ref 7, .ref 8, .ref 9, .ref 10, .ref 11, .ref 12, .ref 13, .ref 14, .ref 15, .ref 16])) (c7 : h 7 = .inl (0, 9, K)) (c8 : h 8 = .inl (0, 9, U)) (c9 : h 9 = .inl (0, 9, I)) (c10 : h 10 = .inl (0, 9, O)) (c11 : h 11 = .inl (0, 9, G)) (c12 : h 12 = .inl (0, 12, L)) (c13 : h 13 = .inl (0, 20, cf)) (c14 : h 14 = .inl (0, 20, ct)) (c15 : h 15 = .inl (0, 365, fc)) (c16 : h 16 = .inl (0, 20, nx)) {nr ns nm : Int} {rd ry rm rt se md my mt : Nat → Int} (c40 : h 40 = .inr (3, [iv nr, iv ns, iv nm, .ref 41, .ref 42, .ref 43, .ref 44, .ref 45, .ref 46, .ref 47, .ref 48])) (c41 : h 41 = .inl (0, 12, rd)) (c42 : h 42 = .inl (0, 12, ry)) (c43 : h 43 = .inl (0, 12, rm)) (c44 : h 44 = .inl (0, 12, rt)) (c45 : h 45 = .inl (0, 9, se)) (c46 : h 46 = .inl (0, 40, md)) (c47 : h 47 = .inl (0, 40, my)) (c48 : h 48 = .inl (0, 40, mt)) {cp : Int} {fr tt : Nat → Int} (c58 : h 58 = FTO cp) (c59 : h 59 = .inl (0, 41, fr)) (c60 : h 60 = .inl (0, 41, tt)) (pi : PInv nd sw nc K U I O G L cf ct fc nx cd) (ni : NInv nr ns nm rd ry rm rt se md my mt) {di : Int} (hdi : 0 ≤ di ∧ di < 9)  : ∀ (w k : Nat), k + w = 41 → Ev RX0 "weigh" cX0_weigh 6 none 8 0 0 (RetV (va_up (va_up (va_up h 58 (FTO (cpS (wtI (fun ti => plnT sw nc K O G L cf ct cd (rd (firstR rd di 0 nr.toNat).toNat) (ry (firstR rd di 0 nr.toNat).toNat) (rm (firstR rd di 0 nr.toNat).toNat) ti) (fun tu ti => allR (fun dy mi => tldI sw nc K O G L cf ct cd (rd (firstR rd di 0 nr.toNat).toNat) dy mi tu ti) rd ry rm rt (rd (firstR rd di 0 nr.toNat).toNat) nr.toNat) (rt (firstR rd di 0 nr.toNat).toNat) (firstR rd di 0 nr.toNat)) 41))) 59 (.inl (0, 41, cpyF (fun i => ((wtI (fun ti => plnT sw nc K O G L cf ct cd (rd (firstR rd di 0 nr.toNat).toNat) (ry (firstR rd di 0 nr.toNat).toNat) (rm (firstR rd di 0 nr.toNat).toNat) ti) (fun tu ti => allR (fun dy mi => tldI sw nc K O G L cf ct cd (rd (firstR rd di 0 nr.toNat).toNat) dy mi tu ti) rd ry rm rt (rd (firstR rd di 0 nr.toNat).toNat) nr.toNat) (rt (firstR rd di 0 nr.toNat).toNat) (firstR rd di 0 nr.toNat)) i).1) fr 41))) 60 (.inl (0, 41, cpyF (fun i => ((wtI (fun ti => plnT sw nc K O G L cf ct cd (rd (firstR rd di 0 nr.toNat).toNat) (ry (firstR rd di 0 nr.toNat).toNat) (rm (firstR rd di 0 nr.toNat).toNat) ti) (fun tu ti => allR (fun dy mi => tldI sw nc K O G L cf ct cd (rd (firstR rd di 0 nr.toNat).toNat) dy mi tu ti) rd ry rm rt (rd (firstR rd di 0 nr.toNat).toNat) nr.toNat) (rt (firstR rd di 0 nr.toNat).toNat) (firstR rd di 0 nr.toNat)) i).2) tt 41)))) noX 97 (va_up (va_up (va_up h 58 (FTO (cpS (wtI (fun ti => plnT sw nc K O G L cf ct cd (rd (firstR rd di 0 nr.toNat).toNat) (ry (firstR rd di 0 nr.toNat).toNat) (rm (firstR rd di 0 nr.toNat).toNat) ti) (fun tu ti => allR (fun dy mi => tldI sw nc K O G L cf ct cd (rd (firstR rd di 0 nr.toNat).toNat) dy mi tu ti) rd ry rm rt (rd (firstR rd di 0 nr.toNat).toNat) nr.toNat) (rt (firstR rd di 0 nr.toNat).toNat) (firstR rd di 0 nr.toNat)) k))) 59 (.inl (0, 41, cpyF (fun i => ((wtI (fun ti => plnT sw nc K O G L cf ct cd (rd (firstR rd di 0 nr.toNat).toNat) (ry (firstR rd di 0 nr.toNat).toNat) (rm (firstR rd di 0 nr.toNat).toNat) ti) (fun tu ti => allR (fun dy mi => tldI sw nc K O G L cf ct cd (rd (firstR rd di 0 nr.toNat).toNat) dy mi tu ti) rd ry rm rt (rd (firstR rd di 0 nr.toNat).toNat) nr.toNat) (rt (firstR rd di 0 nr.toNat).toNat) (firstR rd di 0 nr.toNat)) i).1) fr k))) 60 (.inl (0, 41, cpyF (fun i => ((wtI (fun ti => plnT sw nc K O G L cf ct cd (rd (firstR rd di 0 nr.toNat).toNat) (ry (firstR rd di 0 nr.toNat).toNat) (rm (firstR rd di 0 nr.toNat).toNat) ti) (fun tu ti => allR (fun dy mi => tldI sw nc K O G L cf ct cd (rd (firstR rd di 0 nr.toNat).toNat) dy mi tu ti) rd ry rm rt (rd (firstR rd di 0 nr.toNat).toNat) nr.toNat) (rt (firstR rd di 0 nr.toNat).toNat) (firstR rd di 0 nr.toNat)) i).2) tt k))) 15 [(0, .ref 58), (1, .ref 6), (2, .ref 40), (3, iv di), (4, iv (firstR rd di 0 nr.toNat)), (5, iv k)] [] := by
  obtain ⟨pnd, psw, pnc, pK, pU, pI, pO, pG, pL, pcf, pct, pfc, pnx⟩ := id pi
  obtain ⟨pnr, pns, pnm, prd, pry, prm, prt, pse, pmd, pmy, pmt⟩ := id ni
  have bF := firstR_B rd di nr.toNat 0
  intro w
  induction w with
  | zero =>
    intro k hk
    obtain rfl : k = 41 := by omega
    refine r_iload dX0_weigh_15 rfl ?_
    refine r_bipush dX0_weigh_17 rfl ?_
    refine r_icmp_ge (tgt := 91) dX0_weigh_19 (by decide) ⟨by omega, by omega⟩ ⟨by omega, by omega⟩ (fun g19 => ?_) (fun g19 => absurd g19 (by omega))
    refine r_vret dX0_weigh_91 ?_
    exact ⟨rfl, rfl, rfl⟩
  | succ w ih =>
    intro k hk
    have hi := ih (k + 1) (by omega)
    rw [← cpy_s _ _ k, ← cpy_s _ _ k] at hi
    have bw := wtI_B (fun ti => plnT sw nc K O G L cf ct cd (rd (firstR rd di 0 nr.toNat).toNat) (ry (firstR rd di 0 nr.toNat).toNat) (rm (firstR rd di 0 nr.toNat).toNat) ti) (fun tu ti => allR (fun dy mi => tldI sw nc K O G L cf ct cd (rd (firstR rd di 0 nr.toNat).toNat) dy mi tu ti) rd ry rm rt (rd (firstR rd di 0 nr.toNat).toNat) nr.toNat) (rt (firstR rd di 0 nr.toNat).toNat) (firstR rd di 0 nr.toNat) k
    have bs := cpS_B (w := (wtI (fun ti => plnT sw nc K O G L cf ct cd (rd (firstR rd di 0 nr.toNat).toNat) (ry (firstR rd di 0 nr.toNat).toNat) (rm (firstR rd di 0 nr.toNat).toNat) ti) (fun tu ti => allR (fun dy mi => tldI sw nc K O G L cf ct cd (rd (firstR rd di 0 nr.toNat).toNat) dy mi tu ti) rd ry rm rt (rd (firstR rd di 0 nr.toNat).toNat) nr.toNat) (rt (firstR rd di 0 nr.toNat).toNat) (firstR rd di 0 nr.toNat))) (wtI_B _ _ _ _) k
    have e1 : cpS (wtI (fun ti => plnT sw nc K O G L cf ct cd (rd (firstR rd di 0 nr.toNat).toNat) (ry (firstR rd di 0 nr.toNat).toNat) (rm (firstR rd di 0 nr.toNat).toNat) ti) (fun tu ti => allR (fun dy mi => tldI sw nc K O G L cf ct cd (rd (firstR rd di 0 nr.toNat).toNat) dy mi tu ti) rd ry rm rt (rd (firstR rd di 0 nr.toNat).toNat) nr.toNat) (rt (firstR rd di 0 nr.toNat).toNat) (firstR rd di 0 nr.toNat)) (k + 1) = cpS (wtI (fun ti => plnT sw nc K O G L cf ct cd (rd (firstR rd di 0 nr.toNat).toNat) (ry (firstR rd di 0 nr.toNat).toNat) (rm (firstR rd di 0 nr.toNat).toNat) ti) (fun tu ti => allR (fun dy mi => tldI sw nc K O G L cf ct cd (rd (firstR rd di 0 nr.toNat).toNat) dy mi tu ti) rd ry rm rt (rd (firstR rd di 0 nr.toNat).toNat) nr.toNat) (rt (firstR rd di 0 nr.toNat).toNat) (firstR rd di 0 nr.toNat)) k + (((wtI (fun ti => plnT sw nc K O G L cf ct cd (rd (firstR rd di 0 nr.toNat).toNat) (ry (firstR rd di 0 nr.toNat).toNat) (rm (firstR rd di 0 nr.toNat).toNat) ti) (fun tu ti => allR (fun dy mi => tldI sw nc K O G L cf ct cd (rd (firstR rd di 0 nr.toNat).toNat) dy mi tu ti) rd ry rm rt (rd (firstR rd di 0 nr.toNat).toNat) nr.toNat) (rt (firstR rd di 0 nr.toNat).toNat) (firstR rd di 0 nr.toNat)) k).2 - ((wtI (fun ti => plnT sw nc K O G L cf ct cd (rd (firstR rd di 0 nr.toNat).toNat) (ry (firstR rd di 0 nr.toNat).toNat) (rm (firstR rd di 0 nr.toNat).toNat) ti) (fun tu ti => allR (fun dy mi => tldI sw nc K O G L cf ct cd (rd (firstR rd di 0 nr.toNat).toNat) dy mi tu ti) rd ry rm rt (rd (firstR rd di 0 nr.toNat).toNat) nr.toNat) (rt (firstR rd di 0 nr.toNat).toNat) (firstR rd di 0 nr.toNat)) k).1 + 1) := rfl
    rw [e1] at hi
    refine r_iload dX0_weigh_15 rfl ?_
    refine r_bipush dX0_weigh_17 rfl ?_
    refine r_icmp_ge (tgt := 91) dX0_weigh_19 (by decide) ⟨by omega, by omega⟩ ⟨by omega, by omega⟩ (fun g19 => absurd g19 (by omega)) (fun g19 => ?_)
    refine r_iload dX0_weigh_22 rfl ?_
    refine r_iconst dX0_weigh_24 ?_
    refine r_icmp_ne (tgt := 49) dX0_weigh_25 (by decide) ⟨by omega, by omega⟩ ⟨by omega, by omega⟩ (fun g25 => ?_) (fun g25 => ?_)
    · have ew : (wtI (fun ti => plnT sw nc K O G L cf ct cd (rd (firstR rd di 0 nr.toNat).toNat) (ry (firstR rd di 0 nr.toNat).toNat) (rm (firstR rd di 0 nr.toNat).toNat) ti) (fun tu ti => allR (fun dy mi => tldI sw nc K O G L cf ct cd (rd (firstR rd di 0 nr.toNat).toNat) dy mi tu ti) rd ry rm rt (rd (firstR rd di 0 nr.toNat).toNat) nr.toNat) (rt (firstR rd di 0 nr.toNat).toNat) (firstR rd di 0 nr.toNat)) k = (wtI (fun ti => plnT sw nc K O G L cf ct cd (rd (firstR rd di 0 nr.toNat).toNat) (ry (firstR rd di 0 nr.toNat).toNat) (rm (firstR rd di 0 nr.toNat).toNat) ti) (fun tu ti => allR (fun dy mi => tldI sw nc K O G L cf ct cd (rd (firstR rd di 0 nr.toNat).toNat) dy mi tu ti) rd ry rm rt (rd (firstR rd di 0 nr.toNat).toNat) nr.toNat) (rt (firstR rd di 0 nr.toNat).toNat) (firstR rd di 0 nr.toNat)) k := rfl
      refine r_aload_n dX0_weigh_49 rfl rfl ?_
      refine r_aload_n dX0_weigh_50 rfl rfl ?_
      refine r_aload_n dX0_weigh_51 rfl rfl ?_
      refine r_iload dX0_weigh_52 rfl ?_
      refine r_iload dX0_weigh_54 rfl ?_
      refine r_callV 58 [.ref 6, .ref 40, _, _] (s_X0_weighTilt (by exact c6) (by exact c7) (by exact c8) (by exact c9) (by exact c10) (by exact c11) (by exact c12) (by exact c13) (by exact c14) (by exact c15) (by exact c16) (by exact c40) (by exact c41) (by exact c42) (by exact c43) (by exact c44) (by exact c45) (by exact c46) (by exact c47) (by exact c48) (by rfl) (by rfl) (by rfl) pi ni (by omega) (by omega)) dX0_weigh_56 cs_X0_31 im_X0_weighTilt (by decide) rfl rfl (by decide) (by decide) (by decide) rfl rfl (Nat.le_of_ble_eq_true rfl) (fun _ _ _ q => q.elim) (fun v n2 h2 q => ?_)
      obtain ⟨rfl, rfl, hh⟩ := q
      obtain rfl := hh.symm
      refine ⟨rfl, ?_⟩
      dsimp only [Option.toList, List.cons_append, List.nil_append]
      refine r_aload_n dX0_weigh_59 rfl rfl ?_
      refine r_dup dX0_weigh_60 rfl ?_
      refine r_get (fs := [_, _, _, _]) dX0_weigh_61 fl_X0_11 (by decide) rfl rfl ?_
      refine r_aload_n dX0_weigh_64 rfl rfl ?_
      refine r_get (fs := [_, _, _, _]) dX0_weigh_65 fl_X0_19 (by decide) rfl rfl ?_
      refine r_iload dX0_weigh_68 rfl ?_
      refine r_ald dX0_weigh_70 (by decide) rfl (by omega) (by omega) (by decide) ?_
      refine r_aload_n dX0_weigh_71 rfl rfl ?_
      refine r_get (fs := [_, _, _, _]) dX0_weigh_72 fl_X0_15 (by decide) rfl rfl ?_
      refine r_iload dX0_weigh_75 rfl ?_
      refine r_ald dX0_weigh_77 (by decide) rfl (by omega) (by omega) (by decide) ?_
      refine r_isub dX0_weigh_78 ?_
      refine r_iconst dX0_weigh_79 ?_
      refine r_iadd dX0_weigh_80 ?_
      refine r_iadd dX0_weigh_81 ?_
      refine r_put (fs := [_, _, _, _]) (fs2 := [_, _, _, _]) dX0_weigh_82 fp_X0_11 (by decide) rfl (nar_int _) (Nat.le_of_ble_eq_true rfl) rfl ?_
      refine r_iinc (lv2 := [(0, _), (1, _), (2, _), (3, _), (4, _), (5, _)]) dX0_weigh_85 (by decide) rfl rfl rfl ?_
      refine r_goto (tgt := 15) dX0_weigh_88 (by decide) ?_
      rw [show (k : Int) + 1 = ((k + 1 : Nat) : Int) by omega]
      refine ev_h ?_ hi
      simp only [up3, Int.toNat_natCast, va_up_self]
    · have ew : (wtI (fun ti => plnT sw nc K O G L cf ct cd (rd (firstR rd di 0 nr.toNat).toNat) (ry (firstR rd di 0 nr.toNat).toNat) (rm (firstR rd di 0 nr.toNat).toNat) ti) (fun tu ti => allR (fun dy mi => tldI sw nc K O G L cf ct cd (rd (firstR rd di 0 nr.toNat).toNat) dy mi tu ti) rd ry rm rt (rd (firstR rd di 0 nr.toNat).toNat) nr.toNat) (rt (firstR rd di 0 nr.toNat).toNat) (firstR rd di 0 nr.toNat)) k = (-60, 60) := by unfold wtI; rw [if_pos g25]
      rw [ew] at hi bw
      refine r_aload_n dX0_weigh_28 rfl rfl ?_
      refine r_get (fs := [_, _, _, _]) dX0_weigh_29 fl_X0_15 (by decide) rfl rfl ?_
      refine r_iload dX0_weigh_32 rfl ?_
      refine r_bipush dX0_weigh_34 rfl ?_
      refine r_ast dX0_weigh_36 (by decide) rfl (by omega) (by omega) (by decide) ?_
      refine r_aload_n dX0_weigh_37 rfl rfl ?_
      refine r_get (fs := [_, _, _, _]) dX0_weigh_38 fl_X0_19 (by decide) rfl rfl ?_
      refine r_iload dX0_weigh_41 rfl ?_
      refine r_bipush dX0_weigh_43 rfl ?_
      refine r_ast dX0_weigh_45 (by decide) rfl (by omega) (by omega) (by decide) ?_
      refine r_goto (tgt := 59) dX0_weigh_46 (by decide) ?_
      refine r_aload_n dX0_weigh_59 rfl rfl ?_
      refine r_dup dX0_weigh_60 rfl ?_
      refine r_get (fs := [_, _, _, _]) dX0_weigh_61 fl_X0_11 (by decide) rfl rfl ?_
      refine r_aload_n dX0_weigh_64 rfl rfl ?_
      refine r_get (fs := [_, _, _, _]) dX0_weigh_65 fl_X0_19 (by decide) rfl rfl ?_
      refine r_iload dX0_weigh_68 rfl ?_
      refine r_ald dX0_weigh_70 (by decide) rfl (by omega) (by omega) (by decide) ?_
      refine r_aload_n dX0_weigh_71 rfl rfl ?_
      refine r_get (fs := [_, _, _, _]) dX0_weigh_72 fl_X0_15 (by decide) rfl rfl ?_
      refine r_iload dX0_weigh_75 rfl ?_
      refine r_ald dX0_weigh_77 (by decide) rfl (by omega) (by omega) (by decide) ?_
      refine r_isub dX0_weigh_78 ?_
      refine r_iconst dX0_weigh_79 ?_
      refine r_iadd dX0_weigh_80 ?_
      refine r_iadd dX0_weigh_81 ?_
      refine r_put (fs := [_, _, _, _]) (fs2 := [_, _, _, _]) dX0_weigh_82 fp_X0_11 (by decide) rfl (nar_int _) (Nat.le_of_ble_eq_true rfl) rfl ?_
      refine r_iinc (lv2 := [(0, _), (1, _), (2, _), (3, _), (4, _), (5, _)]) dX0_weigh_85 (by decide) rfl rfl rfl ?_
      refine r_goto (tgt := 15) dX0_weigh_88 (by decide) ?_
      rw [show (k : Int) + 1 = ((k + 1 : Nat) : Int) by omega]
      refine ev_h ?_ hi
      simp only [up3, Int.toNat_natCast, va_up_self]

