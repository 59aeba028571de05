def alI (se now : Nat → Int) (k : Nat) : Bool := decide (∀ j, j < k → se j = -1 ∨ now j = se j)
def gdI (se K : Nat → Int) : Nat → Int
  | 0 => -1
  | k + 1 => if se k ≠ -1 ∧ K k ≠ 5 then k else gdI se K k
theorem gdI_B (se K : Nat → Int) : ∀ k, gdI se K k = -1 ∨ (0 ≤ gdI se K k ∧ gdI se K k < k ∧ se (gdI se K k).toNat ≠ -1 ∧ K (gdI se K k).toNat ≠ 5) := by
  intro k
  induction k with
  | zero => exact Or.inl rfl
  | succ k ih =>
    unfold gdI
    split
    · next h => exact Or.inr ⟨by omega, by omega, by rw [Int.toNat_natCast]; exact h.1, by rw [Int.toNat_natCast]; exact h.2⟩
    · rcases ih with h | ⟨h1, h2, h3⟩
      · exact Or.inl h
      · exact Or.inr ⟨h1, by omega, h3⟩
def badI (se K now : Nat → Int) (k : Nat) : Bool := decide (∃ j, j < k ∧ se j ≠ -1 ∧ K j = 5 ∧ now j ≠ se j)
def ftS (g : Nat → Int) (ok : Int → Bool) (s : Int × Int × Int) : Nat → Int × Int × Int
  | 0 => s
  | k + 1 => if ok (g k) = true then mAdd (ftS g ok s k) (g k) else ftS g ok s k
theorem ftS_s (g : Nat → Int) (ok : Int → Bool) (s : Int × Int × Int) (k : Nat) : ftS g ok s (k + 1) = if ok (g k) = true then mAdd (ftS g ok s k) (g k) else ftS g ok s k := rfl
theorem ftS_congr {g g2 : Nat → Int} {ok : Int → Bool} {s : Int × Int × Int} : ∀ k, (∀ j, j < k → g j = g2 j) → ftS g ok s k = ftS g2 ok s k := by
  intro k
  induction k with
  | zero => intro _; rfl
  | succ k ih => intro h; rw [ftS_s, ftS_s, ih (fun j hj => h j (by omega)), h k (by omega)]
theorem mAdd_B {s : Int × Int × Int} {m : Int} (hm : 0 ≤ m ∧ m < 1440) (h1 : -1 ≤ s.2.1 ∧ s.2.1 < 1440) (h2 : -1 ≤ s.2.2 ∧ s.2.2 < 1440) : (-1 ≤ (mAdd s m).2.1 ∧ (mAdd s m).2.1 < 1440) ∧ -1 ≤ (mAdd s m).2.2 ∧ (mAdd s m).2.2 < 1440 := by
  unfold mAdd
  dsimp only
  split <;> omega
theorem ftS_B {g : Nat → Int} {ok : Int → Bool} {s : Int × Int × Int} (h1 : -1 ≤ s.2.1 ∧ s.2.1 < 1440) (h2 : -1 ≤ s.2.2 ∧ s.2.2 < 1440) : ∀ k, (∀ j, j < k → 0 ≤ g j ∧ g j < 1440) → (-1 ≤ (ftS g ok s k).2.1 ∧ (ftS g ok s k).2.1 < 1440) ∧ -1 ≤ (ftS g ok s k).2.2 ∧ (ftS g ok s k).2.2 < 1440 := by
  intro k
  induction k with
  | zero => intro _; exact ⟨h1, h2⟩
  | succ k ih =>
    intro h
    obtain ⟨a1, a2⟩ := ih (fun j hj => h j (by omega))
    rw [ftS_s]
    split
    · exact mAdd_B (h k (by omega)) a1 a2
    · exact ⟨a1, a2⟩
def fitN (nd sw nc nm : Int) (K U I O G L cf ct cd md my mt se : Nat → Int) (day : Int) (s : Int × Int × Int) : Int × Int × Int :=
  if badI se K (fun j => nowI sw nc nm K U I O G L cf ct cd md my mt (j : Nat) day 0) nd.toNat = true then s else if gdI se K nd.toNat = -1 then (1440, 0, 1439) else
    ftS (fun i => (momN sw nc nm K U I O G L cf ct cd md my mt (gdI se K nd.toNat) day (se (gdI se K nd.toNat).toNat)).getD i 0) (fun m => alI se (fun j => nowI sw nc nm K U I O G L cf ct cd md my mt (j : Nat) day m) nd.toNat) s (momN sw nc nm K U I O G L cf ct cd md my mt (gdI se K nd.toNat) day (se (gdI se K nd.toNat).toNat)).length
abbrev RetF (t : Int × Int × Int × Int) (s : Int × Int × Int) (dr : Int) (h : aH) : Option Value → Nat → aH → Prop := fun v n' h' => v = none ∧ n' = 97 ∧ ∃ f, h' = va_up (va_up h 67 (.inl (0, 14, f))) 62 (TAL t s dr)

theorem l_X8_allTellAsSeen {h : aH} {nd sw nc : Int} {K U I O G L cf ct fc nx cd : Nat → Int} (c6 : h 6 = .inr (4, [iv nd, iv sw, iv nc, .ref 7, .ref 8, .ref 9, .ref 10, .ref 11, .ref 12, .ref 13, .ref 14, .ref 15, .ref 16])) (c7 : h 7 = .inl (0, 9, K)) (c8 : h 8 = .inl (0, 9, U)) (c9 : h 9 = .inl (0, 9, I)) (c10 : h 10 = .inl (0, 9, O)) (c11 : h 11 = .inl (0, 9, G)) (c12 : h 12 = .inl (0, 12, L)) (c13 : h 13 = .inl (0, 20, cf)) (c14 : h 14 = .inl (0, 20, ct)) (c15 : h 15 = .inl (0, 365, fc)) (c16 : h 16 = .inl (0, 20, nx)) {nr ns nm : Int} {rd ry rm rt se md my mt : Nat → Int} (c40 : h 40 = .inr (3, [iv nr, iv ns, iv nm, .ref 41, .ref 42, .ref 43, .ref 44, .ref 45, .ref 46, .ref 47, .ref 48])) (c41 : h 41 = .inl (0, 12, rd)) (c42 : h 42 = .inl (0, 12, ry)) (c43 : h 43 = .inl (0, 12, rm)) (c44 : h 44 = .inl (0, 12, rt)) (c45 : h 45 = .inl (0, 9, se)) (c46 : h 46 = .inl (0, 40, md)) (c47 : h 47 = .inl (0, 40, my)) (c48 : h 48 = .inl (0, 40, mt)) {taped fpl hlaw himg : Int} (c0 : h 0 = .inr (8, [.ref 1, iv taped, iv fpl, .ref 2, .ref 3, .ref 4, .ref 5, .ref 6, .ref 17, .ref 28, .ref 34, iv hlaw, .ref 40, .ref 49, iv himg, .ref 58, .ref 62, .ref 65, .ref 66, .ref 67])) (pi : PInv nd sw nc K U I O G L cf ct fc nx cd) (ni : NInv nr ns nm rd ry rm rt se md my mt) {day : Int} (hd : 0 ≤ day ∧ day < 365) {m : Int} (hm : 0 ≤ m ∧ m < 1440) : ∀ (w k : Nat), (k : Int) + w = nd → (∀ j, j < k → se j = -1 ∨ (fun j => nowI sw nc nm K U I O G L cf ct cd md my mt (j : Nat) day m) j = se j) → Ev RX8 "allTellAsSeen" cX8_allTellAsSeen 5 (some .boolean) 7 0 0 (Ret (b2i (alI se (fun j => nowI sw nc nm K U I O G L cf ct cd md my mt (j : Nat) day m) nd.toNat)) h) noX 97 h 2 [(0, .ref 0), (1, iv day), (2, iv m), (3, iv k)] [] := by
  obtain ⟨pnd, psw, pnc, pK, pU, pI, pO, pG, pL, pcf, pct, pfc, pnx⟩ := id pi
  obtain ⟨pnr, pns, pnm, prd, pry, prm, prt, pse, pmd, pmy, pmt⟩ := id ni
  intro w
  induction w with
  | zero =>
    intro k hk hp
    obtain rfl : nd = (k : Int) := by omega
    refine r_iload_n dX8_allTellAsSeen_2 rfl rfl ?_
    refine r_aload_n dX8_allTellAsSeen_3 rfl rfl ?_
    refine r_get (fs := [_, _, _, _, _, _, _, _, _, _, _, _, _, _, _, _, _, _, _, _]) dX8_allTellAsSeen_4 fl_X8_48 (by decide) c0 rfl ?_
    refine r_get (fs := [_, _, _, _, _, _, _, _, _, _, _, _, _]) dX8_allTellAsSeen_7 fl_X8_127 (by decide) c6 rfl ?_
    refine r_icmp_ge (tgt := 50) dX8_allTellAsSeen_10 (by decide) ⟨by omega, by omega⟩ ⟨by omega, by omega⟩ (fun g10 => ?_) (fun g10 => absurd g10 (by omega))
    refine r_iconst dX8_allTellAsSeen_50 ?_
    refine r_zret dX8_allTellAsSeen_51 (nar_z (by omega)) ?_
    exact ⟨ivE (by unfold alI; rw [Int.toNat_natCast, decide_eq_true hp]; rfl), rfl, rfl⟩
  | succ w ih =>
    intro k hk hp
    have b1 := pse k
    have b2 := now_B sw nc nm K U I O G L cf ct cd md my mt k day m
    refine r_iload_n dX8_allTellAsSeen_2 rfl rfl ?_
    refine r_aload_n dX8_allTellAsSeen_3 rfl rfl ?_
    refine r_get (fs := [_, _, _, _, _, _, _, _, _, _, _, _, _, _, _, _, _, _, _, _]) dX8_allTellAsSeen_4 fl_X8_48 (by decide) c0 rfl ?_
    refine r_get (fs := [_, _, _, _, _, _, _, _, _, _, _, _, _]) dX8_allTellAsSeen_7 fl_X8_127 (by decide) c6 rfl ?_
    refine r_icmp_ge (tgt := 50) dX8_allTellAsSeen_10 (by decide) ⟨by omega, by omega⟩ ⟨by omega, by omega⟩ (fun g10 => absurd g10 (by omega)) (fun g10 => ?_)
    refine r_aload_n dX8_allTellAsSeen_13 rfl rfl ?_
    refine r_get (fs := [_, _, _, _, _, _, _, _, _, _, _, _, _, _, _, _, _, _, _, _]) dX8_allTellAsSeen_14 fl_X8_72 (by decide) c0 rfl ?_
    refine r_get (fs := [_, _, _, _, _, _, _, _, _, _, _]) dX8_allTellAsSeen_17 fl_X8_280 (by decide) c40 rfl ?_
    refine r_iload_n dX8_allTellAsSeen_20 rfl rfl ?_
    refine r_ald dX8_allTellAsSeen_21 (by decide) c45 (by omega) (by omega) (by decide) ?_
    rw [Int.toNat_natCast]
    refine r_istore (lv2 := [(0, _), (1, _), (2, _), (3, _), (4, _)]) dX8_allTellAsSeen_22 (by decide) rfl rfl ?_
    refine r_iload dX8_allTellAsSeen_24 rfl ?_
    refine r_iconst dX8_allTellAsSeen_26 ?_
    refine r_icmp_eq (tgt := 44) dX8_allTellAsSeen_27 (by decide) ⟨by omega, by omega⟩ ⟨by omega, by omega⟩ (fun g27 => ?_) (fun g27 => ?_)
    · refine r_iinc (lv2 := [(0, _), (1, _), (2, _), (3, _), (4, _)]) dX8_allTellAsSeen_44 (by decide) rfl rfl rfl ?_
      refine r_goto (tgt := 2) dX8_allTellAsSeen_47 (by decide) ?_
      refine r_lv (lv2 := [(0, _), (1, _), (2, _), (3, _)]) rfl ?_
      rw [show (k : Int) + 1 = ((k + 1 : Nat) : Int) by omega]
      refine ih (k + 1) (by omega) (fun j hj => ?_)
      by_cases hj2 : j = k
      · subst hj2; dsimp only; omega
      · exact hp j (by omega)
    · refine r_aload_n dX8_allTellAsSeen_30 rfl rfl ?_
      refine r_iload_n dX8_allTellAsSeen_31 rfl rfl ?_
      refine r_iload_n dX8_allTellAsSeen_32 rfl rfl ?_
      refine r_iload_n dX8_allTellAsSeen_33 rfl rfl ?_
      refine r_callV 0 [_, _, _] (s_X8_toldNow c6 c7 c8 c9 c10 c11 c12 c13 c14 c15 c16 c40 c41 c42 c43 c44 c45 c46 c47 c48 c0 pi ni (by omega) (by omega) (by omega)) dX8_allTellAsSeen_34 cs_X8_234 im_X8_toldNow (by decide) c0 rfl (by decide) (by decide) (by decide) rfl rfl (Nat.le_of_ble_eq_true rfl) (fun _ _ _ q => q.elim) (fun v n2 h2 q => ?_)
      obtain ⟨rfl, rfl, hh⟩ := q
      obtain rfl := hh.symm
      refine ⟨rfl, ?_⟩
      dsimp only [Option.toList, List.cons_append, List.nil_append]
      refine r_iload dX8_allTellAsSeen_37 rfl ?_
      refine r_icmp_eq (tgt := 44) dX8_allTellAsSeen_39 (by decide) ⟨by omega, by omega⟩ ⟨by omega, by omega⟩ (fun g39 => ?_) (fun g39 => ?_)
      · refine r_iinc (lv2 := [(0, _), (1, _), (2, _), (3, _), (4, _)]) dX8_allTellAsSeen_44 (by decide) rfl rfl rfl ?_
        refine r_goto (tgt := 2) dX8_allTellAsSeen_47 (by decide) ?_
        refine r_lv (lv2 := [(0, _), (1, _), (2, _), (3, _)]) rfl ?_
        rw [show (k : Int) + 1 = ((k + 1 : Nat) : Int) by omega]
        refine ih (k + 1) (by omega) (fun j hj => ?_)
        by_cases hj2 : j = k
        · subst hj2; dsimp only; omega
        · exact hp j (by omega)
      · refine r_iconst dX8_allTellAsSeen_42 ?_
        refine r_zret dX8_allTellAsSeen_43 (nar_z (by omega)) ?_
        refine ⟨ivE ?_, rfl, rfl⟩
        unfold alI
        rw [decide_eq_false (fun q => ?_)]
        · rfl
        · have := q k (by omega)
          dsimp only at this
          omega

theorem s_X8_allTellAsSeen {h : aH} {nd sw nc : Int} {K U I O G L cf ct fc nx cd : Nat → Int} (c6 : h 6 = .inr (4, [iv nd, iv sw, iv nc, .ref 7, .ref 8, .ref 9, .ref 10, .ref 11, .ref 12, .ref 13, .ref 14, .ref 15, .ref 16])) (c7 : h 7 = .inl (0, 9, K)) (c8 : h 8 = .inl (0, 9, U)) (c9 : h 9 = .inl (0, 9, I)) (c10 : h 10 = .inl (0, 9, O)) (c11 : h 11 = .inl (0, 9, G)) (c12 : h 12 = .inl (0, 12, L)) (c13 : h 13 = .inl (0, 20, cf)) (c14 : h 14 = .inl (0, 20, ct)) (c15 : h 15 = .inl (0, 365, fc)) (c16 : h 16 = .inl (0, 20, nx)) {nr ns nm : Int} {rd ry rm rt se md my mt : Nat → Int} (c40 : h 40 = .inr (3, [iv nr, iv ns, iv nm, .ref 41, .ref 42, .ref 43, .ref 44, .ref 45, .ref 46, .ref 47, .ref 48])) (c41 : h 41 = .inl (0, 12, rd)) (c42 : h 42 = .inl (0, 12, ry)) (c43 : h 43 = .inl (0, 12, rm)) (c44 : h 44 = .inl (0, 12, rt)) (c45 : h 45 = .inl (0, 9, se)) (c46 : h 46 = .inl (0, 40, md)) (c47 : h 47 = .inl (0, 40, my)) (c48 : h 48 = .inl (0, 40, mt)) {taped fpl hlaw himg : Int} (c0 : h 0 = .inr (8, [.ref 1, iv taped, iv fpl, .ref 2, .ref 3, .ref 4, .ref 5, .ref 6, .ref 17, .ref 28, .ref 34, iv hlaw, .ref 40, .ref 49, iv himg, .ref 58, .ref 62, .ref 65, .ref 66, .ref 67])) (pi : PInv nd sw nc K U I O G L cf ct fc nx cd) (ni : NInv nr ns nm rd ry rm rt se md my mt) {day : Int} (hd : 0 ≤ day ∧ day < 365) {m : Int} (hm : 0 ≤ m ∧ m < 1440) : mSem yX8_allTellAsSeen cX8_allTellAsSeen 5 (some .boolean) 7 0 0 [.ref 0, iv day, iv m] 97 h (Ret (b2i (alI se (fun j => nowI sw nc nm K U I O G L cf ct cd md my mt (j : Nat) day m) nd.toNat)) h) noX := by
  obtain ⟨pnd, psw, pnc, pK, pU, pI, pO, pG, pL, pcf, pct, pfc, pnx⟩ := id pi
  obtain ⟨pnr, pns, pnm, prd, pry, prm, prt, pse, pmd, pmy, pmt⟩ := id ni
  refine mSem_of (own := RX8) (name := "allTellAsSeen") pn_X8 rfl rfl (Nat.le_of_ble_eq_true rfl) ?_
  refine r_iconst dX8_allTellAsSeen_0 ?_
  refine r_istore_n (lv2 := [(0, _), (1, _), (2, _), (3, _)]) dX8_allTellAsSeen_1 rfl (by decide) rfl rfl ?_
  exact l_X8_allTellAsSeen c6 c7 c8 c9 c10 c11 c12 c13 c14 c15 c16 c40 c41 c42 c43 c44 c45 c46 c47 c48 c0 pi ni hd hm nd.toNat 0 (by omega) (fun j hj => absurd hj (by omega))

theorem l_X8_addFitting2 {h : aH} {nd sw nc : Int} {K U I O G L cf ct fc nx cd : Nat → Int} (c6 : h 6 = .inr (4, [iv nd, iv sw, iv nc, .ref 7, .ref 8, .ref 9, .ref 10, .ref 11, .ref 12, .ref 13, .ref 14, .ref 15, .ref 16])) (c7 : h 7 = .inl (0, 9, K)) (c8 : h 8 = .inl (0, 9, U)) (c9 : h 9 = .inl (0, 9, I)) (c10 : h 10 = .inl (0, 9, O)) (c11 : h 11 = .inl (0, 9, G)) (c12 : h 12 = .inl (0, 12, L)) (c13 : h 13 = .inl (0, 20, cf)) (c14 : h 14 = .inl (0, 20, ct)) (c15 : h 15 = .inl (0, 365, fc)) (c16 : h 16 = .inl (0, 20, nx)) {nr ns nm : Int} {rd ry rm rt se md my mt : Nat → Int} (c40 : h 40 = .inr (3, [iv nr, iv ns, iv nm, .ref 41, .ref 42, .ref 43, .ref 44, .ref 45, .ref 46, .ref 47, .ref 48])) (c41 : h 41 = .inl (0, 12, rd)) (c42 : h 42 = .inl (0, 12, ry)) (c43 : h 43 = .inl (0, 12, rm)) (c44 : h 44 = .inl (0, 12, rt)) (c45 : h 45 = .inl (0, 9, se)) (c46 : h 46 = .inl (0, 40, md)) (c47 : h 47 = .inl (0, 40, my)) (c48 : h 48 = .inl (0, 40, mt)) {taped fpl hlaw himg : Int} (c0 : h 0 = .inr (8, [.ref 1, iv taped, iv fpl, .ref 2, .ref 3, .ref 4, .ref 5, .ref 6, .ref 17, .ref 28, .ref 34, iv hlaw, .ref 40, .ref 49, iv himg, .ref 58, .ref 62, .ref 65, .ref 66, .ref 67])) {t : Int × Int × Int × Int} {s : Int × Int × Int} {dr : Int} (c62 : h 62 = TAL t s dr) (pi : PInv nd sw nc K U I O G L cf ct fc nx cd) (ni : NInv nr ns nm rd ry rm rt se md my mt) {day : Int} (hd : 0 ≤ day ∧ day < 365)(hs : (-1 ≤ s.2.1 ∧ s.2.1 < 1440) ∧ -1 ≤ s.2.2 ∧ s.2.2 < 1440) {g : Nat → Int} {N : Nat} (hN : N ≤ 14) (hg : ∀ j, j < N → 0 ≤ g j ∧ g j < 1440) {gu : Int} : ∀ (w k : Nat), k + w = N → Ev RX8 "addFitting" cX8_addFitting 5 none 8 0 0 (RetV (va_up (va_up h 67 (.inl (0, 14, g))) 62 (TAL t (ftS g (fun m => alI se (fun j => nowI sw nc nm K U I O G L cf ct cd md my mt (j : Nat) day m) nd.toNat) s N) dr))) noX 97 (va_up (va_up h 67 (.inl (0, 14, g))) 62 (TAL t (ftS g (fun m => alI se (fun j => nowI sw nc nm K U I O G L cf ct cd md my mt (j : Nat) day m) nd.toNat) s k) dr)) 117 [(0, .ref 0), (1, iv day), (2, iv gu), (3, iv N), (4, iv k)] [] := by
  obtain ⟨pnd, psw, pnc, pK, pU, pI, pO, pG, pL, pcf, pct, pfc, pnx⟩ := id pi
  obtain ⟨pnr, pns, pnm, prd, pry, prm, prt, pse, pmd, pmy, pmt⟩ := id ni
  intro w
  induction w with
  | zero =>
    intro k hk
    obtain rfl : k = N := by omega
    refine r_iload dX8_addFitting_117 rfl ?_
    refine r_iload_n dX8_addFitting_119 rfl rfl ?_
    refine r_icmp_ge (tgt := 168) dX8_addFitting_120 (by decide) ⟨by omega, by omega⟩ ⟨by omega, by omega⟩ (fun g120 => ?_) (fun g120 => absurd g120 (by omega))
    refine r_vret dX8_addFitting_168 ?_
    exact ⟨rfl, rfl, rfl⟩
  | succ w ih =>
    intro k hk
    have b1 := ftS_B (ok := (fun m => alI se (fun j => nowI sw nc nm K U I O G L cf ct cd md my mt (j : Nat) day m) nd.toNat)) hs.1 hs.2 k (fun j hj => hg j (by omega))
    have b2 := hg k (by omega)
    have hi := ih (k + 1) (by omega)
    rw [ftS_s] at hi
    have bc := b2i_01 ((fun m => alI se (fun j => nowI sw nc nm K U I O G L cf ct cd md my mt (j : Nat) day m) nd.toNat) (g k))
    dsimp only at bc hi
    refine r_iload dX8_addFitting_117 rfl ?_
    refine r_iload_n dX8_addFitting_119 rfl rfl ?_
    refine r_icmp_ge (tgt := 168) dX8_addFitting_120 (by decide) ⟨by omega, by omega⟩ ⟨by omega, by omega⟩ (fun g120 => absurd g120 (by omega)) (fun g120 => ?_)
    refine r_iload dX8_addFitting_123 rfl ?_
    refine r_aload_n dX8_addFitting_125 rfl rfl ?_
    refine r_get (fs := [_, _, _, _, _, _, _, _, _, _, _, _, _, _, _, _, _, _, _, _]) dX8_addFitting_126 fl_X8_102 (by decide) c0 rfl ?_
    refine r_alen dX8_addFitting_129 (by decide) rfl (by decide) ?_
    refine r_icmp_ge (tgt := 168) dX8_addFitting_130 (by decide) ⟨by omega, by omega⟩ ⟨by omega, by omega⟩ (fun g130 => absurd g130 (by omega)) (fun g130 => ?_)
    refine r_aload_n dX8_addFitting_133 rfl rfl ?_
    refine r_iload_n dX8_addFitting_134 rfl rfl ?_
    refine r_aload_n dX8_addFitting_135 rfl rfl ?_
    refine r_get (fs := [_, _, _, _, _, _, _, _, _, _, _, _, _, _, _, _, _, _, _, _]) dX8_addFitting_136 fl_X8_102 (by decide) c0 rfl ?_
    refine r_iload dX8_addFitting_139 rfl ?_
    refine r_ald dX8_addFitting_141 (by decide) rfl (by omega) (by omega) (by decide) ?_
    rw [Int.toNat_natCast]
    refine r_callV 0 [_, _] (s_X8_allTellAsSeen (by exact c6) (by exact c7) (by exact c8) (by exact c9) (by exact c10) (by exact c11) (by exact c12) (by exact c13) (by exact c14) (by exact c15) (by exact c16) (by exact c40) (by exact c41) (by exact c42) (by exact c43) (by exact c44) (by exact c45) (by exact c46) (by exact c47) (by exact c48) (by exact c0) pi ni (by omega) (by omega)) dX8_addFitting_142 cs_X8_305 im_X8_allTellAsSeen (by decide) c0 rfl (by decide) (by decide) (by decide) rfl rfl (Nat.le_of_ble_eq_true rfl) (fun _ _ _ q => q.elim) (fun v n2 h2 q => ?_)
    obtain ⟨rfl, rfl, hh⟩ := q
    obtain rfl := hh.symm
    refine ⟨rfl, ?_⟩
    dsimp only [Option.toList, List.cons_append, List.nil_append]
    refine r_if_eq (tgt := 162) dX8_addFitting_145 (by decide) ⟨by omega, by omega⟩ (fun g145 => ?_) (fun g145 => ?_)
    · refine r_iinc (lv2 := [(0, _), (1, _), (2, _), (3, _), (4, _)]) dX8_addFitting_162 (by decide) rfl rfl rfl ?_
      refine r_goto (tgt := 117) dX8_addFitting_165 (by decide) ?_
      rw [show (k : Int) + 1 = ((k + 1 : Nat) : Int) by omega]
      first
        | (rw [if_neg (by rw [b2i_0] at g145; simp [g145])] at hi
           exact hi)
        | (rw [if_pos (by rw [b2i_0, Bool.not_eq_false] at g145; exact g145)] at hi
           rw [bx_uu]
           exact hi)
    · refine r_aload_n dX8_addFitting_148 rfl rfl ?_
      refine r_get (fs := [_, _, _, _, _, _, _, _, _, _, _, _, _, _, _, _, _, _, _, _]) dX8_addFitting_149 fl_X8_92 (by decide) c0 rfl ?_
      refine r_aload_n dX8_addFitting_152 rfl rfl ?_
      refine r_get (fs := [_, _, _, _, _, _, _, _, _, _, _, _, _, _, _, _, _, _, _, _]) dX8_addFitting_153 fl_X8_102 (by decide) c0 rfl ?_
      refine r_iload dX8_addFitting_156 rfl ?_
      refine r_ald dX8_addFitting_158 (by decide) rfl (by omega) (by omega) (by decide) ?_
      rw [Int.toNat_natCast]
      refine r_callV 62 [_] (s_X7_addMinute (by rfl) (by omega) (by omega) (by omega)) dX8_addFitting_159 cs_X8_308 im_X7_addMinute (by decide) rfl rfl (by decide) (by decide) (by decide) rfl rfl (Nat.le_of_ble_eq_true rfl) (fun _ _ _ q => q.elim) (fun v n2 h2 q => ?_)
      obtain ⟨rfl, rfl, hh⟩ := q
      obtain rfl := hh.symm
      refine ⟨rfl, ?_⟩
      dsimp only [Option.toList, List.cons_append, List.nil_append]
      refine r_iinc (lv2 := [(0, _), (1, _), (2, _), (3, _), (4, _)]) dX8_addFitting_162 (by decide) rfl rfl rfl ?_
      refine r_goto (tgt := 117) dX8_addFitting_165 (by decide) ?_
      rw [show (k : Int) + 1 = ((k + 1 : Nat) : Int) by omega]
      first
        | (rw [if_neg (by rw [b2i_0] at g145; simp [g145])] at hi
           exact hi)
        | (rw [if_pos (by rw [b2i_0, Bool.not_eq_false] at g145; exact g145)] at hi
           rw [bx_uu]
           exact hi)

theorem l_X8_addFitting1 {h : aH} {nd sw nc : Int} {K U I O G L cf ct fc nx cd : Nat → Int} (c6 : h 6 = .inr (4, [iv nd, iv sw, iv nc, .ref 7, .ref 8, .ref 9, .ref 10, .ref 11, .ref 12, .ref 13, .ref 14, .ref 15, .ref 16])) (c7 : h 7 = .inl (0, 9, K)) (c8 : h 8 = .inl (0, 9, U)) (c9 : h 9 = .inl (0, 9, I)) (c10 : h 10 = .inl (0, 9, O)) (c11 : h 11 = .inl (0, 9, G)) (c12 : h 12 = .inl (0, 12, L)) (c13 : h 13 = .inl (0, 20, cf)) (c14 : h 14 = .inl (0, 20, ct)) (c15 : h 15 = .inl (0, 365, fc)) (c16 : h 16 = .inl (0, 20, nx)) {nr ns nm : Int} {rd ry rm rt se md my mt : Nat → Int} (c40 : h 40 = .inr (3, [iv nr, iv ns, iv nm, .ref 41, .ref 42, .ref 43, .ref 44, .ref 45, .ref 46, .ref 47, .ref 48])) (c41 : h 41 = .inl (0, 12, rd)) (c42 : h 42 = .inl (0, 12, ry)) (c43 : h 43 = .inl (0, 12, rm)) (c44 : h 44 = .inl (0, 12, rt)) (c45 : h 45 = .inl (0, 9, se)) (c46 : h 46 = .inl (0, 40, md)) (c47 : h 47 = .inl (0, 40, my)) (c48 : h 48 = .inl (0, 40, mt)) {taped fpl hlaw himg : Int} (c0 : h 0 = .inr (8, [.ref 1, iv taped, iv fpl, .ref 2, .ref 3, .ref 4, .ref 5, .ref 6, .ref 17, .ref 28, .ref 34, iv hlaw, .ref 40, .ref 49, iv himg, .ref 58, .ref 62, .ref 65, .ref 66, .ref 67])) {t : Int × Int × Int × Int} {s : Int × Int × Int} {dr : Int} (c62 : h 62 = TAL t s dr) {mf : Nat → Int} (c67 : h 67 = .inl (0, 14, mf)) (pi : PInv nd sw nc K U I O G L cf ct fc nx cd) (ni : NInv nr ns nm rd ry rm rt se md my mt) {day : Int} (hd : 0 ≤ day ∧ day < 365)(hs : (-1 ≤ s.2.1 ∧ s.2.1 < 1440) ∧ -1 ≤ s.2.2 ∧ s.2.2 < 1440)  : ∀ (w k : Nat), (k : Int) + w = nd → (∀ j, j < k → se j ≠ -1 → K j = 5 → (fun j => nowI sw nc nm K U I O G L cf ct cd md my mt (j : Nat) day 0) j = se j) → Ev RX8 "addFitting" cX8_addFitting 5 none 8 0 0 (RetF t (fitN nd sw nc nm K U I O G L cf ct cd md my mt se day s) dr h) noX 97 h 4 [(0, .ref 0), (1, iv day), (2, iv (gdI se K k)), (3, iv k)] [] := by
  obtain ⟨pnd, psw, pnc, pK, pU, pI, pO, pG, pL, pcf, pct, pfc, pnx⟩ := id pi
  obtain ⟨pnr, pns, pnm, prd, pry, prm, prt, pse, pmd, pmy, pmt⟩ := id ni
  intro w
  induction w with
  | zero =>
    intro k hk hp
    obtain rfl : nd = (k : Int) := by omega
    have bg := gdI_B se K k
    have bs := pse (gdI se K k).toNat
    have hb : badI se K (fun j => nowI sw nc nm K U I O G L cf ct cd md my mt (j : Nat) day 0) (k : Int).toNat = false := decide_eq_false (fun ⟨j, h1, h2, h3, h4⟩ => h4 (hp j (by omega) h2 h3))
    have bT := turn_B (md := md) (my := my) (di := gdI se K k) (day := day) (pU (gdI se K k).toNat) pmt nm.toNat
    have ek : (k : Int).toNat = k := Int.toNat_natCast k
    refine r_iload_n dX8_addFitting_4 rfl rfl ?_
    refine r_aload_n dX8_addFitting_5 rfl rfl ?_
    refine r_get (fs := [_, _, _, _, _, _, _, _, _, _, _, _, _, _, _, _, _, _, _, _]) dX8_addFitting_6 fl_X8_48 (by decide) c0 rfl ?_
    refine r_get (fs := [_, _, _, _, _, _, _, _, _, _, _, _, _]) dX8_addFitting_9 fl_X8_127 (by decide) c6 rfl ?_
    refine r_icmp_ge (tgt := 72) dX8_addFitting_12 (by decide) ⟨by omega, by omega⟩ ⟨by omega, by omega⟩ (fun g12 => ?_) (fun g12 => absurd g12 (by omega))
    refine r_iload_n dX8_addFitting_72 rfl rfl ?_
    refine r_iconst dX8_addFitting_73 ?_
    refine r_icmp_ne (tgt := 85) dX8_addFitting_74 (by decide) ⟨by omega, by omega⟩ ⟨by omega, by omega⟩ (fun g74 => ?_) (fun g74 => ?_)
    · refine r_aload_n dX8_addFitting_85 rfl rfl ?_
      refine r_get (fs := [_, _, _, _, _, _, _, _, _, _, _, _, _, _, _, _, _, _, _, _]) dX8_addFitting_86 fl_X8_48 (by decide) c0 rfl ?_
      refine r_iload_n dX8_addFitting_89 rfl rfl ?_
      refine r_iload_n dX8_addFitting_90 rfl rfl ?_
      refine r_aload_n dX8_addFitting_91 rfl rfl ?_
      refine r_get (fs := [_, _, _, _, _, _, _, _, _, _, _, _, _, _, _, _, _, _, _, _]) dX8_addFitting_92 fl_X8_72 (by decide) c0 rfl ?_
      refine r_get (fs := [_, _, _, _, _, _, _, _, _, _, _]) dX8_addFitting_95 fl_X8_280 (by decide) c40 rfl ?_
      refine r_iload_n dX8_addFitting_98 rfl rfl ?_
      refine r_ald dX8_addFitting_99 (by decide) c45 (by omega) (by omega) (by decide) ?_
      refine r_aload_n dX8_addFitting_100 rfl rfl ?_
      refine r_iload_n dX8_addFitting_101 rfl rfl ?_
      refine r_iload_n dX8_addFitting_102 rfl rfl ?_
      refine r_callV 0 [_, _] (s_X8_turnOn c6 c7 c8 c9 c10 c11 c12 c13 c14 c15 c16 c40 c41 c42 c43 c44 c45 c46 c47 c48 c0 pi ni (by omega) (by omega)) dX8_addFitting_103 cs_X8_238 im_X8_turnOn (by decide) c0 rfl (by decide) (by decide) (by decide) rfl rfl (Nat.le_of_ble_eq_true rfl) (fun _ _ _ q => q.elim) (fun v n2 h2 q => ?_)
      obtain ⟨rfl, rfl, hh⟩ := q
      obtain rfl := hh.symm
      refine ⟨rfl, ?_⟩
      dsimp only [Option.toList, List.cons_append, List.nil_append]
      refine r_aload_n dX8_addFitting_106 rfl rfl ?_
      refine r_get (fs := [_, _, _, _, _, _, _, _, _, _, _, _, _, _, _, _, _, _, _, _]) dX8_addFitting_107 fl_X8_102 (by decide) c0 rfl ?_
      refine r_callV 6 [_, _, _, _, .ref 67] (s_X4_findMoments c6 c7 c8 c9 c10 c11 c12 c13 c14 c15 c16 pi c67 (by omega) hd (by omega) (by omega)) dX8_addFitting_110 cs_X8_301 im_X4_findMoments (by decide) c6 rfl (by decide) (by decide) (by decide) rfl rfl (Nat.le_of_ble_eq_true rfl) (fun _ _ _ q => q.elim) (fun v n2 h2 q => ?_)
      obtain ⟨rfl, rfl, hh⟩ := q
      obtain rfl := hh.symm
      refine ⟨rfl, ?_⟩
      dsimp only [Option.toList, List.cons_append, List.nil_append]
      refine r_istore_n (lv2 := [(0, _), (1, _), (2, _), (3, _)]) dX8_addFitting_113 rfl (by decide) rfl rfl ?_
      refine r_iconst dX8_addFitting_114 ?_
      refine r_istore (lv2 := [(0, _), (1, _), (2, _), (3, _), (4, _)]) dX8_addFitting_115 (by decide) rfl rfl ?_
      obtain ⟨m1, m2⟩ := mom_B (nc := nc) (nm := nm) (K := K) (U := U) (I := I) (O := O) (G := G) (cf := cf) (ct := ct) (cd := cd) (md := md) (my := my) (mt := mt) (di := gdI se K k) (told := se (gdI se K k).toNat) psw pL hd
      have e1 : ∀ j, j < (momN sw nc nm K U I O G L cf ct cd md my mt (gdI se K k) day (se (gdI se K k).toNat)).length → putL mf 0 (momN sw nc nm K U I O G L cf ct cd md my mt (gdI se K k) day (se (gdI se K k).toNat)) j = (momN sw nc nm K U I O G L cf ct cd md my mt (gdI se K k) day (se (gdI se K k).toNat)).getD j 0 := fun j hj => by rw [putL_get, if_pos (by omega), Nat.sub_zero]
      have hk2 := l_X8_addFitting2 c6 c7 c8 c9 c10 c11 c12 c13 c14 c15 c16 c40 c41 c42 c43 c44 c45 c46 c47 c48 c0 c62 pi ni hd hs (g := putL mf 0 (momN sw nc nm K U I O G L cf ct cd md my mt (gdI se K k) day (se (gdI se K k).toNat))) m1 (fun j hj => by rw [e1 j hj]; exact getD_B m2 j hj) (gu := gdI se K k) _ 0 (Nat.zero_add _)
      rw [ftS_congr _ e1] at hk2
      refine r_lv (lv2 := [(0, _), (1, _), (2, _), (3, _), (4, _)]) rfl ?_
      refine ev_h (up_same (k := 62) (e := TAL t s dr) c62) ?_
      refine ev_post hk2 (fun v n2 h2 q => ?_) (fun _ _ _ q => q)
      obtain ⟨rfl, rfl, rfl⟩ := q
      refine ⟨rfl, rfl, putL mf 0 (momN sw nc nm K U I O G L cf ct cd md my mt (gdI se K k) day (se (gdI se K k).toNat)), ?_⟩
      unfold fitN
      rw [if_neg (by rw [hb]; decide), ek, if_neg g74]
    · refine r_aload_n dX8_addFitting_77 rfl rfl ?_
      refine r_get (fs := [_, _, _, _, _, _, _, _, _, _, _, _, _, _, _, _, _, _, _, _]) dX8_addFitting_78 fl_X8_92 (by decide) c0 rfl ?_
      refine r_callV 62 [] (s_X7_addAllMinutes c62) dX8_addFitting_81 cs_X8_298 im_X7_addAllMinutes (by decide) c62 rfl (by decide) (by decide) (by decide) rfl rfl (Nat.le_of_ble_eq_true rfl) (fun _ _ _ q => q.elim) (fun v n2 h2 q => ?_)
      obtain ⟨rfl, rfl, hh⟩ := q
      obtain rfl := hh.symm
      refine ⟨rfl, ?_⟩
      dsimp only [Option.toList, List.cons_append, List.nil_append]
      refine r_vret dX8_addFitting_84 ?_
      refine ⟨rfl, rfl, mf, ?_⟩
      unfold fitN
      rw [if_neg (by rw [hb]; decide), ek, if_pos g74, ← up_same c67]
  | succ w ih =>
    intro k hk hp
    have b1 := pse k
    have b2 := pK k
    have b3 := now_B sw nc nm K U I O G L cf ct cd md my mt k day 0
    have e3 : gdI se K (k + 1) = if se k ≠ -1 ∧ K k ≠ 5 then (k : Int) else gdI se K k := rfl
    refine r_iload_n dX8_addFitting_4 rfl rfl ?_
    refine r_aload_n dX8_addFitting_5 rfl rfl ?_
    refine r_get (fs := [_, _, _, _, _, _, _, _, _, _, _, _, _, _, _, _, _, _, _, _]) dX8_addFitting_6 fl_X8_48 (by decide) c0 rfl ?_
    refine r_get (fs := [_, _, _, _, _, _, _, _, _, _, _, _, _]) dX8_addFitting_9 fl_X8_127 (by decide) c6 rfl ?_
    refine r_icmp_ge (tgt := 72) dX8_addFitting_12 (by decide) ⟨by omega, by omega⟩ ⟨by omega, by omega⟩ (fun g12 => absurd g12 (by omega)) (fun g12 => ?_)
    refine r_aload_n dX8_addFitting_15 rfl rfl ?_
    refine r_get (fs := [_, _, _, _, _, _, _, _, _, _, _, _, _, _, _, _, _, _, _, _]) dX8_addFitting_16 fl_X8_72 (by decide) c0 rfl ?_
    refine r_get (fs := [_, _, _, _, _, _, _, _, _, _, _]) dX8_addFitting_19 fl_X8_280 (by decide) c40 rfl ?_
    refine r_iload_n dX8_addFitting_22 rfl rfl ?_
    refine r_ald dX8_addFitting_23 (by decide) c45 (by omega) (by omega) (by decide) ?_
    rw [Int.toNat_natCast]
    refine r_istore (lv2 := [(0, _), (1, _), (2, _), (3, _), (4, _)]) dX8_addFitting_24 (by decide) rfl rfl ?_
    refine r_iload dX8_addFitting_26 rfl ?_
    refine r_iconst dX8_addFitting_28 ?_
    refine r_icmp_ne (tgt := 35) dX8_addFitting_29 (by decide) ⟨by omega, by omega⟩ ⟨by omega, by omega⟩ (fun g29 => ?_) (fun g29 => ?_)
    · refine r_aload_n dX8_addFitting_35 rfl rfl ?_
      refine r_get (fs := [_, _, _, _, _, _, _, _, _, _, _, _, _, _, _, _, _, _, _, _]) dX8_addFitting_36 fl_X8_48 (by decide) c0 rfl ?_
      refine r_get (fs := [_, _, _, _, _, _, _, _, _, _, _, _, _]) dX8_addFitting_39 fl_X8_212 (by decide) c6 rfl ?_
      refine r_iload_n dX8_addFitting_42 rfl rfl ?_
      refine r_ald dX8_addFitting_43 (by decide) c7 (by omega) (by omega) (by decide) ?_
      rw [Int.toNat_natCast]
      refine r_iconst dX8_addFitting_44 ?_
      refine r_icmp_eq (tgt := 53) dX8_addFitting_45 (by decide) ⟨by omega, by omega⟩ ⟨by omega, by omega⟩ (fun g45 => ?_) (fun g45 => ?_)
      · refine r_aload_n dX8_addFitting_53 rfl rfl ?_
        refine r_iload_n dX8_addFitting_54 rfl rfl ?_
        refine r_iload_n dX8_addFitting_55 rfl rfl ?_
        refine r_iconst dX8_addFitting_56 ?_
        refine r_callV 0 [_, _, _] (s_X8_toldNow c6 c7 c8 c9 c10 c11 c12 c13 c14 c15 c16 c40 c41 c42 c43 c44 c45 c46 c47 c48 c0 pi ni (by omega) (by omega) (by omega)) dX8_addFitting_57 cs_X8_234 im_X8_toldNow (by decide) c0 rfl (by decide) (by decide) (by decide) rfl rfl (Nat.le_of_ble_eq_true rfl) (fun _ _ _ q => q.elim) (fun v n2 h2 q => ?_)
        obtain ⟨rfl, rfl, hh⟩ := q
        obtain rfl := hh.symm
        refine ⟨rfl, ?_⟩
        dsimp only [Option.toList, List.cons_append, List.nil_append]
        refine r_iload dX8_addFitting_60 rfl ?_
        refine r_icmp_eq (tgt := 66) dX8_addFitting_62 (by decide) ⟨by omega, by omega⟩ ⟨by omega, by omega⟩ (fun g62 => ?_) (fun g62 => ?_)
        · refine r_iinc (lv2 := [(0, _), (1, _), (2, _), (3, _), (4, _)]) dX8_addFitting_66 (by decide) rfl rfl rfl ?_
          refine r_goto (tgt := 4) dX8_addFitting_69 (by decide) ?_
          refine r_lv (lv2 := [(0, _), (1, _), (2, _), (3, _)]) rfl ?_
          rw [show (k : Int) + 1 = ((k + 1 : Nat) : Int) by omega]
          have hi := ih (k + 1) (by omega) (fun j hj h2 h3 => by
            by_cases hj2 : j = k
            · subst hj2; dsimp only; omega
            · exact hp j (by omega) h2 h3)
          first | rw [if_pos (by omega)] at e3 | rw [if_neg (by omega)] at e3
          rw [e3] at hi
          exact hi
        · refine r_vret dX8_addFitting_65 ?_
          refine ⟨rfl, rfl, mf, ?_⟩
          unfold fitN
          have hbad : badI se K (fun j => nowI sw nc nm K U I O G L cf ct cd md my mt (j : Nat) day 0) nd.toNat = true := decide_eq_true ⟨k, by omega, by omega, by omega, by dsimp only; omega⟩
          rw [if_pos hbad, ← up_same c67]
          exact up_same c62
      · refine r_iload_n dX8_addFitting_48 rfl rfl ?_
        refine r_istore_n (lv2 := [(0, _), (1, _), (2, _), (3, _), (4, _)]) dX8_addFitting_49 rfl (by decide) rfl rfl ?_
        refine r_goto (tgt := 66) dX8_addFitting_50 (by decide) ?_
        refine r_iinc (lv2 := [(0, _), (1, _), (2, _), (3, _), (4, _)]) dX8_addFitting_66 (by decide) rfl rfl rfl ?_
        refine r_goto (tgt := 4) dX8_addFitting_69 (by decide) ?_
        refine r_lv (lv2 := [(0, _), (1, _), (2, _), (3, _)]) rfl ?_
        rw [show (k : Int) + 1 = ((k + 1 : Nat) : Int) by omega]
        have hi := ih (k + 1) (by omega) (fun j hj h2 h3 => by
          by_cases hj2 : j = k
          · subst hj2; dsimp only; omega
          · exact hp j (by omega) h2 h3)
        first | rw [if_pos (by omega)] at e3 | rw [if_neg (by omega)] at e3
        rw [e3] at hi
        exact hi
    · refine r_goto (tgt := 66) dX8_addFitting_32 (by decide) ?_
      refine r_iinc (lv2 := [(0, _), (1, _), (2, _), (3, _), (4, _)]) dX8_addFitting_66 (by decide) rfl rfl rfl ?_
      refine r_goto (tgt := 4) dX8_addFitting_69 (by decide) ?_
      refine r_lv (lv2 := [(0, _), (1, _), (2, _), (3, _)]) rfl ?_
      rw [show (k : Int) + 1 = ((k + 1 : Nat) : Int) by omega]
      have hi := ih (k + 1) (by omega) (fun j hj h2 h3 => by
        by_cases hj2 : j = k
        · subst hj2; dsimp only; omega
        · exact hp j (by omega) h2 h3)
      first | rw [if_pos (by omega)] at e3 | rw [if_neg (by omega)] at e3
      rw [e3] at hi
      exact hi

theorem s_X8_addFitting {h : aH} {nd sw nc : Int} {K U I O G L cf ct fc nx cd : Nat → Int} (c6 : h 6 = .inr (4, [iv nd, iv sw, iv nc, .ref 7, .ref 8, .ref 9, .ref 10, .ref 11, .ref 12, .ref 13, .ref 14, .ref 15, .ref 16])) (c7 : h 7 = .inl (0, 9, K)) (c8 : h 8 = .inl (0, 9, U)) (c9 : h 9 = .inl (0, 9, I)) (c10 : h 10 = .inl (0, 9, O)) (c11 : h 11 = .inl (0, 9, G)) (c12 : h 12 = .inl (0, 12, L)) (c13 : h 13 = .inl (0, 20, cf)) (c14 : h 14 = .inl (0, 20, ct)) (c15 : h 15 = .inl (0, 365, fc)) (c16 : h 16 = .inl (0, 20, nx)) {nr ns nm : Int} {rd ry rm rt se md my mt : Nat → Int} (c40 : h 40 = .inr (3, [iv nr, iv ns, iv nm, .ref 41, .ref 42, .ref 43, .ref 44, .ref 45, .ref 46, .ref 47, .ref 48])) (c41 : h 41 = .inl (0, 12, rd)) (c42 : h 42 = .inl (0, 12, ry)) (c43 : h 43 = .inl (0, 12, rm)) (c44 : h 44 = .inl (0, 12, rt)) (c45 : h 45 = .inl (0, 9, se)) (c46 : h 46 = .inl (0, 40, md)) (c47 : h 47 = .inl (0, 40, my)) (c48 : h 48 = .inl (0, 40, mt)) {taped fpl hlaw himg : Int} (c0 : h 0 = .inr (8, [.ref 1, iv taped, iv fpl, .ref 2, .ref 3, .ref 4, .ref 5, .ref 6, .ref 17, .ref 28, .ref 34, iv hlaw, .ref 40, .ref 49, iv himg, .ref 58, .ref 62, .ref 65, .ref 66, .ref 67])) {t : Int × Int × Int × Int} {s : Int × Int × Int} {dr : Int} (c62 : h 62 = TAL t s dr) {mf : Nat → Int} (c67 : h 67 = .inl (0, 14, mf)) (pi : PInv nd sw nc K U I O G L cf ct fc nx cd) (ni : NInv nr ns nm rd ry rm rt se md my mt) {day : Int} (hd : 0 ≤ day ∧ day < 365)(hs : (-1 ≤ s.2.1 ∧ s.2.1 < 1440) ∧ -1 ≤ s.2.2 ∧ s.2.2 < 1440)  : mSem yX8_addFitting cX8_addFitting 5 none 8 0 0 [.ref 0, iv day] 97 h (RetF t (fitN nd sw nc nm K U I O G L cf ct cd md my mt se day s) dr h) noX := by
  obtain ⟨pnd, psw, pnc, pK, pU, pI, pO, pG, pL, pcf, pct, pfc, pnx⟩ := id pi
  obtain ⟨pnr, pns, pnm, prd, pry, prm, prt, pse, pmd, pmy, pmt⟩ := id ni
  refine mSem_of (own := RX8) (name := "addFitting") pn_X8 rfl rfl (Nat.le_of_ble_eq_true rfl) ?_
  refine r_iconst dX8_addFitting_0 ?_
  refine r_istore_n (lv2 := [(0, _), (1, _), (2, _)]) dX8_addFitting_1 rfl (by decide) rfl rfl ?_
  refine r_iconst dX8_addFitting_2 ?_
  refine r_istore_n (lv2 := [(0, _), (1, _), (2, _), (3, _)]) dX8_addFitting_3 rfl (by decide) rfl rfl ?_
  exact l_X8_addFitting1 c6 c7 c8 c9 c10 c11 c12 c13 c14 c15 c16 c40 c41 c42 c43 c44 c45 c46 c47 c48 c0 c62 c67 pi ni hd hs nd.toNat 0 (by omega) (fun j hj => absurd hj (by omega))
