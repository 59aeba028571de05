theorem s_X0_weigh {h : aH} {nd sw nc : Int} {K U I O G L cf ct fc nx cd : Nat → Int} (c6 : h 6 = .inr (4, [iv nd, iv sw, iv nc, .ref 7, .ref 8, .ref 9, .ref 10, .ref 11, .ref 12, .ref 13, .ref 14, .ref 15, .ref 16])) (c7 : h 7 = .inl (0, 9, K)) (c8 : h 8 = .inl (0, 9, U)) (c9 : h 9 = .inl (0, 9, I)) (c10 : h 10 = .inl (0, 9, O)) (c11 : h 11 = .inl (0, 9, G)) (c12 : h 12 = .inl (0, 12, L)) (c13 : h 13 = .inl (0, 20, cf)) (c14 : h 14 = .inl (0, 20, ct)) (c15 : h 15 = .inl (0, 365, fc)) (c16 : h 16 = .inl (0, 20, nx)) {nr ns nm : Int} {rd ry rm rt se md my mt : Nat → Int} (c40 : h 40 = .inr (3, [iv nr, iv ns, iv nm, .ref 41, .ref 42, .ref 43, .ref 44, .ref 45, .ref 46, .ref 47, .ref 48])) (c41 : h 41 = .inl (0, 12, rd)) (c42 : h 42 = .inl (0, 12, ry)) (c43 : h 43 = .inl (0, 12, rm)) (c44 : h 44 = .inl (0, 12, rt)) (c45 : h 45 = .inl (0, 9, se)) (c46 : h 46 = .inl (0, 40, md)) (c47 : h 47 = .inl (0, 40, my)) (c48 : h 48 = .inl (0, 40, mt)) {cp : Int} {fr tt : Nat → Int} (c58 : h 58 = FTO cp) (c59 : h 59 = .inl (0, 41, fr)) (c60 : h 60 = .inl (0, 41, tt)) (pi : PInv nd sw nc K U I O G L cf ct fc nx cd) (ni : NInv nr ns nm rd ry rm rt se md my mt) {di : Int} (hdi : 0 ≤ di ∧ di < 9)  : mSem yX0_weigh cX0_weigh 6 none 8 0 0 [.ref 58, .ref 6, .ref 40, iv di] 97 h (RetV (va_up (va_up (va_up h 58 (FTO (cpS (wtI (fun ti => plnT sw nc K O G L cf ct cd (rd (firstR rd di 0 nr.toNat).toNat) (ry (firstR rd di 0 nr.toNat).toNat) (rm (firstR rd di 0 nr.toNat).toNat) ti) (fun tu ti => allR (fun dy mi => tldI sw nc K O G L cf ct cd (rd (firstR rd di 0 nr.toNat).toNat) dy mi tu ti) rd ry rm rt (rd (firstR rd di 0 nr.toNat).toNat) nr.toNat) (rt (firstR rd di 0 nr.toNat).toNat) (firstR rd di 0 nr.toNat)) 41))) 59 (.inl (0, 41, cpyF (fun i => ((wtI (fun ti => plnT sw nc K O G L cf ct cd (rd (firstR rd di 0 nr.toNat).toNat) (ry (firstR rd di 0 nr.toNat).toNat) (rm (firstR rd di 0 nr.toNat).toNat) ti) (fun tu ti => allR (fun dy mi => tldI sw nc K O G L cf ct cd (rd (firstR rd di 0 nr.toNat).toNat) dy mi tu ti) rd ry rm rt (rd (firstR rd di 0 nr.toNat).toNat) nr.toNat) (rt (firstR rd di 0 nr.toNat).toNat) (firstR rd di 0 nr.toNat)) i).1) fr 41))) 60 (.inl (0, 41, cpyF (fun i => ((wtI (fun ti => plnT sw nc K O G L cf ct cd (rd (firstR rd di 0 nr.toNat).toNat) (ry (firstR rd di 0 nr.toNat).toNat) (rm (firstR rd di 0 nr.toNat).toNat) ti) (fun tu ti => allR (fun dy mi => tldI sw nc K O G L cf ct cd (rd (firstR rd di 0 nr.toNat).toNat) dy mi tu ti) rd ry rm rt (rd (firstR rd di 0 nr.toNat).toNat) nr.toNat) (rt (firstR rd di 0 nr.toNat).toNat) (firstR rd di 0 nr.toNat)) i).2) tt 41)))) noX := by
  obtain ⟨pnd, psw, pnc, pK, pU, pI, pO, pG, pL, pcf, pct, pfc, pnx⟩ := id pi
  obtain ⟨pnr, pns, pnm, prd, pry, prm, prt, pse, pmd, pmy, pmt⟩ := id ni
  refine mSem_of (own := RX0) (name := "weigh") pn_X0 rfl rfl (Nat.le_of_ble_eq_true rfl) ?_
  refine r_aload_n dX0_weigh_0 rfl rfl ?_
  refine r_iload_n dX0_weigh_1 rfl rfl ?_
  refine r_callV 40 [_] (s_X3_firstReadingOf c40 c41 c42 c43 c44 c45 c46 c47 c48 ni (by omega)) dX0_weigh_2 cs_X0_25 im_X3_firstReadingOf (by decide) c40 rfl (by decide) (by decide) (by decide) rfl rfl (Nat.le_of_ble_eq_true rfl) (fun _ _ _ q => q.elim) (fun v n2 h2 q => ?_)
  obtain ⟨rfl, rfl, hh⟩ := q
  obtain rfl := hh.symm
  refine ⟨rfl, ?_⟩
  dsimp only [Option.toList, List.cons_append, List.nil_append]
  refine r_istore (lv2 := [(0, _), (1, _), (2, _), (3, _), (4, _)]) dX0_weigh_5 (by decide) rfl rfl ?_
  refine r_aload_n dX0_weigh_7 rfl rfl ?_
  refine r_iconst dX0_weigh_8 ?_
  refine r_put (fs := [_, _, _, _]) (fs2 := [_, _, _, _]) dX0_weigh_9 fp_X0_11 (by decide) c58 (nar_int _) (Nat.le_of_ble_eq_true rfl) rfl ?_
  refine r_iconst dX0_weigh_12 ?_
  refine r_istore (lv2 := [(0, _), (1, _), (2, _), (3, _), (4, _), (5, _)]) dX0_weigh_13 (by decide) rfl rfl ?_
  have hk := l_X0_weigh c6 c7 c8 c9 c10 c11 c12 c13 c14 c15 c16 c40 c41 c42 c43 c44 c45 c46 c47 c48 c58 c59 c60 pi ni hdi 41 0 (by omega)
  rw [cpy_0, cpy_0] at hk
  have e59 : va_up (va_up (va_up h 58 (FTO 0)) 59 (.inl (0, 41, fr))) 60 (.inl (0, 41, tt)) = va_up h 58 (FTO 0) := by
    rw [← up_same (h := va_up h 58 (FTO 0)) (k := 59) (e := .inl (0, 41, fr)) c59, ← up_same (h := va_up h 58 (FTO 0)) (k := 60) (e := .inl (0, 41, tt)) c60]
  exact ev_h e59.symm hk

/-! ===== the fits: their questions ===== -/
def emI (fr tt : Nat → Int) (i : Nat) : Bool := decide (tt i < fr i)
def ltI (fr tt : Nat → Int) : Nat → Int
  | 0 => 60
  | k + 1 => if fr k ≤ tt k then min (ltI fr tt k) (fr k) else ltI fr tt k
def gtI (fr tt : Nat → Int) : Nat → Int
  | 0 => -60
  | k + 1 => if fr k ≤ tt k then max (gtI fr tt k) (tt k) else gtI fr tt k
theorem ltI_s (fr tt : Nat → Int) (k : Nat) : ltI fr tt (k + 1) = if fr k ≤ tt k then min (ltI fr tt k) (fr k) else ltI fr tt k := rfl
theorem gtI_s (fr tt : Nat → Int) (k : Nat) : gtI fr tt (k + 1) = if fr k ≤ tt k then max (gtI fr tt k) (tt k) else gtI fr tt k := rfl
theorem ltI_B {fr tt : Nat → Int} (h : ∀ j, j < 41 → -1000 ≤ fr j ∧ fr j ≤ 1000) : ∀ k, k ≤ 41 → -1000 ≤ ltI fr tt k ∧ ltI fr tt k ≤ 1000 := by
  intro k
  induction k with
  | zero => intro _; exact ⟨show (-1000 : Int) ≤ 60 by decide, show (60 : Int) ≤ 1000 by decide⟩
  | succ k ih =>
    intro hk
    have := h k (by omega)
    have := ih (by omega)
    rw [ltI_s]
    split <;> omega
theorem gtI_B {fr tt : Nat → Int} (h : ∀ j, j < 41 → -1000 ≤ tt j ∧ tt j ≤ 1000) : ∀ k, k ≤ 41 → -1000 ≤ gtI fr tt k ∧ gtI fr tt k ≤ 1000 := by
  intro k
  induction k with
  | zero => intro _; exact ⟨show (-1000 : Int) ≤ -60 by decide, show (-60 : Int) ≤ 1000 by decide⟩
  | succ k ih =>
    intro hk
    have := h k (by omega)
    have := ih (by omega)
    rw [gtI_s]
    split <;> omega
def lsI (fr tt : Nat → Int) (i : Nat) : Nat → Int
  | 0 => -1
  | k + 1 => if fr i ≤ tt i then (i : Int) - 20 else lsI fr tt (i + 1) k
def gsI (fr tt : Nat → Int) : Nat → Int
  | 0 => -1
  | k + 1 => if fr k ≤ tt k then (k : Int) - 20 else gsI fr tt k
def coI (fr tt : Nat → Int) (turn : Int) : Nat → Int
  | 0 => 0
  | k + 1 => coI fr tt turn k + if fr k ≤ turn ∧ turn ≤ tt k then 1 else 0
theorem coI_s (fr tt : Nat → Int) (turn : Int) (k : Nat) : coI fr tt turn (k + 1) = coI fr tt turn k + if fr k ≤ turn ∧ turn ≤ tt k then 1 else 0 := rfl
theorem coI_B (fr tt : Nat → Int) (turn : Int) : ∀ k, 0 ≤ coI fr tt turn k ∧ coI fr tt turn k ≤ k := by
  intro k
  induction k with
  | zero => exact ⟨Int.le_refl _, Int.le_refl _⟩
  | succ k ih => rw [coI_s]; split <;> omega
def stI (f : Nat → Int) (at_ up : Int) : Nat → Int := if 0 ≤ at_ + 310 ∧ at_ + 310 < 621 then va_up f (at_ + 310).toNat (f (at_ + 310).toNat + up) else f
def hiI (f : Nat → Int) : Nat → Int
  | 0 => 0
  | k + 1 => max (hiI f k) (pSum f k + f k)
theorem hiI_s (f : Nat → Int) (k : Nat) : hiI f (k + 1) = max (hiI f k) (pSum f k + f k) := rfl
theorem pSum_s (f : Nat → Int) (k : Nat) : pSum f (k + 1) = pSum f k + f k := rfl
theorem pSum_congr {f g : Nat → Int} : ∀ k, (∀ j, j < k → f j = g j) → pSum f k = pSum g k := by
  intro k
  induction k with
  | zero => intro _; rfl
  | succ k ih => intro h; rw [pSum_s, pSum_s, ih (fun j hj => h j (by omega)), h k (by omega)]
theorem hiI_congr {f g : Nat → Int} : ∀ k, (∀ j, j < k → f j = g j) → hiI f k = hiI g k := by
  intro k
  induction k with
  | zero => intro _; rfl
  | succ k ih => intro h; rw [hiI_s, hiI_s, ih (fun j hj => h j (by omega)), h k (by omega), pSum_congr k (fun j hj => h j (by omega))]
theorem hi_B {f : Nat → Int} (h : ∀ j, j < 621 → -1000 ≤ f j ∧ f j ≤ 1000) : ∀ k, k ≤ 621 → (-1000 * k ≤ pSum f k ∧ pSum f k ≤ 1000 * k) ∧ 0 ≤ hiI f k ∧ hiI f k ≤ 1000 * k := by
  intro k
  induction k with
  | zero => intro _; exact ⟨⟨Int.le_refl _, Int.le_refl _⟩, Int.le_refl _, Int.le_refl _⟩
  | succ k ih =>
    intro hk
    have := h k (by omega)
    have := ih (by omega)
    rw [hiI_s, pSum_s]
    omega
/-- the steps behind k tilts -/
def gsS (fr tt : Nat → Int) (off : Int → Int) (b : Nat → Int) : Nat → Nat → Int
  | 0 => b
  | k + 1 => if fr k ≤ tt k then stI (stI (gsS fr tt off b k) (off ((k : Int) - 20) + fr k) 1) (off ((k : Int) - 20) + tt k + 1) (-1) else gsS fr tt off b k
theorem gsS_s (fr tt : Nat → Int) (off : Int → Int) (b : Nat → Int) (k : Nat) : gsS fr tt off b (k + 1) = if fr k ≤ tt k then stI (stI (gsS fr tt off b k) (off ((k : Int) - 20) + fr k) 1) (off ((k : Int) - 20) + tt k + 1) (-1) else gsS fr tt off b k := rfl
theorem stI_B {f : Nat → Int} {a up c : Int} (h : ∀ j, j < 621 → -c ≤ f j ∧ f j ≤ c) (hu : -1 ≤ up ∧ up ≤ 1) : ∀ j, j < 621 → -(c + 1) ≤ stI f a up j ∧ stI f a up j ≤ c + 1 := by
  intro j hj
  unfold stI
  split
  · unfold va_up
    split
    · have := h (a + 310).toNat (by omega); omega
    · have := h j hj; omega
  · have := h j hj; omega
theorem gsS_B {fr tt : Nat → Int} {off : Int → Int} {b : Nat → Int} (h : ∀ j, j < 621 → -1 ≤ b j ∧ b j ≤ 1) : ∀ k : Nat, ∀ j, j < 621 → -(1 + 2 * (k : Int)) ≤ gsS fr tt off b k j ∧ gsS fr tt off b k j ≤ 1 + 2 * (k : Int) := by
  intro k
  induction k with
  | zero => intro j hj; have := h j hj; unfold gsS; omega
  | succ k ih =>
    intro j hj
    rw [gsS_s]
    split
    · have := stI_B (a := off ((k : Int) - 20) + tt k + 1) (up := -1) (stI_B (a := off ((k : Int) - 20) + fr k) (up := 1) ih (by omega)) (by omega) j hj
      omega
    · have := ih j hj; omega
theorem stI_congr {f g : Nat → Int} {a up : Int} (h : ∀ j, j < 621 → f j = g j) : ∀ j, j < 621 → stI f a up j = stI g a up j := by
  intro j hj
  unfold stI
  split
  · unfold va_up
    split
    · rw [h (a + 310).toNat (by omega)]
    · exact h j hj
  · exact h j hj
theorem gsS_congr {fr tt : Nat → Int} {off : Int → Int} {f g : Nat → Int} (h : ∀ j, j < 621 → f j = g j) : ∀ k, ∀ j, j < 621 → gsS fr tt off f k j = gsS fr tt off g k j := by
  intro k
  induction k with
  | zero => exact h
  | succ k ih =>
    intro j hj
    rw [gsS_s, gsS_s]
    split
    · exact stI_congr (stI_congr ih) j hj
    · exact ih j hj

theorem s_X0_isEmpty {h : aH} {cp : Int} {fr tt : Nat → Int} (c58 : h 58 = FTO cp) (c59 : h 59 = .inl (0, 41, fr)) (c60 : h 60 = .inl (0, 41, tt)) (hfr : ∀ j, j < 41 → -1000 ≤ fr j ∧ fr j ≤ 1000) (htt : ∀ j, j < 41 → -1000 ≤ tt j ∧ tt j ≤ 1000) {i : Nat} (hi : i < 41) : mSem yX0_isEmpty cX0_isEmpty 2 (some .boolean) 0 0 0 [.ref 58, iv i] 97 h (Ret (b2i (emI fr tt i)) h) noX := by
  refine mSem_of (own := RX0) (name := "isEmpty") pn_X0 rfl rfl (Nat.le_of_ble_eq_true rfl) ?_
  have b1 := hfr i hi
  have b2 := htt i hi
  refine r_aload_n dX0_isEmpty_0 rfl rfl ?_
  refine r_get (fs := [_, _, _, _]) dX0_isEmpty_1 fl_X0_15 (by decide) c58 rfl ?_
  refine r_iload_n dX0_isEmpty_4 rfl rfl ?_
  refine r_ald dX0_isEmpty_5 (by decide) c59 (by omega) (by omega) (by decide) ?_
  rw [Int.toNat_natCast]
  refine r_aload_n dX0_isEmpty_6 rfl rfl ?_
  refine r_get (fs := [_, _, _, _]) dX0_isEmpty_7 fl_X0_19 (by decide) c58 rfl ?_
  refine r_iload_n dX0_isEmpty_10 rfl rfl ?_
  refine r_ald dX0_isEmpty_11 (by decide) c60 (by omega) (by omega) (by decide) ?_
  rw [Int.toNat_natCast]
  refine r_icmp_le (tgt := 19) dX0_isEmpty_12 (by decide) ⟨by omega, by omega⟩ ⟨by omega, by omega⟩ (fun g12 => ?_) (fun g12 => ?_)
  · refine r_iconst dX0_isEmpty_19 ?_
    refine r_zret dX0_isEmpty_20 (nar_z (by omega)) ?_
    exact ⟨ivE (by unfold emI; first | rw [decide_eq_true (by omega)]; rfl | rw [decide_eq_false (by omega)]; rfl), rfl, rfl⟩
  · refine r_iconst dX0_isEmpty_15 ?_
    refine r_goto (tgt := 20) dX0_isEmpty_16 (by decide) ?_
    refine r_zret dX0_isEmpty_20 (nar_z (by omega)) ?_
    exact ⟨ivE (by unfold emI; first | rw [decide_eq_true (by omega)]; rfl | rw [decide_eq_false (by omega)]; rfl), rfl, rfl⟩

theorem l_X0_leastTurn {h : aH} {cp : Int} {fr tt : Nat → Int} (c58 : h 58 = FTO cp) (c59 : h 59 = .inl (0, 41, fr)) (c60 : h 60 = .inl (0, 41, tt)) (hfr : ∀ j, j < 41 → -1000 ≤ fr j ∧ fr j ≤ 1000) (htt : ∀ j, j < 41 → -1000 ≤ tt j ∧ tt j ≤ 1000) {d : Nat} (hd1 : 1 ≤ d) : ∀ (w k : Nat), k + w = 41 → Ev RX0 "leastTurn" cX0_leastTurn 3 (some .int) d 0 0 (Ret (ltI fr tt 41) h) noX 97 h 5 [(0, .ref 58), (1, iv (ltI fr tt k)), (2, iv k)] [] := by
  intro w
  induction w with
  | zero =>
    intro k hk
    obtain rfl : k = 41 := by omega
    refine r_iload_n dX0_leastTurn_5 rfl rfl ?_
    refine r_bipush dX0_leastTurn_6 rfl ?_
    refine r_icmp_ge (tgt := 36) dX0_leastTurn_8 (by decide) ⟨by omega, by omega⟩ ⟨by omega, by omega⟩ (fun g8 => ?_) (fun g8 => absurd g8 (by omega))
    refine r_iload_n dX0_leastTurn_36 rfl rfl ?_
    refine r_iret dX0_leastTurn_37 ?_
    exact ⟨rfl, rfl, rfl⟩
  | succ w ih =>
    intro k hk
    have b1 := hfr k (by omega)
    have b2 := htt k (by omega)
    have b3 := ltI_B (fr := fr) (tt := tt) hfr k (by omega)
    have hi := ih (k + 1) (by omega)
    rw [ltI_s _ _ k] at hi
    have bc := b2i_01 (emI fr tt k)
    have be : b2i (emI fr tt k) = 0 ↔ fr k ≤ tt k := by unfold emI b2i; simp
    refine r_iload_n dX0_leastTurn_5 rfl rfl ?_
    refine r_bipush dX0_leastTurn_6 rfl ?_
    refine r_icmp_ge (tgt := 36) dX0_leastTurn_8 (by decide) ⟨by omega, by omega⟩ ⟨by omega, by omega⟩ (fun g8 => absurd g8 (by omega)) (fun g8 => ?_)
    refine r_aload_n dX0_leastTurn_11 rfl rfl ?_
    refine r_iload_n dX0_leastTurn_12 rfl rfl ?_
    refine r_callV 58 [_] (s_X0_isEmpty c58 c59 c60 hfr htt (by omega)) dX0_leastTurn_13 cs_X0_72 im_X0_isEmpty (by decide) c58 rfl (by omega) (by decide) (by decide) rfl rfl (Nat.le_of_ble_eq_true rfl) (fun _ _ _ q => q.elim) (fun v n2 h2 q => ?_)
    obtain ⟨rfl, rfl, hh⟩ := q
    obtain rfl := hh.symm
    refine ⟨rfl, ?_⟩
    dsimp only [Option.toList, List.cons_append, List.nil_append]
    refine r_if_ne (tgt := 30) dX0_leastTurn_16 (by decide) ⟨by omega, by omega⟩ (fun g16 => ?_) (fun g16 => ?_)
    · refine r_iinc (lv2 := [(0, _), (1, _), (2, _)]) dX0_leastTurn_30 (by decide) rfl rfl rfl ?_
      refine r_goto (tgt := 5) dX0_leastTurn_33 (by decide) ?_
      rw [show (k : Int) + 1 = ((k + 1 : Nat) : Int) by omega]
      first
        | (rw [if_pos (by omega)] at hi
           exact hi)
        | (rw [if_neg (by omega)] at hi
           exact hi)
    · refine r_iload_n dX0_leastTurn_19 rfl rfl ?_
      refine r_aload_n dX0_leastTurn_20 rfl rfl ?_
      refine r_get (fs := [_, _, _, _]) dX0_leastTurn_21 fl_X0_15 (by decide) c58 rfl ?_
      refine r_iload_n dX0_leastTurn_24 rfl rfl ?_
      refine r_ald dX0_leastTurn_25 (by decide) c59 (by omega) (by omega) (by decide) ?_
      rw [Int.toNat_natCast]
      refine r_callS [_, _] (s_J9_min_7cf53 ⟨by omega, by omega⟩ ⟨by omega, by omega⟩) dX0_leastTurn_26 cs_X0_76 sm_J9_min_7cf53 (by omega) (by decide) (by decide) rfl rfl (Nat.le_of_ble_eq_true rfl) (fun _ _ _ q => q.elim) (fun v n2 h2 q => ?_)
      obtain ⟨rfl, rfl, hh⟩ := q
      obtain rfl := hh.symm
      refine ⟨rfl, ?_⟩
      dsimp only [Option.toList, List.cons_append, List.nil_append]
      refine r_istore_n (lv2 := [(0, _), (1, _), (2, _)]) dX0_leastTurn_29 rfl (by decide) rfl rfl ?_
      refine r_iinc (lv2 := [(0, _), (1, _), (2, _)]) dX0_leastTurn_30 (by decide) rfl rfl rfl ?_
      refine r_goto (tgt := 5) dX0_leastTurn_33 (by decide) ?_
      rw [show (k : Int) + 1 = ((k + 1 : Nat) : Int) by omega]
      first
        | (rw [if_pos (by omega)] at hi
           exact hi)
        | (rw [if_neg (by omega)] at hi
           exact hi)

theorem s_X0_leastTurn {h : aH} {cp : Int} {fr tt : Nat → Int} (c58 : h 58 = FTO cp) (c59 : h 59 = .inl (0, 41, fr)) (c60 : h 60 = .inl (0, 41, tt)) (hfr : ∀ j, j < 41 → -1000 ≤ fr j ∧ fr j ≤ 1000) (htt : ∀ j, j < 41 → -1000 ≤ tt j ∧ tt j ≤ 1000)  : mSem yX0_leastTurn cX0_leastTurn 3 (some .int) 1 0 0 [.ref 58] 97 h (Ret (ltI fr tt 41) h) noX := by
  refine mSem_of (own := RX0) (name := "leastTurn") pn_X0 rfl rfl (Nat.le_of_ble_eq_true rfl) ?_
  refine r_bipush dX0_leastTurn_0 rfl ?_
  refine r_istore_n (lv2 := [(0, _), (1, _)]) dX0_leastTurn_2 rfl (by decide) rfl rfl ?_
  refine r_iconst dX0_leastTurn_3 ?_
  refine r_istore_n (lv2 := [(0, _), (1, _), (2, _)]) dX0_leastTurn_4 rfl (by decide) rfl rfl ?_
  exact l_X0_leastTurn c58 c59 c60 hfr htt (by decide) 41 0 (by omega)

theorem l_X0_greatestTurn {h : aH} {cp : Int} {fr tt : Nat → Int} (c58 : h 58 = FTO cp) (c59 : h 59 = .inl (0, 41, fr)) (c60 : h 60 = .inl (0, 41, tt)) (hfr : ∀ j, j < 41 → -1000 ≤ fr j ∧ fr j ≤ 1000) (htt : ∀ j, j < 41 → -1000 ≤ tt j ∧ tt j ≤ 1000) {d : Nat} (hd1 : 1 ≤ d) : ∀ (w k : Nat), k + w = 41 → Ev RX0 "greatestTurn" cX0_greatestTurn 3 (some .int) d 0 0 (Ret (gtI fr tt 41) h) noX 97 h 5 [(0, .ref 58), (1, iv (gtI fr tt k)), (2, iv k)] [] := by
  intro w
  induction w with
  | zero =>
    intro k hk
    obtain rfl : k = 41 := by omega
    refine r_iload_n dX0_greatestTurn_5 rfl rfl ?_
    refine r_bipush dX0_greatestTurn_6 rfl ?_
    refine r_icmp_ge (tgt := 36) dX0_greatestTurn_8 (by decide) ⟨by omega, by omega⟩ ⟨by omega, by omega⟩ (fun g8 => ?_) (fun g8 => absurd g8 (by omega))
    refine r_iload_n dX0_greatestTurn_36 rfl rfl ?_
    refine r_iret dX0_greatestTurn_37 ?_
    exact ⟨rfl, rfl, rfl⟩
  | succ w ih =>
    intro k hk
    have b1 := hfr k (by omega)
    have b2 := htt k (by omega)
    have b3 := gtI_B (fr := fr) (tt := tt) htt k (by omega)
    have hi := ih (k + 1) (by omega)
    rw [gtI_s _ _ k] at hi
    have bc := b2i_01 (emI fr tt k)
    have be : b2i (emI fr tt k) = 0 ↔ fr k ≤ tt k := by unfold emI b2i; simp
    refine r_iload_n dX0_greatestTurn_5 rfl rfl ?_
    refine r_bipush dX0_greatestTurn_6 rfl ?_
    refine r_icmp_ge (tgt := 36) dX0_greatestTurn_8 (by decide) ⟨by omega, by omega⟩ ⟨by omega, by omega⟩ (fun g8 => absurd g8 (by omega)) (fun g8 => ?_)
    refine r_aload_n dX0_greatestTurn_11 rfl rfl ?_
    refine r_iload_n dX0_greatestTurn_12 rfl rfl ?_
    refine r_callV 58 [_] (s_X0_isEmpty c58 c59 c60 hfr htt (by omega)) dX0_greatestTurn_13 cs_X0_72 im_X0_isEmpty (by decide) c58 rfl (by omega) (by decide) (by decide) rfl rfl (Nat.le_of_ble_eq_true rfl) (fun _ _ _ q => q.elim) (fun v n2 h2 q => ?_)
    obtain ⟨rfl, rfl, hh⟩ := q
    obtain rfl := hh.symm
    refine ⟨rfl, ?_⟩
    dsimp only [Option.toList, List.cons_append, List.nil_append]
    refine r_if_ne (tgt := 30) dX0_greatestTurn_16 (by decide) ⟨by omega, by omega⟩ (fun g16 => ?_) (fun g16 => ?_)
    · refine r_iinc (lv2 := [(0, _), (1, _), (2, _)]) dX0_greatestTurn_30 (by decide) rfl rfl rfl ?_
      refine r_goto (tgt := 5) dX0_greatestTurn_33 (by decide) ?_
      rw [show (k : Int) + 1 = ((k + 1 : Nat) : Int) by omega]
      first
        | (rw [if_pos (by omega)] at hi
           exact hi)
        | (rw [if_neg (by omega)] at hi
           exact hi)
    · refine r_iload_n dX0_greatestTurn_19 rfl rfl ?_
      refine r_aload_n dX0_greatestTurn_20 rfl rfl ?_
      refine r_get (fs := [_, _, _, _]) dX0_greatestTurn_21 fl_X0_19 (by decide) c58 rfl ?_
      refine r_iload_n dX0_greatestTurn_24 rfl rfl ?_
      refine r_ald dX0_greatestTurn_25 (by decide) c60 (by omega) (by omega) (by decide) ?_
      rw [Int.toNat_natCast]
      refine r_callS [_, _] (s_J9_max_7cf53 ⟨by omega, by omega⟩ ⟨by omega, by omega⟩) dX0_greatestTurn_26 cs_X0_80 sm_J9_max_7cf53 (by omega) (by decide) (by decide) rfl rfl (Nat.le_of_ble_eq_true rfl) (fun _ _ _ q => q.elim) (fun v n2 h2 q => ?_)
      obtain ⟨rfl, rfl, hh⟩ := q
      obtain rfl := hh.symm
      refine ⟨rfl, ?_⟩
      dsimp only [Option.toList, List.cons_append, List.nil_append]
      refine r_istore_n (lv2 := [(0, _), (1, _), (2, _)]) dX0_greatestTurn_29 rfl (by decide) rfl rfl ?_
      refine r_iinc (lv2 := [(0, _), (1, _), (2, _)]) dX0_greatestTurn_30 (by decide) rfl rfl rfl ?_
      refine r_goto (tgt := 5) dX0_greatestTurn_33 (by decide) ?_
      rw [show (k : Int) + 1 = ((k + 1 : Nat) : Int) by omega]
      first
        | (rw [if_pos (by omega)] at hi
           exact hi)
        | (rw [if_neg (by omega)] at hi
           exact hi)

theorem s_X0_greatestTurn {h : aH} {cp : Int} {fr tt : Nat → Int} (c58 : h 58 = FTO cp) (c59 : h 59 = .inl (0, 41, fr)) (c60 : h 60 = .inl (0, 41, tt)) (hfr : ∀ j, j < 41 → -1000 ≤ fr j ∧ fr j ≤ 1000) (htt : ∀ j, j < 41 → -1000 ≤ tt j ∧ tt j ≤ 1000)  : mSem yX0_greatestTurn cX0_greatestTurn 3 (some .int) 1 0 0 [.ref 58] 97 h (Ret (gtI fr tt 41) h) noX := by
  refine mSem_of (own := RX0) (name := "greatestTurn") pn_X0 rfl rfl (Nat.le_of_ble_eq_true rfl) ?_
  refine r_bipush dX0_greatestTurn_0 rfl ?_
  refine r_istore_n (lv2 := [(0, _), (1, _)]) dX0_greatestTurn_2 rfl (by decide) rfl rfl ?_
  refine r_iconst dX0_greatestTurn_3 ?_
  refine r_istore_n (lv2 := [(0, _), (1, _), (2, _)]) dX0_greatestTurn_4 rfl (by decide) rfl rfl ?_
  exact l_X0_greatestTurn c58 c59 c60 hfr htt (by decide) 41 0 (by omega)

theorem l_X0_leastTilt {h : aH} {cp : Int} {fr tt : Nat → Int} (c58 : h 58 = FTO cp) (c59 : h 59 = .inl (0, 41, fr)) (c60 : h 60 = .inl (0, 41, tt)) (hfr : ∀ j, j < 41 → -1000 ≤ fr j ∧ fr j ≤ 1000) (htt : ∀ j, j < 41 → -1000 ≤ tt j ∧ tt j ≤ 1000) {d : Nat} (hd1 : 1 ≤ d) : ∀ (w k : Nat), k + w = 41 → Ev RX0 "leastTilt" cX0_leastTilt 2 (some .int) d 0 0 (Ret (lsI fr tt k w) h) noX 97 h 2 [(0, .ref 58), (1, iv k)] [] := by
  intro w
  induction w with
  | zero =>
    intro k hk
    obtain rfl : k = 41 := by omega
    refine r_iload_n dX0_leastTilt_2 rfl rfl ?_
    refine r_bipush dX0_leastTilt_3 rfl ?_
    refine r_icmp_ge (tgt := 27) dX0_leastTilt_5 (by decide) ⟨by omega, by omega⟩ ⟨by omega, by omega⟩ (fun g5 => ?_) (fun g5 => absurd g5 (by omega))
    refine r_iconst dX0_leastTilt_27 ?_
    refine r_iret dX0_leastTilt_28 ?_
    exact ⟨rfl, rfl, rfl⟩
  | succ w ih =>
    intro k hk
    have hi := ih (k + 1) (by omega)
    have bc := b2i_01 (emI fr tt k)
    have be : b2i (emI fr tt k) = 0 ↔ fr k ≤ tt k := by unfold emI b2i; simp
    have e1 : lsI fr tt k (w + 1) = if fr k ≤ tt k then (k : Int) - 20 else lsI fr tt (k + 1) w := rfl
    refine r_iload_n dX0_leastTilt_2 rfl rfl ?_
    refine r_bipush dX0_leastTilt_3 rfl ?_
    refine r_icmp_ge (tgt := 27) dX0_leastTilt_5 (by decide) ⟨by omega, by omega⟩ ⟨by omega, by omega⟩ (fun g5 => absurd g5 (by omega)) (fun g5 => ?_)
    refine r_aload_n dX0_leastTilt_8 rfl rfl ?_
    refine r_iload_n dX0_leastTilt_9 rfl rfl ?_
    refine r_callV 58 [_] (s_X0_isEmpty c58 c59 c60 hfr htt (by omega)) dX0_leastTilt_10 cs_X0_72 im_X0_isEmpty (by decide) c58 rfl (by omega) (by decide) (by decide) rfl rfl (Nat.le_of_ble_eq_true rfl) (fun _ _ _ q => q.elim) (fun v n2 h2 q => ?_)
    obtain ⟨rfl, rfl, hh⟩ := q
    obtain rfl := hh.symm
    refine ⟨rfl, ?_⟩
    dsimp only [Option.toList, List.cons_append, List.nil_append]
    refine r_if_ne (tgt := 21) dX0_leastTilt_13 (by decide) ⟨by omega, by omega⟩ (fun g13 => ?_) (fun g13 => ?_)
    · refine r_iinc (lv2 := [(0, _), (1, _)]) dX0_leastTilt_21 (by decide) rfl rfl rfl ?_
      refine r_goto (tgt := 2) dX0_leastTilt_24 (by decide) ?_
      rw [show (k : Int) + 1 = ((k + 1 : Nat) : Int) by omega, e1, if_neg (by omega)]
      exact hi
    · refine r_iload_n dX0_leastTilt_16 rfl rfl ?_
      refine r_bipush dX0_leastTilt_17 rfl ?_
      refine r_isub dX0_leastTilt_19 ?_
      refine r_iret dX0_leastTilt_20 ?_
      exact ⟨ivE (by rw [e1, if_pos (by omega)]), rfl, rfl⟩

theorem s_X0_leastTilt {h : aH} {cp : Int} {fr tt : Nat → Int} (c58 : h 58 = FTO cp) (c59 : h 59 = .inl (0, 41, fr)) (c60 : h 60 = .inl (0, 41, tt)) (hfr : ∀ j, j < 41 → -1000 ≤ fr j ∧ fr j ≤ 1000) (htt : ∀ j, j < 41 → -1000 ≤ tt j ∧ tt j ≤ 1000)  : mSem yX0_leastTilt cX0_leastTilt 2 (some .int) 1 0 0 [.ref 58] 97 h (Ret (lsI fr tt 0 41) h) noX := by
  refine mSem_of (own := RX0) (name := "leastTilt") pn_X0 rfl rfl (Nat.le_of_ble_eq_true rfl) ?_
  refine r_iconst dX0_leastTilt_0 ?_
  refine r_istore_n (lv2 := [(0, _), (1, _)]) dX0_leastTilt_1 rfl (by decide) rfl rfl ?_
  exact l_X0_leastTilt c58 c59 c60 hfr htt (by decide) 41 0 (by omega)

theorem l_X0_greatestTilt {h : aH} {cp : Int} {fr tt : Nat → Int} (c58 : h 58 = FTO cp) (c59 : h 59 = .inl (0, 41, fr)) (c60 : h 60 = .inl (0, 41, tt)) (hfr : ∀ j, j < 41 → -1000 ≤ fr j ∧ fr j ≤ 1000) (htt : ∀ j, j < 41 → -1000 ≤ tt j ∧ tt j ≤ 1000) {d : Nat} (hd1 : 1 ≤ d) : ∀ (k : Nat), k ≤ 41 → Ev RX0 "greatestTilt" cX0_greatestTilt 2 (some .int) d 0 0 (Ret (gsI fr tt k) h) noX 97 h 3 [(0, .ref 58), (1, iv ((k : Int) - 1))] [] := by
  intro k
  induction k with
  | zero =>
    intro hk
    refine r_iload_n dX0_greatestTilt_3 rfl rfl ?_
    refine r_if_lt (tgt := 26) dX0_greatestTilt_4 (by decide) ⟨by omega, by omega⟩ (fun g4 => ?_) (fun g4 => absurd g4 (by omega))
    refine r_iconst dX0_greatestTilt_26 ?_
    refine r_iret dX0_greatestTilt_27 ?_
    exact ⟨rfl, rfl, rfl⟩
  | succ k ih =>
    intro hk
    have hi := ih (by omega)
    have bc := b2i_01 (emI fr tt k)
    have be : b2i (emI fr tt k) = 0 ↔ fr k ≤ tt k := by unfold emI b2i; simp
    have e1 : gsI fr tt (k + 1) = if fr k ≤ tt k then (k : Int) - 20 else gsI fr tt k := rfl
    rw [show ((k + 1 : Nat) : Int) - 1 = (k : Int) by omega]
    refine r_iload_n dX0_greatestTilt_3 rfl rfl ?_
    refine r_if_lt (tgt := 26) dX0_greatestTilt_4 (by decide) ⟨by omega, by omega⟩ (fun g4 => absurd g4 (by omega)) (fun g4 => ?_)
    refine r_aload_n dX0_greatestTilt_7 rfl rfl ?_
    refine r_iload_n dX0_greatestTilt_8 rfl rfl ?_
    refine r_callV 58 [_] (s_X0_isEmpty c58 c59 c60 hfr htt (by omega)) dX0_greatestTilt_9 cs_X0_72 im_X0_isEmpty (by decide) c58 rfl (by omega) (by decide) (by decide) rfl rfl (Nat.le_of_ble_eq_true rfl) (fun _ _ _ q => q.elim) (fun v n2 h2 q => ?_)
    obtain ⟨rfl, rfl, hh⟩ := q
    obtain rfl := hh.symm
    refine ⟨rfl, ?_⟩
    dsimp only [Option.toList, List.cons_append, List.nil_append]
    refine r_if_ne (tgt := 20) dX0_greatestTilt_12 (by decide) ⟨by omega, by omega⟩ (fun g12 => ?_) (fun g12 => ?_)
    · refine r_iinc (lv2 := [(0, _), (1, _)]) dX0_greatestTilt_20 (by decide) rfl rfl rfl ?_
      refine r_goto (tgt := 3) dX0_greatestTilt_23 (by decide) ?_
      rw [show (k : Int) + -1 = (k : Int) - 1 by omega, e1, if_neg (by omega)]
      exact hi
    · refine r_iload_n dX0_greatestTilt_15 rfl rfl ?_
      refine r_bipush dX0_greatestTilt_16 rfl ?_
      refine r_isub dX0_greatestTilt_18 ?_
      refine r_iret dX0_greatestTilt_19 ?_
      exact ⟨ivE (by rw [e1, if_pos (by omega)]), rfl, rfl⟩

theorem s_X0_greatestTilt {h : aH} {cp : Int} {fr tt : Nat → Int} (c58 : h 58 = FTO cp) (c59 : h 59 = .inl (0, 41, fr)) (c60 : h 60 = .inl (0, 41, tt)) (hfr : ∀ j, j < 41 → -1000 ≤ fr j ∧ fr j ≤ 1000) (htt : ∀ j, j < 41 → -1000 ≤ tt j ∧ tt j ≤ 1000)  : mSem yX0_greatestTilt cX0_greatestTilt 2 (some .int) 1 0 0 [.ref 58] 97 h (Ret (gsI fr tt 41) h) noX := by
  refine mSem_of (own := RX0) (name := "greatestTilt") pn_X0 rfl rfl (Nat.le_of_ble_eq_true rfl) ?_
  refine r_bipush dX0_greatestTilt_0 rfl ?_
  refine r_istore_n (lv2 := [(0, _), (1, _)]) dX0_greatestTilt_2 rfl (by decide) rfl rfl ?_
  exact l_X0_greatestTilt c58 c59 c60 hfr htt (by decide) 41 (by omega)

theorem l_X0_couplesOfTurn {h : aH} {cp : Int} {fr tt : Nat → Int} (c58 : h 58 = FTO cp) (c59 : h 59 = .inl (0, 41, fr)) (c60 : h 60 = .inl (0, 41, tt)) (hfr : ∀ j, j < 41 → -1000 ≤ fr j ∧ fr j ≤ 1000) (htt : ∀ j, j < 41 → -1000 ≤ tt j ∧ tt j ≤ 1000) {tu : Int} (htu : -2000 ≤ tu ∧ tu ≤ 2000) {d : Nat} : ∀ (w k : Nat), k + w = 41 → Ev RX0 "couplesOfTurn" cX0_couplesOfTurn 4 (some .int) d 0 0 (Ret (coI fr tt tu 41) h) noX 97 h 4 [(0, .ref 58), (1, iv tu), (2, iv (coI fr tt tu k)), (3, iv k)] [] := by
  intro w
  induction w with
  | zero =>
    intro k hk
    obtain rfl : k = 41 := by omega
    refine r_iload_n dX0_couplesOfTurn_4 rfl rfl ?_
    refine r_bipush dX0_couplesOfTurn_5 rfl ?_
    refine r_icmp_ge (tgt := 39) dX0_couplesOfTurn_7 (by decide) ⟨by omega, by omega⟩ ⟨by omega, by omega⟩ (fun g7 => ?_) (fun g7 => absurd g7 (by omega))
    refine r_iload_n dX0_couplesOfTurn_39 rfl rfl ?_
    refine r_iret dX0_couplesOfTurn_40 ?_
    exact ⟨rfl, rfl, rfl⟩
  | succ w ih =>
    intro k hk
    have b1 := hfr k (by omega)
    have b2 := htt k (by omega)
    have hi := ih (k + 1) (by omega)
    rw [coI_s _ _ _ k] at hi
    refine r_iload_n dX0_couplesOfTurn_4 rfl rfl ?_
    refine r_bipush dX0_couplesOfTurn_5 rfl ?_
    refine r_icmp_ge (tgt := 39) dX0_couplesOfTurn_7 (by decide) ⟨by omega, by omega⟩ ⟨by omega, by omega⟩ (fun g7 => absurd g7 (by omega)) (fun g7 => ?_)
    refine r_aload_n dX0_couplesOfTurn_10 rfl rfl ?_
    refine r_get (fs := [_, _, _, _]) dX0_couplesOfTurn_11 fl_X0_15 (by decide) c58 rfl ?_
    refine r_iload_n dX0_couplesOfTurn_14 rfl rfl ?_
    refine r_ald dX0_couplesOfTurn_15 (by decide) c59 (by omega) (by omega) (by decide) ?_
    rw [Int.toNat_natCast]
    refine r_iload_n dX0_couplesOfTurn_16 rfl rfl ?_
    refine r_icmp_gt (tgt := 33) dX0_couplesOfTurn_17 (by decide) ⟨by omega, by omega⟩ ⟨by omega, by omega⟩ (fun g17 => ?_) (fun g17 => ?_)
    · refine r_iinc (lv2 := [(0, _), (1, _), (2, _), (3, _)]) dX0_couplesOfTurn_33 (by decide) rfl rfl rfl ?_
      refine r_goto (tgt := 4) dX0_couplesOfTurn_36 (by decide) ?_
      rw [show (k : Int) + 1 = ((k + 1 : Nat) : Int) by omega]
      first
        | (rw [if_pos (by omega)] at hi
           exact hi)
        | (rw [if_neg (by omega), Int.add_zero] at hi
           exact hi)
    · refine r_iload_n dX0_couplesOfTurn_20 rfl rfl ?_
      refine r_aload_n dX0_couplesOfTurn_21 rfl rfl ?_
      refine r_get (fs := [_, _, _, _]) dX0_couplesOfTurn_22 fl_X0_19 (by decide) c58 rfl ?_
      refine r_iload_n dX0_couplesOfTurn_25 rfl rfl ?_
      refine r_ald dX0_couplesOfTurn_26 (by decide) c60 (by omega) (by omega) (by decide) ?_
      rw [Int.toNat_natCast]
      refine r_icmp_gt (tgt := 33) dX0_couplesOfTurn_27 (by decide) ⟨by omega, by omega⟩ ⟨by omega, by omega⟩ (fun g27 => ?_) (fun g27 => ?_)
      · refine r_iinc (lv2 := [(0, _), (1, _), (2, _), (3, _)]) dX0_couplesOfTurn_33 (by decide) rfl rfl rfl ?_
        refine r_goto (tgt := 4) dX0_couplesOfTurn_36 (by decide) ?_
        rw [show (k : Int) + 1 = ((k + 1 : Nat) : Int) by omega]
        first
          | (rw [if_pos (by omega)] at hi
             exact hi)
          | (rw [if_neg (by omega), Int.add_zero] at hi
             exact hi)
      · refine r_iinc (lv2 := [(0, _), (1, _), (2, _), (3, _)]) dX0_couplesOfTurn_30 (by decide) rfl rfl rfl ?_
        refine r_iinc (lv2 := [(0, _), (1, _), (2, _), (3, _)]) dX0_couplesOfTurn_33 (by decide) rfl rfl rfl ?_
        refine r_goto (tgt := 4) dX0_couplesOfTurn_36 (by decide) ?_
        rw [show (k : Int) + 1 = ((k + 1 : Nat) : Int) by omega]
        first
          | (rw [if_pos (by omega)] at hi
             exact hi)
          | (rw [if_neg (by omega), Int.add_zero] at hi
             exact hi)

theorem s_X0_couplesOfTurn {h : aH} {cp : Int} {fr tt : Nat → Int} (c58 : h 58 = FTO cp) (c59 : h 59 = .inl (0, 41, fr)) (c60 : h 60 = .inl (0, 41, tt)) (hfr : ∀ j, j < 41 → -1000 ≤ fr j ∧ fr j ≤ 1000) (htt : ∀ j, j < 41 → -1000 ≤ tt j ∧ tt j ≤ 1000) {tu : Int} (htu : -2000 ≤ tu ∧ tu ≤ 2000) : mSem yX0_couplesOfTurn cX0_couplesOfTurn 4 (some .int) 0 0 0 [.ref 58, iv tu] 97 h (Ret (coI fr tt tu 41) h) noX := by
  refine mSem_of (own := RX0) (name := "couplesOfTurn") pn_X0 rfl rfl (Nat.le_of_ble_eq_true rfl) ?_
  refine r_iconst dX0_couplesOfTurn_0 ?_
  refine r_istore_n (lv2 := [(0, _), (1, _), (2, _)]) dX0_couplesOfTurn_1 rfl (by decide) rfl rfl ?_
  refine r_iconst dX0_couplesOfTurn_2 ?_
  refine r_istore_n (lv2 := [(0, _), (1, _), (2, _), (3, _)]) dX0_couplesOfTurn_3 rfl (by decide) rfl rfl ?_
  exact l_X0_couplesOfTurn c58 c59 c60 hfr htt htu 41 0 (by omega)

theorem s_X0_addStep {h : aH} {cp : Int} (c58 : h 58 = FTO cp) {sf : Nat → Int} (c61 : h 61 = .inl (0, 621, sf)) {at_ up : Int} (ha : -10000 ≤ at_ ∧ at_ ≤ 10000) : mSem yX0_addStep cX0_addStep 4 none 0 0 0 [.ref 58, iv at_, iv up] 97 h (RetV (va_up h 61 (.inl (0, 621, stI sf at_ up)))) noX := by
  refine mSem_of (own := RX0) (name := "addStep") pn_X0 rfl rfl (Nat.le_of_ble_eq_true rfl) ?_
  refine r_iload_n dX0_addStep_0 rfl rfl ?_
  refine r_sipush dX0_addStep_1 rfl ?_
  refine r_iadd dX0_addStep_4 ?_
  refine r_istore_n (lv2 := [(0, _), (1, _), (2, _), (3, _)]) dX0_addStep_5 rfl (by decide) rfl rfl ?_
  refine r_iload_n dX0_addStep_6 rfl rfl ?_
  refine r_if_lt (tgt := 29) dX0_addStep_7 (by decide) ⟨by omega, by omega⟩ (fun g7 => ?_) (fun g7 => ?_)
  · refine r_vret dX0_addStep_29 ?_
    exact ⟨rfl, rfl, by unfold stI; first | (rw [if_neg (by omega)]; exact up_same c61) | rw [if_pos (by omega)]⟩
  · refine r_iload_n dX0_addStep_10 rfl rfl ?_
    refine r_aload_n dX0_addStep_11 rfl rfl ?_
    refine r_get (fs := [_, _, _, _]) dX0_addStep_12 fl_X0_22 (by decide) c58 rfl ?_
    refine r_alen dX0_addStep_15 (by decide) c61 (by decide) ?_
    refine r_icmp_ge (tgt := 29) dX0_addStep_16 (by decide) ⟨by omega, by omega⟩ ⟨by omega, by omega⟩ (fun g16 => ?_) (fun g16 => ?_)
    · refine r_vret dX0_addStep_29 ?_
      exact ⟨rfl, rfl, by unfold stI; first | (rw [if_neg (by omega)]; exact up_same c61) | rw [if_pos (by omega)]⟩
    · refine r_aload_n dX0_addStep_19 rfl rfl ?_
      refine r_get (fs := [_, _, _, _]) dX0_addStep_20 fl_X0_22 (by decide) c58 rfl ?_
      refine r_iload_n dX0_addStep_23 rfl rfl ?_
      refine r_dup2 dX0_addStep_24 rfl rfl ?_
      refine r_ald dX0_addStep_25 (by decide) c61 (by omega) (by omega) (by decide) ?_
      refine r_iload_n dX0_addStep_26 rfl rfl ?_
      refine r_iadd dX0_addStep_27 ?_
      refine r_ast dX0_addStep_28 (by decide) c61 (by omega) (by omega) (by decide) ?_
      refine r_vret dX0_addStep_29 ?_
      exact ⟨rfl, rfl, by unfold stI; first | (rw [if_neg (by omega)]; exact up_same c61) | rw [if_pos (by omega)]⟩

theorem l_X0_highestStep {h : aH} {cp : Int} (c58 : h 58 = FTO cp) {sf : Nat → Int} (c61 : h 61 = .inl (0, 621, sf)) (hsf : ∀ j, j < 621 → -1000 ≤ sf j ∧ sf j ≤ 1000) {d : Nat} (hd1 : 1 ≤ d) : ∀ (w k : Nat), k + w = 621 → Ev RX0 "highestStep" cX0_highestStep 4 (some .int) d 0 0 (Ret (hiI sf 621) h) noX 97 h 6 [(0, .ref 58), (1, iv (pSum sf k)), (2, iv (hiI sf k)), (3, iv k)] [] := by
  intro w
  induction w with
  | zero =>
    intro k hk
    obtain rfl : k = 621 := by omega
    refine r_iload_n dX0_highestStep_6 rfl rfl ?_
    refine r_aload_n dX0_highestStep_7 rfl rfl ?_
    refine r_get (fs := [_, _, _, _]) dX0_highestStep_8 fl_X0_22 (by decide) c58 rfl ?_
    refine r_alen dX0_highestStep_11 (by decide) c61 (by decide) ?_
    refine r_icmp_ge (tgt := 36) dX0_highestStep_12 (by decide) ⟨by omega, by omega⟩ ⟨by omega, by omega⟩ (fun g12 => ?_) (fun g12 => absurd g12 (by omega))
    refine r_iload_n dX0_highestStep_36 rfl rfl ?_
    refine r_iret dX0_highestStep_37 ?_
    exact ⟨rfl, rfl, rfl⟩
  | succ w ih =>
    intro k hk
    have b1 := hsf k (by omega)
    have b2 := hi_B hsf k (by omega)
    have hi := ih (k + 1) (by omega)
    rw [hiI_s _ k, pSum_s _ k] at hi
    refine r_iload_n dX0_highestStep_6 rfl rfl ?_
    refine r_aload_n dX0_highestStep_7 rfl rfl ?_
    refine r_get (fs := [_, _, _, _]) dX0_highestStep_8 fl_X0_22 (by decide) c58 rfl ?_
    refine r_alen dX0_highestStep_11 (by decide) c61 (by decide) ?_
    refine r_icmp_ge (tgt := 36) dX0_highestStep_12 (by decide) ⟨by omega, by omega⟩ ⟨by omega, by omega⟩ (fun g12 => absurd g12 (by omega)) (fun g12 => ?_)
    refine r_iload_n dX0_highestStep_15 rfl rfl ?_
    refine r_aload_n dX0_highestStep_16 rfl rfl ?_
    refine r_get (fs := [_, _, _, _]) dX0_highestStep_17 fl_X0_22 (by decide) c58 rfl ?_
    refine r_iload_n dX0_highestStep_20 rfl rfl ?_
    refine r_ald dX0_highestStep_21 (by decide) c61 (by omega) (by omega) (by decide) ?_
    rw [Int.toNat_natCast]
    refine r_iadd dX0_highestStep_22 ?_
    refine r_istore_n (lv2 := [(0, _), (1, _), (2, _), (3, _)]) dX0_highestStep_23 rfl (by decide) rfl rfl ?_
    refine r_iload_n dX0_highestStep_24 rfl rfl ?_
    refine r_iload_n dX0_highestStep_25 rfl rfl ?_
    refine r_callS [_, _] (s_J9_max_7cf53 ⟨by omega, by omega⟩ ⟨by omega, by omega⟩) dX0_highestStep_26 cs_X0_80 sm_J9_max_7cf53 (by omega) (by decide) (by decide) rfl rfl (Nat.le_of_ble_eq_true rfl) (fun _ _ _ q => q.elim) (fun v n2 h2 q => ?_)
    obtain ⟨rfl, rfl, hh⟩ := q
    obtain rfl := hh.symm
    refine ⟨rfl, ?_⟩
    dsimp only [Option.toList, List.cons_append, List.nil_append]
    refine r_istore_n (lv2 := [(0, _), (1, _), (2, _), (3, _)]) dX0_highestStep_29 rfl (by decide) rfl rfl ?_
    refine r_iinc (lv2 := [(0, _), (1, _), (2, _), (3, _)]) dX0_highestStep_30 (by decide) rfl rfl rfl ?_
    refine r_goto (tgt := 6) dX0_highestStep_33 (by decide) ?_
    rw [show (k : Int) + 1 = ((k + 1 : Nat) : Int) by omega]
    exact hi

theorem s_X0_highestStep {h : aH} {cp : Int} (c58 : h 58 = FTO cp) {sf : Nat → Int} (c61 : h 61 = .inl (0, 621, sf)) (hsf : ∀ j, j < 621 → -1000 ≤ sf j ∧ sf j ≤ 1000) : mSem yX0_highestStep cX0_highestStep 4 (some .int) 1 0 0 [.ref 58] 97 h (Ret (hiI sf 621) h) noX := by
  refine mSem_of (own := RX0) (name := "highestStep") pn_X0 rfl rfl (Nat.le_of_ble_eq_true rfl) ?_
  refine r_iconst dX0_highestStep_0 ?_
  refine r_istore_n (lv2 := [(0, _), (1, _)]) dX0_highestStep_1 rfl (by decide) rfl rfl ?_
  refine r_iconst dX0_highestStep_2 ?_
  refine r_istore_n (lv2 := [(0, _), (1, _), (2, _)]) dX0_highestStep_3 rfl (by decide) rfl rfl ?_
  refine r_iconst dX0_highestStep_4 ?_
  refine r_istore_n (lv2 := [(0, _), (1, _), (2, _), (3, _)]) dX0_highestStep_5 rfl (by decide) rfl rfl ?_
  exact l_X0_highestStep c58 c61 hsf (by decide) 621 0 (by omega)

def ggI (fr tt : Nat → Int) (plain : Int → Int) (kind cp : Int) : Int := if plain 0 = -1 then cp else if kind = 4 then max (coI fr tt (aroundI (720 - plain 0)) 41) (cp - coI fr tt (aroundI (720 - plain 0)) 41) else hiI (gsS fr tt (fun ti => aroundI (plain ti - plain 0)) (fun _ => 0) 41) 621

theorem l_X0_greatestGroup {h : aH} {nd sw nc : Int} {K U I O G L cf ct fc nx cd : Nat → Int} (c6 : h 6 = .inr (4, [iv nd, iv sw, iv nc, .ref 7, .ref 8, .ref 9, .ref 10, .ref 11, .ref 12, .ref 13, .ref 14, .ref 15, .ref 16])) (c7 : h 7 = .inl (0, 9, K)) (c8 : h 8 = .inl (0, 9, U)) (c9 : h 9 = .inl (0, 9, I)) (c10 : h 10 = .inl (0, 9, O)) (c11 : h 11 = .inl (0, 9, G)) (c12 : h 12 = .inl (0, 12, L)) (c13 : h 13 = .inl (0, 20, cf)) (c14 : h 14 = .inl (0, 20, ct)) (c15 : h 15 = .inl (0, 365, fc)) (c16 : h 16 = .inl (0, 20, nx)) {cp : Int} {fr tt sf : Nat → Int} (c58 : h 58 = FTO cp) (c59 : h 59 = .inl (0, 41, fr)) (c60 : h 60 = .inl (0, 41, tt)) (c61 : h 61 = .inl (0, 621, sf)) (pi : PInv nd sw nc K U I O G L cf ct fc nx cd) (hcp : 0 ≤ cp ∧ cp ≤ 10000) (hfr : ∀ j, j < 41 → -1000 ≤ fr j ∧ fr j ≤ 1000) (htt : ∀ j, j < 41 → -1000 ≤ tt j ∧ tt j ≤ 1000) {di : Int} (hdi : 0 ≤ di ∧ di < 9) {day : Int} (hd : 0 ≤ day ∧ day < 365) {m : Int} (hm : 0 ≤ m ∧ m < 1440) {b : Nat → Int} (hb : ∀ j, j < 621 → -1 ≤ b j ∧ b j ≤ 1) : ∀ (w k : Nat), k + w = 41 → Ev RX0 "greatestGroup" cX0_greatestGroup 8 (some .int) 5 0 0 (RetA 61 621 (hiI (gsS fr tt (fun ti => aroundI (plnT sw nc K O G L cf ct cd di day m ti - plnT sw nc K O G L cf ct cd di day m 0)) b 41) 621) h) noX 97 (va_up h 61 (.inl (0, 621, gsS fr tt (fun ti => aroundI (plnT sw nc K O G L cf ct cd di day m ti - plnT sw nc K O G L cf ct cd di day m 0)) b k))) 71 [(0, .ref 58), (1, .ref 6), (2, iv di), (3, iv day), (4, iv m), (5, iv (plnT sw nc K O G L cf ct cd di day m 0)), (6, iv k)] [] := by
  obtain ⟨pnd, psw, pnc, pK, pU, pI, pO, pG, pL, pcf, pct, pfc, pnx⟩ := id pi
  have b5 := plnT_B sw nc K O G L cf ct cd di day m 0
  intro w
  induction w with
  | zero =>
    intro k hk
    obtain rfl : k = 41 := by omega
    have hsf : ∀ j, j < 621 → -1000 ≤ gsS fr tt (fun ti => aroundI (plnT sw nc K O G L cf ct cd di day m ti - plnT sw nc K O G L cf ct cd di day m 0)) b 41 j ∧ gsS fr tt (fun ti => aroundI (plnT sw nc K O G L cf ct cd di day m ti - plnT sw nc K O G L cf ct cd di day m 0)) b 41 j ≤ 1000 := fun j hj => by have := gsS_B (fr := fr) (tt := tt) (off := (fun ti => aroundI (plnT sw nc K O G L cf ct cd di day m ti - plnT sw nc K O G L cf ct cd di day m 0))) hb 41 j hj; omega
    refine r_iload dX0_greatestGroup_71 rfl ?_
    refine r_bipush dX0_greatestGroup_73 rfl ?_
    refine r_icmp_ge (tgt := 152) dX0_greatestGroup_75 (by decide) ⟨by omega, by omega⟩ ⟨by omega, by omega⟩ (fun g75 => ?_) (fun g75 => absurd g75 (by omega))
    refine r_aload_n dX0_greatestGroup_152 rfl rfl ?_
    refine r_callV 58 [] (s_X0_highestStep (by exact c58) (by rfl) hsf) dX0_greatestGroup_153 cs_X0_99 im_X0_highestStep (by decide) c58 rfl (by decide) (by decide) (by decide) rfl rfl (Nat.le_of_ble_eq_true rfl) (fun _ _ _ q => q.elim) (fun v n2 h2 q => ?_)
    obtain ⟨rfl, rfl, hh⟩ := q
    obtain rfl := hh.symm
    refine ⟨rfl, ?_⟩
    dsimp only [Option.toList, List.cons_append, List.nil_append]
    refine r_iret dX0_greatestGroup_156 ?_
    exact ⟨rfl, rfl, _, rfl⟩
  | succ w ih =>
    intro k hk
    have b1 := hfr k (by omega)
    have b2 := htt k (by omega)
    have b6 := plnT_B sw nc K O G L cf ct cd di day m ((k : Int) - 20)
    have b7 := around_B (plnT sw nc K O G L cf ct cd di day m ((k : Int) - 20) - plnT sw nc K O G L cf ct cd di day m 0)
    have hi := ih (k + 1) (by omega)
    rw [gsS_s _ _ _ _ k] at hi
    have bc := b2i_01 (emI fr tt k)
    have be : b2i (emI fr tt k) = 0 ↔ fr k ≤ tt k := by unfold emI b2i; simp
    refine r_iload dX0_greatestGroup_71 rfl ?_
    refine r_bipush dX0_greatestGroup_73 rfl ?_
    refine r_icmp_ge (tgt := 152) dX0_greatestGroup_75 (by decide) ⟨by omega, by omega⟩ ⟨by omega, by omega⟩ (fun g75 => absurd g75 (by omega)) (fun g75 => ?_)
    refine r_aload_n dX0_greatestGroup_78 rfl rfl ?_
    refine r_iload dX0_greatestGroup_79 rfl ?_
    refine r_callV 58 [_] (s_X0_isEmpty (by exact c58) (by exact c59) (by exact c60) hfr htt (by omega)) dX0_greatestGroup_81 cs_X0_72 im_X0_isEmpty (by decide) c58 rfl (by decide) (by decide) (by decide) rfl rfl (Nat.le_of_ble_eq_true rfl) (fun _ _ _ q => q.elim) (fun v n2 h2 q => ?_)
    obtain ⟨rfl, rfl, hh⟩ := q
    obtain rfl := hh.symm
    refine ⟨rfl, ?_⟩
    dsimp only [Option.toList, List.cons_append, List.nil_append]
    refine r_if_ne (tgt := 146) dX0_greatestGroup_84 (by decide) ⟨by omega, by omega⟩ (fun g84 => ?_) (fun g84 => ?_)
    · refine r_iinc (lv2 := [(0, _), (1, _), (2, _), (3, _), (4, _), (5, _), (6, _)]) dX0_greatestGroup_146 (by decide) rfl rfl rfl ?_
      refine r_goto (tgt := 71) dX0_greatestGroup_149 (by decide) ?_
      refine r_lv (lv2 := [(0, _), (1, _), (2, _), (3, _), (4, _), (5, _), (6, _)]) rfl ?_
      rw [show (k : Int) + 1 = ((k + 1 : Nat) : Int) by omega]
      first
        | (rw [if_pos (by omega)] at hi
           rw [bx_uu, bx_uu]
           exact hi)
        | (rw [if_neg (by omega)] at hi
           exact hi)
    · refine r_aload_n dX0_greatestGroup_87 rfl rfl ?_
      refine r_iload_n dX0_greatestGroup_88 rfl rfl ?_
      refine r_iload_n dX0_greatestGroup_89 rfl rfl ?_
      refine r_iload dX0_greatestGroup_90 rfl ?_
      refine r_iload dX0_greatestGroup_92 rfl ?_
      refine r_bipush dX0_greatestGroup_94 rfl ?_
      refine r_isub dX0_greatestGroup_96 ?_
      refine r_callV 6 [_, _, _, _] (s_X4_plainlyTold (by exact c6) (by exact c7) (by exact c8) (by exact c9) (by exact c10) (by exact c11) (by exact c12) (by exact c13) (by exact c14) (by exact c15) (by exact c16) pi (by omega) (by omega) (by omega) (by omega)) dX0_greatestGroup_97 cs_X0_44 im_X4_plainlyTold (by decide) c6 rfl (by decide) (by decide) (by decide) rfl rfl (Nat.le_of_ble_eq_true rfl) (fun _ _ _ q => q.elim) (fun v n2 h2 q => ?_)
      obtain ⟨rfl, rfl, hh⟩ := q
      obtain rfl := hh.symm
      rw [show plainI (K di.toNat) ((k : Int) - 20) (O di.toNat) (G di.toNat) day m (noonI L day) (halfI sw day) (cUp cd cf ct day m nc.toNat) = plnT sw nc K O G L cf ct cd di day m ((k : Int) - 20) from rfl]
      refine ⟨rfl, ?_⟩
      dsimp only [Option.toList, List.cons_append, List.nil_append]
      refine r_istore (lv2 := [(0, _), (1, _), (2, _), (3, _), (4, _), (5, _), (6, _), (7, _)]) dX0_greatestGroup_100 (by decide) rfl rfl ?_
      refine r_aload_n dX0_greatestGroup_102 rfl rfl ?_
      refine r_iload dX0_greatestGroup_103 rfl ?_
      refine r_iload dX0_greatestGroup_105 rfl ?_
      refine r_isub dX0_greatestGroup_107 ?_
      refine r_callSN (np := 1) [_] (s_X8_around (by omega)) dX0_greatestGroup_108 "LyingDials" (by decide +kernel) cd_X8_around ini_X8 ⟨by decide +kernel, by decide +kernel, by decide +kernel⟩ (by decide) sm_X8_around (by decide) (by decide) (by decide) rfl rfl (Nat.le_of_ble_eq_true rfl) (fun v n2 h2 q => ?_)
      obtain ⟨rfl, rfl, hh⟩ := q
      obtain rfl := hh.symm
      refine ⟨rfl, ?_⟩
      dsimp only [Option.toList, List.cons_append, List.nil_append]
      refine r_aload_n dX0_greatestGroup_111 rfl rfl ?_
      refine r_get (fs := [_, _, _, _]) dX0_greatestGroup_112 fl_X0_15 (by decide) c58 rfl ?_
      refine r_iload dX0_greatestGroup_115 rfl ?_
      refine r_ald dX0_greatestGroup_117 (by decide) c59 (by omega) (by omega) (by decide) ?_
      rw [Int.toNat_natCast]
      refine r_iadd dX0_greatestGroup_118 ?_
      refine r_iconst dX0_greatestGroup_119 ?_
      refine r_callV 58 [_, _] (s_X0_addStep (by exact c58) (by rfl) (by omega)) dX0_greatestGroup_120 cs_X0_95 im_X0_addStep (by decide) c58 rfl (by decide) (by decide) (by decide) rfl rfl (Nat.le_of_ble_eq_true rfl) (fun _ _ _ q => q.elim) (fun v n2 h2 q => ?_)
      obtain ⟨rfl, rfl, hh⟩ := q
      obtain rfl := hh.symm
      refine ⟨rfl, ?_⟩
      dsimp only [Option.toList, List.cons_append, List.nil_append]
      refine r_aload_n dX0_greatestGroup_123 rfl rfl ?_
      refine r_iload dX0_greatestGroup_124 rfl ?_
      refine r_iload dX0_greatestGroup_126 rfl ?_
      refine r_isub dX0_greatestGroup_128 ?_
      refine r_callSN (np := 1) [_] (s_X8_around (by omega)) dX0_greatestGroup_129 "LyingDials" (by decide +kernel) cd_X8_around ini_X8 ⟨by decide +kernel, by decide +kernel, by decide +kernel⟩ (by decide) sm_X8_around (by decide) (by decide) (by decide) rfl rfl (Nat.le_of_ble_eq_true rfl) (fun v n2 h2 q => ?_)
      obtain ⟨rfl, rfl, hh⟩ := q
      obtain rfl := hh.symm
      refine ⟨rfl, ?_⟩
      dsimp only [Option.toList, List.cons_append, List.nil_append]
      refine r_aload_n dX0_greatestGroup_132 rfl rfl ?_
      refine r_get (fs := [_, _, _, _]) dX0_greatestGroup_133 fl_X0_19 (by decide) c58 rfl ?_
      refine r_iload dX0_greatestGroup_136 rfl ?_
      refine r_ald dX0_greatestGroup_138 (by decide) c60 (by omega) (by omega) (by decide) ?_
      rw [Int.toNat_natCast]
      refine r_iadd dX0_greatestGroup_139 ?_
      refine r_iconst dX0_greatestGroup_140 ?_
      refine r_iadd dX0_greatestGroup_141 ?_
      refine r_iconst dX0_greatestGroup_142 ?_
      refine r_callV 58 [_, _] (s_X0_addStep (by exact c58) (by rfl) (by omega)) dX0_greatestGroup_143 cs_X0_95 im_X0_addStep (by decide) c58 rfl (by decide) (by decide) (by decide) rfl rfl (Nat.le_of_ble_eq_true rfl) (fun _ _ _ q => q.elim) (fun v n2 h2 q => ?_)
      obtain ⟨rfl, rfl, hh⟩ := q
      obtain rfl := hh.symm
      refine ⟨rfl, ?_⟩
      dsimp only [Option.toList, List.cons_append, List.nil_append]
      refine r_iinc (lv2 := [(0, _), (1, _), (2, _), (3, _), (4, _), (5, _), (6, _), (7, _)]) dX0_greatestGroup_146 (by decide) rfl rfl rfl ?_
      refine r_goto (tgt := 71) dX0_greatestGroup_149 (by decide) ?_
      refine r_lv (lv2 := [(0, _), (1, _), (2, _), (3, _), (4, _), (5, _), (6, _)]) rfl ?_
      rw [show (k : Int) + 1 = ((k + 1 : Nat) : Int) by omega]
      first
        | (rw [if_pos (by omega)] at hi
           rw [bx_uu, bx_uu]
           exact hi)
        | (rw [if_neg (by omega)] at hi
           exact hi)

theorem s_X0_greatestGroup {h : aH} {nd sw nc : Int} {K U I O G L cf ct fc nx cd : Nat → Int} (c6 : h 6 = .inr (4, [iv nd, iv sw, iv nc, .ref 7, .ref 8, .ref 9, .ref 10, .ref 11, .ref 12, .ref 13, .ref 14, .ref 15, .ref 16])) (c7 : h 7 = .inl (0, 9, K)) (c8 : h 8 = .inl (0, 9, U)) (c9 : h 9 = .inl (0, 9, I)) (c10 : h 10 = .inl (0, 9, O)) (c11 : h 11 = .inl (0, 9, G)) (c12 : h 12 = .inl (0, 12, L)) (c13 : h 13 = .inl (0, 20, cf)) (c14 : h 14 = .inl (0, 20, ct)) (c15 : h 15 = .inl (0, 365, fc)) (c16 : h 16 = .inl (0, 20, nx)) {cp : Int} {fr tt sf : Nat → Int} (c58 : h 58 = FTO cp) (c59 : h 59 = .inl (0, 41, fr)) (c60 : h 60 = .inl (0, 41, tt)) (c61 : h 61 = .inl (0, 621, sf)) (pi : PInv nd sw nc K U I O G L cf ct fc nx cd) (hcp : 0 ≤ cp ∧ cp ≤ 10000) (hfr : ∀ j, j < 41 → -1000 ≤ fr j ∧ fr j ≤ 1000) (htt : ∀ j, j < 41 → -1000 ≤ tt j ∧ tt j ≤ 1000) {di : Int} (hdi : 0 ≤ di ∧ di < 9) {day : Int} (hd : 0 ≤ day ∧ day < 365) {m : Int} (hm : 0 ≤ m ∧ m < 1440) : mSem yX0_greatestGroup cX0_greatestGroup 8 (some .int) 5 0 0 [.ref 58, .ref 6, iv di, iv day, iv m] 97 h (RetA 61 621 (ggI fr tt (fun ti => plnT sw nc K O G L cf ct cd di day m ti) (K di.toNat) cp) h) noX := by
  obtain ⟨pnd, psw, pnc, pK, pU, pI, pO, pG, pL, pcf, pct, pfc, pnx⟩ := id pi
  refine mSem_of (own := RX0) (name := "greatestGroup") pn_X0 rfl rfl (Nat.le_of_ble_eq_true rfl) ?_
  have bK := pK di.toNat
  have b5 := plnT_B sw nc K O G L cf ct cd di day m 0
  have b6 := around_B (720 - plnT sw nc K O G L cf ct cd di day m 0)
  have b7 := coI_B fr tt (aroundI (720 - plnT sw nc K O G L cf ct cd di day m 0)) 41
  refine r_aload_n dX0_greatestGroup_0 rfl rfl ?_
  refine r_iload_n dX0_greatestGroup_1 rfl rfl ?_
  refine r_iload_n dX0_greatestGroup_2 rfl rfl ?_
  refine r_iload dX0_greatestGroup_3 rfl ?_
  refine r_iconst dX0_greatestGroup_5 ?_
  refine r_callV 6 [_, _, _, _] (s_X4_plainlyTold c6 c7 c8 c9 c10 c11 c12 c13 c14 c15 c16 pi (by omega) (by omega) (by omega) (by omega)) dX0_greatestGroup_6 cs_X0_44 im_X4_plainlyTold (by decide) c6 rfl (by decide) (by decide) (by decide) rfl rfl (Nat.le_of_ble_eq_true rfl) (fun _ _ _ q => q.elim) (fun v n2 h2 q => ?_)
  obtain ⟨rfl, rfl, hh⟩ := q
  obtain rfl := hh.symm
  rw [show plainI (K di.toNat) (0) (O di.toNat) (G di.toNat) day m (noonI L day) (halfI sw day) (cUp cd cf ct day m nc.toNat) = plnT sw nc K O G L cf ct cd di day m (0) from rfl]
  refine ⟨rfl, ?_⟩
  dsimp only [Option.toList, List.cons_append, List.nil_append]
  refine r_istore (lv2 := [(0, _), (1, _), (2, _), (3, _), (4, _), (5, _)]) dX0_greatestGroup_9 (by decide) rfl rfl ?_
  refine r_iload dX0_greatestGroup_11 rfl ?_
  refine r_iconst dX0_greatestGroup_13 ?_
  refine r_icmp_ne (tgt := 22) dX0_greatestGroup_14 (by decide) ⟨by omega, by omega⟩ ⟨by omega, by omega⟩ (fun g14 => ?_) (fun g14 => ?_)
  · refine r_aload_n dX0_greatestGroup_22 rfl rfl ?_
    refine r_get (fs := [_, _, _, _, _, _, _, _, _, _, _, _, _]) dX0_greatestGroup_23 fl_X0_83 (by decide) c6 rfl ?_
    refine r_iload_n dX0_greatestGroup_26 rfl rfl ?_
    refine r_ald dX0_greatestGroup_27 (by decide) c7 (by omega) (by omega) (by decide) ?_
    refine r_iconst dX0_greatestGroup_28 ?_
    refine r_icmp_ne (tgt := 60) dX0_greatestGroup_29 (by decide) ⟨by omega, by omega⟩ ⟨by omega, by omega⟩ (fun g29 => ?_) (fun g29 => ?_)
    · refine r_aload_n dX0_greatestGroup_60 rfl rfl ?_
      refine r_get (fs := [_, _, _, _]) dX0_greatestGroup_61 fl_X0_22 (by decide) c58 rfl ?_
      refine r_iconst dX0_greatestGroup_64 ?_
      refine r_callS [.ref 61, _] (s_fill_61 c61) dX0_greatestGroup_65 cs_X0_89 sm_J7_fill_53178 (by decide) (by decide) (by decide) rfl rfl (Nat.le_of_ble_eq_true rfl) (fun _ _ _ q => q.elim) (fun v n2 h2 q => ?_)
      obtain ⟨rfl, rfl, hh⟩ := q
      obtain rfl := hh.symm
      refine ⟨rfl, ?_⟩
      dsimp only [Option.toList, List.cons_append, List.nil_append]
      refine r_iconst dX0_greatestGroup_68 ?_
      refine r_istore (lv2 := [(0, _), (1, _), (2, _), (3, _), (4, _), (5, _), (6, _)]) dX0_greatestGroup_69 (by decide) rfl rfl ?_
      have eb : ∀ j, j < 621 → fillF sf 0 621 j = (fun _ => 0 : Nat → Int) j := fun j hj => by unfold fillF; rw [if_pos hj]
      have hk := l_X0_greatestGroup c6 c7 c8 c9 c10 c11 c12 c13 c14 c15 c16 c58 c59 c60 c61 pi hcp hfr htt hdi hd hm (b := fillF sf 0 621) (fun j hj => by rw [eb j hj]; exact ⟨show (-1 : Int) ≤ 0 by decide, show (0 : Int) ≤ 1 by decide⟩) 41 0 (by omega)
      refine ev_post hk (fun v n2 h2 q => ?_) (fun _ _ _ q => q)
      obtain ⟨rfl, rfl, f2, rfl⟩ := q
      refine ⟨ivE ?_, rfl, f2, rfl⟩
      unfold ggI
      rw [if_neg g14, if_neg g29]
      exact hiI_congr 621 (fun j hj => gsS_congr eb 41 j hj)
    · refine r_aload_n dX0_greatestGroup_32 rfl rfl ?_
      refine r_sipush dX0_greatestGroup_33 rfl ?_
      refine r_iload dX0_greatestGroup_36 rfl ?_
      refine r_isub dX0_greatestGroup_38 ?_
      refine r_callSN (np := 1) [_] (s_X8_around (by omega)) dX0_greatestGroup_39 "LyingDials" (by decide +kernel) cd_X8_around ini_X8 ⟨by decide +kernel, by decide +kernel, by decide +kernel⟩ (by decide) sm_X8_around (by decide) (by decide) (by decide) rfl rfl (Nat.le_of_ble_eq_true rfl) (fun v n2 h2 q => ?_)
      obtain ⟨rfl, rfl, hh⟩ := q
      obtain rfl := hh.symm
      refine ⟨rfl, ?_⟩
      dsimp only [Option.toList, List.cons_append, List.nil_append]
      refine r_callV 58 [_] (s_X0_couplesOfTurn c58 c59 c60 hfr htt (by omega)) dX0_greatestGroup_42 cs_X0_86 im_X0_couplesOfTurn (by decide) c58 rfl (by decide) (by decide) (by decide) rfl rfl (Nat.le_of_ble_eq_true rfl) (fun _ _ _ q => q.elim) (fun v n2 h2 q => ?_)
      obtain ⟨rfl, rfl, hh⟩ := q
      obtain rfl := hh.symm
      refine ⟨rfl, ?_⟩
      dsimp only [Option.toList, List.cons_append, List.nil_append]
      refine r_istore (lv2 := [(0, _), (1, _), (2, _), (3, _), (4, _), (5, _), (6, _)]) dX0_greatestGroup_45 (by decide) rfl rfl ?_
      refine r_iload dX0_greatestGroup_47 rfl ?_
      refine r_aload_n dX0_greatestGroup_49 rfl rfl ?_
      refine r_get (fs := [_, _, _, _]) dX0_greatestGroup_50 fl_X0_11 (by decide) c58 rfl ?_
      refine r_iload dX0_greatestGroup_53 rfl ?_
      refine r_isub dX0_greatestGroup_55 ?_
      refine r_callS [_, _] (s_J9_max_7cf53 ⟨by omega, by omega⟩ ⟨by omega, by omega⟩) dX0_greatestGroup_56 cs_X0_80 sm_J9_max_7cf53 (by decide) (by decide) (by decide) rfl rfl (Nat.le_of_ble_eq_true rfl) (fun _ _ _ q => q.elim) (fun v n2 h2 q => ?_)
      obtain ⟨rfl, rfl, hh⟩ := q
      obtain rfl := hh.symm
      refine ⟨rfl, ?_⟩
      dsimp only [Option.toList, List.cons_append, List.nil_append]
      refine r_iret dX0_greatestGroup_59 ?_
      exact ⟨ivE (by unfold ggI; rw [if_neg g14, if_pos g29]), rfl, sf, up_same c61⟩
  · refine r_aload_n dX0_greatestGroup_17 rfl rfl ?_
    refine r_get (fs := [_, _, _, _]) dX0_greatestGroup_18 fl_X0_11 (by decide) c58 rfl ?_
    refine r_iret dX0_greatestGroup_21 ?_
    exact ⟨ivE (by unfold ggI; rw [if_pos g14]), rfl, sf, up_same c61⟩
