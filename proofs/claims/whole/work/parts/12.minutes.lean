/-! ===== the port: moments and minutes ===== -/
def minAtI (kind day ang noon half : Int) : Int := if kind = 3 then (if 360 < (ang.natAbs : Int) then -1 else (720 + 48 * (day % 30) + ang) % 1440) else if half < (ang.natAbs : Int) then -1 else noon + ang
theorem minAt_B {kind day ang noon half : Int} (hn : 690 ≤ noon ∧ noon ≤ 750) (hh : 120 ≤ half ∧ half ≤ 600) : -1 ≤ minAtI kind day ang noon half ∧ minAtI kind day ang noon half < 1440 := by
  unfold minAtI
  split
  · split <;> omega
  · split <;> omega
/-- the minutes found along k angles from a on -/
def gath (mi : Int → Int) (ok : Int → Bool) (a : Int) : Nat → List Int
  | 0 => []
  | k + 1 => if mi a ≠ -1 ∧ ok (mi a) = true then mi a :: gath mi ok (a + 1) k else gath mi ok (a + 1) k
theorem gath_len (mi : Int → Int) (ok : Int → Bool) : ∀ (k : Nat) (a : Int), (gath mi ok a k).length ≤ k := by
  intro k
  induction k with
  | zero => intro a; exact Nat.le_refl _
  | succ k ih =>
    intro a
    have := ih (a + 1)
    unfold gath
    split
    · simp only [List.length_cons]; omega
    · omega
def putL (f : Nat → Int) (i : Nat) : List Int → Nat → Int
  | [] => f
  | x :: r => putL (va_up f i x) (i + 1) r
theorem putL_app (r q : List Int) : ∀ (f : Nat → Int) (i : Nat), putL (putL f i r) (i + r.length) q = putL f i (r ++ q) := by
  induction r with
  | nil => intro f i; rfl
  | cons x r ih =>
    intro f i
    have := ih (va_up f i x) (i + 1)
    simp only [List.length_cons, List.cons_append, putL]
    rw [show i + (r.length + 1) = i + 1 + r.length by omega]
    exact this
def cntR (p : Int → Bool) (a : Int) : Nat → Int
  | 0 => 0
  | k + 1 => b2i (p a) + cntR p (a + 1) k
theorem cntR_B (p : Int → Bool) : ∀ (k : Nat) (a : Int), 0 ≤ cntR p a k ∧ cntR p a k ≤ k := by
  intro k
  induction k with
  | zero => intro a; exact ⟨Int.le_refl _, Int.le_refl _⟩
  | succ k ih =>
    intro a
    have h1 := ih (a + 1)
    have h2 := b2i_01 (p a)
    unfold cntR
    omega
theorem cntR_all {p : Int → Bool} (h : ∀ m, p m = true) : ∀ (k : Nat) (a : Int), cntR p a k = k := by
  intro k
  induction k with
  | zero => intro a; rfl
  | succ k ih =>
    intro a
    unfold cntR
    rw [h, ih]
    simp [b2i]
    omega
def sharedI (a b c d : Int) : Int := max 0 (min b d - max a c + 1)
def moonMI (day noon half : Int) : Int := if moonI day then 721 - sharedI (720 + 48 * (day % 30) - 360) (720 + 48 * (day % 30) + 360) (noon - half) (noon + half) - sharedI (720 + 48 * (day % 30) - 360) (720 + 48 * (day % 30) + 360) (noon - half + 1440) (noon + half + 1440) else 0
def sunFrom (kind noon half : Int) : Int := if kind = 1 then noon else noon - half
def sunTo (kind noon half : Int) : Int := if kind = 0 then noon else noon + half
theorem sunFT_B {kind noon half : Int} (hn : 690 ≤ noon ∧ noon ≤ 750) (hh : 120 ≤ half ∧ half ≤ 600) : (90 ≤ sunFrom kind noon half ∧ sunFrom kind noon half ≤ 750) ∧ (690 ≤ sunTo kind noon half ∧ sunTo kind noon half ≤ 1350) ∧ sunFrom kind noon half ≤ sunTo kind noon half := by
  unfold sunFrom sunTo
  split <;> split <;> omega
def sunMI (cd cf ct : Nat → Int) (nc : Nat) (day kind noon half : Int) : Int := cntR (fun m => !cUp cd cf ct day m nc) (sunFrom kind noon half) (sunTo kind noon half - sunFrom kind noon half + 1).toNat
def litMI (cd cf ct : Nat → Int) (nc : Nat) (day kind g noon half : Int) : Int := if kind = 5 ∨ grownI g kind day = true then 0 else if kind = 3 then moonMI day noon half else sunMI cd cf ct nc day kind noon half

theorem s_X4_shared {h : aH} {a b c d : Int} (ha : -10000 ≤ a ∧ a ≤ 10000) (hb : -10000 ≤ b ∧ b ≤ 10000) (hc : -10000 ≤ c ∧ c ≤ 10000) (hd : -10000 ≤ d ∧ d ≤ 10000) : mSem yX4_shared cX4_shared 4 (some .int) 1 0 0 [iv a, iv b, iv c, iv d] 97 h (Ret (sharedI a b c d) h) noX := by
  refine mSem_of (own := RX4) (name := "shared") pn_X4 rfl rfl (Nat.le_of_ble_eq_true rfl) ?_
  refine r_iconst dX4_shared_0 ?_
  refine r_iload_n dX4_shared_1 rfl rfl ?_
  refine r_iload_n dX4_shared_2 rfl rfl ?_
  refine r_callS [_, _] (s_J9_min_7cf53 ⟨by omega, by omega⟩ ⟨by omega, by omega⟩) dX4_shared_3 cs_X4_122 sm_J9_min_7cf53 (by decide) (by decide) (by decide) rfl rfl (Nat.le_of_ble_eq_true rfl) (fun _ _ _ q => q.elim) (fun v n2 h2 q => ?_)
  obtain ⟨rfl, rfl, hh⟩ := q
  obtain rfl := hh.symm
  refine ⟨rfl, ?_⟩
  dsimp only [Option.toList, List.cons_append, List.nil_append]
  refine r_iload_n dX4_shared_6 rfl rfl ?_
  refine r_iload_n dX4_shared_7 rfl rfl ?_
  refine r_callS [_, _] (s_J9_max_7cf53 ⟨by omega, by omega⟩ ⟨by omega, by omega⟩) dX4_shared_8 cs_X4_125 sm_J9_max_7cf53 (by decide) (by decide) (by decide) rfl rfl (Nat.le_of_ble_eq_true rfl) (fun _ _ _ q => q.elim) (fun v n2 h2 q => ?_)
  obtain ⟨rfl, rfl, hh⟩ := q
  obtain rfl := hh.symm
  refine ⟨rfl, ?_⟩
  dsimp only [Option.toList, List.cons_append, List.nil_append]
  refine r_isub dX4_shared_11 ?_
  refine r_iconst dX4_shared_12 ?_
  refine r_iadd dX4_shared_13 ?_
  refine r_callS [_, _] (s_J9_max_7cf53 ⟨by omega, by omega⟩ ⟨by omega, by omega⟩) dX4_shared_14 cs_X4_125 sm_J9_max_7cf53 (by decide) (by decide) (by decide) rfl rfl (Nat.le_of_ble_eq_true rfl) (fun _ _ _ q => q.elim) (fun v n2 h2 q => ?_)
  obtain ⟨rfl, rfl, hh⟩ := q
  obtain rfl := hh.symm
  refine ⟨rfl, ?_⟩
  dsimp only [Option.toList, List.cons_append, List.nil_append]
  refine r_iret dX4_shared_17 ?_
  exact ⟨rfl, rfl, rfl⟩

theorem s_X4_minuteAt {h : aH} {nd sw nc : Int} {K U I O G L cf ct fc nx cd : Nat → Int} (c6 : h 6 = .inr (4, [iv nd, iv sw, iv nc, .ref 7, .ref 8, .ref 9, .ref 10, .ref 11, .ref 12, .ref 13, .ref 14, .ref 15, .ref 16])) (c7 : h 7 = .inl (0, 9, K)) (c8 : h 8 = .inl (0, 9, U)) (c9 : h 9 = .inl (0, 9, I)) (c10 : h 10 = .inl (0, 9, O)) (c11 : h 11 = .inl (0, 9, G)) (c12 : h 12 = .inl (0, 12, L)) (c13 : h 13 = .inl (0, 20, cf)) (c14 : h 14 = .inl (0, 20, ct)) (c15 : h 15 = .inl (0, 365, fc)) (c16 : h 16 = .inl (0, 20, nx)) (pi : PInv nd sw nc K U I O G L cf ct fc nx cd) {k : Int} (hk : 0 ≤ k ∧ k ≤ 5) {day : Int} (hd : 0 ≤ day ∧ day < 365) {an : Int} (han : -5000 ≤ an ∧ an ≤ 5000) : mSem yX4_minuteAt cX4_minuteAt 4 (some .int) 2 0 0 [.ref 6, iv k, iv day, iv an] 97 h (Ret (minAtI k day an (noonI L day) (halfI sw day)) h) noX := by
  obtain ⟨pnd, psw, pnc, pK, pU, pI, pO, pG, pL, pcf, pct, pfc, pnx⟩ := id pi
  refine mSem_of (own := RX4) (name := "minuteAt") pn_X4 rfl rfl (Nat.le_of_ble_eq_true rfl) ?_
  have bn := noon_B (L := L) (day := day) pL
  have bh := half_B psw hd
  refine r_iload_n dX4_minuteAt_0 rfl rfl ?_
  refine r_iconst dX4_minuteAt_1 ?_
  refine r_icmp_ne (tgt := 32) dX4_minuteAt_2 (by decide) ⟨by omega, by omega⟩ ⟨by omega, by omega⟩ (fun g2 => ?_) (fun g2 => ?_)
  · refine r_iload_n dX4_minuteAt_32 rfl rfl ?_
    refine r_callS [_] (s_J9_abs_0f7a4 (by omega)) dX4_minuteAt_33 cs_X4_58 sm_J9_abs_0f7a4 (by decide) (by decide) (by decide) rfl rfl (Nat.le_of_ble_eq_true rfl) (fun _ _ _ q => q.elim) (fun v n2 h2 q => ?_)
    obtain ⟨rfl, rfl, hh⟩ := q
    obtain rfl := hh.symm
    refine ⟨rfl, ?_⟩
    dsimp only [Option.toList, List.cons_append, List.nil_append]
    refine r_aload_n dX4_minuteAt_36 rfl rfl ?_
    refine r_iload_n dX4_minuteAt_37 rfl rfl ?_
    refine r_callV 6 [_] (s_X4_halfOf c6 c7 c8 c9 c10 c11 c12 c13 c14 c15 c16 pi hd) dX4_minuteAt_38 cs_X4_91 im_X4_halfOf (by decide) c6 rfl (by decide) (by decide) (by decide) rfl rfl (Nat.le_of_ble_eq_true rfl) (fun _ _ _ q => q.elim) (fun v n2 h2 q => ?_)
    obtain ⟨rfl, rfl, hh⟩ := q
    obtain rfl := hh.symm
    refine ⟨rfl, ?_⟩
    dsimp only [Option.toList, List.cons_append, List.nil_append]
    refine r_icmp_le (tgt := 48) dX4_minuteAt_41 (by decide) ⟨by omega, by omega⟩ ⟨by omega, by omega⟩ (fun g41 => ?_) (fun g41 => ?_)
    · refine r_aload_n dX4_minuteAt_48 rfl rfl ?_
      refine r_iload_n dX4_minuteAt_49 rfl rfl ?_
      refine r_callV 6 [_] (s_X4_noonOf c6 c7 c8 c9 c10 c11 c12 c13 c14 c15 c16 pi hd) dX4_minuteAt_50 cs_X4_88 im_X4_noonOf (by decide) c6 rfl (by decide) (by decide) (by decide) rfl rfl (Nat.le_of_ble_eq_true rfl) (fun _ _ _ q => q.elim) (fun v n2 h2 q => ?_)
      obtain ⟨rfl, rfl, hh⟩ := q
      obtain rfl := hh.symm
      refine ⟨rfl, ?_⟩
      dsimp only [Option.toList, List.cons_append, List.nil_append]
      refine r_iload_n dX4_minuteAt_53 rfl rfl ?_
      refine r_iadd dX4_minuteAt_54 ?_
      refine r_iret dX4_minuteAt_55 ?_
      exact ⟨ivE (by unfold minAtI; rw [if_neg g2]; first | rw [if_pos (by omega)] | rw [if_neg (by omega)]), rfl, rfl⟩
    · refine r_iconst dX4_minuteAt_44 ?_
      refine r_goto (tgt := 55) dX4_minuteAt_45 (by decide) ?_
      refine r_iret dX4_minuteAt_55 ?_
      exact ⟨ivE (by unfold minAtI; rw [if_neg g2]; first | rw [if_pos (by omega)] | rw [if_neg (by omega)]), rfl, rfl⟩
  · refine r_iload_n dX4_minuteAt_5 rfl rfl ?_
    refine r_callS [_] (s_J9_abs_0f7a4 (by omega)) dX4_minuteAt_6 cs_X4_58 sm_J9_abs_0f7a4 (by decide) (by decide) (by decide) rfl rfl (Nat.le_of_ble_eq_true rfl) (fun _ _ _ q => q.elim) (fun v n2 h2 q => ?_)
    obtain ⟨rfl, rfl, hh⟩ := q
    obtain rfl := hh.symm
    refine ⟨rfl, ?_⟩
    dsimp only [Option.toList, List.cons_append, List.nil_append]
    refine r_sipush dX4_minuteAt_9 rfl ?_
    refine r_icmp_le (tgt := 19) dX4_minuteAt_12 (by decide) ⟨by omega, by omega⟩ ⟨by omega, by omega⟩ (fun g12 => ?_) (fun g12 => ?_)
    · refine r_iload_n dX4_minuteAt_19 rfl rfl ?_
      refine r_callS [_] (s_X4_moonNoonOf hd) dX4_minuteAt_20 cs_X4_100 sm_X4_moonNoonOf (by decide) (by decide) (by decide) rfl rfl (Nat.le_of_ble_eq_true rfl) (fun _ _ _ q => q.elim) (fun v n2 h2 q => ?_)
      obtain ⟨rfl, rfl, hh⟩ := q
      obtain rfl := hh.symm
      refine ⟨rfl, ?_⟩
      dsimp only [Option.toList, List.cons_append, List.nil_append]
      refine r_iload_n dX4_minuteAt_23 rfl rfl ?_
      refine r_iadd dX4_minuteAt_24 ?_
      refine r_sipush dX4_minuteAt_25 rfl ?_
      refine r_callS [_, _] (s_J9_floorMod_7cf53 ⟨by omega, by omega⟩ (by omega)) dX4_minuteAt_28 cs_X4_68 sm_J9_floorMod_7cf53 (by decide) (by decide) (by decide) rfl rfl (Nat.le_of_ble_eq_true rfl) (fun _ _ _ q => q.elim) (fun v n2 h2 q => ?_)
      obtain ⟨rfl, rfl, hh⟩ := q
      obtain rfl := hh.symm
      refine ⟨rfl, ?_⟩
      dsimp only [Option.toList, List.cons_append, List.nil_append]
      refine r_iret dX4_minuteAt_31 ?_
      exact ⟨ivE (by unfold minAtI; rw [if_pos g2]; first | rw [if_pos (by omega)] | rw [if_neg (by omega)]), rfl, rfl⟩
    · refine r_iconst dX4_minuteAt_15 ?_
      refine r_goto (tgt := 31) dX4_minuteAt_16 (by decide) ?_
      refine r_iret dX4_minuteAt_31 ?_
      exact ⟨ivE (by unfold minAtI; rw [if_pos g2]; first | rw [if_pos (by omega)] | rw [if_neg (by omega)]), rfl, rfl⟩

theorem s_X4_moonMinutes {h : aH} {nd sw nc : Int} {K U I O G L cf ct fc nx cd : Nat → Int} (c6 : h 6 = .inr (4, [iv nd, iv sw, iv nc, .ref 7, .ref 8, .ref 9, .ref 10, .ref 11, .ref 12, .ref 13, .ref 14, .ref 15, .ref 16])) (c7 : h 7 = .inl (0, 9, K)) (c8 : h 8 = .inl (0, 9, U)) (c9 : h 9 = .inl (0, 9, I)) (c10 : h 10 = .inl (0, 9, O)) (c11 : h 11 = .inl (0, 9, G)) (c12 : h 12 = .inl (0, 12, L)) (c13 : h 13 = .inl (0, 20, cf)) (c14 : h 14 = .inl (0, 20, ct)) (c15 : h 15 = .inl (0, 365, fc)) (c16 : h 16 = .inl (0, 20, nx)) (pi : PInv nd sw nc K U I O G L cf ct fc nx cd) {day : Int} (hd : 0 ≤ day ∧ day < 365) : mSem yX4_moonMinutes cX4_moonMinutes 6 (some .int) 2 0 0 [.ref 6, iv day] 97 h (Ret (moonMI day (noonI L day) (halfI sw day)) h) noX := by
  obtain ⟨pnd, psw, pnc, pK, pU, pI, pO, pG, pL, pcf, pct, pfc, pnx⟩ := id pi
  refine mSem_of (own := RX4) (name := "moonMinutes") pn_X4 rfl rfl (Nat.le_of_ble_eq_true rfl) ?_
  have bn := noon_B (L := L) (day := day) pL
  have bh := half_B psw hd
  have bc := b2i_01 (moonI day)
  refine r_iload_n dX4_moonMinutes_0 rfl rfl ?_
  refine r_callS [_] (s_X4_hasMoon hd) dX4_moonMinutes_1 cs_X4_97 sm_X4_hasMoon (by decide) (by decide) (by decide) rfl rfl (Nat.le_of_ble_eq_true rfl) (fun _ _ _ q => q.elim) (fun v n2 h2 q => ?_)
  obtain ⟨rfl, rfl, hh⟩ := q
  obtain rfl := hh.symm
  refine ⟨rfl, ?_⟩
  dsimp only [Option.toList, List.cons_append, List.nil_append]
  refine r_if_ne (tgt := 9) dX4_moonMinutes_4 (by decide) ⟨by omega, by omega⟩ (fun g4 => ?_) (fun g4 => ?_)
  · rw [b2i_0, Bool.not_eq_false] at g4
    refine r_iload_n dX4_moonMinutes_9 rfl rfl ?_
    refine r_callS [_] (s_X4_moonNoonOf hd) dX4_moonMinutes_10 cs_X4_100 sm_X4_moonNoonOf (by decide) (by decide) (by decide) rfl rfl (Nat.le_of_ble_eq_true rfl) (fun _ _ _ q => q.elim) (fun v n2 h2 q => ?_)
    obtain ⟨rfl, rfl, hh⟩ := q
    obtain rfl := hh.symm
    refine ⟨rfl, ?_⟩
    dsimp only [Option.toList, List.cons_append, List.nil_append]
    refine r_sipush dX4_moonMinutes_13 rfl ?_
    refine r_isub dX4_moonMinutes_16 ?_
    refine r_istore_n (lv2 := [(0, _), (1, _), (2, _)]) dX4_moonMinutes_17 rfl (by decide) rfl rfl ?_
    refine r_iload_n dX4_moonMinutes_18 rfl rfl ?_
    refine r_callS [_] (s_X4_moonNoonOf hd) dX4_moonMinutes_19 cs_X4_100 sm_X4_moonNoonOf (by decide) (by decide) (by decide) rfl rfl (Nat.le_of_ble_eq_true rfl) (fun _ _ _ q => q.elim) (fun v n2 h2 q => ?_)
    obtain ⟨rfl, rfl, hh⟩ := q
    obtain rfl := hh.symm
    refine ⟨rfl, ?_⟩
    dsimp only [Option.toList, List.cons_append, List.nil_append]
    refine r_sipush dX4_moonMinutes_22 rfl ?_
    refine r_iadd dX4_moonMinutes_25 ?_
    refine r_istore_n (lv2 := [(0, _), (1, _), (2, _), (3, _)]) dX4_moonMinutes_26 rfl (by decide) rfl rfl ?_
    refine r_aload_n dX4_moonMinutes_27 rfl rfl ?_
    refine r_iload_n dX4_moonMinutes_28 rfl rfl ?_
    refine r_callV 6 [_] (s_X4_noonOf c6 c7 c8 c9 c10 c11 c12 c13 c14 c15 c16 pi hd) dX4_moonMinutes_29 cs_X4_88 im_X4_noonOf (by decide) c6 rfl (by decide) (by decide) (by decide) rfl rfl (Nat.le_of_ble_eq_true rfl) (fun _ _ _ q => q.elim) (fun v n2 h2 q => ?_)
    obtain ⟨rfl, rfl, hh⟩ := q
    obtain rfl := hh.symm
    refine ⟨rfl, ?_⟩
    dsimp only [Option.toList, List.cons_append, List.nil_append]
    refine r_aload_n dX4_moonMinutes_32 rfl rfl ?_
    refine r_iload_n dX4_moonMinutes_33 rfl rfl ?_
    refine r_callV 6 [_] (s_X4_halfOf c6 c7 c8 c9 c10 c11 c12 c13 c14 c15 c16 pi hd) dX4_moonMinutes_34 cs_X4_91 im_X4_halfOf (by decide) c6 rfl (by decide) (by decide) (by decide) rfl rfl (Nat.le_of_ble_eq_true rfl) (fun _ _ _ q => q.elim) (fun v n2 h2 q => ?_)
    obtain ⟨rfl, rfl, hh⟩ := q
    obtain rfl := hh.symm
    refine ⟨rfl, ?_⟩
    dsimp only [Option.toList, List.cons_append, List.nil_append]
    refine r_isub dX4_moonMinutes_37 ?_
    refine r_istore (lv2 := [(0, _), (1, _), (2, _), (3, _), (4, _)]) dX4_moonMinutes_38 (by decide) rfl rfl ?_
    refine r_aload_n dX4_moonMinutes_40 rfl rfl ?_
    refine r_iload_n dX4_moonMinutes_41 rfl rfl ?_
    refine r_callV 6 [_] (s_X4_noonOf c6 c7 c8 c9 c10 c11 c12 c13 c14 c15 c16 pi hd) dX4_moonMinutes_42 cs_X4_88 im_X4_noonOf (by decide) c6 rfl (by decide) (by decide) (by decide) rfl rfl (Nat.le_of_ble_eq_true rfl) (fun _ _ _ q => q.elim) (fun v n2 h2 q => ?_)
    obtain ⟨rfl, rfl, hh⟩ := q
    obtain rfl := hh.symm
    refine ⟨rfl, ?_⟩
    dsimp only [Option.toList, List.cons_append, List.nil_append]
    refine r_aload_n dX4_moonMinutes_45 rfl rfl ?_
    refine r_iload_n dX4_moonMinutes_46 rfl rfl ?_
    refine r_callV 6 [_] (s_X4_halfOf c6 c7 c8 c9 c10 c11 c12 c13 c14 c15 c16 pi hd) dX4_moonMinutes_47 cs_X4_91 im_X4_halfOf (by decide) c6 rfl (by decide) (by decide) (by decide) rfl rfl (Nat.le_of_ble_eq_true rfl) (fun _ _ _ q => q.elim) (fun v n2 h2 q => ?_)
    obtain ⟨rfl, rfl, hh⟩ := q
    obtain rfl := hh.symm
    refine ⟨rfl, ?_⟩
    dsimp only [Option.toList, List.cons_append, List.nil_append]
    refine r_iadd dX4_moonMinutes_50 ?_
    refine r_istore (lv2 := [(0, _), (1, _), (2, _), (3, _), (4, _), (5, _)]) dX4_moonMinutes_51 (by decide) rfl rfl ?_
    refine r_iload_n dX4_moonMinutes_53 rfl rfl ?_
    refine r_iload_n dX4_moonMinutes_54 rfl rfl ?_
    refine r_isub dX4_moonMinutes_55 ?_
    refine r_iconst dX4_moonMinutes_56 ?_
    refine r_iadd dX4_moonMinutes_57 ?_
    refine r_iload_n dX4_moonMinutes_58 rfl rfl ?_
    refine r_iload_n dX4_moonMinutes_59 rfl rfl ?_
    refine r_iload dX4_moonMinutes_60 rfl ?_
    refine r_iload dX4_moonMinutes_62 rfl ?_
    refine r_callS [_, _, _, _] (s_X4_shared (by omega) (by omega) (by omega) (by omega)) dX4_moonMinutes_64 cs_X4_119 sm_X4_shared (by decide) (by decide) (by decide) rfl rfl (Nat.le_of_ble_eq_true rfl) (fun _ _ _ q => q.elim) (fun v n2 h2 q => ?_)
    obtain ⟨rfl, rfl, hh⟩ := q
    obtain rfl := hh.symm
    refine ⟨rfl, ?_⟩
    dsimp only [Option.toList, List.cons_append, List.nil_append]
    refine r_isub dX4_moonMinutes_67 ?_
    refine r_iload_n dX4_moonMinutes_68 rfl rfl ?_
    refine r_iload_n dX4_moonMinutes_69 rfl rfl ?_
    refine r_iload dX4_moonMinutes_70 rfl ?_
    refine r_sipush dX4_moonMinutes_72 rfl ?_
    refine r_iadd dX4_moonMinutes_75 ?_
    refine r_iload dX4_moonMinutes_76 rfl ?_
    refine r_sipush dX4_moonMinutes_78 rfl ?_
    refine r_iadd dX4_moonMinutes_81 ?_
    refine r_callS [_, _, _, _] (s_X4_shared (by omega) (by omega) (by omega) (by omega)) dX4_moonMinutes_82 cs_X4_119 sm_X4_shared (by decide) (by decide) (by decide) rfl rfl (Nat.le_of_ble_eq_true rfl) (fun _ _ _ q => q.elim) (fun v n2 h2 q => ?_)
    obtain ⟨rfl, rfl, hh⟩ := q
    obtain rfl := hh.symm
    refine ⟨rfl, ?_⟩
    dsimp only [Option.toList, List.cons_append, List.nil_append]
    refine r_isub dX4_moonMinutes_85 ?_
    refine r_iret dX4_moonMinutes_86 ?_
    exact ⟨ivE (by unfold moonMI; rw [if_pos g4]; omega), rfl, rfl⟩
  · rw [b2i_0] at g4
    refine r_iconst dX4_moonMinutes_7 ?_
    refine r_iret dX4_moonMinutes_8 ?_
    exact ⟨ivE (by unfold moonMI; rw [g4]; rfl), rfl, rfl⟩

theorem l_X4_sunMinutes {h : aH} {nd sw nc : Int} {K U I O G L cf ct fc nx cd : Nat → Int} (c6 : h 6 = .inr (4, [iv nd, iv sw, iv nc, .ref 7, .ref 8, .ref 9, .ref 10, .ref 11, .ref 12, .ref 13, .ref 14, .ref 15, .ref 16])) (c7 : h 7 = .inl (0, 9, K)) (c8 : h 8 = .inl (0, 9, U)) (c9 : h 9 = .inl (0, 9, I)) (c10 : h 10 = .inl (0, 9, O)) (c11 : h 11 = .inl (0, 9, G)) (c12 : h 12 = .inl (0, 12, L)) (c13 : h 13 = .inl (0, 20, cf)) (c14 : h 14 = .inl (0, 20, ct)) (c15 : h 15 = .inl (0, 365, fc)) (c16 : h 16 = .inl (0, 20, nx)) (pi : PInv nd sw nc K U I O G L cf ct fc nx cd) {day : Int} (hd : 0 ≤ day ∧ day < 365) {d : Nat} (hdd : 2 ≤ d) {k no ha fr to : Int} {Q : Option Value → Nat → aH → Prop} : ∀ (w : Nat) (m s : Int), 0 ≤ m → m + w = to + 1 → to ≤ 1400 → 0 ≤ s → s + w ≤ 3000 → Q (some (iv (s + cntR (fun m => !cUp cd cf ct day m nc.toNat) m w))) 97 h →
    Ev RX4 "sunMinutes" cX4_sunMinutes 9 (some .int) d 0 0 Q noX 97 h 66 [(0, .ref 6), (1, iv k), (2, iv day), (3, iv no), (4, iv ha), (5, iv fr), (6, iv to), (7, iv s), (8, iv m)] [] := by
  obtain ⟨pnd, psw, pnc, pK, pU, pI, pO, pG, pL, pcf, pct, pfc, pnx⟩ := id pi
  intro w
  induction w with
  | zero =>
    intro m s h0 hm hto hs hs2 hQ
    refine r_iload dX4_sunMinutes_66 rfl ?_
    refine r_iload dX4_sunMinutes_68 rfl ?_
    refine r_icmp_gt (tgt := 92) dX4_sunMinutes_70 (by decide) ⟨by omega, by omega⟩ ⟨by omega, by omega⟩ (fun g70 => ?_) (fun g70 => ?_)
    · refine r_iload dX4_sunMinutes_92 rfl ?_
      refine r_iret dX4_sunMinutes_94 ?_
      simpa [cntR] using hQ
    · exact absurd g70 (by omega)
  | succ w ih =>
    intro m s h0 hm hto hs hs2 hQ
    have bc := b2i_01 (cUp cd cf ct day m nc.toNat)
    have bw := cntR_B (fun m => !cUp cd cf ct day m nc.toNat) w (m + 1)
    unfold cntR at hQ
    refine r_iload dX4_sunMinutes_66 rfl ?_
    refine r_iload dX4_sunMinutes_68 rfl ?_
    refine r_icmp_gt (tgt := 92) dX4_sunMinutes_70 (by decide) ⟨by omega, by omega⟩ ⟨by omega, by omega⟩ (fun g70 => ?_) (fun g70 => ?_)
    · exact absurd g70 (by omega)
    · refine r_aload_n dX4_sunMinutes_73 rfl rfl ?_
      refine r_iload_n dX4_sunMinutes_74 rfl rfl ?_
      refine r_iload dX4_sunMinutes_75 rfl ?_
      refine r_callV 6 [_, _] (s_X4_isClouded c6 c7 c8 c9 c10 c11 c12 c13 c14 c15 c16 pi hd (by omega)) dX4_sunMinutes_77 cs_X4_94 im_X4_isClouded (by decide) c6 rfl (by omega) (by decide) (by decide) rfl rfl (Nat.le_of_ble_eq_true rfl) (fun _ _ _ q => q.elim) (fun v n2 h2 q => ?_)
      obtain ⟨rfl, rfl, hh⟩ := q
      obtain rfl := hh.symm
      refine ⟨rfl, ?_⟩
      dsimp only [Option.toList, List.cons_append, List.nil_append]
      refine r_if_ne (tgt := 86) dX4_sunMinutes_80 (by decide) ⟨by omega, by omega⟩ (fun g80 => ?_) (fun g80 => ?_)
      · refine r_iinc (lv2 := [(0, _), (1, _), (2, _), (3, _), (4, _), (5, _), (6, _), (7, _), (8, _)]) dX4_sunMinutes_86 (by decide) rfl rfl rfl ?_
        refine r_goto (tgt := 66) dX4_sunMinutes_89 (by decide) ?_
        first | (rw [b2i_0] at g80; rw [g80] at hQ; exact ih (m + 1) (s + 1) (by omega) (by omega) hto (by omega) (by omega) (by rw [show s + 1 + cntR (fun m => !cUp cd cf ct day m nc.toNat) (m + 1) w = s + (b2i (!false) + cntR (fun m => !cUp cd cf ct day m nc.toNat) (m + 1) w) by simp [b2i]; omega]; exact hQ)) | (rw [b2i_0, Bool.not_eq_false] at g80; rw [g80] at hQ; exact ih (m + 1) s (by omega) (by omega) hto (by omega) (by omega) (by rw [show s + cntR (fun m => !cUp cd cf ct day m nc.toNat) (m + 1) w = s + (b2i (!true) + cntR (fun m => !cUp cd cf ct day m nc.toNat) (m + 1) w) by simp [b2i]]; exact hQ))
      · refine r_iinc (lv2 := [(0, _), (1, _), (2, _), (3, _), (4, _), (5, _), (6, _), (7, _), (8, _)]) dX4_sunMinutes_83 (by decide) rfl rfl rfl ?_
        refine r_iinc (lv2 := [(0, _), (1, _), (2, _), (3, _), (4, _), (5, _), (6, _), (7, _), (8, _)]) dX4_sunMinutes_86 (by decide) rfl rfl rfl ?_
        refine r_goto (tgt := 66) dX4_sunMinutes_89 (by decide) ?_
        first | (rw [b2i_0] at g80; rw [g80] at hQ; exact ih (m + 1) (s + 1) (by omega) (by omega) hto (by omega) (by omega) (by rw [show s + 1 + cntR (fun m => !cUp cd cf ct day m nc.toNat) (m + 1) w = s + (b2i (!false) + cntR (fun m => !cUp cd cf ct day m nc.toNat) (m + 1) w) by simp [b2i]; omega]; exact hQ)) | (rw [b2i_0, Bool.not_eq_false] at g80; rw [g80] at hQ; exact ih (m + 1) s (by omega) (by omega) hto (by omega) (by omega) (by rw [show s + cntR (fun m => !cUp cd cf ct day m nc.toNat) (m + 1) w = s + (b2i (!true) + cntR (fun m => !cUp cd cf ct day m nc.toNat) (m + 1) w) by simp [b2i]]; exact hQ))

theorem s_X4_sunMinutes {h : aH} {nd sw nc : Int} {K U I O G L cf ct fc nx cd : Nat → Int} (c6 : h 6 = .inr (4, [iv nd, iv sw, iv nc, .ref 7, .ref 8, .ref 9, .ref 10, .ref 11, .ref 12, .ref 13, .ref 14, .ref 15, .ref 16])) (c7 : h 7 = .inl (0, 9, K)) (c8 : h 8 = .inl (0, 9, U)) (c9 : h 9 = .inl (0, 9, I)) (c10 : h 10 = .inl (0, 9, O)) (c11 : h 11 = .inl (0, 9, G)) (c12 : h 12 = .inl (0, 12, L)) (c13 : h 13 = .inl (0, 20, cf)) (c14 : h 14 = .inl (0, 20, ct)) (c15 : h 15 = .inl (0, 365, fc)) (c16 : h 16 = .inl (0, 20, nx)) (pi : PInv nd sw nc K U I O G L cf ct fc nx cd) {k : Int} (hk : 0 ≤ k ∧ k ≤ 5) {day : Int} (hd : 0 ≤ day ∧ day < 365) : mSem yX4_sunMinutes cX4_sunMinutes 9 (some .int) 3 0 0 [.ref 6, iv k, iv day] 97 h (Ret (sunMI cd cf ct nc.toNat day k (noonI L day) (halfI sw day)) h) noX := by
  obtain ⟨pnd, psw, pnc, pK, pU, pI, pO, pG, pL, pcf, pct, pfc, pnx⟩ := id pi
  refine mSem_of (own := RX4) (name := "sunMinutes") pn_X4 rfl rfl (Nat.le_of_ble_eq_true rfl) ?_
  have bn := noon_B (L := L) (day := day) pL
  have bh := half_B psw hd
  have bft := sunFT_B (kind := k) bn bh
  have hl0 := lastI_le cd day nc.toNat
  have h0 : fc day.toNat = lastI cd day nc.toNat := by
    have := pfc day.toNat (by omega)
    rwa [show ((day.toNat : Nat) : Int) = day by omega] at this
  have e1 : sunMI cd cf ct nc.toNat day k (noonI L day) (halfI sw day) = cntR (fun m => !cUp cd cf ct day m nc.toNat) (sunFrom k (noonI L day) (halfI sw day)) (sunTo k (noonI L day) (halfI sw day) - sunFrom k (noonI L day) (halfI sw day) + 1).toNat := rfl
  have e2 : sunFrom k (noonI L day) (halfI sw day) = if k = 1 then noonI L day else noonI L day - halfI sw day := rfl
  have e3 : sunTo k (noonI L day) (halfI sw day) = if k = 0 then noonI L day else noonI L day + halfI sw day := rfl
  refine r_aload_n dX4_sunMinutes_0 rfl rfl ?_
  refine r_iload_n dX4_sunMinutes_1 rfl rfl ?_
  refine r_callV 6 [_] (s_X4_noonOf c6 c7 c8 c9 c10 c11 c12 c13 c14 c15 c16 pi hd) dX4_sunMinutes_2 cs_X4_88 im_X4_noonOf (by decide) c6 rfl (by decide) (by decide) (by decide) rfl rfl (Nat.le_of_ble_eq_true rfl) (fun _ _ _ q => q.elim) (fun v n2 h2 q => ?_)
  obtain ⟨rfl, rfl, hh⟩ := q
  obtain rfl := hh.symm
  refine ⟨rfl, ?_⟩
  dsimp only [Option.toList, List.cons_append, List.nil_append]
  refine r_istore_n (lv2 := [(0, _), (1, _), (2, _), (3, _)]) dX4_sunMinutes_5 rfl (by decide) rfl rfl ?_
  refine r_aload_n dX4_sunMinutes_6 rfl rfl ?_
  refine r_iload_n dX4_sunMinutes_7 rfl rfl ?_
  refine r_callV 6 [_] (s_X4_halfOf c6 c7 c8 c9 c10 c11 c12 c13 c14 c15 c16 pi hd) dX4_sunMinutes_8 cs_X4_91 im_X4_halfOf (by decide) c6 rfl (by decide) (by decide) (by decide) rfl rfl (Nat.le_of_ble_eq_true rfl) (fun _ _ _ q => q.elim) (fun v n2 h2 q => ?_)
  obtain ⟨rfl, rfl, hh⟩ := q
  obtain rfl := hh.symm
  refine ⟨rfl, ?_⟩
  dsimp only [Option.toList, List.cons_append, List.nil_append]
  refine r_istore (lv2 := [(0, _), (1, _), (2, _), (3, _), (4, _)]) dX4_sunMinutes_11 (by decide) rfl rfl ?_
  refine r_iload_n dX4_sunMinutes_13 rfl rfl ?_
  refine r_iconst dX4_sunMinutes_14 ?_
  refine r_icmp_ne (tgt := 22) dX4_sunMinutes_15 (by decide) ⟨by omega, by omega⟩ ⟨by omega, by omega⟩ (fun g15 => ?_) (fun g15 => ?_)
  · refine r_iload_n dX4_sunMinutes_22 rfl rfl ?_
    refine r_iload dX4_sunMinutes_23 rfl ?_
    refine r_isub dX4_sunMinutes_25 ?_
    refine r_istore (lv2 := [(0, _), (1, _), (2, _), (3, _), (4, _), (5, _)]) dX4_sunMinutes_26 (by decide) rfl rfl ?_
    refine r_iload_n dX4_sunMinutes_28 rfl rfl ?_
    refine r_if_ne (tgt := 36) dX4_sunMinutes_29 (by decide) ⟨by omega, by omega⟩ (fun g29 => ?_) (fun g29 => ?_)
    · refine r_iload_n dX4_sunMinutes_36 rfl rfl ?_
      refine r_iload dX4_sunMinutes_37 rfl ?_
      refine r_iadd dX4_sunMinutes_39 ?_
      refine r_istore (lv2 := [(0, _), (1, _), (2, _), (3, _), (4, _), (5, _), (6, _)]) dX4_sunMinutes_40 (by decide) rfl rfl ?_
      obtain ⟨w, hw⟩ : ∃ w : Nat, (sunTo k (noonI L day) (halfI sw day) - sunFrom k (noonI L day) (halfI sw day) + 1).toNat = w := ⟨_, rfl⟩
      rw [hw] at e1
      first | rw [if_pos g15] at e2 | rw [if_neg g15] at e2
      first | rw [if_pos g29] at e3 | rw [if_neg g29] at e3
      rw [e2] at e1
      rw [e2, e3] at bft hw
      refine r_aload_n dX4_sunMinutes_42 rfl rfl ?_
      refine r_get (fs := [_, _, _, _, _, _, _, _, _, _, _, _, _]) dX4_sunMinutes_43 fl_X4_46 (by decide) c6 rfl ?_
      refine r_iload_n dX4_sunMinutes_46 rfl rfl ?_
      refine r_ald dX4_sunMinutes_47 (by decide) c15 (by omega) (by omega) (by decide) ?_
      refine r_if_ne (tgt := 59) dX4_sunMinutes_48 (by decide) ⟨by omega, by omega⟩ (fun g48 => ?_) (fun g48 => ?_)
      · refine r_iconst dX4_sunMinutes_59 ?_
        refine r_istore (lv2 := [(0, _), (1, _), (2, _), (3, _), (4, _), (5, _), (6, _), (7, _)]) dX4_sunMinutes_60 (by decide) rfl rfl ?_
        refine r_iload dX4_sunMinutes_62 rfl ?_
        refine r_istore (lv2 := [(0, _), (1, _), (2, _), (3, _), (4, _), (5, _), (6, _), (7, _), (8, _)]) dX4_sunMinutes_64 (by decide) rfl rfl ?_
        exact l_X4_sunMinutes c6 c7 c8 c9 c10 c11 c12 c13 c14 c15 c16 pi hd (by decide) w _ 0 (by omega) (by omega) (by omega) (by omega) (by omega) ⟨ivE (by rw [e1, Int.zero_add]), rfl, rfl⟩
      · refine r_iload dX4_sunMinutes_51 rfl ?_
        refine r_iload dX4_sunMinutes_53 rfl ?_
        refine r_isub dX4_sunMinutes_55 ?_
        refine r_iconst dX4_sunMinutes_56 ?_
        refine r_iadd dX4_sunMinutes_57 ?_
        refine r_iret dX4_sunMinutes_58 ?_
        refine ⟨ivE ?_, rfl, rfl⟩
        rw [e1, cntR_all]
        · omega
        · intro m
          rw [← cUp_last, show lastI cd day nc.toNat = 0 by omega]
          rfl
    · refine r_iload_n dX4_sunMinutes_32 rfl rfl ?_
      refine r_goto (tgt := 40) dX4_sunMinutes_33 (by decide) ?_
      refine r_istore (lv2 := [(0, _), (1, _), (2, _), (3, _), (4, _), (5, _), (6, _)]) dX4_sunMinutes_40 (by decide) rfl rfl ?_
      obtain ⟨w, hw⟩ : ∃ w : Nat, (sunTo k (noonI L day) (halfI sw day) - sunFrom k (noonI L day) (halfI sw day) + 1).toNat = w := ⟨_, rfl⟩
      rw [hw] at e1
      first | rw [if_pos g15] at e2 | rw [if_neg g15] at e2
      first | rw [if_pos g29] at e3 | rw [if_neg g29] at e3
      rw [e2] at e1
      rw [e2, e3] at bft hw
      refine r_aload_n dX4_sunMinutes_42 rfl rfl ?_
      refine r_get (fs := [_, _, _, _, _, _, _, _, _, _, _, _, _]) dX4_sunMinutes_43 fl_X4_46 (by decide) c6 rfl ?_
      refine r_iload_n dX4_sunMinutes_46 rfl rfl ?_
      refine r_ald dX4_sunMinutes_47 (by decide) c15 (by omega) (by omega) (by decide) ?_
      refine r_if_ne (tgt := 59) dX4_sunMinutes_48 (by decide) ⟨by omega, by omega⟩ (fun g48 => ?_) (fun g48 => ?_)
      · refine r_iconst dX4_sunMinutes_59 ?_
        refine r_istore (lv2 := [(0, _), (1, _), (2, _), (3, _), (4, _), (5, _), (6, _), (7, _)]) dX4_sunMinutes_60 (by decide) rfl rfl ?_
        refine r_iload dX4_sunMinutes_62 rfl ?_
        refine r_istore (lv2 := [(0, _), (1, _), (2, _), (3, _), (4, _), (5, _), (6, _), (7, _), (8, _)]) dX4_sunMinutes_64 (by decide) rfl rfl ?_
        exact l_X4_sunMinutes c6 c7 c8 c9 c10 c11 c12 c13 c14 c15 c16 pi hd (by decide) w _ 0 (by omega) (by omega) (by omega) (by omega) (by omega) ⟨ivE (by rw [e1, Int.zero_add]), rfl, rfl⟩
      · refine r_iload dX4_sunMinutes_51 rfl ?_
        refine r_iload dX4_sunMinutes_53 rfl ?_
        refine r_isub dX4_sunMinutes_55 ?_
        refine r_iconst dX4_sunMinutes_56 ?_
        refine r_iadd dX4_sunMinutes_57 ?_
        refine r_iret dX4_sunMinutes_58 ?_
        refine ⟨ivE ?_, rfl, rfl⟩
        rw [e1, cntR_all]
        · omega
        · intro m
          rw [← cUp_last, show lastI cd day nc.toNat = 0 by omega]
          rfl
  · refine r_iload_n dX4_sunMinutes_18 rfl rfl ?_
    refine r_goto (tgt := 26) dX4_sunMinutes_19 (by decide) ?_
    refine r_istore (lv2 := [(0, _), (1, _), (2, _), (3, _), (4, _), (5, _)]) dX4_sunMinutes_26 (by decide) rfl rfl ?_
    refine r_iload_n dX4_sunMinutes_28 rfl rfl ?_
    refine r_if_ne (tgt := 36) dX4_sunMinutes_29 (by decide) ⟨by omega, by omega⟩ (fun g29 => ?_) (fun g29 => ?_)
    · refine r_iload_n dX4_sunMinutes_36 rfl rfl ?_
      refine r_iload dX4_sunMinutes_37 rfl ?_
      refine r_iadd dX4_sunMinutes_39 ?_
      refine r_istore (lv2 := [(0, _), (1, _), (2, _), (3, _), (4, _), (5, _), (6, _)]) dX4_sunMinutes_40 (by decide) rfl rfl ?_
      obtain ⟨w, hw⟩ : ∃ w : Nat, (sunTo k (noonI L day) (halfI sw day) - sunFrom k (noonI L day) (halfI sw day) + 1).toNat = w := ⟨_, rfl⟩
      rw [hw] at e1
      first | rw [if_pos g15] at e2 | rw [if_neg g15] at e2
      first | rw [if_pos g29] at e3 | rw [if_neg g29] at e3
      rw [e2] at e1
      rw [e2, e3] at bft hw
      refine r_aload_n dX4_sunMinutes_42 rfl rfl ?_
      refine r_get (fs := [_, _, _, _, _, _, _, _, _, _, _, _, _]) dX4_sunMinutes_43 fl_X4_46 (by decide) c6 rfl ?_
      refine r_iload_n dX4_sunMinutes_46 rfl rfl ?_
      refine r_ald dX4_sunMinutes_47 (by decide) c15 (by omega) (by omega) (by decide) ?_
      refine r_if_ne (tgt := 59) dX4_sunMinutes_48 (by decide) ⟨by omega, by omega⟩ (fun g48 => ?_) (fun g48 => ?_)
      · refine r_iconst dX4_sunMinutes_59 ?_
        refine r_istore (lv2 := [(0, _), (1, _), (2, _), (3, _), (4, _), (5, _), (6, _), (7, _)]) dX4_sunMinutes_60 (by decide) rfl rfl ?_
        refine r_iload dX4_sunMinutes_62 rfl ?_
        refine r_istore (lv2 := [(0, _), (1, _), (2, _), (3, _), (4, _), (5, _), (6, _), (7, _), (8, _)]) dX4_sunMinutes_64 (by decide) rfl rfl ?_
        exact l_X4_sunMinutes c6 c7 c8 c9 c10 c11 c12 c13 c14 c15 c16 pi hd (by decide) w _ 0 (by omega) (by omega) (by omega) (by omega) (by omega) ⟨ivE (by rw [e1, Int.zero_add]), rfl, rfl⟩
      · refine r_iload dX4_sunMinutes_51 rfl ?_
        refine r_iload dX4_sunMinutes_53 rfl ?_
        refine r_isub dX4_sunMinutes_55 ?_
        refine r_iconst dX4_sunMinutes_56 ?_
        refine r_iadd dX4_sunMinutes_57 ?_
        refine r_iret dX4_sunMinutes_58 ?_
        refine ⟨ivE ?_, rfl, rfl⟩
        rw [e1, cntR_all]
        · omega
        · intro m
          rw [← cUp_last, show lastI cd day nc.toNat = 0 by omega]
          rfl
    · refine r_iload_n dX4_sunMinutes_32 rfl rfl ?_
      refine r_goto (tgt := 40) dX4_sunMinutes_33 (by decide) ?_
      refine r_istore (lv2 := [(0, _), (1, _), (2, _), (3, _), (4, _), (5, _), (6, _)]) dX4_sunMinutes_40 (by decide) rfl rfl ?_
      obtain ⟨w, hw⟩ : ∃ w : Nat, (sunTo k (noonI L day) (halfI sw day) - sunFrom k (noonI L day) (halfI sw day) + 1).toNat = w := ⟨_, rfl⟩
      rw [hw] at e1
      first | rw [if_pos g15] at e2 | rw [if_neg g15] at e2
      first | rw [if_pos g29] at e3 | rw [if_neg g29] at e3
      rw [e2] at e1
      rw [e2, e3] at bft hw
      refine r_aload_n dX4_sunMinutes_42 rfl rfl ?_
      refine r_get (fs := [_, _, _, _, _, _, _, _, _, _, _, _, _]) dX4_sunMinutes_43 fl_X4_46 (by decide) c6 rfl ?_
      refine r_iload_n dX4_sunMinutes_46 rfl rfl ?_
      refine r_ald dX4_sunMinutes_47 (by decide) c15 (by omega) (by omega) (by decide) ?_
      refine r_if_ne (tgt := 59) dX4_sunMinutes_48 (by decide) ⟨by omega, by omega⟩ (fun g48 => ?_) (fun g48 => ?_)
      · refine r_iconst dX4_sunMinutes_59 ?_
        refine r_istore (lv2 := [(0, _), (1, _), (2, _), (3, _), (4, _), (5, _), (6, _), (7, _)]) dX4_sunMinutes_60 (by decide) rfl rfl ?_
        refine r_iload dX4_sunMinutes_62 rfl ?_
        refine r_istore (lv2 := [(0, _), (1, _), (2, _), (3, _), (4, _), (5, _), (6, _), (7, _), (8, _)]) dX4_sunMinutes_64 (by decide) rfl rfl ?_
        exact l_X4_sunMinutes c6 c7 c8 c9 c10 c11 c12 c13 c14 c15 c16 pi hd (by decide) w _ 0 (by omega) (by omega) (by omega) (by omega) (by omega) ⟨ivE (by rw [e1, Int.zero_add]), rfl, rfl⟩
      · refine r_iload dX4_sunMinutes_51 rfl ?_
        refine r_iload dX4_sunMinutes_53 rfl ?_
        refine r_isub dX4_sunMinutes_55 ?_
        refine r_iconst dX4_sunMinutes_56 ?_
        refine r_iadd dX4_sunMinutes_57 ?_
        refine r_iret dX4_sunMinutes_58 ?_
        refine ⟨ivE ?_, rfl, rfl⟩
        rw [e1, cntR_all]
        · omega
        · intro m
          rw [← cUp_last, show lastI cd day nc.toNat = 0 by omega]
          rfl

theorem s_X4_litMinutes {h : aH} {nd sw nc : Int} {K U I O G L cf ct fc nx cd : Nat → Int} (c6 : h 6 = .inr (4, [iv nd, iv sw, iv nc, .ref 7, .ref 8, .ref 9, .ref 10, .ref 11, .ref 12, .ref 13, .ref 14, .ref 15, .ref 16])) (c7 : h 7 = .inl (0, 9, K)) (c8 : h 8 = .inl (0, 9, U)) (c9 : h 9 = .inl (0, 9, I)) (c10 : h 10 = .inl (0, 9, O)) (c11 : h 11 = .inl (0, 9, G)) (c12 : h 12 = .inl (0, 12, L)) (c13 : h 13 = .inl (0, 20, cf)) (c14 : h 14 = .inl (0, 20, ct)) (c15 : h 15 = .inl (0, 365, fc)) (c16 : h 16 = .inl (0, 20, nx)) (pi : PInv nd sw nc K U I O G L cf ct fc nx cd) {di : Int} (hdi : 0 ≤ di ∧ di < 9) {day : Int} (hd : 0 ≤ day ∧ day < 365) : mSem yX4_litMinutes cX4_litMinutes 3 (some .int) 4 0 0 [.ref 6, iv di, iv day] 97 h (Ret (litMI cd cf ct nc.toNat day (K di.toNat) (G di.toNat) (noonI L day) (halfI sw day)) h) noX := by
  obtain ⟨pnd, psw, pnc, pK, pU, pI, pO, pG, pL, pcf, pct, pfc, pnx⟩ := id pi
  refine mSem_of (own := RX4) (name := "litMinutes") pn_X4 rfl rfl (Nat.le_of_ble_eq_true rfl) ?_
  have bK := pK di.toNat
  have bg := b2i_01 (grownI (G di.toNat) (K di.toNat) day)
  refine r_aload_n dX4_litMinutes_0 rfl rfl ?_
  refine r_get (fs := [_, _, _, _, _, _, _, _, _, _, _, _, _]) dX4_litMinutes_1 fl_X4_21 (by decide) c6 rfl ?_
  refine r_iload_n dX4_litMinutes_4 rfl rfl ?_
  refine r_ald dX4_litMinutes_5 (by decide) c7 (by omega) (by omega) (by decide) ?_
  refine r_iconst dX4_litMinutes_6 ?_
  refine r_icmp_eq (tgt := 19) dX4_litMinutes_7 (by decide) ⟨by omega, by omega⟩ ⟨by omega, by omega⟩ (fun g7 => ?_) (fun g7 => ?_)
  · first | rw [b2i_0, Bool.not_eq_false] at g16 | skip
    refine r_iconst dX4_litMinutes_19 ?_
    refine r_iret dX4_litMinutes_20 ?_
    exact ⟨ivE (by unfold litMI; rw [if_pos (by first | exact Or.inl g7 | exact Or.inr g16)]), rfl, rfl⟩
  · refine r_aload_n dX4_litMinutes_10 rfl rfl ?_
    refine r_iload_n dX4_litMinutes_11 rfl rfl ?_
    refine r_iload_n dX4_litMinutes_12 rfl rfl ?_
    refine r_callV 6 [_, _] (s_X4_isGrown c6 c7 c8 c9 c10 c11 c12 c13 c14 c15 c16 pi (by omega) hd) dX4_litMinutes_13 cs_X4_72 im_X4_isGrown (by decide) c6 rfl (by decide) (by decide) (by decide) rfl rfl (Nat.le_of_ble_eq_true rfl) (fun _ _ _ q => q.elim) (fun v n2 h2 q => ?_)
    obtain ⟨rfl, rfl, hh⟩ := q
    obtain rfl := hh.symm
    refine ⟨rfl, ?_⟩
    dsimp only [Option.toList, List.cons_append, List.nil_append]
    refine r_if_eq (tgt := 21) dX4_litMinutes_16 (by decide) ⟨by omega, by omega⟩ (fun g16 => ?_) (fun g16 => ?_)
    · rw [b2i_0] at g16
      refine r_aload_n dX4_litMinutes_21 rfl rfl ?_
      refine r_get (fs := [_, _, _, _, _, _, _, _, _, _, _, _, _]) dX4_litMinutes_22 fl_X4_21 (by decide) c6 rfl ?_
      refine r_iload_n dX4_litMinutes_25 rfl rfl ?_
      refine r_ald dX4_litMinutes_26 (by decide) c7 (by omega) (by omega) (by decide) ?_
      refine r_iconst dX4_litMinutes_27 ?_
      refine r_icmp_ne (tgt := 39) dX4_litMinutes_28 (by decide) ⟨by omega, by omega⟩ ⟨by omega, by omega⟩ (fun g28 => ?_) (fun g28 => ?_)
      · refine r_aload_n dX4_litMinutes_39 rfl rfl ?_
        refine r_aload_n dX4_litMinutes_40 rfl rfl ?_
        refine r_get (fs := [_, _, _, _, _, _, _, _, _, _, _, _, _]) dX4_litMinutes_41 fl_X4_21 (by decide) c6 rfl ?_
        refine r_iload_n dX4_litMinutes_44 rfl rfl ?_
        refine r_ald dX4_litMinutes_45 (by decide) c7 (by omega) (by omega) (by decide) ?_
        refine r_iload_n dX4_litMinutes_46 rfl rfl ?_
        refine r_callV 6 [_, _] (s_X4_sunMinutes c6 c7 c8 c9 c10 c11 c12 c13 c14 c15 c16 pi (by omega) hd) dX4_litMinutes_47 cs_X4_116 im_X4_sunMinutes (by decide) c6 rfl (by decide) (by decide) (by decide) rfl rfl (Nat.le_of_ble_eq_true rfl) (fun _ _ _ q => q.elim) (fun v n2 h2 q => ?_)
        obtain ⟨rfl, rfl, hh⟩ := q
        obtain rfl := hh.symm
        refine ⟨rfl, ?_⟩
        dsimp only [Option.toList, List.cons_append, List.nil_append]
        refine r_iret dX4_litMinutes_50 ?_
        exact ⟨ivE (by unfold litMI; rw [if_neg (by rw [g16]; simp; omega)]; first | rw [if_pos g28] | rw [if_neg g28]), rfl, rfl⟩
      · refine r_aload_n dX4_litMinutes_31 rfl rfl ?_
        refine r_iload_n dX4_litMinutes_32 rfl rfl ?_
        refine r_callV 6 [_] (s_X4_moonMinutes c6 c7 c8 c9 c10 c11 c12 c13 c14 c15 c16 pi hd) dX4_litMinutes_33 cs_X4_113 im_X4_moonMinutes (by decide) c6 rfl (by decide) (by decide) (by decide) rfl rfl (Nat.le_of_ble_eq_true rfl) (fun _ _ _ q => q.elim) (fun v n2 h2 q => ?_)
        obtain ⟨rfl, rfl, hh⟩ := q
        obtain rfl := hh.symm
        refine ⟨rfl, ?_⟩
        dsimp only [Option.toList, List.cons_append, List.nil_append]
        refine r_goto (tgt := 50) dX4_litMinutes_36 (by decide) ?_
        refine r_iret dX4_litMinutes_50 ?_
        exact ⟨ivE (by unfold litMI; rw [if_neg (by rw [g16]; simp; omega)]; first | rw [if_pos g28] | rw [if_neg g28]), rfl, rfl⟩
    · first | rw [b2i_0, Bool.not_eq_false] at g16 | skip
      refine r_iconst dX4_litMinutes_19 ?_
      refine r_iret dX4_litMinutes_20 ?_
      exact ⟨ivE (by unfold litMI; rw [if_pos (by first | exact Or.inl g7 | exact Or.inr g16)]), rfl, rfl⟩
