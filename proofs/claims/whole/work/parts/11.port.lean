/-! ===== the port: what the numbers mean ===== -/
def b2i (b : Bool) : Int := if b then 1 else 0
theorem b2i_01 (b : Bool) : b2i b = 0 ∨ b2i b = 1 := by cases b <;> simp [b2i]
theorem b2i_0 {b : Bool} : b2i b = 0 ↔ b = false := by cases b <;> simp [b2i]
theorem r_idivN {own name : String} {cc : ByteArray} {mL : Nat} {rt : Option FieldType} {d mc ms : Nat} {Q : Option Value → Nat → aH → Prop} {X : String → Nat → aH → Prop} {n : Nat} {h : aH} {pc : Nat} {lv : List (Nat × Value)} {st : List Value} {x y : Int} (hd : decode cc pc = .ok (.idiv, 1)) (hx : 0 ≤ x) (hx2 : x ≤ 2147483647) (hy : 0 < y) (hy2 : y ≤ 2147483647) (k : Ev own name cc mL rt d mc ms Q X n h (pc + 1) lv (iv (x / y) :: st)) : Ev own name cc mL rt d mc ms Q X n h pc lv (iv y :: iv x :: st) := by
  have e : x.tdiv y = x / y := Int.tdiv_eq_ediv_of_nonneg hx
  have h1 := tdR (x := x) (y := y) ⟨by omega, hx2⟩ ⟨hy, hy2⟩
  refine r_idiv hd ⟨by omega, hx2⟩ ⟨by omega, hy2⟩ (by omega) h1 ?_
  rw [e]
  exact k
theorem r_iremN {own name : String} {cc : ByteArray} {mL : Nat} {rt : Option FieldType} {d mc ms : Nat} {Q : Option Value → Nat → aH → Prop} {X : String → Nat → aH → Prop} {n : Nat} {h : aH} {pc : Nat} {lv : List (Nat × Value)} {st : List Value} {x y : Int} (hd : decode cc pc = .ok (.irem, 1)) (hx : 0 ≤ x) (hx2 : x ≤ 2147483647) (hy : 0 < y) (hy2 : y ≤ 2147483647) (k : Ev own name cc mL rt d mc ms Q X n h (pc + 1) lv (iv (x % y) :: st)) : Ev own name cc mL rt d mc ms Q X n h pc lv (iv y :: iv x :: st) := by
  have e : x.tmod y = x % y := Int.tmod_eq_emod_of_nonneg hx
  have h1 := tdR (x := x) (y := y) ⟨by omega, hx2⟩ ⟨hy, hy2⟩
  refine r_irem hd ⟨by omega, hx2⟩ ⟨by omega, hy2⟩ (by omega) h1 ?_
  rw [e]
  exact k
def noonI (L : Nat → Int) (day : Int) : Int := 720 + L (day / 31).toNat
def farI (day : Int) : Int := if (day - 172).natAbs ≤ 182 then (day - 172).natAbs else 365 - (day - 172).natAbs
def halfI (sw day : Int) : Int := 360 + (sw * (91 - farI day)).tdiv 91
/-- is there, of the first k clouds, one on that day over that minute -/
def cUp (cd cf ct : Nat → Int) (day m : Int) : Nat → Bool
  | 0 => false
  | k + 1 => (decide (cd k = day) && decide (cf k ≤ m) && decide (m ≤ ct k)) || cUp cd cf ct day m k
/-- the last of the first k clouds that is of that day, counted from 1 on; 0: none -/
def lastI (cd : Nat → Int) (day : Int) : Nat → Nat
  | 0 => 0
  | k + 1 => if cd k = day then k + 1 else lastI cd day k
theorem lastI_le (cd : Nat → Int) (day : Int) (k : Nat) : lastI cd day k ≤ k := by
  induction k with
  | zero => exact Nat.le_refl _
  | succ k ih => unfold lastI; split <;> omega
theorem lastI_day (cd : Nat → Int) (day : Int) (k : Nat) : lastI cd day k = 0 ∨ cd (lastI cd day k - 1) = day := by
  induction k with
  | zero => exact Or.inl rfl
  | succ k ih =>
    unfold lastI
    split
    · next h => exact Or.inr h
    · exact ih
theorem cUp_last (cd cf ct : Nat → Int) (day m : Int) (k : Nat) : cUp cd cf ct day m (lastI cd day k) = cUp cd cf ct day m k := by
  induction k with
  | zero => rfl
  | succ k ih =>
    unfold lastI
    split
    · rfl
    · next h =>
      rw [ih]
      simp [cUp, h]
theorem half_R {sw day : Int} (hs : 0 ≤ sw ∧ sw ≤ 240) (hd : 0 ≤ day ∧ day < 365) : (-91 ≤ 91 - farI day ∧ 91 - farI day ≤ 91) ∧ (-21840 ≤ sw * (91 - farI day) ∧ sw * (91 - farI day) ≤ 21840) ∧ -240 ≤ (sw * (91 - farI day)).tdiv 91 ∧ (sw * (91 - farI day)).tdiv 91 ≤ 240 := by
  have h1 : -91 ≤ 91 - farI day ∧ 91 - farI day ≤ 91 := by unfold farI; split <;> omega
  have h2 : -21840 ≤ sw * (91 - farI day) ∧ sw * (91 - farI day) ≤ 21840 := by
    generalize 91 - farI day = y at h1
    have a1 := Int.mul_le_mul_of_nonneg_left h1.2 hs.1
    have a2 := Int.mul_le_mul_of_nonneg_left h1.1 hs.1
    omega
  refine ⟨h1, h2, ?_⟩
  generalize sw * (91 - farI day) = z at h2
  have a3 := Int.natAbs_tdiv_le_natAbs z 91
  have a4 := Int.tmod_add_mul_tdiv z 91
  have a5 := tmod_bounds (a := z) (M := 91) (by decide)
  omega
theorem half_B {sw day : Int} (hs : 0 ≤ sw ∧ sw ≤ 240) (hd : 0 ≤ day ∧ day < 365) : 120 ≤ halfI sw day ∧ halfI sw day ≤ 600 := by
  have := (half_R hs hd).2.2
  unfold halfI
  omega
theorem noon_B {L : Nat → Int} {day : Int} (hL : ∀ j, -30 ≤ L j ∧ L j ≤ 30) : 690 ≤ noonI L day ∧ noonI L day ≤ 750 := by
  have := hL (day / 31).toNat
  unfold noonI
  omega
/-- what a port's numbers keep to (cd: the clouds' days) -/
def PInv (nd sw nc : Int) (K U I O G L cf ct fc nx cd : Nat → Int) : Prop :=
  (0 ≤ nd ∧ nd ≤ 9) ∧ (0 ≤ sw ∧ sw ≤ 240) ∧ (0 ≤ nc ∧ nc ≤ 20) ∧ (∀ j, 0 ≤ K j ∧ K j ≤ 5) ∧ (∀ j, -120 ≤ U j ∧ U j ≤ 120) ∧ (∀ j, -50 ≤ I j ∧ I j ≤ 50) ∧ (∀ j, -120 ≤ O j ∧ O j ≤ 120) ∧ (∀ j, -1 ≤ G j ∧ G j ≤ 364) ∧ (∀ j, -30 ≤ L j ∧ L j ≤ 30) ∧ (∀ j, 0 ≤ cf j ∧ cf j < 1440) ∧ (∀ j, 0 ≤ ct j ∧ ct j < 1440) ∧ (∀ j : Nat, j < 365 → fc j = lastI cd j nc.toNat) ∧ ∀ j : Nat, (j : Int) < nc → nx j = lastI cd (cd j) j
def grownI (g kind day : Int) : Bool := decide (g ≠ -1) && decide (g ≤ day) && decide (kind ≠ 5)
def moonI (day : Int) : Bool := decide (8 ≤ day % 30) && decide (day % 30 ≤ 22)
def tiltI (kind : Int) : Bool := decide (kind ≠ 2) && decide (kind ≠ 4)
def aroundI (z : Int) : Int := (z + 720) % 1440 - 720
theorem around_B (z : Int) : -720 ≤ aroundI z ∧ aroundI z < 720 := by unfold aroundI; omega
def wrongI (told m : Int) : Int := min ((told - m).natAbs : Int) (1440 - (told - m).natAbs)

def sunI (kind ang half : Int) (cl : Bool) : Int := if half < (ang.natAbs : Int) ∨ cl = true ∨ (kind = 0 ∧ 0 < ang) ∨ (kind = 1 ∧ ang < 0) then (-100000) else ang
def mangI (day m noon half : Int) : Int := if moonI day = false ∨ ((m - noon).natAbs : Int) ≤ half ∨ 360 < ((aroundI (m - (720 + 48 * (day % 30)))).natAbs : Int) then (-100000) else aroundI (m - (720 + 48 * (day % 30)))
def angI (kind day m noon half : Int) (cl : Bool) : Int := if kind = 3 then mangI day m noon half else if kind = 5 then 0 else sunI kind (m - noon) half cl
def plainI (kind tilt town g day m noon half : Int) (cl : Bool) : Int :=
  if grownI g kind day = true then -1 else if angI kind day m noon half cl = (-100000) then -1 else (720 + (if tiltI kind then (angI kind day m noon half cl * (100 + tilt)).tdiv 100 else angI kind day m noon half cl) + town) % 1440
theorem plain_B (kind tilt town g day m noon half : Int) (cl : Bool) : -1 ≤ plainI kind tilt town g day m noon half cl ∧ plainI kind tilt town g day m noon half cl < 1440 := by
  unfold plainI
  split
  · omega
  · split
    · omega
    · omega
def toldI (kind turn tilt town g day m noon half : Int) (cl : Bool) : Int :=
  if plainI kind tilt town g day m noon half cl = -1 then -1 else if kind = 4 ∧ (plainI kind tilt town g day m noon half cl + turn) % 1440 ≠ 720 then -1 else (plainI kind tilt town g day m noon half cl + turn) % 1440
theorem told_B (kind turn tilt town g day m noon half : Int) (cl : Bool) : -1 ≤ toldI kind turn tilt town g day m noon half cl ∧ toldI kind turn tilt town g day m noon half cl < 1440 := by
  unfold toldI
  split
  · omega
  · split
    · omega
    · omega
theorem kc_X4_83 : Cond.constant RX4 83 (Int32.ofInt (-100000)) ∈ Gw := inG 869 (by decide +kernel) rfl

theorem s_X8_around {h : aH} {z : Int} (hz : -100000 ≤ z ∧ z ≤ 100000) : mSem yX8_around cX8_around 1 (some .int) 1 0 0 [iv z] 97 h (Ret (aroundI z) h) noX := by
  refine mSem_of (own := RX8) (name := "around") pn_X8 rfl rfl (Nat.le_of_ble_eq_true rfl) ?_
  refine r_iload_n dX8_around_0 rfl rfl ?_
  refine r_sipush dX8_around_1 rfl ?_
  refine r_iadd dX8_around_4 ?_
  refine r_sipush dX8_around_5 rfl ?_
  refine r_callS [_, _] (s_J9_floorMod_7cf53 ⟨by omega, by omega⟩ (by omega)) dX8_around_8 cs_X8_397 sm_J9_floorMod_7cf53 (by decide) (by decide) (by decide) rfl rfl (Nat.le_of_ble_eq_true rfl) (fun _ _ _ q => q.elim) (fun v n2 h2 q => ?_)
  obtain ⟨rfl, rfl, hh⟩ := q
  obtain rfl := hh.symm
  refine ⟨rfl, ?_⟩
  dsimp only [Option.toList, List.cons_append, List.nil_append]
  refine r_sipush dX8_around_11 rfl ?_
  refine r_isub dX8_around_14 ?_
  refine r_iret dX8_around_15 ?_
  exact ⟨rfl, rfl, rfl⟩

theorem s_X8_wrongBy {h : aH} {a b : Int} (ha : 0 ≤ a ∧ a < 1440) (hb : 0 ≤ b ∧ b < 1440) : mSem yX8_wrongBy cX8_wrongBy 3 (some .int) 1 0 0 [iv a, iv b] 97 h (Ret (wrongI a b) h) noX := by
  refine mSem_of (own := RX8) (name := "wrongBy") pn_X8 rfl rfl (Nat.le_of_ble_eq_true rfl) ?_
  refine r_iload_n dX8_wrongBy_0 rfl rfl ?_
  refine r_iload_n dX8_wrongBy_1 rfl rfl ?_
  refine r_isub dX8_wrongBy_2 ?_
  refine r_callS [_] (s_J9_abs_0f7a4 (by omega)) dX8_wrongBy_3 cs_X8_317 sm_J9_abs_0f7a4 (by decide) (by decide) (by decide) rfl rfl (Nat.le_of_ble_eq_true rfl) (fun _ _ _ q => q.elim) (fun v n2 h2 q => ?_)
  obtain ⟨rfl, rfl, hh⟩ := q
  obtain rfl := hh.symm
  refine ⟨rfl, ?_⟩
  dsimp only [Option.toList, List.cons_append, List.nil_append]
  refine r_istore_n (lv2 := [(0, _), (1, _), (2, _)]) dX8_wrongBy_6 rfl (by decide) rfl rfl ?_
  refine r_iload_n dX8_wrongBy_7 rfl rfl ?_
  refine r_sipush dX8_wrongBy_8 rfl ?_
  refine r_iload_n dX8_wrongBy_11 rfl rfl ?_
  refine r_isub dX8_wrongBy_12 ?_
  refine r_callS [_, _] (s_J9_min_7cf53 ⟨by omega, by omega⟩ ⟨by omega, by omega⟩) dX8_wrongBy_13 cs_X8_394 sm_J9_min_7cf53 (by decide) (by decide) (by decide) rfl rfl (Nat.le_of_ble_eq_true rfl) (fun _ _ _ q => q.elim) (fun v n2 h2 q => ?_)
  obtain ⟨rfl, rfl, hh⟩ := q
  obtain rfl := hh.symm
  refine ⟨rfl, ?_⟩
  dsimp only [Option.toList, List.cons_append, List.nil_append]
  refine r_iret dX8_wrongBy_16 ?_
  exact ⟨rfl, rfl, rfl⟩

theorem s_X4_hasMoon {h : aH} {day : Int} (hd : 0 ≤ day ∧ day < 365) : mSem yX4_hasMoon cX4_hasMoon 2 (some .boolean) 1 0 0 [iv day] 97 h (Ret (b2i (moonI day)) h) noX := by
  refine mSem_of (own := RX4) (name := "hasMoon") pn_X4 rfl rfl (Nat.le_of_ble_eq_true rfl) ?_
  refine r_iload_n dX4_hasMoon_0 rfl rfl ?_
  refine r_bipush dX4_hasMoon_1 rfl ?_
  refine r_iremN dX4_hasMoon_3 (by omega) (by omega) (by omega) (by omega) ?_
  refine r_istore_n (lv2 := [(0, _), (1, _)]) dX4_hasMoon_4 rfl (by decide) rfl rfl ?_
  refine r_iload_n dX4_hasMoon_5 rfl rfl ?_
  refine r_bipush dX4_hasMoon_6 rfl ?_
  refine r_icmp_lt (tgt := 21) dX4_hasMoon_8 (by decide) ⟨by omega, by omega⟩ ⟨by omega, by omega⟩ (fun g8 => ?_) (fun g8 => ?_)
  · refine r_iconst dX4_hasMoon_21 ?_
    refine r_zret dX4_hasMoon_22 (nar_z (by omega)) ?_
    exact ⟨ivE (by simp only [moonI, b2i]; simp; omega), rfl, rfl⟩
  · refine r_iload_n dX4_hasMoon_11 rfl rfl ?_
    refine r_bipush dX4_hasMoon_12 rfl ?_
    refine r_icmp_gt (tgt := 21) dX4_hasMoon_14 (by decide) ⟨by omega, by omega⟩ ⟨by omega, by omega⟩ (fun g14 => ?_) (fun g14 => ?_)
    · refine r_iconst dX4_hasMoon_21 ?_
      refine r_zret dX4_hasMoon_22 (nar_z (by omega)) ?_
      exact ⟨ivE (by simp only [moonI, b2i]; simp; omega), rfl, rfl⟩
    · refine r_iconst dX4_hasMoon_17 ?_
      refine r_goto (tgt := 22) dX4_hasMoon_18 (by decide) ?_
      refine r_zret dX4_hasMoon_22 (nar_z (by omega)) ?_
      exact ⟨ivE (by simp only [moonI, b2i]; simp; omega), rfl, rfl⟩

theorem s_X4_moonNoonOf {h : aH} {day : Int} (hd : 0 ≤ day ∧ day < 365) : mSem yX4_moonNoonOf cX4_moonNoonOf 1 (some .int) 1 0 0 [iv day] 97 h (Ret (720 + 48 * (day % 30)) h) noX := by
  refine mSem_of (own := RX4) (name := "moonNoonOf") pn_X4 rfl rfl (Nat.le_of_ble_eq_true rfl) ?_
  refine r_sipush dX4_moonNoonOf_0 rfl ?_
  refine r_bipush dX4_moonNoonOf_3 rfl ?_
  refine r_iload_n dX4_moonNoonOf_5 rfl rfl ?_
  refine r_bipush dX4_moonNoonOf_6 rfl ?_
  refine r_iremN dX4_moonNoonOf_8 (by omega) (by omega) (by omega) (by omega) ?_
  refine r_imul dX4_moonNoonOf_9 ?_
  refine r_iadd dX4_moonNoonOf_10 ?_
  refine r_iret dX4_moonNoonOf_11 ?_
  exact ⟨rfl, rfl, rfl⟩

theorem s_X4_hasTilt {h : aH} {k : Int} (hk : 0 ≤ k ∧ k ≤ 5) : mSem yX4_hasTilt cX4_hasTilt 1 (some .boolean) 0 0 0 [iv k] 97 h (Ret (b2i (tiltI k)) h) noX := by
  refine mSem_of (own := RX4) (name := "hasTilt") pn_X4 rfl rfl (Nat.le_of_ble_eq_true rfl) ?_
  refine r_iload_n dX4_hasTilt_0 rfl rfl ?_
  refine r_iconst dX4_hasTilt_1 ?_
  refine r_icmp_eq (tgt := 14) dX4_hasTilt_2 (by decide) ⟨by omega, by omega⟩ ⟨by omega, by omega⟩ (fun g2 => ?_) (fun g2 => ?_)
  · refine r_iconst dX4_hasTilt_14 ?_
    refine r_zret dX4_hasTilt_15 (nar_z (by omega)) ?_
    exact ⟨ivE (by simp only [tiltI, b2i]; simp; omega), rfl, rfl⟩
  · refine r_iload_n dX4_hasTilt_5 rfl rfl ?_
    refine r_iconst dX4_hasTilt_6 ?_
    refine r_icmp_eq (tgt := 14) dX4_hasTilt_7 (by decide) ⟨by omega, by omega⟩ ⟨by omega, by omega⟩ (fun g7 => ?_) (fun g7 => ?_)
    · refine r_iconst dX4_hasTilt_14 ?_
      refine r_zret dX4_hasTilt_15 (nar_z (by omega)) ?_
      exact ⟨ivE (by simp only [tiltI, b2i]; simp; omega), rfl, rfl⟩
    · refine r_iconst dX4_hasTilt_10 ?_
      refine r_goto (tgt := 15) dX4_hasTilt_11 (by decide) ?_
      refine r_zret dX4_hasTilt_15 (nar_z (by omega)) ?_
      exact ⟨ivE (by simp only [tiltI, b2i]; simp; omega), rfl, rfl⟩

theorem s_X4_noonOf {h : aH} {nd sw nc : Int} {K U I O G L cf ct fc nx cd : Nat → Int} (c6 : h 6 = .inr (4, [iv nd, iv sw, iv nc, .ref 7, .ref 8, .ref 9, .ref 10, .ref 11, .ref 12, .ref 13, .ref 14, .ref 15, .ref 16])) (c7 : h 7 = .inl (0, 9, K)) (c8 : h 8 = .inl (0, 9, U)) (c9 : h 9 = .inl (0, 9, I)) (c10 : h 10 = .inl (0, 9, O)) (c11 : h 11 = .inl (0, 9, G)) (c12 : h 12 = .inl (0, 12, L)) (c13 : h 13 = .inl (0, 20, cf)) (c14 : h 14 = .inl (0, 20, ct)) (c15 : h 15 = .inl (0, 365, fc)) (c16 : h 16 = .inl (0, 20, nx)) (pi : PInv nd sw nc K U I O G L cf ct fc nx cd) {day : Int} (hd : 0 ≤ day ∧ day < 365) : mSem yX4_noonOf cX4_noonOf 2 (some .int) 1 0 0 [.ref 6, iv day] 97 h (Ret (noonI L day) h) noX := by
  refine mSem_of (own := RX4) (name := "noonOf") pn_X4 rfl rfl (Nat.le_of_ble_eq_true rfl) ?_
  refine r_sipush dX4_noonOf_0 rfl ?_
  refine r_aload_n dX4_noonOf_3 rfl rfl ?_
  refine r_get (fs := [_, _, _, _, _, _, _, _, _, _, _, _, _]) dX4_noonOf_4 fl_X4_37 (by decide) c6 rfl ?_
  refine r_iload_n dX4_noonOf_7 rfl rfl ?_
  refine r_bipush dX4_noonOf_8 rfl ?_
  refine r_idivN dX4_noonOf_10 (by omega) (by omega) (by omega) (by omega) ?_
  refine r_ald dX4_noonOf_11 (by decide) c12 (by omega) (by omega) (by decide) ?_
  refine r_iadd dX4_noonOf_12 ?_
  refine r_iret dX4_noonOf_13 ?_
  exact ⟨rfl, rfl, rfl⟩

theorem s_X4_halfOf {h : aH} {nd sw nc : Int} {K U I O G L cf ct fc nx cd : Nat → Int} (c6 : h 6 = .inr (4, [iv nd, iv sw, iv nc, .ref 7, .ref 8, .ref 9, .ref 10, .ref 11, .ref 12, .ref 13, .ref 14, .ref 15, .ref 16])) (c7 : h 7 = .inl (0, 9, K)) (c8 : h 8 = .inl (0, 9, U)) (c9 : h 9 = .inl (0, 9, I)) (c10 : h 10 = .inl (0, 9, O)) (c11 : h 11 = .inl (0, 9, G)) (c12 : h 12 = .inl (0, 12, L)) (c13 : h 13 = .inl (0, 20, cf)) (c14 : h 14 = .inl (0, 20, ct)) (c15 : h 15 = .inl (0, 365, fc)) (c16 : h 16 = .inl (0, 20, nx)) (pi : PInv nd sw nc K U I O G L cf ct fc nx cd) {day : Int} (hd : 0 ≤ day ∧ day < 365) : mSem yX4_halfOf cX4_halfOf 3 (some .int) 1 0 0 [.ref 6, iv day] 97 h (Ret (halfI sw day) h) noX := by
  obtain ⟨pnd, psw, pnc, pK, pU, pI, pO, pG, pL, pcf, pct, pfc, pnx⟩ := id pi
  refine mSem_of (own := RX4) (name := "halfOf") pn_X4 rfl rfl (Nat.le_of_ble_eq_true rfl) ?_
  refine r_iload_n dX4_halfOf_0 rfl rfl ?_
  refine r_sipush dX4_halfOf_1 rfl ?_
  refine r_isub dX4_halfOf_4 ?_
  refine r_callS [_] (s_J9_abs_0f7a4 (by omega)) dX4_halfOf_5 cs_X4_58 sm_J9_abs_0f7a4 (by decide) (by decide) (by decide) rfl rfl (Nat.le_of_ble_eq_true rfl) (fun _ _ _ q => q.elim) (fun v n2 h2 q => ?_)
  obtain ⟨rfl, rfl, hh⟩ := q
  obtain rfl := hh.symm
  refine ⟨rfl, ?_⟩
  dsimp only [Option.toList, List.cons_append, List.nil_append]
  refine r_istore_n (lv2 := [(0, _), (1, _), (2, _)]) dX4_halfOf_8 rfl (by decide) rfl rfl ?_
  refine r_iload_n dX4_halfOf_9 rfl rfl ?_
  refine r_sipush dX4_halfOf_10 rfl ?_
  refine r_icmp_le (tgt := 22) dX4_halfOf_13 (by decide) ⟨by omega, by omega⟩ ⟨by omega, by omega⟩ (fun g13 => ?_) (fun g13 => ?_)
  · refine r_sipush dX4_halfOf_22 rfl ?_
    have hf : farI day = if (day - 172).natAbs ≤ 182 then ((day - 172).natAbs : Int) else 365 - (day - 172).natAbs := rfl
    first | rw [if_pos (by omega)] at hf | rw [if_neg (by omega)] at hf
    have hr := half_R psw hd
    rw [hf] at hr
    refine r_aload_n dX4_halfOf_25 rfl rfl ?_
    refine r_get (fs := [_, _, _, _, _, _, _, _, _, _, _, _, _]) dX4_halfOf_26 fl_X4_15 (by decide) c6 rfl ?_
    refine r_bipush dX4_halfOf_29 rfl ?_
    refine r_iload_n dX4_halfOf_31 rfl rfl ?_
    refine r_isub dX4_halfOf_32 ?_
    refine r_imul dX4_halfOf_33 ?_
    refine r_bipush dX4_halfOf_34 rfl ?_
    refine r_idiv dX4_halfOf_36 ⟨by omega, by omega⟩ ⟨by omega, by omega⟩ (by omega) ⟨by omega, by omega⟩ ?_
    refine r_iadd dX4_halfOf_37 ?_
    refine r_iret dX4_halfOf_38 ?_
    exact ⟨ivE (by unfold halfI; rw [hf]), rfl, rfl⟩
  · refine r_sipush dX4_halfOf_16 rfl ?_
    refine r_iload_n dX4_halfOf_19 rfl rfl ?_
    refine r_isub dX4_halfOf_20 ?_
    refine r_istore_n (lv2 := [(0, _), (1, _), (2, _)]) dX4_halfOf_21 rfl (by decide) rfl rfl ?_
    refine r_sipush dX4_halfOf_22 rfl ?_
    have hf : farI day = if (day - 172).natAbs ≤ 182 then ((day - 172).natAbs : Int) else 365 - (day - 172).natAbs := rfl
    first | rw [if_pos (by omega)] at hf | rw [if_neg (by omega)] at hf
    have hr := half_R psw hd
    rw [hf] at hr
    refine r_aload_n dX4_halfOf_25 rfl rfl ?_
    refine r_get (fs := [_, _, _, _, _, _, _, _, _, _, _, _, _]) dX4_halfOf_26 fl_X4_15 (by decide) c6 rfl ?_
    refine r_bipush dX4_halfOf_29 rfl ?_
    refine r_iload_n dX4_halfOf_31 rfl rfl ?_
    refine r_isub dX4_halfOf_32 ?_
    refine r_imul dX4_halfOf_33 ?_
    refine r_bipush dX4_halfOf_34 rfl ?_
    refine r_idiv dX4_halfOf_36 ⟨by omega, by omega⟩ ⟨by omega, by omega⟩ (by omega) ⟨by omega, by omega⟩ ?_
    refine r_iadd dX4_halfOf_37 ?_
    refine r_iret dX4_halfOf_38 ?_
    exact ⟨ivE (by unfold halfI; rw [hf]), rfl, rfl⟩

theorem l_X4_isClouded {d : Nat} {h : aH} {nd sw nc : Int} {K U I O G L cf ct fc nx cd : Nat → Int} (c6 : h 6 = .inr (4, [iv nd, iv sw, iv nc, .ref 7, .ref 8, .ref 9, .ref 10, .ref 11, .ref 12, .ref 13, .ref 14, .ref 15, .ref 16])) (c7 : h 7 = .inl (0, 9, K)) (c8 : h 8 = .inl (0, 9, U)) (c9 : h 9 = .inl (0, 9, I)) (c10 : h 10 = .inl (0, 9, O)) (c11 : h 11 = .inl (0, 9, G)) (c12 : h 12 = .inl (0, 12, L)) (c13 : h 13 = .inl (0, 20, cf)) (c14 : h 14 = .inl (0, 20, ct)) (c15 : h 15 = .inl (0, 365, fc)) (c16 : h 16 = .inl (0, 20, nx)) (pi : PInv nd sw nc K U I O G L cf ct fc nx cd) {day m : Int} (hm : 0 ≤ m ∧ m < 1440) :
    ∀ (c i : Nat), (c : Int) ≤ nc → i + c ≤ 20 → (c = 0 ∨ cd (c - 1) = day) → Ev RX4 "isClouded" cX4_isClouded 5 (some .boolean) d 0 0 (Ret (b2i (cUp cd cf ct day m c)) h) noX 97 h 10 [(0, .ref 6), (1, iv day), (2, iv m), (3, iv c), (4, iv i)] [] := by
  obtain ⟨pnd, psw, pnc, pK, pU, pI, pO, pG, pL, pcf, pct, pfc, pnx⟩ := id pi
  intro c
  induction c using Nat.strongRecOn with
  | _ c ih =>
    intro i hc hi hday
    refine r_iload dX4_isClouded_10 rfl ?_
    refine r_bipush dX4_isClouded_12 rfl ?_
    refine r_icmp_ge (tgt := 70) dX4_isClouded_14 (by decide) ⟨by omega, by omega⟩ ⟨by omega, by omega⟩ (fun g14 => ?_) (fun g14 => ?_)
    · obtain rfl : c = 0 := by omega
      refine r_iconst dX4_isClouded_70 ?_
      refine r_zret dX4_isClouded_71 (nar_z (by omega)) ?_
      exact ⟨rfl, rfl, rfl⟩
    · refine r_iload_n dX4_isClouded_17 rfl rfl ?_
      refine r_if_le (tgt := 70) dX4_isClouded_18 (by decide) ⟨by omega, by omega⟩ (fun g18 => ?_) (fun g18 => ?_)
      · obtain rfl : c = 0 := by omega
        refine r_iconst dX4_isClouded_70 ?_
        refine r_zret dX4_isClouded_71 (nar_z (by omega)) ?_
        exact ⟨rfl, rfl, rfl⟩
      · refine r_iload_n dX4_isClouded_21 rfl rfl ?_
        refine r_aload_n dX4_isClouded_22 rfl rfl ?_
        refine r_get (fs := [_, _, _, _, _, _, _, _, _, _, _, _, _]) dX4_isClouded_23 fl_X4_18 (by decide) c6 rfl ?_
        refine r_icmp_gt (tgt := 70) dX4_isClouded_26 (by decide) ⟨by omega, by omega⟩ ⟨by omega, by omega⟩ (fun g26 => ?_) (fun g26 => ?_)
        · obtain rfl : c = 0 := by omega
          refine r_iconst dX4_isClouded_70 ?_
          refine r_zret dX4_isClouded_71 (nar_z (by omega)) ?_
          exact ⟨rfl, rfl, rfl⟩
        · obtain ⟨k, rfl⟩ : ∃ k, c = k + 1 := ⟨c - 1, by omega⟩
          have ek : (((k + 1 : Nat) : Int) - 1).toNat = k := by omega
          have hdk : cd k = day := by
            rcases hday with q | q
            · omega
            · exact q
          have b1 := pcf k
          have b2 := pct k
          have b3 := pnx k (by omega)
          have b4 := lastI_le cd (cd k) k
          refine r_aload_n dX4_isClouded_29 rfl rfl ?_
          refine r_get (fs := [_, _, _, _, _, _, _, _, _, _, _, _, _]) dX4_isClouded_30 fl_X4_40 (by decide) c6 rfl ?_
          refine r_iload_n dX4_isClouded_33 rfl rfl ?_
          refine r_iconst dX4_isClouded_34 ?_
          refine r_isub dX4_isClouded_35 ?_
          refine r_ald dX4_isClouded_36 (by decide) c13 (by omega) (by omega) (by decide) ?_
          rw [ek]
          refine r_iload_n dX4_isClouded_37 rfl rfl ?_
          refine r_icmp_gt (tgt := 55) dX4_isClouded_38 (by decide) ⟨by omega, by omega⟩ ⟨by omega, by omega⟩ (fun g38 => ?_) (fun g38 => ?_)
          · refine r_aload_n dX4_isClouded_55 rfl rfl ?_
            refine r_get (fs := [_, _, _, _, _, _, _, _, _, _, _, _, _]) dX4_isClouded_56 fl_X4_49 (by decide) c6 rfl ?_
            refine r_iload_n dX4_isClouded_59 rfl rfl ?_
            refine r_iconst dX4_isClouded_60 ?_
            refine r_isub dX4_isClouded_61 ?_
            refine r_ald dX4_isClouded_62 (by decide) c16 (by omega) (by omega) (by decide) ?_
            rw [ek, b3]
            refine r_istore_n (lv2 := [(0, _), (1, _), (2, _), (3, _), (4, _)]) dX4_isClouded_63 rfl (by decide) rfl rfl ?_
            refine r_iinc (lv2 := [(0, _), (1, _), (2, _), (3, _), (4, _)]) dX4_isClouded_64 (by decide) rfl rfl rfl ?_
            refine r_goto (tgt := 10) dX4_isClouded_67 (by decide) ?_
            have hk := ih (lastI cd (cd k) k) (by omega) (i + 1) (by omega) (by omega) (by rw [hdk]; exact lastI_day cd day k)
            have e2 : cUp cd cf ct day m (lastI cd (cd k) k) = cUp cd cf ct day m (k + 1) := by
              rw [hdk, cUp_last]
              simp only [cUp]
              rw [Bool.or_eq_right_iff_imp.mpr]
              intro q
              simp at q
              omega
            rw [e2] at hk
            rw [show (i : Int) + 1 = ((i + 1 : Nat) : Int) by omega]
            exact hk
          · refine r_iload_n dX4_isClouded_41 rfl rfl ?_
            refine r_aload_n dX4_isClouded_42 rfl rfl ?_
            refine r_get (fs := [_, _, _, _, _, _, _, _, _, _, _, _, _]) dX4_isClouded_43 fl_X4_43 (by decide) c6 rfl ?_
            refine r_iload_n dX4_isClouded_46 rfl rfl ?_
            refine r_iconst dX4_isClouded_47 ?_
            refine r_isub dX4_isClouded_48 ?_
            refine r_ald dX4_isClouded_49 (by decide) c14 (by omega) (by omega) (by decide) ?_
            rw [ek]
            refine r_icmp_gt (tgt := 55) dX4_isClouded_50 (by decide) ⟨by omega, by omega⟩ ⟨by omega, by omega⟩ (fun g50 => ?_) (fun g50 => ?_)
            · refine r_aload_n dX4_isClouded_55 rfl rfl ?_
              refine r_get (fs := [_, _, _, _, _, _, _, _, _, _, _, _, _]) dX4_isClouded_56 fl_X4_49 (by decide) c6 rfl ?_
              refine r_iload_n dX4_isClouded_59 rfl rfl ?_
              refine r_iconst dX4_isClouded_60 ?_
              refine r_isub dX4_isClouded_61 ?_
              refine r_ald dX4_isClouded_62 (by decide) c16 (by omega) (by omega) (by decide) ?_
              rw [ek, b3]
              refine r_istore_n (lv2 := [(0, _), (1, _), (2, _), (3, _), (4, _)]) dX4_isClouded_63 rfl (by decide) rfl rfl ?_
              refine r_iinc (lv2 := [(0, _), (1, _), (2, _), (3, _), (4, _)]) dX4_isClouded_64 (by decide) rfl rfl rfl ?_
              refine r_goto (tgt := 10) dX4_isClouded_67 (by decide) ?_
              have hk := ih (lastI cd (cd k) k) (by omega) (i + 1) (by omega) (by omega) (by rw [hdk]; exact lastI_day cd day k)
              have e2 : cUp cd cf ct day m (lastI cd (cd k) k) = cUp cd cf ct day m (k + 1) := by
                rw [hdk, cUp_last]
                simp only [cUp]
                rw [Bool.or_eq_right_iff_imp.mpr]
                intro q
                simp at q
                omega
              rw [e2] at hk
              rw [show (i : Int) + 1 = ((i + 1 : Nat) : Int) by omega]
              exact hk
            · refine r_iconst dX4_isClouded_53 ?_
              refine r_zret dX4_isClouded_54 (nar_z (by omega)) ?_
              exact ⟨ivE (by simp [cUp, hdk, b2i]; omega), rfl, rfl⟩

theorem s_X4_isClouded {h : aH} {nd sw nc : Int} {K U I O G L cf ct fc nx cd : Nat → Int} (c6 : h 6 = .inr (4, [iv nd, iv sw, iv nc, .ref 7, .ref 8, .ref 9, .ref 10, .ref 11, .ref 12, .ref 13, .ref 14, .ref 15, .ref 16])) (c7 : h 7 = .inl (0, 9, K)) (c8 : h 8 = .inl (0, 9, U)) (c9 : h 9 = .inl (0, 9, I)) (c10 : h 10 = .inl (0, 9, O)) (c11 : h 11 = .inl (0, 9, G)) (c12 : h 12 = .inl (0, 12, L)) (c13 : h 13 = .inl (0, 20, cf)) (c14 : h 14 = .inl (0, 20, ct)) (c15 : h 15 = .inl (0, 365, fc)) (c16 : h 16 = .inl (0, 20, nx)) (pi : PInv nd sw nc K U I O G L cf ct fc nx cd) {day : Int} (hd : 0 ≤ day ∧ day < 365) {m : Int} (hm : 0 ≤ m ∧ m < 1440) : mSem yX4_isClouded cX4_isClouded 5 (some .boolean) 1 0 0 [.ref 6, iv day, iv m] 97 h (Ret (b2i (cUp cd cf ct day m nc.toNat)) h) noX := by
  obtain ⟨pnd, psw, pnc, pK, pU, pI, pO, pG, pL, pcf, pct, pfc, pnx⟩ := id pi
  refine mSem_of (own := RX4) (name := "isClouded") pn_X4 rfl rfl (Nat.le_of_ble_eq_true rfl) ?_
  refine r_aload_n dX4_isClouded_0 rfl rfl ?_
  refine r_get (fs := [_, _, _, _, _, _, _, _, _, _, _, _, _]) dX4_isClouded_1 fl_X4_46 (by decide) c6 rfl ?_
  refine r_iload_n dX4_isClouded_4 rfl rfl ?_
  refine r_ald dX4_isClouded_5 (by decide) c15 (by omega) (by omega) (by decide) ?_
  refine r_istore_n (lv2 := [(0, _), (1, _), (2, _), (3, _)]) dX4_isClouded_6 rfl (by decide) rfl rfl ?_
  refine r_iconst dX4_isClouded_7 ?_
  refine r_istore (lv2 := [(0, _), (1, _), (2, _), (3, _), (4, _)]) dX4_isClouded_8 (by decide) rfl rfl ?_
  have b3 := pfc day.toNat (by omega)
  rw [show ((day.toNat : Nat) : Int) = day by omega] at b3
  have b4 := lastI_le cd day nc.toNat
  have hk := l_X4_isClouded (d := 1) c6 c7 c8 c9 c10 c11 c12 c13 c14 c15 c16 pi (day := day) hm (lastI cd day nc.toNat) 0 (by omega) (by omega) (lastI_day cd day nc.toNat)
  rw [cUp_last] at hk
  rw [b3]
  exact hk

theorem s_X4_isGrown {h : aH} {nd sw nc : Int} {K U I O G L cf ct fc nx cd : Nat → Int} (c6 : h 6 = .inr (4, [iv nd, iv sw, iv nc, .ref 7, .ref 8, .ref 9, .ref 10, .ref 11, .ref 12, .ref 13, .ref 14, .ref 15, .ref 16])) (c7 : h 7 = .inl (0, 9, K)) (c8 : h 8 = .inl (0, 9, U)) (c9 : h 9 = .inl (0, 9, I)) (c10 : h 10 = .inl (0, 9, O)) (c11 : h 11 = .inl (0, 9, G)) (c12 : h 12 = .inl (0, 12, L)) (c13 : h 13 = .inl (0, 20, cf)) (c14 : h 14 = .inl (0, 20, ct)) (c15 : h 15 = .inl (0, 365, fc)) (c16 : h 16 = .inl (0, 20, nx)) (pi : PInv nd sw nc K U I O G L cf ct fc nx cd) {di : Int} (hdi : 0 ≤ di ∧ di < 9) {day : Int} (hd : 0 ≤ day ∧ day < 365) : mSem yX4_isGrown cX4_isGrown 3 (some .boolean) 0 0 0 [.ref 6, iv di, iv day] 97 h (Ret (b2i (grownI (G di.toNat) (K di.toNat) day)) h) noX := by
  obtain ⟨pnd, psw, pnc, pK, pU, pI, pO, pG, pL, pcf, pct, pfc, pnx⟩ := id pi
  have bG := pG di.toNat
  have bK := pK di.toNat
  refine mSem_of (own := RX4) (name := "isGrown") pn_X4 rfl rfl (Nat.le_of_ble_eq_true rfl) ?_
  refine r_aload_n dX4_isGrown_0 rfl rfl ?_
  refine r_get (fs := [_, _, _, _, _, _, _, _, _, _, _, _, _]) dX4_isGrown_1 fl_X4_34 (by decide) c6 rfl ?_
  refine r_iload_n dX4_isGrown_4 rfl rfl ?_
  refine r_ald dX4_isGrown_5 (by decide) c11 (by omega) (by omega) (by decide) ?_
  refine r_iconst dX4_isGrown_6 ?_
  refine r_icmp_eq (tgt := 34) dX4_isGrown_7 (by decide) ⟨by omega, by omega⟩ ⟨by omega, by omega⟩ (fun g7 => ?_) (fun g7 => ?_)
  · refine r_iconst dX4_isGrown_34 ?_
    refine r_zret dX4_isGrown_35 (nar_z (by omega)) ?_
    exact ⟨ivE (by simp only [grownI, b2i]; simp; omega), rfl, rfl⟩
  · refine r_iload_n dX4_isGrown_10 rfl rfl ?_
    refine r_aload_n dX4_isGrown_11 rfl rfl ?_
    refine r_get (fs := [_, _, _, _, _, _, _, _, _, _, _, _, _]) dX4_isGrown_12 fl_X4_34 (by decide) c6 rfl ?_
    refine r_iload_n dX4_isGrown_15 rfl rfl ?_
    refine r_ald dX4_isGrown_16 (by decide) c11 (by omega) (by omega) (by decide) ?_
    refine r_icmp_lt (tgt := 34) dX4_isGrown_17 (by decide) ⟨by omega, by omega⟩ ⟨by omega, by omega⟩ (fun g17 => ?_) (fun g17 => ?_)
    · refine r_iconst dX4_isGrown_34 ?_
      refine r_zret dX4_isGrown_35 (nar_z (by omega)) ?_
      exact ⟨ivE (by simp only [grownI, b2i]; simp; omega), rfl, rfl⟩
    · refine r_aload_n dX4_isGrown_20 rfl rfl ?_
      refine r_get (fs := [_, _, _, _, _, _, _, _, _, _, _, _, _]) dX4_isGrown_21 fl_X4_21 (by decide) c6 rfl ?_
      refine r_iload_n dX4_isGrown_24 rfl rfl ?_
      refine r_ald dX4_isGrown_25 (by decide) c7 (by omega) (by omega) (by decide) ?_
      refine r_iconst dX4_isGrown_26 ?_
      refine r_icmp_eq (tgt := 34) dX4_isGrown_27 (by decide) ⟨by omega, by omega⟩ ⟨by omega, by omega⟩ (fun g27 => ?_) (fun g27 => ?_)
      · refine r_iconst dX4_isGrown_34 ?_
        refine r_zret dX4_isGrown_35 (nar_z (by omega)) ?_
        exact ⟨ivE (by simp only [grownI, b2i]; simp; omega), rfl, rfl⟩
      · refine r_iconst dX4_isGrown_30 ?_
        refine r_goto (tgt := 35) dX4_isGrown_31 (by decide) ?_
        refine r_zret dX4_isGrown_35 (nar_z (by omega)) ?_
        exact ⟨ivE (by simp only [grownI, b2i]; simp; omega), rfl, rfl⟩

theorem s_X4_sunAngle {h : aH} {nd sw nc : Int} {K U I O G L cf ct fc nx cd : Nat → Int} (c6 : h 6 = .inr (4, [iv nd, iv sw, iv nc, .ref 7, .ref 8, .ref 9, .ref 10, .ref 11, .ref 12, .ref 13, .ref 14, .ref 15, .ref 16])) (c7 : h 7 = .inl (0, 9, K)) (c8 : h 8 = .inl (0, 9, U)) (c9 : h 9 = .inl (0, 9, I)) (c10 : h 10 = .inl (0, 9, O)) (c11 : h 11 = .inl (0, 9, G)) (c12 : h 12 = .inl (0, 12, L)) (c13 : h 13 = .inl (0, 20, cf)) (c14 : h 14 = .inl (0, 20, ct)) (c15 : h 15 = .inl (0, 365, fc)) (c16 : h 16 = .inl (0, 20, nx)) (pi : PInv nd sw nc K U I O G L cf ct fc nx cd) {k : Int} (hk : 0 ≤ k ∧ k ≤ 5) {day : Int} (hd : 0 ≤ day ∧ day < 365) {m : Int} (hm : 0 ≤ m ∧ m < 1440) : mSem yX4_sunAngle cX4_sunAngle 5 (some .int) 3 0 0 [.ref 6, iv k, iv day, iv m] 97 h (Ret (sunI k (m - noonI L day) (halfI sw day) (cUp cd cf ct day m nc.toNat)) h) noX := by
  obtain ⟨pnd, psw, pnc, pK, pU, pI, pO, pG, pL, pcf, pct, pfc, pnx⟩ := id pi
  refine mSem_of (own := RX4) (name := "sunAngle") pn_X4 rfl rfl (Nat.le_of_ble_eq_true rfl) ?_
  have bn := noon_B (L := L) (day := day) pL
  have bh := half_B psw hd
  have bc := b2i_01 (cUp cd cf ct day m nc.toNat)
  refine r_iload_n dX4_sunAngle_0 rfl rfl ?_
  refine r_aload_n dX4_sunAngle_1 rfl rfl ?_
  refine r_iload_n dX4_sunAngle_2 rfl rfl ?_
  refine r_callV 6 [_] (s_X4_noonOf c6 c7 c8 c9 c10 c11 c12 c13 c14 c15 c16 pi hd) dX4_sunAngle_3 cs_X4_88 im_X4_noonOf (by decide) c6 rfl (by decide) (by decide) (by decide) rfl rfl (Nat.le_of_ble_eq_true rfl) (fun _ _ _ q => q.elim) (fun v n2 h2 q => ?_)
  obtain ⟨rfl, rfl, hh⟩ := q
  obtain rfl := hh.symm
  refine ⟨rfl, ?_⟩
  dsimp only [Option.toList, List.cons_append, List.nil_append]
  refine r_isub dX4_sunAngle_6 ?_
  refine r_istore (lv2 := [(0, _), (1, _), (2, _), (3, _), (4, _)]) dX4_sunAngle_7 (by decide) rfl rfl ?_
  refine r_iload dX4_sunAngle_9 rfl ?_
  refine r_callS [_] (s_J9_abs_0f7a4 (by omega)) dX4_sunAngle_11 cs_X4_58 sm_J9_abs_0f7a4 (by decide) (by decide) (by decide) rfl rfl (Nat.le_of_ble_eq_true rfl) (fun _ _ _ q => q.elim) (fun v n2 h2 q => ?_)
  obtain ⟨rfl, rfl, hh⟩ := q
  obtain rfl := hh.symm
  refine ⟨rfl, ?_⟩
  dsimp only [Option.toList, List.cons_append, List.nil_append]
  refine r_aload_n dX4_sunAngle_14 rfl rfl ?_
  refine r_iload_n dX4_sunAngle_15 rfl rfl ?_
  refine r_callV 6 [_] (s_X4_halfOf c6 c7 c8 c9 c10 c11 c12 c13 c14 c15 c16 pi hd) dX4_sunAngle_16 cs_X4_91 im_X4_halfOf (by decide) c6 rfl (by decide) (by decide) (by decide) rfl rfl (Nat.le_of_ble_eq_true rfl) (fun _ _ _ q => q.elim) (fun v n2 h2 q => ?_)
  obtain ⟨rfl, rfl, hh⟩ := q
  obtain rfl := hh.symm
  refine ⟨rfl, ?_⟩
  dsimp only [Option.toList, List.cons_append, List.nil_append]
  refine r_icmp_gt (tgt := 31) dX4_sunAngle_19 (by decide) ⟨by omega, by omega⟩ ⟨by omega, by omega⟩ (fun g19 => ?_) (fun g19 => ?_)
  · first | rw [b2i_0, Bool.not_eq_false] at g28 | skip
    refine r_ldc dX4_sunAngle_31 kc_X4_83 ?_
    refine r_iret dX4_sunAngle_33 ?_
    exact ⟨ivE (by unfold sunI; rw [if_pos (by first | exact Or.inl g19 | exact Or.inr (Or.inl g28))]), rfl, rfl⟩
  · refine r_aload_n dX4_sunAngle_22 rfl rfl ?_
    refine r_iload_n dX4_sunAngle_23 rfl rfl ?_
    refine r_iload_n dX4_sunAngle_24 rfl rfl ?_
    refine r_callV 6 [_, _] (s_X4_isClouded c6 c7 c8 c9 c10 c11 c12 c13 c14 c15 c16 pi hd hm) dX4_sunAngle_25 cs_X4_94 im_X4_isClouded (by decide) c6 rfl (by decide) (by decide) (by decide) rfl rfl (Nat.le_of_ble_eq_true rfl) (fun _ _ _ q => q.elim) (fun v n2 h2 q => ?_)
    obtain ⟨rfl, rfl, hh⟩ := q
    obtain rfl := hh.symm
    refine ⟨rfl, ?_⟩
    dsimp only [Option.toList, List.cons_append, List.nil_append]
    refine r_if_eq (tgt := 34) dX4_sunAngle_28 (by decide) ⟨by omega, by omega⟩ (fun g28 => ?_) (fun g28 => ?_)
    · rw [b2i_0] at g28
      refine r_iload_n dX4_sunAngle_34 rfl rfl ?_
      refine r_if_ne (tgt := 43) dX4_sunAngle_35 (by decide) ⟨by omega, by omega⟩ (fun g35 => ?_) (fun g35 => ?_)
      · refine r_iload_n dX4_sunAngle_43 rfl rfl ?_
        refine r_iconst dX4_sunAngle_44 ?_
        refine r_icmp_ne (tgt := 56) dX4_sunAngle_45 (by decide) ⟨by omega, by omega⟩ ⟨by omega, by omega⟩ (fun g45 => ?_) (fun g45 => ?_)
        · refine r_iload dX4_sunAngle_56 rfl ?_
          refine r_iret dX4_sunAngle_58 ?_
          exact ⟨ivE (by unfold sunI; rw [if_neg (by rw [g28]; simp; omega)]), rfl, rfl⟩
        · refine r_iload dX4_sunAngle_48 rfl ?_
          refine r_if_ge (tgt := 56) dX4_sunAngle_50 (by decide) ⟨by omega, by omega⟩ (fun g50 => ?_) (fun g50 => ?_)
          · refine r_iload dX4_sunAngle_56 rfl ?_
            refine r_iret dX4_sunAngle_58 ?_
            exact ⟨ivE (by unfold sunI; rw [if_neg (by rw [g28]; simp; omega)]), rfl, rfl⟩
          · refine r_ldc dX4_sunAngle_53 kc_X4_83 ?_
            refine r_iret dX4_sunAngle_55 ?_
            exact ⟨ivE (by unfold sunI; rw [if_pos (by omega)]), rfl, rfl⟩
      · refine r_iload dX4_sunAngle_38 rfl ?_
        refine r_if_gt (tgt := 53) dX4_sunAngle_40 (by decide) ⟨by omega, by omega⟩ (fun g40 => ?_) (fun g40 => ?_)
        · refine r_ldc dX4_sunAngle_53 kc_X4_83 ?_
          refine r_iret dX4_sunAngle_55 ?_
          exact ⟨ivE (by unfold sunI; rw [if_pos (by omega)]), rfl, rfl⟩
        · refine r_iload_n dX4_sunAngle_43 rfl rfl ?_
          refine r_iconst dX4_sunAngle_44 ?_
          refine r_icmp_ne (tgt := 56) dX4_sunAngle_45 (by decide) ⟨by omega, by omega⟩ ⟨by omega, by omega⟩ (fun g45 => ?_) (fun g45 => ?_)
          · refine r_iload dX4_sunAngle_56 rfl ?_
            refine r_iret dX4_sunAngle_58 ?_
            exact ⟨ivE (by unfold sunI; rw [if_neg (by rw [g28]; simp; omega)]), rfl, rfl⟩
          · refine r_iload dX4_sunAngle_48 rfl ?_
            refine r_if_ge (tgt := 56) dX4_sunAngle_50 (by decide) ⟨by omega, by omega⟩ (fun g50 => ?_) (fun g50 => ?_)
            · refine r_iload dX4_sunAngle_56 rfl ?_
              refine r_iret dX4_sunAngle_58 ?_
              exact ⟨ivE (by unfold sunI; rw [if_neg (by rw [g28]; simp; omega)]), rfl, rfl⟩
            · refine r_ldc dX4_sunAngle_53 kc_X4_83 ?_
              refine r_iret dX4_sunAngle_55 ?_
              exact ⟨ivE (by unfold sunI; rw [if_pos (by omega)]), rfl, rfl⟩
    · first | rw [b2i_0, Bool.not_eq_false] at g28 | skip
      refine r_ldc dX4_sunAngle_31 kc_X4_83 ?_
      refine r_iret dX4_sunAngle_33 ?_
      exact ⟨ivE (by unfold sunI; rw [if_pos (by first | exact Or.inl g19 | exact Or.inr (Or.inl g28))]), rfl, rfl⟩

theorem s_X4_moonAngle {h : aH} {nd sw nc : Int} {K U I O G L cf ct fc nx cd : Nat → Int} (c6 : h 6 = .inr (4, [iv nd, iv sw, iv nc, .ref 7, .ref 8, .ref 9, .ref 10, .ref 11, .ref 12, .ref 13, .ref 14, .ref 15, .ref 16])) (c7 : h 7 = .inl (0, 9, K)) (c8 : h 8 = .inl (0, 9, U)) (c9 : h 9 = .inl (0, 9, I)) (c10 : h 10 = .inl (0, 9, O)) (c11 : h 11 = .inl (0, 9, G)) (c12 : h 12 = .inl (0, 12, L)) (c13 : h 13 = .inl (0, 20, cf)) (c14 : h 14 = .inl (0, 20, ct)) (c15 : h 15 = .inl (0, 365, fc)) (c16 : h 16 = .inl (0, 20, nx)) (pi : PInv nd sw nc K U I O G L cf ct fc nx cd) {day : Int} (hd : 0 ≤ day ∧ day < 365) {m : Int} (hm : 0 ≤ m ∧ m < 1440) : mSem yX4_moonAngle cX4_moonAngle 4 (some .int) 3 0 0 [.ref 6, iv day, iv m] 97 h (Ret (mangI day m (noonI L day) (halfI sw day)) h) noX := by
  obtain ⟨pnd, psw, pnc, pK, pU, pI, pO, pG, pL, pcf, pct, pfc, pnx⟩ := id pi
  refine mSem_of (own := RX4) (name := "moonAngle") pn_X4 rfl rfl (Nat.le_of_ble_eq_true rfl) ?_
  have bn := noon_B (L := L) (day := day) pL
  have bh := half_B psw hd
  have bc := b2i_01 (moonI day)
  have ba := around_B (m - (720 + 48 * (day % 30)))
  refine r_iload_n dX4_moonAngle_0 rfl rfl ?_
  refine r_callS [_] (s_X4_hasMoon hd) dX4_moonAngle_1 cs_X4_97 sm_X4_hasMoon (by decide) (by decide) (by decide) rfl rfl (Nat.le_of_ble_eq_true rfl) (fun _ _ _ q => q.elim) (fun v n2 h2 q => ?_)
  obtain ⟨rfl, rfl, hh⟩ := q
  obtain rfl := hh.symm
  refine ⟨rfl, ?_⟩
  dsimp only [Option.toList, List.cons_append, List.nil_append]
  refine r_if_eq (tgt := 25) dX4_moonAngle_4 (by decide) ⟨by omega, by omega⟩ (fun g4 => ?_) (fun g4 => ?_)
  · first | rw [b2i_0] at g4 | skip
    refine r_ldc dX4_moonAngle_25 kc_X4_83 ?_
    refine r_iret dX4_moonAngle_27 ?_
    exact ⟨ivE (by unfold mangI; rw [if_pos (by first | exact Or.inl g4 | exact Or.inr (Or.inl (by omega)))]), rfl, rfl⟩
  · rw [b2i_0, Bool.not_eq_false] at g4
    refine r_iload_n dX4_moonAngle_7 rfl rfl ?_
    refine r_aload_n dX4_moonAngle_8 rfl rfl ?_
    refine r_iload_n dX4_moonAngle_9 rfl rfl ?_
    refine r_callV 6 [_] (s_X4_noonOf c6 c7 c8 c9 c10 c11 c12 c13 c14 c15 c16 pi hd) dX4_moonAngle_10 cs_X4_88 im_X4_noonOf (by decide) c6 rfl (by decide) (by decide) (by decide) rfl rfl (Nat.le_of_ble_eq_true rfl) (fun _ _ _ q => q.elim) (fun v n2 h2 q => ?_)
    obtain ⟨rfl, rfl, hh⟩ := q
    obtain rfl := hh.symm
    refine ⟨rfl, ?_⟩
    dsimp only [Option.toList, List.cons_append, List.nil_append]
    refine r_isub dX4_moonAngle_13 ?_
    refine r_callS [_] (s_J9_abs_0f7a4 (by omega)) dX4_moonAngle_14 cs_X4_58 sm_J9_abs_0f7a4 (by decide) (by decide) (by decide) rfl rfl (Nat.le_of_ble_eq_true rfl) (fun _ _ _ q => q.elim) (fun v n2 h2 q => ?_)
    obtain ⟨rfl, rfl, hh⟩ := q
    obtain rfl := hh.symm
    refine ⟨rfl, ?_⟩
    dsimp only [Option.toList, List.cons_append, List.nil_append]
    refine r_aload_n dX4_moonAngle_17 rfl rfl ?_
    refine r_iload_n dX4_moonAngle_18 rfl rfl ?_
    refine r_callV 6 [_] (s_X4_halfOf c6 c7 c8 c9 c10 c11 c12 c13 c14 c15 c16 pi hd) dX4_moonAngle_19 cs_X4_91 im_X4_halfOf (by decide) c6 rfl (by decide) (by decide) (by decide) rfl rfl (Nat.le_of_ble_eq_true rfl) (fun _ _ _ q => q.elim) (fun v n2 h2 q => ?_)
    obtain ⟨rfl, rfl, hh⟩ := q
    obtain rfl := hh.symm
    refine ⟨rfl, ?_⟩
    dsimp only [Option.toList, List.cons_append, List.nil_append]
    refine r_icmp_gt (tgt := 28) dX4_moonAngle_22 (by decide) ⟨by omega, by omega⟩ ⟨by omega, by omega⟩ (fun g22 => ?_) (fun g22 => ?_)
    · refine r_iload_n dX4_moonAngle_28 rfl rfl ?_
      refine r_iload_n dX4_moonAngle_29 rfl rfl ?_
      refine r_callS [_] (s_X4_moonNoonOf hd) dX4_moonAngle_30 cs_X4_100 sm_X4_moonNoonOf (by decide) (by decide) (by decide) rfl rfl (Nat.le_of_ble_eq_true rfl) (fun _ _ _ q => q.elim) (fun v n2 h2 q => ?_)
      obtain ⟨rfl, rfl, hh⟩ := q
      obtain rfl := hh.symm
      refine ⟨rfl, ?_⟩
      dsimp only [Option.toList, List.cons_append, List.nil_append]
      refine r_isub dX4_moonAngle_33 ?_
      refine r_callSN (np := 1) [_] (s_X8_around (by omega)) dX4_moonAngle_34 "LyingDials" (by decide +kernel) cd_X8_around ini_X8 ⟨by decide +kernel, by decide +kernel, by decide +kernel⟩ (by decide) sm_X8_around (by decide) (by decide) (by decide) rfl rfl (Nat.le_of_ble_eq_true rfl) (fun v n2 h2 q => ?_)
      obtain ⟨rfl, rfl, hh⟩ := q
      obtain rfl := hh.symm
      refine ⟨rfl, ?_⟩
      dsimp only [Option.toList, List.cons_append, List.nil_append]
      refine r_istore_n (lv2 := [(0, _), (1, _), (2, _), (3, _)]) dX4_moonAngle_37 rfl (by decide) rfl rfl ?_
      refine r_iload_n dX4_moonAngle_38 rfl rfl ?_
      refine r_callS [_] (s_J9_abs_0f7a4 (by omega)) dX4_moonAngle_39 cs_X4_58 sm_J9_abs_0f7a4 (by decide) (by decide) (by decide) rfl rfl (Nat.le_of_ble_eq_true rfl) (fun _ _ _ q => q.elim) (fun v n2 h2 q => ?_)
      obtain ⟨rfl, rfl, hh⟩ := q
      obtain rfl := hh.symm
      refine ⟨rfl, ?_⟩
      dsimp only [Option.toList, List.cons_append, List.nil_append]
      refine r_sipush dX4_moonAngle_42 rfl ?_
      refine r_icmp_le (tgt := 53) dX4_moonAngle_45 (by decide) ⟨by omega, by omega⟩ ⟨by omega, by omega⟩ (fun g45 => ?_) (fun g45 => ?_)
      · refine r_iload_n dX4_moonAngle_53 rfl rfl ?_
        refine r_iret dX4_moonAngle_54 ?_
        exact ⟨ivE (by unfold mangI; first | rw [if_pos (Or.inr (Or.inr (by omega)))] | rw [if_neg (by rw [g4]; simp; omega)]), rfl, rfl⟩
      · refine r_ldc dX4_moonAngle_48 kc_X4_83 ?_
        refine r_goto (tgt := 54) dX4_moonAngle_50 (by decide) ?_
        refine r_iret dX4_moonAngle_54 ?_
        exact ⟨ivE (by unfold mangI; first | rw [if_pos (Or.inr (Or.inr (by omega)))] | rw [if_neg (by rw [g4]; simp; omega)]), rfl, rfl⟩
    · first | rw [b2i_0] at g4 | skip
      refine r_ldc dX4_moonAngle_25 kc_X4_83 ?_
      refine r_iret dX4_moonAngle_27 ?_
      exact ⟨ivE (by unfold mangI; rw [if_pos (by first | exact Or.inl g4 | exact Or.inr (Or.inl (by omega)))]), rfl, rfl⟩

theorem ang_m {kind day m noon half : Int} {cl : Bool} (h : kind = 3) : angI kind day m noon half cl = mangI day m noon half := by unfold angI; rw [if_pos h]
theorem ang_p {kind day m noon half : Int} {cl : Bool} (h : kind = 5) : angI kind day m noon half cl = 0 := by unfold angI; rw [if_neg (by omega), if_pos h]
theorem ang_s {kind day m noon half : Int} {cl : Bool} (h : ¬ kind = 3) (h2 : ¬ kind = 5) : angI kind day m noon half cl = sunI kind (m - noon) half cl := by unfold angI; rw [if_neg h, if_neg h2]
theorem sun_B {k ang half : Int} {cl : Bool} (ha : -2000 ≤ ang ∧ ang ≤ 2000) : sunI k ang half cl = (-100000) ∨ (sunI k ang half cl = ang ∧ (ang.natAbs : Int) ≤ half) := by
  unfold sunI
  split
  · exact Or.inl rfl
  · exact Or.inr ⟨rfl, by omega⟩
theorem mang_B (day m noon half : Int) : mangI day m noon half = (-100000) ∨ ((mangI day m noon half).natAbs : Int) ≤ 360 := by
  unfold mangI
  split
  · exact Or.inl rfl
  · next h => exact Or.inr (by omega)
theorem bend_B {a t : Int} (ha : -600 ≤ a ∧ a ≤ 600) (ht : -50 ≤ t ∧ t ≤ 50) : (-90000 ≤ a * (100 + t) ∧ a * (100 + t) ≤ 90000) ∧ -900 ≤ (a * (100 + t)).tdiv 100 ∧ (a * (100 + t)).tdiv 100 ≤ 900 := by
  have h2 : -90000 ≤ a * (100 + t) ∧ a * (100 + t) ≤ 90000 := by
    have a1 := Int.mul_le_mul_of_nonneg_right ha.2 (show (0 : Int) ≤ 100 + t by omega)
    have a2 := Int.mul_le_mul_of_nonneg_right ha.1 (show (0 : Int) ≤ 100 + t by omega)
    omega
  refine ⟨h2, ?_⟩
  generalize a * (100 + t) = z at h2
  have a4 := Int.tmod_add_mul_tdiv z 100
  have a5 := tmod_bounds (a := z) (M := 100) (by decide)
  omega
theorem s_X4_plainlyTold {h : aH} {nd sw nc : Int} {K U I O G L cf ct fc nx cd : Nat → Int} (c6 : h 6 = .inr (4, [iv nd, iv sw, iv nc, .ref 7, .ref 8, .ref 9, .ref 10, .ref 11, .ref 12, .ref 13, .ref 14, .ref 15, .ref 16])) (c7 : h 7 = .inl (0, 9, K)) (c8 : h 8 = .inl (0, 9, U)) (c9 : h 9 = .inl (0, 9, I)) (c10 : h 10 = .inl (0, 9, O)) (c11 : h 11 = .inl (0, 9, G)) (c12 : h 12 = .inl (0, 12, L)) (c13 : h 13 = .inl (0, 20, cf)) (c14 : h 14 = .inl (0, 20, ct)) (c15 : h 15 = .inl (0, 365, fc)) (c16 : h 16 = .inl (0, 20, nx)) (pi : PInv nd sw nc K U I O G L cf ct fc nx cd) {di : Int} (hdi : 0 ≤ di ∧ di < 9) {day : Int} (hd : 0 ≤ day ∧ day < 365) {m : Int} (hm : 0 ≤ m ∧ m < 1440) {ti : Int} (hti : -50 ≤ ti ∧ ti ≤ 50) : mSem yX4_plainlyTold cX4_plainlyTold 8 (some .int) 4 0 0 [.ref 6, iv di, iv day, iv m, iv ti] 97 h (Ret (plainI (K di.toNat) ti (O di.toNat) (G di.toNat) day m (noonI L day) (halfI sw day) (cUp cd cf ct day m nc.toNat)) h) noX := by
  obtain ⟨pnd, psw, pnc, pK, pU, pI, pO, pG, pL, pcf, pct, pfc, pnx⟩ := id pi
  refine mSem_of (own := RX4) (name := "plainlyTold") pn_X4 rfl rfl (Nat.le_of_ble_eq_true rfl) ?_
  have bn := noon_B (L := L) (day := day) pL
  have bh := half_B psw hd
  have bK := pK di.toNat
  have bO := pO di.toNat
  have bg := b2i_01 (grownI (G di.toNat) (K di.toNat) day)
  have bt := b2i_01 (tiltI (K di.toNat))
  have bs := sun_B (k := K di.toNat) (ang := m - noonI L day) (half := halfI sw day) (cl := cUp cd cf ct day m nc.toNat) (by omega)
  have bm := mang_B day m (noonI L day) (halfI sw day)
  refine r_aload_n dX4_plainlyTold_0 rfl rfl ?_
  refine r_iload_n dX4_plainlyTold_1 rfl rfl ?_
  refine r_iload_n dX4_plainlyTold_2 rfl rfl ?_
  refine r_callV 6 [_, _] (s_X4_isGrown c6 c7 c8 c9 c10 c11 c12 c13 c14 c15 c16 pi (by omega) hd) dX4_plainlyTold_3 cs_X4_72 im_X4_isGrown (by decide) c6 rfl (by decide) (by decide) (by decide) rfl rfl (Nat.le_of_ble_eq_true rfl) (fun _ _ _ q => q.elim) (fun v n2 h2 q => ?_)
  obtain ⟨rfl, rfl, hh⟩ := q
  obtain rfl := hh.symm
  refine ⟨rfl, ?_⟩
  dsimp only [Option.toList, List.cons_append, List.nil_append]
  refine r_if_eq (tgt := 11) dX4_plainlyTold_6 (by decide) ⟨by omega, by omega⟩ (fun g6 => ?_) (fun g6 => ?_)
  · rw [b2i_0] at g6
    refine r_aload_n dX4_plainlyTold_11 rfl rfl ?_
    refine r_get (fs := [_, _, _, _, _, _, _, _, _, _, _, _, _]) dX4_plainlyTold_12 fl_X4_21 (by decide) c6 rfl ?_
    refine r_iload_n dX4_plainlyTold_15 rfl rfl ?_
    refine r_ald dX4_plainlyTold_16 (by decide) c7 (by omega) (by omega) (by decide) ?_
    refine r_istore (lv2 := [(0, _), (1, _), (2, _), (3, _), (4, _), (5, _)]) dX4_plainlyTold_17 (by decide) rfl rfl ?_
    refine r_iconst dX4_plainlyTold_19 ?_
    refine r_istore (lv2 := [(0, _), (1, _), (2, _), (3, _), (4, _), (5, _), (6, _)]) dX4_plainlyTold_20 (by decide) rfl rfl ?_
    refine r_iload dX4_plainlyTold_22 rfl ?_
    refine r_iconst dX4_plainlyTold_24 ?_
    refine r_icmp_ne (tgt := 39) dX4_plainlyTold_25 (by decide) ⟨by omega, by omega⟩ ⟨by omega, by omega⟩ (fun g25 => ?_) (fun g25 => ?_)
    · refine r_iload dX4_plainlyTold_39 rfl ?_
      refine r_iconst dX4_plainlyTold_41 ?_
      refine r_icmp_eq (tgt := 55) dX4_plainlyTold_42 (by decide) ⟨by omega, by omega⟩ ⟨by omega, by omega⟩ (fun g42 => ?_) (fun g42 => ?_)
      · first | have ea := ang_m (day := day) (m := m) (noon := noonI L day) (half := halfI sw day) (cl := cUp cd cf ct day m nc.toNat) g25 | have ea := ang_p (day := day) (m := m) (noon := noonI L day) (half := halfI sw day) (cl := cUp cd cf ct day m nc.toNat) g42 | have ea := ang_s (day := day) (m := m) (noon := noonI L day) (half := halfI sw day) (cl := cUp cd cf ct day m nc.toNat) g25 g42
        refine r_iload dX4_plainlyTold_55 rfl ?_
        refine r_ldc dX4_plainlyTold_57 kc_X4_83 ?_
        refine r_icmp_ne (tgt := 64) dX4_plainlyTold_59 (by decide) ⟨by omega, by omega⟩ ⟨by omega, by omega⟩ (fun g59 => ?_) (fun g59 => ?_)
        · refine r_iload dX4_plainlyTold_64 rfl ?_
          refine r_callS [_] (s_X4_hasTilt (by omega)) dX4_plainlyTold_66 cs_X4_84 sm_X4_hasTilt (by decide) (by decide) (by decide) rfl rfl (Nat.le_of_ble_eq_true rfl) (fun _ _ _ q => q.elim) (fun v n2 h2 q => ?_)
          obtain ⟨rfl, rfl, hh⟩ := q
          obtain rfl := hh.symm
          refine ⟨rfl, ?_⟩
          dsimp only [Option.toList, List.cons_append, List.nil_append]
          refine r_if_eq (tgt := 86) dX4_plainlyTold_69 (by decide) ⟨by omega, by omega⟩ (fun g69 => ?_) (fun g69 => ?_)
          · rw [b2i_0] at g69
            refine r_iload dX4_plainlyTold_86 rfl ?_
            refine r_istore (lv2 := [(0, _), (1, _), (2, _), (3, _), (4, _), (5, _), (6, _), (7, _)]) dX4_plainlyTold_88 (by decide) rfl rfl ?_
            refine r_sipush dX4_plainlyTold_90 rfl ?_
            refine r_iload dX4_plainlyTold_93 rfl ?_
            refine r_iadd dX4_plainlyTold_95 ?_
            refine r_aload_n dX4_plainlyTold_96 rfl rfl ?_
            refine r_get (fs := [_, _, _, _, _, _, _, _, _, _, _, _, _]) dX4_plainlyTold_97 fl_X4_31 (by decide) c6 rfl ?_
            refine r_iload_n dX4_plainlyTold_100 rfl rfl ?_
            refine r_ald dX4_plainlyTold_101 (by decide) c10 (by omega) (by omega) (by decide) ?_
            refine r_iadd dX4_plainlyTold_102 ?_
            refine r_sipush dX4_plainlyTold_103 rfl ?_
            refine r_callS [_, _] (s_J9_floorMod_7cf53 ⟨by omega, by omega⟩ (by omega)) dX4_plainlyTold_106 cs_X4_68 sm_J9_floorMod_7cf53 (by decide) (by decide) (by decide) rfl rfl (Nat.le_of_ble_eq_true rfl) (fun _ _ _ q => q.elim) (fun v n2 h2 q => ?_)
            obtain ⟨rfl, rfl, hh⟩ := q
            obtain rfl := hh.symm
            refine ⟨rfl, ?_⟩
            dsimp only [Option.toList, List.cons_append, List.nil_append]
            refine r_iret dX4_plainlyTold_109 ?_
            exact ⟨ivE (by unfold plainI; rw [if_neg (by rw [g6]; decide), ea, if_neg g59, g69]; rfl), rfl, rfl⟩
          · rw [b2i_0, Bool.not_eq_false] at g69
            first | have bb := bend_B (a := mangI day m (noonI L day) (halfI sw day)) (t := ti) (by omega) hti | have bb := bend_B (a := sunI (K di.toNat) (m - noonI L day) (halfI sw day) (cUp cd cf ct day m nc.toNat)) (t := ti) (by omega) hti | have bb := bend_B (a := 0) (t := ti) (by omega) hti
            refine r_iload dX4_plainlyTold_72 rfl ?_
            refine r_bipush dX4_plainlyTold_74 rfl ?_
            refine r_iload dX4_plainlyTold_76 rfl ?_
            refine r_iadd dX4_plainlyTold_78 ?_
            refine r_imul dX4_plainlyTold_79 ?_
            refine r_bipush dX4_plainlyTold_80 rfl ?_
            refine r_idiv dX4_plainlyTold_82 ⟨by omega, by omega⟩ ⟨by omega, by omega⟩ (by omega) ⟨by omega, by omega⟩ ?_
            refine r_goto (tgt := 88) dX4_plainlyTold_83 (by decide) ?_
            refine r_istore (lv2 := [(0, _), (1, _), (2, _), (3, _), (4, _), (5, _), (6, _), (7, _)]) dX4_plainlyTold_88 (by decide) rfl rfl ?_
            refine r_sipush dX4_plainlyTold_90 rfl ?_
            refine r_iload dX4_plainlyTold_93 rfl ?_
            refine r_iadd dX4_plainlyTold_95 ?_
            refine r_aload_n dX4_plainlyTold_96 rfl rfl ?_
            refine r_get (fs := [_, _, _, _, _, _, _, _, _, _, _, _, _]) dX4_plainlyTold_97 fl_X4_31 (by decide) c6 rfl ?_
            refine r_iload_n dX4_plainlyTold_100 rfl rfl ?_
            refine r_ald dX4_plainlyTold_101 (by decide) c10 (by omega) (by omega) (by decide) ?_
            refine r_iadd dX4_plainlyTold_102 ?_
            refine r_sipush dX4_plainlyTold_103 rfl ?_
            refine r_callS [_, _] (s_J9_floorMod_7cf53 ⟨by omega, by omega⟩ (by omega)) dX4_plainlyTold_106 cs_X4_68 sm_J9_floorMod_7cf53 (by decide) (by decide) (by decide) rfl rfl (Nat.le_of_ble_eq_true rfl) (fun _ _ _ q => q.elim) (fun v n2 h2 q => ?_)
            obtain ⟨rfl, rfl, hh⟩ := q
            obtain rfl := hh.symm
            refine ⟨rfl, ?_⟩
            dsimp only [Option.toList, List.cons_append, List.nil_append]
            refine r_iret dX4_plainlyTold_109 ?_
            exact ⟨ivE (by unfold plainI; rw [if_neg (by rw [g6]; decide), ea, if_neg g59, g69]; rfl), rfl, rfl⟩
        · refine r_iconst dX4_plainlyTold_62 ?_
          refine r_iret dX4_plainlyTold_63 ?_
          exact ⟨ivE (by unfold plainI; rw [if_neg (by rw [g6]; decide), ea, if_pos g59]), rfl, rfl⟩
      · refine r_aload_n dX4_plainlyTold_45 rfl rfl ?_
        refine r_iload dX4_plainlyTold_46 rfl ?_
        refine r_iload_n dX4_plainlyTold_48 rfl rfl ?_
        refine r_iload_n dX4_plainlyTold_49 rfl rfl ?_
        refine r_callV 6 [_, _, _] (s_X4_sunAngle c6 c7 c8 c9 c10 c11 c12 c13 c14 c15 c16 pi (by omega) hd hm) dX4_plainlyTold_50 cs_X4_79 im_X4_sunAngle (by decide) c6 rfl (by decide) (by decide) (by decide) rfl rfl (Nat.le_of_ble_eq_true rfl) (fun _ _ _ q => q.elim) (fun v n2 h2 q => ?_)
        obtain ⟨rfl, rfl, hh⟩ := q
        obtain rfl := hh.symm
        refine ⟨rfl, ?_⟩
        dsimp only [Option.toList, List.cons_append, List.nil_append]
        refine r_istore (lv2 := [(0, _), (1, _), (2, _), (3, _), (4, _), (5, _), (6, _)]) dX4_plainlyTold_53 (by decide) rfl rfl ?_
        first | have ea := ang_m (day := day) (m := m) (noon := noonI L day) (half := halfI sw day) (cl := cUp cd cf ct day m nc.toNat) g25 | have ea := ang_p (day := day) (m := m) (noon := noonI L day) (half := halfI sw day) (cl := cUp cd cf ct day m nc.toNat) g42 | have ea := ang_s (day := day) (m := m) (noon := noonI L day) (half := halfI sw day) (cl := cUp cd cf ct day m nc.toNat) g25 g42
        refine r_iload dX4_plainlyTold_55 rfl ?_
        refine r_ldc dX4_plainlyTold_57 kc_X4_83 ?_
        refine r_icmp_ne (tgt := 64) dX4_plainlyTold_59 (by decide) ⟨by omega, by omega⟩ ⟨by omega, by omega⟩ (fun g59 => ?_) (fun g59 => ?_)
        · refine r_iload dX4_plainlyTold_64 rfl ?_
          refine r_callS [_] (s_X4_hasTilt (by omega)) dX4_plainlyTold_66 cs_X4_84 sm_X4_hasTilt (by decide) (by decide) (by decide) rfl rfl (Nat.le_of_ble_eq_true rfl) (fun _ _ _ q => q.elim) (fun v n2 h2 q => ?_)
          obtain ⟨rfl, rfl, hh⟩ := q
          obtain rfl := hh.symm
          refine ⟨rfl, ?_⟩
          dsimp only [Option.toList, List.cons_append, List.nil_append]
          refine r_if_eq (tgt := 86) dX4_plainlyTold_69 (by decide) ⟨by omega, by omega⟩ (fun g69 => ?_) (fun g69 => ?_)
          · rw [b2i_0] at g69
            refine r_iload dX4_plainlyTold_86 rfl ?_
            refine r_istore (lv2 := [(0, _), (1, _), (2, _), (3, _), (4, _), (5, _), (6, _), (7, _)]) dX4_plainlyTold_88 (by decide) rfl rfl ?_
            refine r_sipush dX4_plainlyTold_90 rfl ?_
            refine r_iload dX4_plainlyTold_93 rfl ?_
            refine r_iadd dX4_plainlyTold_95 ?_
            refine r_aload_n dX4_plainlyTold_96 rfl rfl ?_
            refine r_get (fs := [_, _, _, _, _, _, _, _, _, _, _, _, _]) dX4_plainlyTold_97 fl_X4_31 (by decide) c6 rfl ?_
            refine r_iload_n dX4_plainlyTold_100 rfl rfl ?_
            refine r_ald dX4_plainlyTold_101 (by decide) c10 (by omega) (by omega) (by decide) ?_
            refine r_iadd dX4_plainlyTold_102 ?_
            refine r_sipush dX4_plainlyTold_103 rfl ?_
            refine r_callS [_, _] (s_J9_floorMod_7cf53 ⟨by omega, by omega⟩ (by omega)) dX4_plainlyTold_106 cs_X4_68 sm_J9_floorMod_7cf53 (by decide) (by decide) (by decide) rfl rfl (Nat.le_of_ble_eq_true rfl) (fun _ _ _ q => q.elim) (fun v n2 h2 q => ?_)
            obtain ⟨rfl, rfl, hh⟩ := q
            obtain rfl := hh.symm
            refine ⟨rfl, ?_⟩
            dsimp only [Option.toList, List.cons_append, List.nil_append]
            refine r_iret dX4_plainlyTold_109 ?_
            exact ⟨ivE (by unfold plainI; rw [if_neg (by rw [g6]; decide), ea, if_neg g59, g69]; rfl), rfl, rfl⟩
          · rw [b2i_0, Bool.not_eq_false] at g69
            first | have bb := bend_B (a := mangI day m (noonI L day) (halfI sw day)) (t := ti) (by omega) hti | have bb := bend_B (a := sunI (K di.toNat) (m - noonI L day) (halfI sw day) (cUp cd cf ct day m nc.toNat)) (t := ti) (by omega) hti | have bb := bend_B (a := 0) (t := ti) (by omega) hti
            refine r_iload dX4_plainlyTold_72 rfl ?_
            refine r_bipush dX4_plainlyTold_74 rfl ?_
            refine r_iload dX4_plainlyTold_76 rfl ?_
            refine r_iadd dX4_plainlyTold_78 ?_
            refine r_imul dX4_plainlyTold_79 ?_
            refine r_bipush dX4_plainlyTold_80 rfl ?_
            refine r_idiv dX4_plainlyTold_82 ⟨by omega, by omega⟩ ⟨by omega, by omega⟩ (by omega) ⟨by omega, by omega⟩ ?_
            refine r_goto (tgt := 88) dX4_plainlyTold_83 (by decide) ?_
            refine r_istore (lv2 := [(0, _), (1, _), (2, _), (3, _), (4, _), (5, _), (6, _), (7, _)]) dX4_plainlyTold_88 (by decide) rfl rfl ?_
            refine r_sipush dX4_plainlyTold_90 rfl ?_
            refine r_iload dX4_plainlyTold_93 rfl ?_
            refine r_iadd dX4_plainlyTold_95 ?_
            refine r_aload_n dX4_plainlyTold_96 rfl rfl ?_
            refine r_get (fs := [_, _, _, _, _, _, _, _, _, _, _, _, _]) dX4_plainlyTold_97 fl_X4_31 (by decide) c6 rfl ?_
            refine r_iload_n dX4_plainlyTold_100 rfl rfl ?_
            refine r_ald dX4_plainlyTold_101 (by decide) c10 (by omega) (by omega) (by decide) ?_
            refine r_iadd dX4_plainlyTold_102 ?_
            refine r_sipush dX4_plainlyTold_103 rfl ?_
            refine r_callS [_, _] (s_J9_floorMod_7cf53 ⟨by omega, by omega⟩ (by omega)) dX4_plainlyTold_106 cs_X4_68 sm_J9_floorMod_7cf53 (by decide) (by decide) (by decide) rfl rfl (Nat.le_of_ble_eq_true rfl) (fun _ _ _ q => q.elim) (fun v n2 h2 q => ?_)
            obtain ⟨rfl, rfl, hh⟩ := q
            obtain rfl := hh.symm
            refine ⟨rfl, ?_⟩
            dsimp only [Option.toList, List.cons_append, List.nil_append]
            refine r_iret dX4_plainlyTold_109 ?_
            exact ⟨ivE (by unfold plainI; rw [if_neg (by rw [g6]; decide), ea, if_neg g59, g69]; rfl), rfl, rfl⟩
        · refine r_iconst dX4_plainlyTold_62 ?_
          refine r_iret dX4_plainlyTold_63 ?_
          exact ⟨ivE (by unfold plainI; rw [if_neg (by rw [g6]; decide), ea, if_pos g59]), rfl, rfl⟩
    · refine r_aload_n dX4_plainlyTold_28 rfl rfl ?_
      refine r_iload_n dX4_plainlyTold_29 rfl rfl ?_
      refine r_iload_n dX4_plainlyTold_30 rfl rfl ?_
      refine r_callV 6 [_, _] (s_X4_moonAngle c6 c7 c8 c9 c10 c11 c12 c13 c14 c15 c16 pi hd hm) dX4_plainlyTold_31 cs_X4_76 im_X4_moonAngle (by decide) c6 rfl (by decide) (by decide) (by decide) rfl rfl (Nat.le_of_ble_eq_true rfl) (fun _ _ _ q => q.elim) (fun v n2 h2 q => ?_)
      obtain ⟨rfl, rfl, hh⟩ := q
      obtain rfl := hh.symm
      refine ⟨rfl, ?_⟩
      dsimp only [Option.toList, List.cons_append, List.nil_append]
      refine r_istore (lv2 := [(0, _), (1, _), (2, _), (3, _), (4, _), (5, _), (6, _)]) dX4_plainlyTold_34 (by decide) rfl rfl ?_
      refine r_goto (tgt := 55) dX4_plainlyTold_36 (by decide) ?_
      first | have ea := ang_m (day := day) (m := m) (noon := noonI L day) (half := halfI sw day) (cl := cUp cd cf ct day m nc.toNat) g25 | have ea := ang_p (day := day) (m := m) (noon := noonI L day) (half := halfI sw day) (cl := cUp cd cf ct day m nc.toNat) g42 | have ea := ang_s (day := day) (m := m) (noon := noonI L day) (half := halfI sw day) (cl := cUp cd cf ct day m nc.toNat) g25 g42
      refine r_iload dX4_plainlyTold_55 rfl ?_
      refine r_ldc dX4_plainlyTold_57 kc_X4_83 ?_
      refine r_icmp_ne (tgt := 64) dX4_plainlyTold_59 (by decide) ⟨by omega, by omega⟩ ⟨by omega, by omega⟩ (fun g59 => ?_) (fun g59 => ?_)
      · refine r_iload dX4_plainlyTold_64 rfl ?_
        refine r_callS [_] (s_X4_hasTilt (by omega)) dX4_plainlyTold_66 cs_X4_84 sm_X4_hasTilt (by decide) (by decide) (by decide) rfl rfl (Nat.le_of_ble_eq_true rfl) (fun _ _ _ q => q.elim) (fun v n2 h2 q => ?_)
        obtain ⟨rfl, rfl, hh⟩ := q
        obtain rfl := hh.symm
        refine ⟨rfl, ?_⟩
        dsimp only [Option.toList, List.cons_append, List.nil_append]
        refine r_if_eq (tgt := 86) dX4_plainlyTold_69 (by decide) ⟨by omega, by omega⟩ (fun g69 => ?_) (fun g69 => ?_)
        · rw [b2i_0] at g69
          refine r_iload dX4_plainlyTold_86 rfl ?_
          refine r_istore (lv2 := [(0, _), (1, _), (2, _), (3, _), (4, _), (5, _), (6, _), (7, _)]) dX4_plainlyTold_88 (by decide) rfl rfl ?_
          refine r_sipush dX4_plainlyTold_90 rfl ?_
          refine r_iload dX4_plainlyTold_93 rfl ?_
          refine r_iadd dX4_plainlyTold_95 ?_
          refine r_aload_n dX4_plainlyTold_96 rfl rfl ?_
          refine r_get (fs := [_, _, _, _, _, _, _, _, _, _, _, _, _]) dX4_plainlyTold_97 fl_X4_31 (by decide) c6 rfl ?_
          refine r_iload_n dX4_plainlyTold_100 rfl rfl ?_
          refine r_ald dX4_plainlyTold_101 (by decide) c10 (by omega) (by omega) (by decide) ?_
          refine r_iadd dX4_plainlyTold_102 ?_
          refine r_sipush dX4_plainlyTold_103 rfl ?_
          refine r_callS [_, _] (s_J9_floorMod_7cf53 ⟨by omega, by omega⟩ (by omega)) dX4_plainlyTold_106 cs_X4_68 sm_J9_floorMod_7cf53 (by decide) (by decide) (by decide) rfl rfl (Nat.le_of_ble_eq_true rfl) (fun _ _ _ q => q.elim) (fun v n2 h2 q => ?_)
          obtain ⟨rfl, rfl, hh⟩ := q
          obtain rfl := hh.symm
          refine ⟨rfl, ?_⟩
          dsimp only [Option.toList, List.cons_append, List.nil_append]
          refine r_iret dX4_plainlyTold_109 ?_
          exact ⟨ivE (by unfold plainI; rw [if_neg (by rw [g6]; decide), ea, if_neg g59, g69]; rfl), rfl, rfl⟩
        · rw [b2i_0, Bool.not_eq_false] at g69
          first | have bb := bend_B (a := mangI day m (noonI L day) (halfI sw day)) (t := ti) (by omega) hti | have bb := bend_B (a := sunI (K di.toNat) (m - noonI L day) (halfI sw day) (cUp cd cf ct day m nc.toNat)) (t := ti) (by omega) hti | have bb := bend_B (a := 0) (t := ti) (by omega) hti
          refine r_iload dX4_plainlyTold_72 rfl ?_
          refine r_bipush dX4_plainlyTold_74 rfl ?_
          refine r_iload dX4_plainlyTold_76 rfl ?_
          refine r_iadd dX4_plainlyTold_78 ?_
          refine r_imul dX4_plainlyTold_79 ?_
          refine r_bipush dX4_plainlyTold_80 rfl ?_
          refine r_idiv dX4_plainlyTold_82 ⟨by omega, by omega⟩ ⟨by omega, by omega⟩ (by omega) ⟨by omega, by omega⟩ ?_
          refine r_goto (tgt := 88) dX4_plainlyTold_83 (by decide) ?_
          refine r_istore (lv2 := [(0, _), (1, _), (2, _), (3, _), (4, _), (5, _), (6, _), (7, _)]) dX4_plainlyTold_88 (by decide) rfl rfl ?_
          refine r_sipush dX4_plainlyTold_90 rfl ?_
          refine r_iload dX4_plainlyTold_93 rfl ?_
          refine r_iadd dX4_plainlyTold_95 ?_
          refine r_aload_n dX4_plainlyTold_96 rfl rfl ?_
          refine r_get (fs := [_, _, _, _, _, _, _, _, _, _, _, _, _]) dX4_plainlyTold_97 fl_X4_31 (by decide) c6 rfl ?_
          refine r_iload_n dX4_plainlyTold_100 rfl rfl ?_
          refine r_ald dX4_plainlyTold_101 (by decide) c10 (by omega) (by omega) (by decide) ?_
          refine r_iadd dX4_plainlyTold_102 ?_
          refine r_sipush dX4_plainlyTold_103 rfl ?_
          refine r_callS [_, _] (s_J9_floorMod_7cf53 ⟨by omega, by omega⟩ (by omega)) dX4_plainlyTold_106 cs_X4_68 sm_J9_floorMod_7cf53 (by decide) (by decide) (by decide) rfl rfl (Nat.le_of_ble_eq_true rfl) (fun _ _ _ q => q.elim) (fun v n2 h2 q => ?_)
          obtain ⟨rfl, rfl, hh⟩ := q
          obtain rfl := hh.symm
          refine ⟨rfl, ?_⟩
          dsimp only [Option.toList, List.cons_append, List.nil_append]
          refine r_iret dX4_plainlyTold_109 ?_
          exact ⟨ivE (by unfold plainI; rw [if_neg (by rw [g6]; decide), ea, if_neg g59, g69]; rfl), rfl, rfl⟩
      · refine r_iconst dX4_plainlyTold_62 ?_
        refine r_iret dX4_plainlyTold_63 ?_
        exact ⟨ivE (by unfold plainI; rw [if_neg (by rw [g6]; decide), ea, if_pos g59]), rfl, rfl⟩
  · rw [b2i_0, Bool.not_eq_false] at g6
    refine r_iconst dX4_plainlyTold_9 ?_
    refine r_iret dX4_plainlyTold_10 ?_
    exact ⟨ivE (by unfold plainI; rw [if_pos g6]), rfl, rfl⟩

theorem s_X4_toldBy {h : aH} {nd sw nc : Int} {K U I O G L cf ct fc nx cd : Nat → Int} (c6 : h 6 = .inr (4, [iv nd, iv sw, iv nc, .ref 7, .ref 8, .ref 9, .ref 10, .ref 11, .ref 12, .ref 13, .ref 14, .ref 15, .ref 16])) (c7 : h 7 = .inl (0, 9, K)) (c8 : h 8 = .inl (0, 9, U)) (c9 : h 9 = .inl (0, 9, I)) (c10 : h 10 = .inl (0, 9, O)) (c11 : h 11 = .inl (0, 9, G)) (c12 : h 12 = .inl (0, 12, L)) (c13 : h 13 = .inl (0, 20, cf)) (c14 : h 14 = .inl (0, 20, ct)) (c15 : h 15 = .inl (0, 365, fc)) (c16 : h 16 = .inl (0, 20, nx)) (pi : PInv nd sw nc K U I O G L cf ct fc nx cd) {di : Int} (hdi : 0 ≤ di ∧ di < 9) {day : Int} (hd : 0 ≤ day ∧ day < 365) {m : Int} (hm : 0 ≤ m ∧ m < 1440) {tu ti : Int} (htu : -200 ≤ tu ∧ tu ≤ 200) (hti : -50 ≤ ti ∧ ti ≤ 50) : mSem yX4_toldBy cX4_toldBy 8 (some .int) 5 0 0 [.ref 6, iv di, iv day, iv m, iv tu, iv ti] 97 h (Ret (toldI (K di.toNat) tu ti (O di.toNat) (G di.toNat) day m (noonI L day) (halfI sw day) (cUp cd cf ct day m nc.toNat)) h) noX := by
  obtain ⟨pnd, psw, pnc, pK, pU, pI, pO, pG, pL, pcf, pct, pfc, pnx⟩ := id pi
  refine mSem_of (own := RX4) (name := "toldBy") pn_X4 rfl rfl (Nat.le_of_ble_eq_true rfl) ?_
  have bK := pK di.toNat
  have bp := plain_B (K di.toNat) ti (O di.toNat) (G di.toNat) day m (noonI L day) (halfI sw day) (cUp cd cf ct day m nc.toNat)
  refine r_aload_n dX4_toldBy_0 rfl rfl ?_
  refine r_iload_n dX4_toldBy_1 rfl rfl ?_
  refine r_iload_n dX4_toldBy_2 rfl rfl ?_
  refine r_iload_n dX4_toldBy_3 rfl rfl ?_
  refine r_iload dX4_toldBy_4 rfl ?_
  refine r_callV 6 [_, _, _, _] (s_X4_plainlyTold c6 c7 c8 c9 c10 c11 c12 c13 c14 c15 c16 pi (by omega) hd hm hti) dX4_toldBy_6 cs_X4_64 im_X4_plainlyTold (by decide) c6 rfl (by decide) (by decide) (by decide) rfl rfl (Nat.le_of_ble_eq_true rfl) (fun _ _ _ q => q.elim) (fun v n2 h2 q => ?_)
  obtain ⟨rfl, rfl, hh⟩ := q
  obtain rfl := hh.symm
  refine ⟨rfl, ?_⟩
  dsimp only [Option.toList, List.cons_append, List.nil_append]
  refine r_istore (lv2 := [(0, _), (1, _), (2, _), (3, _), (4, _), (5, _), (6, _)]) dX4_toldBy_9 (by decide) rfl rfl ?_
  refine r_iload dX4_toldBy_11 rfl ?_
  refine r_iconst dX4_toldBy_13 ?_
  refine r_icmp_ne (tgt := 19) dX4_toldBy_14 (by decide) ⟨by omega, by omega⟩ ⟨by omega, by omega⟩ (fun g14 => ?_) (fun g14 => ?_)
  · refine r_iload dX4_toldBy_19 rfl ?_
    refine r_iload dX4_toldBy_21 rfl ?_
    refine r_iadd dX4_toldBy_23 ?_
    refine r_sipush dX4_toldBy_24 rfl ?_
    refine r_callS [_, _] (s_J9_floorMod_7cf53 ⟨by omega, by omega⟩ (by omega)) dX4_toldBy_27 cs_X4_68 sm_J9_floorMod_7cf53 (by decide) (by decide) (by decide) rfl rfl (Nat.le_of_ble_eq_true rfl) (fun _ _ _ q => q.elim) (fun v n2 h2 q => ?_)
    obtain ⟨rfl, rfl, hh⟩ := q
    obtain rfl := hh.symm
    refine ⟨rfl, ?_⟩
    dsimp only [Option.toList, List.cons_append, List.nil_append]
    refine r_istore (lv2 := [(0, _), (1, _), (2, _), (3, _), (4, _), (5, _), (6, _), (7, _)]) dX4_toldBy_30 (by decide) rfl rfl ?_
    refine r_aload_n dX4_toldBy_32 rfl rfl ?_
    refine r_get (fs := [_, _, _, _, _, _, _, _, _, _, _, _, _]) dX4_toldBy_33 fl_X4_21 (by decide) c6 rfl ?_
    refine r_iload_n dX4_toldBy_36 rfl rfl ?_
    refine r_ald dX4_toldBy_37 (by decide) c7 (by omega) (by omega) (by decide) ?_
    refine r_iconst dX4_toldBy_38 ?_
    refine r_icmp_ne (tgt := 54) dX4_toldBy_39 (by decide) ⟨by omega, by omega⟩ ⟨by omega, by omega⟩ (fun g39 => ?_) (fun g39 => ?_)
    · refine r_iload dX4_toldBy_54 rfl ?_
      refine r_iret dX4_toldBy_56 ?_
      exact ⟨ivE (by unfold toldI; rw [if_neg g14]; first | rw [if_pos (by omega)] | rw [if_neg (by omega)]), rfl, rfl⟩
    · refine r_iload dX4_toldBy_42 rfl ?_
      refine r_sipush dX4_toldBy_44 rfl ?_
      refine r_icmp_eq (tgt := 54) dX4_toldBy_47 (by decide) ⟨by omega, by omega⟩ ⟨by omega, by omega⟩ (fun g47 => ?_) (fun g47 => ?_)
      · refine r_iload dX4_toldBy_54 rfl ?_
        refine r_iret dX4_toldBy_56 ?_
        exact ⟨ivE (by unfold toldI; rw [if_neg g14]; first | rw [if_pos (by omega)] | rw [if_neg (by omega)]), rfl, rfl⟩
      · refine r_iconst dX4_toldBy_50 ?_
        refine r_goto (tgt := 56) dX4_toldBy_51 (by decide) ?_
        refine r_iret dX4_toldBy_56 ?_
        exact ⟨ivE (by unfold toldI; rw [if_neg g14]; first | rw [if_pos (by omega)] | rw [if_neg (by omega)]), rfl, rfl⟩
  · refine r_iconst dX4_toldBy_17 ?_
    refine r_iret dX4_toldBy_18 ?_
    exact ⟨ivE (by unfold toldI; rw [if_pos g14]), rfl, rfl⟩
