/-! ===== the reference: what a dial tells ===== -/
abbrev UT (h : aH) (g : Nat → Int) (w : Int) (lt lgt : Nat → Int) : aH := va_up (va_up (va_up h 68 (RG g w)) 77 (.inl (2, 1440, lt))) 78 (.inl (2, 1440, lgt))
theorem ut_ut (h : aH) (g g2 : Nat → Int) (w w2 : Int) (lt lt2 lgt lgt2 : Nat → Int) : UT (UT h g w lt lgt) g2 w2 lt2 lgt2 = UT h g2 w2 lt2 lgt2 := by
  funext j
  unfold UT va_up
  by_cases q1 : j = 78
  · simp [q1]
  · by_cases q2 : j = 77
    · simp [q2]
    · by_cases q3 : j = 68
      · simp [q3]
      · simp [q1, q2, q3]
theorem ut_self {h : aH} {g : Nat → Int} {w : Int} {lt lgt : Nat → Int} (c68 : h 68 = RG g w) (c77 : h 77 = .inl (2, 1440, lt)) (c78 : h 78 = .inl (2, 1440, lgt)) : h = UT h g w lt lgt := by
  funext j
  unfold UT va_up
  by_cases q1 : j = 78
  · rw [if_pos q1, q1, c78]
  · rw [if_neg q1]
    by_cases q2 : j = 77
    · rw [if_pos q2, q2, c77]
    · rw [if_neg q2]
      by_cases q3 : j = 68
      · rw [if_pos q3, q3, c68]
      · rw [if_neg q3]
def RightQ (b : Bool) (c : Int) (h : aH) (g : Nat → Int) (w : Int) : Option Value → Nat → aH → Prop := fun v n' h' => n' = 97 ∧ ((b = true ∧ v = some (iv 1) ∧ h' = h) ∨ (b = false ∧ v = some (iv 0) ∧ h' = va_up h 68 (RG (va_up g 0 c) w)))
def DlR (nd : Int) (dl K U I O G : Nat → Int) : Prop := ∀ j : Nat, (j : Int) < nd → dl (5 * j) = K j ∧ dl (5 * j + 1) = U j ∧ dl (5 * j + 2) = I j ∧ dl (5 * j + 3) = O j ∧ dl (5 * j + 4) = G j
def ClR (nc : Int) (cl cd cf ct : Nat → Int) : Prop := ∀ j : Nat, (j : Int) < nc → cl (3 * j) = cd j ∧ cl (3 * j + 1) = cf j ∧ cl (3 * j + 2) = ct j ∧ 0 ≤ cd j ∧ cd j < 365
def LmR (lm L : Nat → Int) : Prop := ∀ j, j < 12 → lm j = L j
def MdR (nm : Int) (mn md my mt : Nat → Int) : Prop := ∀ j : Nat, (j : Int) < nm → mn (3 * j) = md j ∧ mn (3 * j + 1) = my j ∧ mn (3 * j + 2) = mt j
def lgB (sw : Int) (L : Nat → Int) (day : Int) (j : Nat) : Bool := decide ((((j : Int) - noonI L day).natAbs : Int) ≤ halfI sw day)
def LitR (d : Int) (lt lgt : Nat → Int) (sw nc : Int) (L cf ct cd : Nat → Int) : Prop := d = -1 ∨ ((0 ≤ d ∧ d < 365) ∧ ∀ j : Nat, j < 1440 → lgt j = b2i (lgB sw L d j) ∧ lt j = b2i (lgB sw L d j && !cUp cd cf ct d j nc.toNat))
def TellR (g dl cl lm mn : Nat → Int) (nd sw nc nm : Int) (K U I O G L cf ct cd md my mt : Nat → Int) : Prop := g 1 = nd ∧ g 2 = nc ∧ g 3 = sw ∧ g 31 = nm ∧ (0 ≤ nm ∧ nm ≤ 40) ∧ DlR nd dl K U I O G ∧ ClR nc cl cd cf ct ∧ LmR lm L ∧ MdR nm mn md my mt ∧ (∀ j, -120 ≤ mt j ∧ mt j ≤ 120) ∧ (∀ j, 0 ≤ md j ∧ md j < 9) ∧ ∀ j, 0 ≤ my j ∧ my j < 365

theorem s_X9_thrown {h : aH} {g : Nat → Int} {w : Int} (c68 : h 68 = RG g w)  : mSem yX9_thrown cX9_thrown 1 (some .int) 0 0 0 [.ref 68] 97 h (Ret (g 0) h) noX := by
  refine mSem_of (own := RX9) (name := "thrown") pn_X9 rfl rfl (Nat.le_of_ble_eq_true rfl) ?_
  refine r_aload_n dX9_thrown_0 rfl rfl ?_
  refine r_getR (z := (g 0)) dX9_thrown_1 fl_X9_102 (by decide) c68 rfl ?_
  refine r_iret dX9_thrown_4 ?_
  exact ⟨rfl, rfl, rfl⟩

theorem s_X9_within {h : aH} {a b c : Int} (ia : inR a) (ib : inR b) (ic : inR c) : mSem yX9_within cX9_within 3 (some .boolean) 0 0 0 [iv a, iv b, iv c] 97 h (Ret (b2i (decide (b ≤ a ∧ a ≤ c))) h) noX := by
  unfold inR at ia ib ic
  refine mSem_of (own := RX9) (name := "within") pn_X9 rfl rfl (Nat.le_of_ble_eq_true rfl) ?_
  refine r_iload_n dX9_within_0 rfl rfl ?_
  refine r_iload_n dX9_within_1 rfl rfl ?_
  refine r_icmp_lt (tgt := 14) dX9_within_2 (by decide) ⟨by omega, by omega⟩ ⟨by omega, by omega⟩ (fun g2 => ?_) (fun g2 => ?_)
  · refine r_iconst dX9_within_14 ?_
    refine r_zret dX9_within_15 (nar_z (by omega)) ?_
    exact ⟨ivE (by simp only [b2i, decide_eq_true_eq]; first | rw [if_pos (by omega)] | rw [if_neg (by omega)]), rfl, rfl⟩
  · refine r_iload_n dX9_within_5 rfl rfl ?_
    refine r_iload_n dX9_within_6 rfl rfl ?_
    refine r_icmp_gt (tgt := 14) dX9_within_7 (by decide) ⟨by omega, by omega⟩ ⟨by omega, by omega⟩ (fun g7 => ?_) (fun g7 => ?_)
    · refine r_iconst dX9_within_14 ?_
      refine r_zret dX9_within_15 (nar_z (by omega)) ?_
      exact ⟨ivE (by simp only [b2i, decide_eq_true_eq]; first | rw [if_pos (by omega)] | rw [if_neg (by omega)]), rfl, rfl⟩
    · refine r_iconst dX9_within_10 ?_
      refine r_goto (tgt := 15) dX9_within_11 (by decide) ?_
      refine r_zret dX9_within_15 (nar_z (by omega)) ?_
      exact ⟨ivE (by simp only [b2i, decide_eq_true_eq]; first | rw [if_pos (by omega)] | rw [if_neg (by omega)]), rfl, rfl⟩

theorem s_X9_off {h : aH} {a b : Int} (ha : -1000000 ≤ a ∧ a ≤ 1000000) (hb : -1000000 ≤ b ∧ b ≤ 1000000) : mSem yX9_off cX9_off 2 (some .int) 0 0 0 [iv a, iv b] 97 h (Ret ((a - b).natAbs : Int) h) noX := by
  refine mSem_of (own := RX9) (name := "off") pn_X9 rfl rfl (Nat.le_of_ble_eq_true rfl) ?_
  refine r_iload_n dX9_off_0 rfl rfl ?_
  refine r_iload_n dX9_off_1 rfl rfl ?_
  refine r_icmp_ge (tgt := 11) dX9_off_2 (by decide) ⟨by omega, by omega⟩ ⟨by omega, by omega⟩ (fun g2 => ?_) (fun g2 => ?_)
  · refine r_iload_n dX9_off_11 rfl rfl ?_
    refine r_iload_n dX9_off_12 rfl rfl ?_
    refine r_isub dX9_off_13 ?_
    refine r_iret dX9_off_14 ?_
    exact ⟨ivE (by omega), rfl, rfl⟩
  · refine r_iload_n dX9_off_5 rfl rfl ?_
    refine r_iload_n dX9_off_6 rfl rfl ?_
    refine r_isub dX9_off_7 ?_
    refine r_goto (tgt := 14) dX9_off_8 (by decide) ?_
    refine r_iret dX9_off_14 ?_
    exact ⟨ivE (by omega), rfl, rfl⟩

theorem tmod_emod {z : Int} : z.tmod 1440 = z % 1440 ∨ z.tmod 1440 = z % 1440 - 1440 := by
  have h1 := Int.tmod_eq_emod (a := z) (b := 1440)
  rw [h1]
  split <;> simp <;> omega
theorem s_X9_round {h : aH} {z : Int} (hz : -1000000 ≤ z ∧ z ≤ 1000000) : mSem yX9_round cX9_round 2 (some .int) 0 0 0 [iv z] 97 h (Ret (z % 1440) h) noX := by
  refine mSem_of (own := RX9) (name := "round") pn_X9 rfl rfl (Nat.le_of_ble_eq_true rfl) ?_
  have t1 := tmod_bounds (a := z) (M := 1440) (by decide)
  have t2 := @tmod_emod z
  have t3 := tdR (x := z) (y := 1440) ⟨by omega, by omega⟩ ⟨by decide, by decide⟩
  refine r_iload_n dX9_round_0 rfl rfl ?_
  refine r_sipush dX9_round_1 rfl ?_
  refine r_irem dX9_round_4 ⟨by omega, by omega⟩ ⟨by omega, by omega⟩ (by omega) ⟨by omega, by omega⟩ ?_
  refine r_istore_n (lv2 := [(0, _), (1, _)]) dX9_round_5 rfl (by decide) rfl rfl ?_
  refine r_iload_n dX9_round_6 rfl rfl ?_
  refine r_if_ge (tgt := 18) dX9_round_7 (by decide) ⟨by omega, by omega⟩ (fun g7 => ?_) (fun g7 => ?_)
  · refine r_iload_n dX9_round_18 rfl rfl ?_
    refine r_iret dX9_round_19 ?_
    exact ⟨ivE (by omega), rfl, rfl⟩
  · refine r_iload_n dX9_round_10 rfl rfl ?_
    refine r_sipush dX9_round_11 rfl ?_
    refine r_iadd dX9_round_14 ?_
    refine r_goto (tgt := 19) dX9_round_15 (by decide) ?_
    refine r_iret dX9_round_19 ?_
    exact ⟨ivE (by omega), rfl, rfl⟩

theorem s_X9_wrongBy {h : aH} {a b : Int} (ha : 0 ≤ a ∧ a < 1440) (hb : 0 ≤ b ∧ b < 1440) : mSem yX9_wrongBy cX9_wrongBy 3 (some .int) 1 0 0 [iv a, iv b] 97 h (Ret (wrongI a b) h) noX := by
  refine mSem_of (own := RX9) (name := "wrongBy") pn_X9 rfl rfl (Nat.le_of_ble_eq_true rfl) ?_
  refine r_iload_n dX9_wrongBy_0 rfl rfl ?_
  refine r_iload_n dX9_wrongBy_1 rfl rfl ?_
  refine r_callS [_, _] (s_X9_off (by omega) (by omega)) dX9_wrongBy_2 cs_X9_250 sm_X9_off (by decide) (by decide) (by decide) rfl rfl (Nat.le_of_ble_eq_true rfl) (fun _ _ _ q => q.elim) (fun v n2 h2 q => ?_)
  obtain ⟨rfl, rfl, hh⟩ := q
  obtain rfl := hh.symm
  refine ⟨rfl, ?_⟩
  dsimp only [Option.toList, List.cons_append, List.nil_append]
  refine r_istore_n (lv2 := [(0, _), (1, _), (2, _)]) dX9_wrongBy_5 rfl (by decide) rfl rfl ?_
  refine r_iload_n dX9_wrongBy_6 rfl rfl ?_
  refine r_sipush dX9_wrongBy_7 rfl ?_
  refine r_icmp_gt (tgt := 17) dX9_wrongBy_10 (by decide) ⟨by omega, by omega⟩ ⟨by omega, by omega⟩ (fun g10 => ?_) (fun g10 => ?_)
  · refine r_sipush dX9_wrongBy_17 rfl ?_
    refine r_iload_n dX9_wrongBy_20 rfl rfl ?_
    refine r_isub dX9_wrongBy_21 ?_
    refine r_iret dX9_wrongBy_22 ?_
    exact ⟨ivE (by unfold wrongI; omega), rfl, rfl⟩
  · refine r_iload_n dX9_wrongBy_13 rfl rfl ?_
    refine r_goto (tgt := 22) dX9_wrongBy_14 (by decide) ?_
    refine r_iret dX9_wrongBy_22 ?_
    exact ⟨ivE (by unfold wrongI; omega), rfl, rfl⟩

theorem s_X9_right {h : aH} {g : Nat → Int} {w : Int} (c68 : h 68 = RG g w) (h0 : g 0 = 0) {b : Bool} {c : Int} (hc : 1 ≤ c ∧ c ≤ 2) : mSem yX9_right cX9_right 3 (some .boolean) 0 0 0 [.ref 68, iv (b2i b), iv c] 97 h (RightQ b c h g w) noX := by
  refine mSem_of (own := RX9) (name := "right") pn_X9 rfl rfl (Nat.le_of_ble_eq_true rfl) ?_
  have bb := b2i_01 b
  refine r_aload_n dX9_right_0 rfl rfl ?_
  refine r_getR (z := (g 0)) dX9_right_1 fl_X9_102 (by decide) c68 rfl ?_
  refine r_if_ne (tgt := 16) dX9_right_4 (by decide) ⟨by omega, by omega⟩ (fun g4 => absurd g4 (by omega)) (fun g4 => ?_)
  refine r_iload_n dX9_right_7 rfl rfl ?_
  refine r_if_ne (tgt := 16) dX9_right_8 (by decide) ⟨by omega, by omega⟩ (fun g8 => ?_) (fun g8 => ?_)
  · refine r_aload_n dX9_right_16 rfl rfl ?_
    refine r_getR (z := (g 0)) dX9_right_17 fl_X9_102 (by decide) c68 rfl ?_
    refine r_if_ne (tgt := 27) dX9_right_20 (by decide) ⟨by omega, by omega⟩ (fun g20 => ?_) (fun g20 => ?_)
    · refine r_iconst dX9_right_27 ?_
      refine r_zret dX9_right_28 (nar_z (by omega)) ?_
      first
        | (exfalso; omega)
        | (rw [b2i_0] at g8
           exact ⟨rfl, Or.inr ⟨g8, rfl, by rw [hz0]⟩⟩)
        | (rw [b2i_0, Bool.not_eq_false] at g8
           exact ⟨rfl, Or.inl ⟨g8, rfl, rfl⟩⟩)
    · refine r_iconst dX9_right_23 ?_
      refine r_goto (tgt := 28) dX9_right_24 (by decide) ?_
      refine r_zret dX9_right_28 (nar_z (by omega)) ?_
      first
        | (exfalso; omega)
        | (rw [b2i_0] at g8
           exact ⟨rfl, Or.inr ⟨g8, rfl, by rw [hz0]⟩⟩)
        | (rw [b2i_0, Bool.not_eq_false] at g8
           exact ⟨rfl, Or.inl ⟨g8, rfl, rfl⟩⟩)
  · refine r_aload_n dX9_right_11 rfl rfl ?_
    refine r_iload_n dX9_right_12 rfl rfl ?_
    refine r_putR dX9_right_13 fp_X9_102 (by decide) c68 (nar_int _) (Nat.le_of_ble_eq_true rfl) setR_0 (fun z0 hz0 => ?_)
    refine r_aload_n dX9_right_16 rfl rfl ?_
    refine r_getR (z := z0) dX9_right_17 fl_X9_102 (by decide) rfl rfl ?_
    refine r_if_ne (tgt := 27) dX9_right_20 (by decide) ⟨by omega, by omega⟩ (fun g20 => ?_) (fun g20 => ?_)
    · refine r_iconst dX9_right_27 ?_
      refine r_zret dX9_right_28 (nar_z (by omega)) ?_
      first
        | (exfalso; omega)
        | (rw [b2i_0] at g8
           exact ⟨rfl, Or.inr ⟨g8, rfl, by rw [hz0]⟩⟩)
        | (rw [b2i_0, Bool.not_eq_false] at g8
           exact ⟨rfl, Or.inl ⟨g8, rfl, rfl⟩⟩)
    · refine r_iconst dX9_right_23 ?_
      refine r_goto (tgt := 28) dX9_right_24 (by decide) ?_
      refine r_zret dX9_right_28 (nar_z (by omega)) ?_
      first
        | (exfalso; omega)
        | (rw [b2i_0] at g8
           exact ⟨rfl, Or.inr ⟨g8, rfl, by rw [hz0]⟩⟩)
        | (rw [b2i_0, Bool.not_eq_false] at g8
           exact ⟨rfl, Or.inl ⟨g8, rfl, rfl⟩⟩)

theorem s_X9_isDial {h : aH} {g : Nat → Int} {w : Int} (c68 : h 68 = RG g w) (h0 : g 0 = 0) (pnd : 0 ≤ g 1 ∧ g 1 ≤ 9) {x : Int} (ix : inR x) : mSem yX9_isDial cX9_isDial 2 (some .boolean) 1 0 0 [.ref 68, iv x] 97 h (RightQ (diaB (g 1) x) 1 h g w) noX := by
  unfold inR at ix
  refine mSem_of (own := RX9) (name := "isDial") pn_X9 rfl rfl (Nat.le_of_ble_eq_true rfl) ?_
  refine r_aload_n dX9_isDial_0 rfl rfl ?_
  refine r_iload_n dX9_isDial_1 rfl rfl ?_
  refine r_if_lt (tgt := 17) dX9_isDial_2 (by decide) ⟨by omega, by omega⟩ (fun g2 => ?_) (fun g2 => ?_)
  · refine r_iconst dX9_isDial_17 ?_
    refine r_iconst dX9_isDial_18 ?_
    refine r_callV 68 [_, _] (s_X9_right (b := false) c68 h0 (by omega)) dX9_isDial_19 cs_X9_207 im_X9_right (by decide) c68 rfl (by decide) (by decide) (by decide) rfl rfl (Nat.le_of_ble_eq_true rfl) (fun _ _ _ q => q.elim) (fun v n2 h2 q => ?_)
    obtain ⟨rfl, q⟩ := q
    rcases q with ⟨kb0, rfl, hh⟩ | ⟨kb0, rfl, hh⟩
    · obtain rfl := hh.symm
      refine ⟨rfl, ?_⟩
      dsimp only [Option.toList, List.cons_append, List.nil_append]
      refine r_zret dX9_isDial_22 (nar_z (by omega)) ?_
      first
        | exact absurd kb0 (by decide)
        | exact ⟨rfl, Or.inl ⟨decide_eq_true (by omega), rfl, rfl⟩⟩
        | exact ⟨rfl, Or.inr ⟨decide_eq_false (by omega), rfl, rfl⟩⟩
    · obtain rfl := hh.symm
      refine ⟨rfl, ?_⟩
      dsimp only [Option.toList, List.cons_append, List.nil_append]
      refine r_zret dX9_isDial_22 (nar_z (by omega)) ?_
      first
        | exact absurd kb0 (by decide)
        | exact ⟨rfl, Or.inl ⟨decide_eq_true (by omega), rfl, rfl⟩⟩
        | exact ⟨rfl, Or.inr ⟨decide_eq_false (by omega), rfl, rfl⟩⟩
  · refine r_iload_n dX9_isDial_5 rfl rfl ?_
    refine r_aload_n dX9_isDial_6 rfl rfl ?_
    refine r_getR (z := (g 1)) dX9_isDial_7 fl_X9_214 (by decide) c68 rfl ?_
    refine r_icmp_ge (tgt := 17) dX9_isDial_10 (by decide) ⟨by omega, by omega⟩ ⟨by omega, by omega⟩ (fun g10 => ?_) (fun g10 => ?_)
    · refine r_iconst dX9_isDial_17 ?_
      refine r_iconst dX9_isDial_18 ?_
      refine r_callV 68 [_, _] (s_X9_right (b := false) c68 h0 (by omega)) dX9_isDial_19 cs_X9_207 im_X9_right (by decide) c68 rfl (by decide) (by decide) (by decide) rfl rfl (Nat.le_of_ble_eq_true rfl) (fun _ _ _ q => q.elim) (fun v n2 h2 q => ?_)
      obtain ⟨rfl, q⟩ := q
      rcases q with ⟨kb0, rfl, hh⟩ | ⟨kb0, rfl, hh⟩
      · obtain rfl := hh.symm
        refine ⟨rfl, ?_⟩
        dsimp only [Option.toList, List.cons_append, List.nil_append]
        refine r_zret dX9_isDial_22 (nar_z (by omega)) ?_
        first
          | exact absurd kb0 (by decide)
          | exact ⟨rfl, Or.inl ⟨decide_eq_true (by omega), rfl, rfl⟩⟩
          | exact ⟨rfl, Or.inr ⟨decide_eq_false (by omega), rfl, rfl⟩⟩
      · obtain rfl := hh.symm
        refine ⟨rfl, ?_⟩
        dsimp only [Option.toList, List.cons_append, List.nil_append]
        refine r_zret dX9_isDial_22 (nar_z (by omega)) ?_
        first
          | exact absurd kb0 (by decide)
          | exact ⟨rfl, Or.inl ⟨decide_eq_true (by omega), rfl, rfl⟩⟩
          | exact ⟨rfl, Or.inr ⟨decide_eq_false (by omega), rfl, rfl⟩⟩
    · refine r_iconst dX9_isDial_13 ?_
      refine r_goto (tgt := 18) dX9_isDial_14 (by decide) ?_
      refine r_iconst dX9_isDial_18 ?_
      refine r_callV 68 [_, _] (s_X9_right (b := true) c68 h0 (by omega)) dX9_isDial_19 cs_X9_207 im_X9_right (by decide) c68 rfl (by decide) (by decide) (by decide) rfl rfl (Nat.le_of_ble_eq_true rfl) (fun _ _ _ q => q.elim) (fun v n2 h2 q => ?_)
      obtain ⟨rfl, q⟩ := q
      rcases q with ⟨kb0, rfl, hh⟩ | ⟨kb0, rfl, hh⟩
      · obtain rfl := hh.symm
        refine ⟨rfl, ?_⟩
        dsimp only [Option.toList, List.cons_append, List.nil_append]
        refine r_zret dX9_isDial_22 (nar_z (by omega)) ?_
        first
          | exact absurd kb0 (by decide)
          | exact ⟨rfl, Or.inl ⟨decide_eq_true (by omega), rfl, rfl⟩⟩
          | exact ⟨rfl, Or.inr ⟨decide_eq_false (by omega), rfl, rfl⟩⟩
      · obtain rfl := hh.symm
        refine ⟨rfl, ?_⟩
        dsimp only [Option.toList, List.cons_append, List.nil_append]
        refine r_zret dX9_isDial_22 (nar_z (by omega)) ?_
        first
          | exact absurd kb0 (by decide)
          | exact ⟨rfl, Or.inl ⟨decide_eq_true (by omega), rfl, rfl⟩⟩
          | exact ⟨rfl, Or.inr ⟨decide_eq_false (by omega), rfl, rfl⟩⟩

theorem s_X9_isDay {h : aH} {g : Nat → Int} {w : Int} (c68 : h 68 = RG g w) (h0 : g 0 = 0) {x : Int} (ix : inR x)  : mSem yX9_isDay cX9_isDay 2 (some .boolean) 1 0 0 [.ref 68, iv x] 97 h (RightQ (dayB x) 1 h g w) noX := by
  unfold inR at ix
  refine mSem_of (own := RX9) (name := "isDay") pn_X9 rfl rfl (Nat.le_of_ble_eq_true rfl) ?_
  refine r_aload_n dX9_isDay_0 rfl rfl ?_
  refine r_iload_n dX9_isDay_1 rfl rfl ?_
  refine r_iconst dX9_isDay_2 ?_
  refine r_sipush dX9_isDay_3 rfl ?_
  refine r_callS [_, _, _] (s_X9_within ⟨by omega, by omega⟩ ⟨by omega, by omega⟩ ⟨by omega, by omega⟩) dX9_isDay_6 cs_X9_239 sm_X9_within (by decide) (by decide) (by decide) rfl rfl (Nat.le_of_ble_eq_true rfl) (fun _ _ _ q => q.elim) (fun v n2 h2 q => ?_)
  obtain ⟨rfl, rfl, hh⟩ := q
  obtain rfl := hh.symm
  refine ⟨rfl, ?_⟩
  dsimp only [Option.toList, List.cons_append, List.nil_append]
  rw [show decide (0 ≤ x ∧ x ≤ 364) = dayB x by first | rfl | (unfold dayB; congr 1; apply propext; omega)]
  refine r_iconst dX9_isDay_9 ?_
  refine r_callV 68 [_, _] (s_X9_right (b := dayB x) c68 h0 (by omega)) dX9_isDay_10 cs_X9_207 im_X9_right (by decide) c68 rfl (by decide) (by decide) (by decide) rfl rfl (Nat.le_of_ble_eq_true rfl) (fun _ _ _ q => q.elim) (fun v n2 h2 q => ?_)
  obtain ⟨rfl, q⟩ := q
  rcases q with ⟨kb0, rfl, hh⟩ | ⟨kb0, rfl, hh⟩
  · obtain rfl := hh.symm
    refine ⟨rfl, ?_⟩
    dsimp only [Option.toList, List.cons_append, List.nil_append]
    refine r_zret dX9_isDay_13 (nar_z (by omega)) ?_
    first
      | exact ⟨rfl, Or.inl ⟨kb0, rfl, rfl⟩⟩
      | exact ⟨rfl, Or.inr ⟨kb0, rfl, rfl⟩⟩
  · obtain rfl := hh.symm
    refine ⟨rfl, ?_⟩
    dsimp only [Option.toList, List.cons_append, List.nil_append]
    refine r_zret dX9_isDay_13 (nar_z (by omega)) ?_
    first
      | exact ⟨rfl, Or.inl ⟨kb0, rfl, rfl⟩⟩
      | exact ⟨rfl, Or.inr ⟨kb0, rfl, rfl⟩⟩

theorem s_X9_isMinute {h : aH} {g : Nat → Int} {w : Int} (c68 : h 68 = RG g w) (h0 : g 0 = 0) {x : Int} (ix : inR x)  : mSem yX9_isMinute cX9_isMinute 2 (some .boolean) 1 0 0 [.ref 68, iv x] 97 h (RightQ (minB x) 1 h g w) noX := by
  unfold inR at ix
  refine mSem_of (own := RX9) (name := "isMinute") pn_X9 rfl rfl (Nat.le_of_ble_eq_true rfl) ?_
  refine r_aload_n dX9_isMinute_0 rfl rfl ?_
  refine r_iload_n dX9_isMinute_1 rfl rfl ?_
  refine r_iconst dX9_isMinute_2 ?_
  refine r_sipush dX9_isMinute_3 rfl ?_
  refine r_callS [_, _, _] (s_X9_within ⟨by omega, by omega⟩ ⟨by omega, by omega⟩ ⟨by omega, by omega⟩) dX9_isMinute_6 cs_X9_239 sm_X9_within (by decide) (by decide) (by decide) rfl rfl (Nat.le_of_ble_eq_true rfl) (fun _ _ _ q => q.elim) (fun v n2 h2 q => ?_)
  obtain ⟨rfl, rfl, hh⟩ := q
  obtain rfl := hh.symm
  refine ⟨rfl, ?_⟩
  dsimp only [Option.toList, List.cons_append, List.nil_append]
  rw [show decide (0 ≤ x ∧ x ≤ 1439) = minB x by first | rfl | (unfold minB; congr 1; apply propext; omega)]
  refine r_iconst dX9_isMinute_9 ?_
  refine r_callV 68 [_, _] (s_X9_right (b := minB x) c68 h0 (by omega)) dX9_isMinute_10 cs_X9_207 im_X9_right (by decide) c68 rfl (by decide) (by decide) (by decide) rfl rfl (Nat.le_of_ble_eq_true rfl) (fun _ _ _ q => q.elim) (fun v n2 h2 q => ?_)
  obtain ⟨rfl, q⟩ := q
  rcases q with ⟨kb0, rfl, hh⟩ | ⟨kb0, rfl, hh⟩
  · obtain rfl := hh.symm
    refine ⟨rfl, ?_⟩
    dsimp only [Option.toList, List.cons_append, List.nil_append]
    refine r_zret dX9_isMinute_13 (nar_z (by omega)) ?_
    first
      | exact ⟨rfl, Or.inl ⟨kb0, rfl, rfl⟩⟩
      | exact ⟨rfl, Or.inr ⟨kb0, rfl, rfl⟩⟩
  · obtain rfl := hh.symm
    refine ⟨rfl, ?_⟩
    dsimp only [Option.toList, List.cons_append, List.nil_append]
    refine r_zret dX9_isMinute_13 (nar_z (by omega)) ?_
    first
      | exact ⟨rfl, Or.inl ⟨kb0, rfl, rfl⟩⟩
      | exact ⟨rfl, Or.inr ⟨kb0, rfl, rfl⟩⟩

theorem s_X9_isWhat {h : aH} {g : Nat → Int} {w : Int} (c68 : h 68 = RG g w) (h0 : g 0 = 0) {x y : Int} (ix : inR x) (iy : inR y)  : mSem yX9_isWhat cX9_isWhat 3 (some .boolean) 1 0 0 [.ref 68, iv x, iv y] 97 h (RightQ (whaB x y) 1 h g w) noX := by
  unfold inR at ix iy
  refine mSem_of (own := RX9) (name := "isWhat") pn_X9 rfl rfl (Nat.le_of_ble_eq_true rfl) ?_
  refine r_aload_n dX9_isWhat_0 rfl rfl ?_
  refine r_iload_n dX9_isWhat_1 rfl rfl ?_
  refine r_iconst dX9_isWhat_2 ?_
  refine r_iload_n dX9_isWhat_3 rfl rfl ?_
  refine r_callS [_, _, _] (s_X9_within ⟨by omega, by omega⟩ ⟨by omega, by omega⟩ ⟨by omega, by omega⟩) dX9_isWhat_4 cs_X9_239 sm_X9_within (by decide) (by decide) (by decide) rfl rfl (Nat.le_of_ble_eq_true rfl) (fun _ _ _ q => q.elim) (fun v n2 h2 q => ?_)
  obtain ⟨rfl, rfl, hh⟩ := q
  obtain rfl := hh.symm
  refine ⟨rfl, ?_⟩
  dsimp only [Option.toList, List.cons_append, List.nil_append]
  rw [show decide (0 ≤ x ∧ x ≤ y) = whaB x y by first | rfl | (unfold whaB; congr 1; apply propext; omega)]
  refine r_iconst dX9_isWhat_7 ?_
  refine r_callV 68 [_, _] (s_X9_right (b := whaB x y) c68 h0 (by omega)) dX9_isWhat_8 cs_X9_207 im_X9_right (by decide) c68 rfl (by decide) (by decide) (by decide) rfl rfl (Nat.le_of_ble_eq_true rfl) (fun _ _ _ q => q.elim) (fun v n2 h2 q => ?_)
  obtain ⟨rfl, q⟩ := q
  rcases q with ⟨kb0, rfl, hh⟩ | ⟨kb0, rfl, hh⟩
  · obtain rfl := hh.symm
    refine ⟨rfl, ?_⟩
    dsimp only [Option.toList, List.cons_append, List.nil_append]
    refine r_zret dX9_isWhat_11 (nar_z (by omega)) ?_
    first
      | exact ⟨rfl, Or.inl ⟨kb0, rfl, rfl⟩⟩
      | exact ⟨rfl, Or.inr ⟨kb0, rfl, rfl⟩⟩
  · obtain rfl := hh.symm
    refine ⟨rfl, ?_⟩
    dsimp only [Option.toList, List.cons_append, List.nil_append]
    refine r_zret dX9_isWhat_11 (nar_z (by omega)) ?_
    first
      | exact ⟨rfl, Or.inl ⟨kb0, rfl, rfl⟩⟩
      | exact ⟨rfl, Or.inr ⟨kb0, rfl, rfl⟩⟩

theorem s_X9_noon {h : aH} {g : Nat → Int} {w : Int} (c68 : h 68 = RG g w) {dl cl lm lt lgt mn : Nat → Int} (c69 : h 69 = .inl (0, 45, dl)) (c70 : h 70 = .inl (0, 60, cl)) (c71 : h 71 = .inl (0, 12, lm)) (c77 : h 77 = .inl (2, 1440, lt)) (c78 : h 78 = .inl (2, 1440, lgt)) (c79 : h 79 = .inl (0, 120, mn)) {nd sw nc nm : Int} {K U I O G L cf ct fc nx cd md my mt : Nat → Int} (tr : TellR g dl cl lm mn nd sw nc nm K U I O G L cf ct cd md my mt) (pi : PInv nd sw nc K U I O G L cf ct fc nx cd) {day : Int} (hd : 0 ≤ day ∧ day < 365) : mSem yX9_noon cX9_noon 2 (some .int) 0 0 0 [.ref 68, iv day] 97 h (Ret (noonI L day) h) noX := by
  obtain ⟨t1, t2, t3, t31, pnm, tdl, tcl, tlm, tmd, pmt, pmd, pmy⟩ := id tr
  obtain ⟨pnd, psw, pnc, pK, pU, pI, pO, pG, pL, pcf, pct, pfc, pnx⟩ := id pi
  refine mSem_of (own := RX9) (name := "noon") pn_X9 rfl rfl (Nat.le_of_ble_eq_true rfl) ?_
  refine r_sipush dX9_noon_0 rfl ?_
  refine r_aload_n dX9_noon_3 rfl rfl ?_
  refine r_get (fs := RGL _ _) dX9_noon_4 fl_X9_20 (by decide) c68 rfl ?_
  refine r_iload_n dX9_noon_7 rfl rfl ?_
  refine r_bipush dX9_noon_8 rfl ?_
  refine r_idivN dX9_noon_10 (by omega) (by omega) (by omega) (by omega) ?_
  skip
  refine r_ald dX9_noon_11 (by decide) c71 (by omega) (by omega) (by decide) ?_
  refine r_iadd dX9_noon_12 ?_
  refine r_iret dX9_noon_13 ?_
  exact ⟨ivE (by unfold noonI; rw [tlm _ (by omega)]), rfl, rfl⟩

theorem s_X9_half {h : aH} {g : Nat → Int} {w : Int} (c68 : h 68 = RG g w) {dl cl lm lt lgt mn : Nat → Int} (c69 : h 69 = .inl (0, 45, dl)) (c70 : h 70 = .inl (0, 60, cl)) (c71 : h 71 = .inl (0, 12, lm)) (c77 : h 77 = .inl (2, 1440, lt)) (c78 : h 78 = .inl (2, 1440, lgt)) (c79 : h 79 = .inl (0, 120, mn)) {nd sw nc nm : Int} {K U I O G L cf ct fc nx cd md my mt : Nat → Int} (tr : TellR g dl cl lm mn nd sw nc nm K U I O G L cf ct cd md my mt) (pi : PInv nd sw nc K U I O G L cf ct fc nx cd) {day : Int} (hd : 0 ≤ day ∧ day < 365) : mSem yX9_half cX9_half 3 (some .int) 1 0 0 [.ref 68, iv day] 97 h (Ret (halfI sw day) h) noX := by
  obtain ⟨t1, t2, t3, t31, pnm, tdl, tcl, tlm, tmd, pmt, pmd, pmy⟩ := id tr
  obtain ⟨pnd, psw, pnc, pK, pU, pI, pO, pG, pL, pcf, pct, pfc, pnx⟩ := id pi
  have hR := half_R psw hd
  refine mSem_of (own := RX9) (name := "half") pn_X9 rfl rfl (Nat.le_of_ble_eq_true rfl) ?_
  refine r_iload_n dX9_half_0 rfl rfl ?_
  refine r_sipush dX9_half_1 rfl ?_
  refine r_callS [_, _] (s_X9_off (by omega) (by omega)) dX9_half_4 cs_X9_250 sm_X9_off (by decide) (by decide) (by decide) rfl rfl (Nat.le_of_ble_eq_true rfl) (fun _ _ _ q => q.elim) (fun v n2 h2 q => ?_)
  obtain ⟨rfl, rfl, hh⟩ := q
  obtain rfl := hh.symm
  refine ⟨rfl, ?_⟩
  dsimp only [Option.toList, List.cons_append, List.nil_append]
  refine r_istore_n (lv2 := [(0, _), (1, _), (2, _)]) dX9_half_7 rfl (by decide) rfl rfl ?_
  refine r_iload_n dX9_half_8 rfl rfl ?_
  refine r_sipush dX9_half_9 rfl ?_
  refine r_icmp_gt (tgt := 19) dX9_half_12 (by decide) ⟨by omega, by omega⟩ ⟨by omega, by omega⟩ (fun g12 => ?_) (fun g12 => ?_)
  · refine r_sipush dX9_half_19 rfl ?_
    refine r_iload_n dX9_half_22 rfl rfl ?_
    refine r_isub dX9_half_23 ?_
    refine r_istore_n (lv2 := [(0, _), (1, _), (2, _)]) dX9_half_24 rfl (by decide) rfl rfl ?_
    have hf : farI day = if (day - 172).natAbs ≤ 182 then ((day - 172).natAbs : Int) else 365 - (day - 172).natAbs := rfl
    first | rw [if_pos (by omega)] at hf | rw [if_neg (by omega)] at hf
    rw [← hf]
    refine r_sipush dX9_half_25 rfl ?_
    refine r_aload_n dX9_half_28 rfl rfl ?_
    refine r_getR (z := (g 3)) dX9_half_29 fl_X9_7 (by decide) c68 rfl ?_
    rw [t3]
    refine r_bipush dX9_half_32 rfl ?_
    refine r_iload_n dX9_half_34 rfl rfl ?_
    refine r_isub dX9_half_35 ?_
    refine r_imul dX9_half_36 ?_
    refine r_bipush dX9_half_37 rfl ?_
    refine r_idiv dX9_half_39 ⟨by omega, by omega⟩ ⟨by omega, by omega⟩ (by omega) ⟨by omega, by omega⟩ ?_
    refine r_iadd dX9_half_40 ?_
    refine r_iret dX9_half_41 ?_
    exact ⟨rfl, rfl, rfl⟩
  · refine r_iload_n dX9_half_15 rfl rfl ?_
    refine r_goto (tgt := 24) dX9_half_16 (by decide) ?_
    refine r_istore_n (lv2 := [(0, _), (1, _), (2, _)]) dX9_half_24 rfl (by decide) rfl rfl ?_
    have hf : farI day = if (day - 172).natAbs ≤ 182 then ((day - 172).natAbs : Int) else 365 - (day - 172).natAbs := rfl
    first | rw [if_pos (by omega)] at hf | rw [if_neg (by omega)] at hf
    rw [← hf]
    refine r_sipush dX9_half_25 rfl ?_
    refine r_aload_n dX9_half_28 rfl rfl ?_
    refine r_getR (z := (g 3)) dX9_half_29 fl_X9_7 (by decide) c68 rfl ?_
    rw [t3]
    refine r_bipush dX9_half_32 rfl ?_
    refine r_iload_n dX9_half_34 rfl rfl ?_
    refine r_isub dX9_half_35 ?_
    refine r_imul dX9_half_36 ?_
    refine r_bipush dX9_half_37 rfl ?_
    refine r_idiv dX9_half_39 ⟨by omega, by omega⟩ ⟨by omega, by omega⟩ (by omega) ⟨by omega, by omega⟩ ?_
    refine r_iadd dX9_half_40 ?_
    refine r_iret dX9_half_41 ?_
    exact ⟨rfl, rfl, rfl⟩

