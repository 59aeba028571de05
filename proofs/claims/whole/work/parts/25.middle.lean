/-! ===== LyingDials: what is taken, beaten, the middle of some ===== -/
def takN (sw nc nm : Int) (K U I O G L cf ct cd md my mt : Nat → Int) (di day : Int) : Int := if K di.toNat = 4 then (momN sw nc nm K U I O G L cf ct cd md my mt di day 720).length else litMI cd cf ct nc.toNat day (K di.toNat) (G di.toNat) (noonI L day) (halfI sw day)
def mostI (told m : Int) : Int := if told = -1 then 1440 else wrongI told m
def btnI (f : Nat → Int) (told m : Int) (k : Nat) : Bool := decide (∃ j, j < k ∧ f j ≠ -1 ∧ wrongI (f j) m < mostI told m)
def rins (v : Int) : List Int → List Int
  | [] => [v]
  | x :: r => if v < x then x :: rins v r else v :: x :: r
def midL (f : Nat → Int) (b : Nat) : Nat → List Int
  | 0 => []
  | k + 1 => if b.testBit k = true ∧ f k ≠ -1 then rins (f k) (midL f b k) else midL f b k
def midI (l : List Int) : Int := if l.length = 0 then -1 else l.getD (l.length - 1 - l.length / 2) 0
theorem rins_len (v : Int) : ∀ l, (rins v l).length = l.length + 1 := by
  intro l
  induction l with
  | nil => rfl
  | cons x r ih =>
    unfold rins
    split
    · rw [List.length_cons, ih, List.length_cons]
    · rfl
theorem midL_len (f : Nat → Int) (b : Nat) : ∀ k, (midL f b k).length ≤ k := by
  intro k
  induction k with
  | zero => exact Nat.le_refl _
  | succ k ih =>
    unfold midL
    split
    · rw [rins_len]; omega
    · omega
theorem midL_s (f : Nat → Int) (b k : Nat) : midL f b (k + 1) = if b.testBit k = true ∧ f k ≠ -1 then rins (f k) (midL f b k) else midL f b k := rfl
theorem rins_B {v : Int} (hv : 0 ≤ v ∧ v < 1440) : ∀ l, (∀ x ∈ l, 0 ≤ x ∧ x < 1440) → ∀ x ∈ rins v l, 0 ≤ x ∧ x < 1440 := by
  intro l
  induction l with
  | nil => intro _ x hx; rcases List.mem_cons.mp hx with rfl | h; exact hv; exact absurd h List.not_mem_nil
  | cons y r ih =>
    intro h x hx
    unfold rins at hx
    split at hx
    · rcases List.mem_cons.mp hx with rfl | hx
      · exact h _ List.mem_cons_self
      · exact ih (fun z hz => h z (List.mem_cons_of_mem _ hz)) x hx
    · rcases List.mem_cons.mp hx with rfl | hx
      · exact hv
      · exact h x hx
theorem midL_B {f : Nat → Int} {b : Nat} (hf : ∀ j, -1 ≤ f j ∧ f j < 1440) : ∀ k, ∀ x ∈ midL f b k, 0 ≤ x ∧ x < 1440 := by
  intro k
  induction k with
  | zero => intro x hx; exact absurd hx List.not_mem_nil
  | succ k ih =>
    rw [midL_s]
    split
    · next h => exact rins_B (by have := hf k; have := h.2; omega) _ ih
    · exact ih
theorem midI_B {l : List Int} (h : ∀ x ∈ l, 0 ≤ x ∧ x < 1440) : -1 ≤ midI l ∧ midI l < 1440 := by
  unfold midI
  split
  · omega
  · have := getD_B h (l.length - 1 - l.length / 2) (by omega)
    omega
theorem getD_apl {A B : List Int} {i : Nat} (h : i < A.length) : (A ++ B).getD i 0 = A.getD i 0 := by
  rw [List.getD_eq_getElem?_getD, List.getD_eq_getElem?_getD, List.getElem?_append_left h]
theorem getD_apr {A B : List Int} (i : Nat) : (A ++ B).getD (A.length + i) 0 = B.getD i 0 := by
  rw [List.getD_eq_getElem?_getD, List.getD_eq_getElem?_getD, List.getElem?_append_right (by omega), Nat.add_sub_cancel_left]
/-- the row holds the list, from its end on -/
def ag (g : Nat → Int) (l : List Int) : Prop := ∀ j, j < l.length → g j = l.getD (l.length - 1 - j) 0
abbrev RetA (c N : Nat) (r : Int) (h : aH) : Option Value → Nat → aH → Prop := fun v n' h' => v = some (iv r) ∧ n' = 97 ∧ ∃ f, h' = va_up h c (.inl (0, N, f))
theorem ag_put {g : Nat → Int} {A B : List Int} {v : Int} (hB : ∀ j, j < B.length → g j = B.getD (B.length - 1 - j) 0) (hA : ∀ j, j < A.length → g (B.length + 1 + j) = A.getD (A.length - 1 - j) 0) : ag (va_up g B.length v) (A ++ v :: B) := by
  intro j hj
  rw [List.length_append, List.length_cons] at hj ⊢
  rcases Nat.lt_trichotomy j B.length with h | h | h
  · rw [show A.length + (B.length + 1) - 1 - j = A.length + (B.length - 1 - j + 1) by omega, getD_apr]
    show va_up g B.length v j = B.getD (B.length - 1 - j) 0
    rw [← hB j h]
    simp [va_up, Nat.ne_of_lt h]
  · subst h
    rw [show A.length + (B.length + 1) - 1 - B.length = A.length + 0 by omega, getD_apr]
    simp [va_up]
  · obtain ⟨q, rfl⟩ : ∃ q, j = B.length + 1 + q := ⟨j - (B.length + 1), by omega⟩
    rw [show A.length + (B.length + 1) - 1 - (B.length + 1 + q) = A.length - 1 - q by omega, getD_apl (by omega), ← hA q (by omega)]
    simp [va_up, show ¬ (B.length + 1 + q = B.length) by omega]

theorem s_X8_takenOn {h : aH} {nd sw nc : Int} {K U I O G L cf ct fc nx cd : Nat → Int} (c6 : h 6 = .inr (4, [iv nd, iv sw, iv nc, .ref 7, .ref 8, .ref 9, .ref 10, .ref 11, .ref 12, .ref 13, .ref 14, .ref 15, .ref 16])) (c7 : h 7 = .inl (0, 9, K)) (c8 : h 8 = .inl (0, 9, U)) (c9 : h 9 = .inl (0, 9, I)) (c10 : h 10 = .inl (0, 9, O)) (c11 : h 11 = .inl (0, 9, G)) (c12 : h 12 = .inl (0, 12, L)) (c13 : h 13 = .inl (0, 20, cf)) (c14 : h 14 = .inl (0, 20, ct)) (c15 : h 15 = .inl (0, 365, fc)) (c16 : h 16 = .inl (0, 20, nx)) {nr ns nm : Int} {rd ry rm rt se md my mt : Nat → Int} (c40 : h 40 = .inr (3, [iv nr, iv ns, iv nm, .ref 41, .ref 42, .ref 43, .ref 44, .ref 45, .ref 46, .ref 47, .ref 48])) (c41 : h 41 = .inl (0, 12, rd)) (c42 : h 42 = .inl (0, 12, ry)) (c43 : h 43 = .inl (0, 12, rm)) (c44 : h 44 = .inl (0, 12, rt)) (c45 : h 45 = .inl (0, 9, se)) (c46 : h 46 = .inl (0, 40, md)) (c47 : h 47 = .inl (0, 40, my)) (c48 : h 48 = .inl (0, 40, mt)) {taped fpl hlaw himg : Int} (c0 : h 0 = .inr (8, [.ref 1, iv taped, iv fpl, .ref 2, .ref 3, .ref 4, .ref 5, .ref 6, .ref 17, .ref 28, .ref 34, iv hlaw, .ref 40, .ref 49, iv himg, .ref 58, .ref 62, .ref 65, .ref 66, .ref 67])) {mf : Nat → Int} (c67 : h 67 = .inl (0, 14, mf)) (pi : PInv nd sw nc K U I O G L cf ct fc nx cd) (ni : NInv nr ns nm rd ry rm rt se md my mt) {di : Int} (hdi : 0 ≤ di ∧ di < 9) {day : Int} (hd : 0 ≤ day ∧ day < 365) : mSem yX8_takenOn cX8_takenOn 3 (some .int) 7 0 0 [.ref 0, iv di, iv day] 97 h (RetM (takN sw nc nm K U I O G L cf ct cd md my mt di day) h) noX := by
  obtain ⟨pnd, psw, pnc, pK, pU, pI, pO, pG, pL, pcf, pct, pfc, pnx⟩ := id pi
  obtain ⟨pnr, pns, pnm, prd, pry, prm, prt, pse, pmd, pmy, pmt⟩ := id ni
  refine mSem_of (own := RX8) (name := "takenOn") pn_X8 rfl rfl (Nat.le_of_ble_eq_true rfl) ?_
  have bK := pK di.toNat
  have bT := turn_B (md := md) (my := my) (di := di) (day := day) (pU di.toNat) pmt nm.toNat
  refine r_aload_n dX8_takenOn_0 rfl rfl ?_
  refine r_get (fs := [_, _, _, _, _, _, _, _, _, _, _, _, _, _, _, _, _, _, _, _]) dX8_takenOn_1 fl_X8_48 (by decide) c0 rfl ?_
  refine r_get (fs := [_, _, _, _, _, _, _, _, _, _, _, _, _]) dX8_takenOn_4 fl_X8_212 (by decide) c6 rfl ?_
  refine r_iload_n dX8_takenOn_7 rfl rfl ?_
  refine r_ald dX8_takenOn_8 (by decide) c7 (by omega) (by omega) (by decide) ?_
  refine r_iconst dX8_takenOn_9 ?_
  refine r_icmp_ne (tgt := 36) dX8_takenOn_10 (by decide) ⟨by omega, by omega⟩ ⟨by omega, by omega⟩ (fun g10 => ?_) (fun g10 => ?_)
  · refine r_aload_n dX8_takenOn_36 rfl rfl ?_
    refine r_get (fs := [_, _, _, _, _, _, _, _, _, _, _, _, _, _, _, _, _, _, _, _]) dX8_takenOn_37 fl_X8_48 (by decide) c0 rfl ?_
    refine r_iload_n dX8_takenOn_40 rfl rfl ?_
    refine r_iload_n dX8_takenOn_41 rfl rfl ?_
    refine r_callV 6 [_, _] (s_X4_litMinutes c6 c7 c8 c9 c10 c11 c12 c13 c14 c15 c16 pi (by omega) hd) dX8_takenOn_42 cs_X8_375 im_X4_litMinutes (by decide) c6 rfl (by decide) (by decide) (by decide) rfl rfl (Nat.le_of_ble_eq_true rfl) (fun _ _ _ q => q.elim) (fun v n2 h2 q => ?_)
    obtain ⟨rfl, rfl, hh⟩ := q
    obtain rfl := hh.symm
    refine ⟨rfl, ?_⟩
    dsimp only [Option.toList, List.cons_append, List.nil_append]
    refine r_iret dX8_takenOn_45 ?_
    exact ⟨ivE (by unfold takN; rw [if_neg g10]), rfl, mf, up_same c67⟩
  · refine r_aload_n dX8_takenOn_13 rfl rfl ?_
    refine r_get (fs := [_, _, _, _, _, _, _, _, _, _, _, _, _, _, _, _, _, _, _, _]) dX8_takenOn_14 fl_X8_48 (by decide) c0 rfl ?_
    refine r_iload_n dX8_takenOn_17 rfl rfl ?_
    refine r_iload_n dX8_takenOn_18 rfl rfl ?_
    refine r_sipush dX8_takenOn_19 rfl ?_
    refine r_aload_n dX8_takenOn_22 rfl rfl ?_
    refine r_iload_n dX8_takenOn_23 rfl rfl ?_
    refine r_iload_n dX8_takenOn_24 rfl rfl ?_
    refine r_callV 0 [_, _] (s_X8_turnOn c6 c7 c8 c9 c10 c11 c12 c13 c14 c15 c16 c40 c41 c42 c43 c44 c45 c46 c47 c48 c0 pi ni (by omega) (by omega)) dX8_takenOn_25 cs_X8_238 im_X8_turnOn (by decide) c0 rfl (by decide) (by decide) (by decide) rfl rfl (Nat.le_of_ble_eq_true rfl) (fun _ _ _ q => q.elim) (fun v n2 h2 q => ?_)
    obtain ⟨rfl, rfl, hh⟩ := q
    obtain rfl := hh.symm
    refine ⟨rfl, ?_⟩
    dsimp only [Option.toList, List.cons_append, List.nil_append]
    refine r_aload_n dX8_takenOn_28 rfl rfl ?_
    refine r_get (fs := [_, _, _, _, _, _, _, _, _, _, _, _, _, _, _, _, _, _, _, _]) dX8_takenOn_29 fl_X8_102 (by decide) c0 rfl ?_
    refine r_callV 6 [_, _, _, _, .ref 67] (s_X4_findMoments c6 c7 c8 c9 c10 c11 c12 c13 c14 c15 c16 pi c67 (by omega) hd (by omega) (by omega)) dX8_takenOn_32 cs_X8_301 im_X4_findMoments (by decide) c6 rfl (by decide) (by decide) (by decide) rfl rfl (Nat.le_of_ble_eq_true rfl) (fun _ _ _ q => q.elim) (fun v n2 h2 q => ?_)
    obtain ⟨rfl, rfl, hh⟩ := q
    obtain rfl := hh.symm
    refine ⟨rfl, ?_⟩
    dsimp only [Option.toList, List.cons_append, List.nil_append]
    refine r_iret dX8_takenOn_35 ?_
    exact ⟨ivE (by unfold takN; rw [if_pos g10]; rfl), rfl, _, rfl⟩

theorem l_X8_isBeaten {h : aH} {nd sw nc : Int} {K U I O G L cf ct fc nx cd : Nat → Int} (c6 : h 6 = .inr (4, [iv nd, iv sw, iv nc, .ref 7, .ref 8, .ref 9, .ref 10, .ref 11, .ref 12, .ref 13, .ref 14, .ref 15, .ref 16])) (c7 : h 7 = .inl (0, 9, K)) (c8 : h 8 = .inl (0, 9, U)) (c9 : h 9 = .inl (0, 9, I)) (c10 : h 10 = .inl (0, 9, O)) (c11 : h 11 = .inl (0, 9, G)) (c12 : h 12 = .inl (0, 12, L)) (c13 : h 13 = .inl (0, 20, cf)) (c14 : h 14 = .inl (0, 20, ct)) (c15 : h 15 = .inl (0, 365, fc)) (c16 : h 16 = .inl (0, 20, nx)) {nr ns nm : Int} {rd ry rm rt se md my mt : Nat → Int} (c40 : h 40 = .inr (3, [iv nr, iv ns, iv nm, .ref 41, .ref 42, .ref 43, .ref 44, .ref 45, .ref 46, .ref 47, .ref 48])) (c41 : h 41 = .inl (0, 12, rd)) (c42 : h 42 = .inl (0, 12, ry)) (c43 : h 43 = .inl (0, 12, rm)) (c44 : h 44 = .inl (0, 12, rt)) (c45 : h 45 = .inl (0, 9, se)) (c46 : h 46 = .inl (0, 40, md)) (c47 : h 47 = .inl (0, 40, my)) (c48 : h 48 = .inl (0, 40, mt)) {taped fpl hlaw himg : Int} (c0 : h 0 = .inr (8, [.ref 1, iv taped, iv fpl, .ref 2, .ref 3, .ref 4, .ref 5, .ref 6, .ref 17, .ref 28, .ref 34, iv hlaw, .ref 40, .ref 49, iv himg, .ref 58, .ref 62, .ref 65, .ref 66, .ref 67])) {tf : Nat → Int} (c65 : h 65 = .inl (0, 9, tf)) (pi : PInv nd sw nc K U I O G L cf ct fc nx cd) (ni : NInv nr ns nm rd ry rm rt se md my mt) (htf : ∀ j, -1 ≤ tf j ∧ tf j < 1440) {to : Int} (hto : -1 ≤ to ∧ to < 1440) {m : Int} (hm : 0 ≤ m ∧ m < 1440) : ∀ (w k : Nat), (k : Int) + w = nd → (∀ j, j < k → ¬ (tf j ≠ -1 ∧ wrongI (tf j) m < mostI to m)) → Ev RX8 "isBeaten" cX8_isBeaten 5 (some .boolean) 2 0 0 (Ret (b2i (btnI tf to m nd.toNat)) h) noX 97 h 20 [(0, .ref 0), (1, iv to), (2, iv m), (3, iv (mostI to m)), (4, iv k)] [] := by
  obtain ⟨pnd, psw, pnc, pK, pU, pI, pO, pG, pL, pcf, pct, pfc, pnx⟩ := id pi
  obtain ⟨pnr, pns, pnm, prd, pry, prm, prt, pse, pmd, pmy, pmt⟩ := id ni
  have bm : 0 ≤ mostI to m ∧ mostI to m ≤ 1440 := by
    unfold mostI
    split
    · omega
    · have := wrong_B (a := to) (b := m) (by omega) hm
      omega
  intro w
  induction w with
  | zero =>
    intro k hk hp
    obtain rfl : nd = (k : Int) := by omega
    refine r_iload dX8_isBeaten_20 rfl ?_
    refine r_aload_n dX8_isBeaten_22 rfl rfl ?_
    refine r_get (fs := [_, _, _, _, _, _, _, _, _, _, _, _, _, _, _, _, _, _, _, _]) dX8_isBeaten_23 fl_X8_48 (by decide) c0 rfl ?_
    refine r_get (fs := [_, _, _, _, _, _, _, _, _, _, _, _, _]) dX8_isBeaten_26 fl_X8_127 (by decide) c6 rfl ?_
    refine r_icmp_ge (tgt := 66) dX8_isBeaten_29 (by decide) ⟨by omega, by omega⟩ ⟨by omega, by omega⟩ (fun g29 => ?_) (fun g29 => absurd g29 (by omega))
    refine r_iconst dX8_isBeaten_66 ?_
    refine r_zret dX8_isBeaten_67 (nar_z (by omega)) ?_
    exact ⟨ivE (by unfold btnI; rw [Int.toNat_natCast, decide_eq_false (fun ⟨j, h1, h2⟩ => hp j h1 h2)]; rfl), rfl, rfl⟩
  | succ w ih =>
    intro k hk hp
    have b1 := htf k
    have b2 : tf k = -1 ∨ 0 ≤ wrongI (tf k) m ∧ wrongI (tf k) m ≤ 720 := if q : tf k = -1 then Or.inl q else Or.inr (wrong_B (by omega) hm)
    refine r_iload dX8_isBeaten_20 rfl ?_
    refine r_aload_n dX8_isBeaten_22 rfl rfl ?_
    refine r_get (fs := [_, _, _, _, _, _, _, _, _, _, _, _, _, _, _, _, _, _, _, _]) dX8_isBeaten_23 fl_X8_48 (by decide) c0 rfl ?_
    refine r_get (fs := [_, _, _, _, _, _, _, _, _, _, _, _, _]) dX8_isBeaten_26 fl_X8_127 (by decide) c6 rfl ?_
    refine r_icmp_ge (tgt := 66) dX8_isBeaten_29 (by decide) ⟨by omega, by omega⟩ ⟨by omega, by omega⟩ (fun g29 => absurd g29 (by omega)) (fun g29 => ?_)
    refine r_aload_n dX8_isBeaten_32 rfl rfl ?_
    refine r_get (fs := [_, _, _, _, _, _, _, _, _, _, _, _, _, _, _, _, _, _, _, _]) dX8_isBeaten_33 fl_X8_96 (by decide) c0 rfl ?_
    refine r_iload dX8_isBeaten_36 rfl ?_
    refine r_ald dX8_isBeaten_38 (by decide) c65 (by omega) (by omega) (by decide) ?_
    rw [Int.toNat_natCast]
    refine r_iconst dX8_isBeaten_39 ?_
    refine r_icmp_eq (tgt := 60) dX8_isBeaten_40 (by decide) ⟨by omega, by omega⟩ ⟨by omega, by omega⟩ (fun g40 => ?_) (fun g40 => ?_)
    · refine r_iinc (lv2 := [(0, _), (1, _), (2, _), (3, _), (4, _)]) dX8_isBeaten_60 (by decide) rfl rfl rfl ?_
      refine r_goto (tgt := 20) dX8_isBeaten_63 (by decide) ?_
      rw [show (k : Int) + 1 = ((k + 1 : Nat) : Int) by omega]
      refine ih (k + 1) (by omega) (fun j hj => ?_)
      by_cases hj2 : j = k
      · subst hj2; omega
      · exact hp j (by omega)
    · refine r_aload_n dX8_isBeaten_43 rfl rfl ?_
      refine r_get (fs := [_, _, _, _, _, _, _, _, _, _, _, _, _, _, _, _, _, _, _, _]) dX8_isBeaten_44 fl_X8_96 (by decide) c0 rfl ?_
      refine r_iload dX8_isBeaten_47 rfl ?_
      refine r_ald dX8_isBeaten_49 (by decide) c65 (by omega) (by omega) (by decide) ?_
      rw [Int.toNat_natCast]
      refine r_iload_n dX8_isBeaten_50 rfl rfl ?_
      refine r_callS [_, _] (s_X8_wrongBy (by omega) (by omega)) dX8_isBeaten_51 cs_X8_181 sm_X8_wrongBy (by decide) (by decide) (by decide) rfl rfl (Nat.le_of_ble_eq_true rfl) (fun _ _ _ q => q.elim) (fun v n2 h2 q => ?_)
      obtain ⟨rfl, rfl, hh⟩ := q
      obtain rfl := hh.symm
      refine ⟨rfl, ?_⟩
      dsimp only [Option.toList, List.cons_append, List.nil_append]
      refine r_iload_n dX8_isBeaten_54 rfl rfl ?_
      refine r_icmp_ge (tgt := 60) dX8_isBeaten_55 (by decide) ⟨by omega, by omega⟩ ⟨by omega, by omega⟩ (fun g55 => ?_) (fun g55 => ?_)
      · refine r_iinc (lv2 := [(0, _), (1, _), (2, _), (3, _), (4, _)]) dX8_isBeaten_60 (by decide) rfl rfl rfl ?_
        refine r_goto (tgt := 20) dX8_isBeaten_63 (by decide) ?_
        rw [show (k : Int) + 1 = ((k + 1 : Nat) : Int) by omega]
        refine ih (k + 1) (by omega) (fun j hj => ?_)
        by_cases hj2 : j = k
        · subst hj2; omega
        · exact hp j (by omega)
      · refine r_iconst dX8_isBeaten_58 ?_
        refine r_zret dX8_isBeaten_59 (nar_z (by omega)) ?_
        refine ⟨ivE ?_, rfl, rfl⟩
        unfold btnI
        rw [decide_eq_true ⟨k, by omega, by omega, by omega⟩]
        rfl

theorem s_X8_isBeaten {h : aH} {nd sw nc : Int} {K U I O G L cf ct fc nx cd : Nat → Int} (c6 : h 6 = .inr (4, [iv nd, iv sw, iv nc, .ref 7, .ref 8, .ref 9, .ref 10, .ref 11, .ref 12, .ref 13, .ref 14, .ref 15, .ref 16])) (c7 : h 7 = .inl (0, 9, K)) (c8 : h 8 = .inl (0, 9, U)) (c9 : h 9 = .inl (0, 9, I)) (c10 : h 10 = .inl (0, 9, O)) (c11 : h 11 = .inl (0, 9, G)) (c12 : h 12 = .inl (0, 12, L)) (c13 : h 13 = .inl (0, 20, cf)) (c14 : h 14 = .inl (0, 20, ct)) (c15 : h 15 = .inl (0, 365, fc)) (c16 : h 16 = .inl (0, 20, nx)) {nr ns nm : Int} {rd ry rm rt se md my mt : Nat → Int} (c40 : h 40 = .inr (3, [iv nr, iv ns, iv nm, .ref 41, .ref 42, .ref 43, .ref 44, .ref 45, .ref 46, .ref 47, .ref 48])) (c41 : h 41 = .inl (0, 12, rd)) (c42 : h 42 = .inl (0, 12, ry)) (c43 : h 43 = .inl (0, 12, rm)) (c44 : h 44 = .inl (0, 12, rt)) (c45 : h 45 = .inl (0, 9, se)) (c46 : h 46 = .inl (0, 40, md)) (c47 : h 47 = .inl (0, 40, my)) (c48 : h 48 = .inl (0, 40, mt)) {taped fpl hlaw himg : Int} (c0 : h 0 = .inr (8, [.ref 1, iv taped, iv fpl, .ref 2, .ref 3, .ref 4, .ref 5, .ref 6, .ref 17, .ref 28, .ref 34, iv hlaw, .ref 40, .ref 49, iv himg, .ref 58, .ref 62, .ref 65, .ref 66, .ref 67])) {tf : Nat → Int} (c65 : h 65 = .inl (0, 9, tf)) (pi : PInv nd sw nc K U I O G L cf ct fc nx cd) (ni : NInv nr ns nm rd ry rm rt se md my mt) (htf : ∀ j, -1 ≤ tf j ∧ tf j < 1440) {to : Int} (hto : -1 ≤ to ∧ to < 1440) {m : Int} (hm : 0 ≤ m ∧ m < 1440) : mSem yX8_isBeaten cX8_isBeaten 5 (some .boolean) 2 0 0 [.ref 0, iv to, iv m] 97 h (Ret (b2i (btnI tf to m nd.toNat)) h) noX := by
  obtain ⟨pnd, psw, pnc, pK, pU, pI, pO, pG, pL, pcf, pct, pfc, pnx⟩ := id pi
  obtain ⟨pnr, pns, pnm, prd, pry, prm, prt, pse, pmd, pmy, pmt⟩ := id ni
  refine mSem_of (own := RX8) (name := "isBeaten") pn_X8 rfl rfl (Nat.le_of_ble_eq_true rfl) ?_
  refine r_iload_n dX8_isBeaten_0 rfl rfl ?_
  refine r_iconst dX8_isBeaten_1 ?_
  refine r_icmp_ne (tgt := 11) dX8_isBeaten_2 (by decide) ⟨by omega, by omega⟩ ⟨by omega, by omega⟩ (fun g2 => ?_) (fun g2 => ?_)
  · refine r_iload_n dX8_isBeaten_11 rfl rfl ?_
    refine r_iload_n dX8_isBeaten_12 rfl rfl ?_
    refine r_callS [_, _] (s_X8_wrongBy (by omega) (by omega)) dX8_isBeaten_13 cs_X8_181 sm_X8_wrongBy (by decide) (by decide) (by decide) rfl rfl (Nat.le_of_ble_eq_true rfl) (fun _ _ _ q => q.elim) (fun v n2 h2 q => ?_)
    obtain ⟨rfl, rfl, hh⟩ := q
    obtain rfl := hh.symm
    refine ⟨rfl, ?_⟩
    dsimp only [Option.toList, List.cons_append, List.nil_append]
    refine r_istore_n (lv2 := [(0, _), (1, _), (2, _), (3, _)]) dX8_isBeaten_16 rfl (by decide) rfl rfl ?_
    refine r_iconst dX8_isBeaten_17 ?_
    refine r_istore (lv2 := [(0, _), (1, _), (2, _), (3, _), (4, _)]) dX8_isBeaten_18 (by decide) rfl rfl ?_
    have em : mostI to m = if to = -1 then 1440 else wrongI to m := rfl
    first | rw [if_pos g2] at em | rw [if_neg g2] at em
    have hk := l_X8_isBeaten c6 c7 c8 c9 c10 c11 c12 c13 c14 c15 c16 c40 c41 c42 c43 c44 c45 c46 c47 c48 c0 c65 pi ni htf hto hm nd.toNat 0 (by omega) (fun j hj => absurd hj (by omega))
    rw [em] at hk
    exact hk
  · refine r_sipush dX8_isBeaten_5 rfl ?_
    refine r_goto (tgt := 16) dX8_isBeaten_8 (by decide) ?_
    refine r_istore_n (lv2 := [(0, _), (1, _), (2, _), (3, _)]) dX8_isBeaten_16 rfl (by decide) rfl rfl ?_
    refine r_iconst dX8_isBeaten_17 ?_
    refine r_istore (lv2 := [(0, _), (1, _), (2, _), (3, _), (4, _)]) dX8_isBeaten_18 (by decide) rfl rfl ?_
    have em : mostI to m = if to = -1 then 1440 else wrongI to m := rfl
    first | rw [if_pos g2] at em | rw [if_neg g2] at em
    have hk := l_X8_isBeaten c6 c7 c8 c9 c10 c11 c12 c13 c14 c15 c16 c40 c41 c42 c43 c44 c45 c46 c47 c48 c0 c65 pi ni htf hto hm nd.toNat 0 (by omega) (fun j hj => absurd hj (by omega))
    rw [em] at hk
    exact hk

theorem l_X8_middleOf_in_66 {h : aH} {f : Nat → Int} (c65 : h 65 = .inl (0, 9, f)) (hf : ∀ j, -1 ≤ f j ∧ f j < 1440) {b : Nat} (hb : b < 512) {Q : Option Value → Nat → aH → Prop} {d n k : Nat} (hk9 : k < 9) (hn : n < 9) (hv : 0 ≤ f k) : ∀ (B A : List Int) (g : Nat → Int), (∀ x ∈ B, 0 ≤ x ∧ x < 1440) → (∀ j, j < B.length → g j = B.getD (B.length - 1 - j) 0) → (∀ j, j < A.length → g (B.length + 1 + j) = A.getD (A.length - 1 - j) 0) → n = A.length + B.length →
    (∀ (g2 : Nat → Int) (p : Int), ag g2 (A ++ rins (f k) B) → Ev RX8 "middleOf" cX8_middleOf 6 (some .int) d 0 0 Q noX 97 (va_up h 66 (.inl (0, 9, g2))) 83 [(0, .ref 65), (1, iv b), (2, .ref 66), (3, iv (n : Nat)), (4, iv (k : Nat)), (5, iv p)] []) → Ev RX8 "middleOf" cX8_middleOf 6 (some .int) d 0 0 Q noX 97 (va_up h 66 (.inl (0, 9, g))) 41 [(0, .ref 65), (1, iv b), (2, .ref 66), (3, iv (n : Nat)), (4, iv (k : Nat)), (5, iv (B.length : Nat))] [] := by
  have bf := hf k
  intro B
  induction B with
  | nil =>
    intro A g hBB hB hA hnn hk
    have h1 := ag_put (g := g) (A := A) (B := []) (v := f k) hB hA
    rw [List.length_nil]
    refine r_iload dX8_middleOf_41 rfl ?_
    refine r_if_le (tgt := 75) dX8_middleOf_43 (by decide) ⟨by omega, by omega⟩ (fun g43 => ?_) (fun g43 => absurd g43 (by omega))
    refine r_aload_n dX8_middleOf_75 rfl rfl ?_
    refine r_iload dX8_middleOf_76 rfl ?_
    refine r_aload_n dX8_middleOf_78 rfl rfl ?_
    refine r_iload dX8_middleOf_79 rfl ?_
    refine r_ald dX8_middleOf_81 (by decide) c65 (by omega) (by omega) (by decide) ?_
    rw [Int.toNat_natCast]
    refine r_ast dX8_middleOf_82 (by decide) rfl (by omega) (by omega) (by decide) ?_
    rw [bx_uu]
    exact hk _ _ h1
  | cons x B ih =>
    intro A g hBB hB hA hnn hk
    have bx := hBB x List.mem_cons_self
    rw [List.length_cons] at hnn
    have ex : g B.length = x := by
      have := hB B.length (by rw [List.length_cons]; omega)
      rw [this, List.length_cons, show B.length + 1 - 1 - B.length = 0 by omega]
      rfl
    have el : (((B.length + 1 : Nat) : Int) - 1).toNat = B.length := by omega
    have er : rins (f k) (x :: B) = if f k < x then x :: rins (f k) B else f k :: x :: B := rfl
    have h1 := ag_put (g := g) (A := A) (B := x :: B) (v := f k) hB hA
    rw [List.length_cons] at h1
    have hi := ih (A ++ [x]) (va_up g (B.length + 1) x) (fun z hz => hBB z (List.mem_cons_of_mem _ hz)) (fun j hj => by
      have := hB j (by rw [List.length_cons]; omega)
      rw [List.length_cons, show B.length + 1 - 1 - j = (B.length - 1 - j) + 1 by omega] at this
      have e2 : va_up g (B.length + 1) x j = g j := by simp [va_up, show ¬ (j = B.length + 1) by omega]
      rw [e2, this]
      rfl) (fun j hj => by
      rw [List.length_append, List.length_singleton] at hj ⊢
      cases j with
      | zero =>
        rw [show A.length + 1 - 1 - 0 = A.length + 0 by omega, getD_apr]
        simp [va_up]
      | succ j =>
        have := hA j (by omega)
        rw [List.length_cons] at this
        have e2 : va_up g (B.length + 1) x (B.length + 1 + (j + 1)) = g (B.length + 1 + 1 + j) := by simp [va_up, show B.length + 1 + (j + 1) = B.length + 1 + 1 + j by omega]; intro; omega
        rw [e2, this, show A.length + 1 - 1 - (j + 1) = A.length - 1 - j by omega, getD_apl (by omega)]) (by rw [List.length_append, List.length_singleton]; omega)
    rw [List.length_cons]
    refine r_iload dX8_middleOf_41 rfl ?_
    refine r_if_le (tgt := 75) dX8_middleOf_43 (by decide) ⟨by omega, by omega⟩ (fun g43 => absurd g43 (by omega)) (fun g43 => ?_)
    refine r_aload_n dX8_middleOf_46 rfl rfl ?_
    refine r_iload dX8_middleOf_47 rfl ?_
    refine r_iconst dX8_middleOf_49 ?_
    refine r_isub dX8_middleOf_50 ?_
    refine r_ald dX8_middleOf_51 (by decide) rfl (by omega) (by omega) (by decide) ?_
    rw [el, ex]
    refine r_aload_n dX8_middleOf_52 rfl rfl ?_
    refine r_iload dX8_middleOf_53 rfl ?_
    refine r_ald dX8_middleOf_55 (by decide) c65 (by omega) (by omega) (by decide) ?_
    rw [Int.toNat_natCast]
    refine r_icmp_le (tgt := 75) dX8_middleOf_56 (by decide) ⟨by omega, by omega⟩ ⟨by omega, by omega⟩ (fun g56 => ?_) (fun g56 => ?_)
    · refine r_aload_n dX8_middleOf_75 rfl rfl ?_
      refine r_iload dX8_middleOf_76 rfl ?_
      refine r_aload_n dX8_middleOf_78 rfl rfl ?_
      refine r_iload dX8_middleOf_79 rfl ?_
      refine r_ald dX8_middleOf_81 (by decide) c65 (by omega) (by omega) (by decide) ?_
      rw [Int.toNat_natCast]
      refine r_ast dX8_middleOf_82 (by decide) rfl (by omega) (by omega) (by decide) ?_
      rw [if_neg (by omega)] at er
      rw [er] at hk
      rw [bx_uu]
      exact hk _ _ h1
    · refine r_aload_n dX8_middleOf_59 rfl rfl ?_
      refine r_iload dX8_middleOf_60 rfl ?_
      refine r_aload_n dX8_middleOf_62 rfl rfl ?_
      refine r_iload dX8_middleOf_63 rfl ?_
      refine r_iconst dX8_middleOf_65 ?_
      refine r_isub dX8_middleOf_66 ?_
      refine r_ald dX8_middleOf_67 (by decide) rfl (by omega) (by omega) (by decide) ?_
      rw [el, ex]
      refine r_ast dX8_middleOf_68 (by decide) rfl (by omega) (by omega) (by decide) ?_
      refine r_iinc (lv2 := [(0, _), (1, _), (2, _), (3, _), (4, _), (5, _)]) dX8_middleOf_69 (by decide) rfl rfl rfl ?_
      refine r_goto (tgt := 41) dX8_middleOf_72 (by decide) ?_
      rw [if_pos (by omega)] at er
      rw [bx_uu, Int.toNat_natCast, show ((B.length + 1 : Nat) : Int) + -1 = (B.length : Nat) by omega]
      refine hi (fun g2 p hg => hk g2 p ?_)
      rw [er]
      rw [List.append_assoc] at hg
      exact hg

theorem l_X8_middleOf_66 {h : aH} {f : Nat → Int} (c65 : h 65 = .inl (0, 9, f)) (hf : ∀ j, -1 ≤ f j ∧ f j < 1440) {b : Nat} (hb : b < 512) {d : Nat} : ∀ (w k : Nat) (g : Nat → Int), k + w = 9 → ag g (midL f b k) → Ev RX8 "middleOf" cX8_middleOf 6 (some .int) d 0 0 (RetA 66 9 (midI (midL f b 9)) h) noX 97 (va_up h 66 (.inl (0, 9, g))) 5 [(0, .ref 65), (1, iv b), (2, .ref 66), (3, iv ((midL f b k).length : Nat)), (4, iv (k : Nat))] [] := by
  intro w
  induction w with
  | zero =>
    intro k g hk hg
    obtain rfl : k = 9 := by omega
    have bl := midL_len f b 9
    have bB := midL_B (b := b) hf 9
    refine r_iload dX8_middleOf_5 rfl ?_
    refine r_aload_n dX8_middleOf_7 rfl rfl ?_
    refine r_alen dX8_middleOf_8 (by decide) c65 (by decide) ?_
    refine r_icmp_ge (tgt := 92) dX8_middleOf_9 (by decide) ⟨by omega, by omega⟩ ⟨by omega, by omega⟩ (fun g9 => ?_) (fun g9 => absurd g9 (by omega))
    refine r_iload_n dX8_middleOf_92 rfl rfl ?_
    refine r_if_ne (tgt := 100) dX8_middleOf_93 (by decide) ⟨by omega, by omega⟩ (fun g93 => ?_) (fun g93 => ?_)
    · refine r_aload_n dX8_middleOf_100 rfl rfl ?_
      refine r_iload_n dX8_middleOf_101 rfl rfl ?_
      refine r_iconst dX8_middleOf_102 ?_
      refine r_idivN dX8_middleOf_103 (by omega) (by omega) (by omega) (by omega) ?_
      refine r_ald dX8_middleOf_104 (by decide) rfl (by omega) (by omega) (by decide) ?_
      refine r_iret dX8_middleOf_105 ?_
      first
        | exact ⟨ivE (by unfold midI; rw [if_pos (by omega)]), rfl, g, rfl⟩
        | (have e1 : ((((midL f b 9).length : Nat) : Int) / 2).toNat = (midL f b 9).length / 2 := by omega
           rw [e1, hg _ (by omega)]
           exact ⟨ivE (by unfold midI; rw [if_neg (by omega)]), rfl, g, rfl⟩)
    · refine r_iconst dX8_middleOf_96 ?_
      refine r_goto (tgt := 105) dX8_middleOf_97 (by decide) ?_
      refine r_iret dX8_middleOf_105 ?_
      first
        | exact ⟨ivE (by unfold midI; rw [if_pos (by omega)]), rfl, g, rfl⟩
        | (have e1 : ((((midL f b 9).length : Nat) : Int) / 2).toNat = (midL f b 9).length / 2 := by omega
           rw [e1, hg _ (by omega)]
           exact ⟨ivE (by unfold midI; rw [if_neg (by omega)]), rfl, g, rfl⟩)
  | succ w ih =>
    intro k g hk hg
    have bl := midL_len f b k
    have bB := midL_B (b := b) hf k
    have bf := hf k
    have hi := ih (k + 1)
    have e0 := bit_0 b k
    have e1 := bit_B b k
    rw [midL_s] at hi
    refine r_iload dX8_middleOf_5 rfl ?_
    refine r_aload_n dX8_middleOf_7 rfl rfl ?_
    refine r_alen dX8_middleOf_8 (by decide) c65 (by decide) ?_
    refine r_icmp_ge (tgt := 92) dX8_middleOf_9 (by decide) ⟨by omega, by omega⟩ ⟨by omega, by omega⟩ (fun g9 => absurd g9 (by omega)) (fun g9 => ?_)
    refine r_iload_n dX8_middleOf_12 rfl rfl ?_
    refine r_iload dX8_middleOf_13 rfl ?_
    refine r_ishr _ dX8_middleOf_15 (shrI hb (by omega)) ?_
    refine r_iconst dX8_middleOf_16 ?_
    refine r_iand _ dX8_middleOf_17 (andI _ 1) ?_
    refine r_if_eq (tgt := 86) dX8_middleOf_18 (by decide) ⟨by omega, by omega⟩ (fun g18 => ?_) (fun g18 => ?_)
    · refine r_iinc (lv2 := [(0, _), (1, _), (2, _), (3, _), (4, _)]) dX8_middleOf_86 (by decide) rfl rfl rfl ?_
      refine r_goto (tgt := 5) dX8_middleOf_89 (by decide) ?_
      rw [show (k : Int) + 1 = ((k + 1 : Nat) : Int) by omega]
      refine r_lv (lv2 := [(0, _), (1, _), (2, _), (3, _), (4, _)]) rfl ?_
      first
        | (rw [show (((midL f b k).length : Nat) : Int) + 1 = (((midL f b k).length + 1 : Nat) : Int) by omega]
           exact hi2)
        | (rw [if_neg (by first | (rw [e0.mp g18]; simp) | (intro q; exact q.2 (by omega)))] at hi
           exact hi g (by omega) hg)
    · refine r_aload_n dX8_middleOf_21 rfl rfl ?_
      refine r_iload dX8_middleOf_22 rfl ?_
      refine r_ald dX8_middleOf_24 (by decide) c65 (by omega) (by omega) (by decide) ?_
      rw [Int.toNat_natCast]
      refine r_iconst dX8_middleOf_25 ?_
      refine r_icmp_eq (tgt := 86) dX8_middleOf_26 (by decide) ⟨by omega, by omega⟩ ⟨by omega, by omega⟩ (fun g26 => ?_) (fun g26 => ?_)
      · refine r_iinc (lv2 := [(0, _), (1, _), (2, _), (3, _), (4, _)]) dX8_middleOf_86 (by decide) rfl rfl rfl ?_
        refine r_goto (tgt := 5) dX8_middleOf_89 (by decide) ?_
        rw [show (k : Int) + 1 = ((k + 1 : Nat) : Int) by omega]
        refine r_lv (lv2 := [(0, _), (1, _), (2, _), (3, _), (4, _)]) rfl ?_
        first
          | (rw [show (((midL f b k).length : Nat) : Int) + 1 = (((midL f b k).length + 1 : Nat) : Int) by omega]
             exact hi2)
          | (rw [if_neg (by first | (rw [e0.mp g18]; simp) | (intro q; exact q.2 (by omega)))] at hi
             exact hi g (by omega) hg)
      · refine r_iload_n dX8_middleOf_29 rfl rfl ?_
        refine r_aload_n dX8_middleOf_30 rfl rfl ?_
        refine r_alen dX8_middleOf_31 (by decide) rfl (by decide) ?_
        refine r_icmp_lt (tgt := 38) dX8_middleOf_32 (by decide) ⟨by omega, by omega⟩ ⟨by omega, by omega⟩ (fun g32 => ?_) (fun g32 => absurd g32 (by omega))
        refine r_iload_n dX8_middleOf_38 rfl rfl ?_
        refine r_istore (lv2 := [(0, _), (1, _), (2, _), (3, _), (4, _), (5, _)]) dX8_middleOf_39 (by decide) rfl rfl ?_
        have et : b.testBit k = true := by rw [e0, Bool.not_eq_false] at g18; exact g18
        rw [if_pos ⟨et, by omega⟩] at hi
        refine r_lv (lv2 := [(0, _), (1, _), (2, _), (3, _), (4, _), (5, _)]) rfl ?_
        refine l_X8_middleOf_in_66 c65 hf hb (by omega) (by omega) (by omega) (midL f b k) [] g bB hg (fun j hj => absurd hj (Nat.not_lt_zero j)) (by rw [List.length_nil]; omega) (fun g2 p hg2 => ?_)
        rw [List.nil_append] at hg2
        have hi2 := hi g2 (by omega) hg2
        rw [rins_len] at hi2
        refine r_iinc (lv2 := [(0, _), (1, _), (2, _), (3, _), (4, _), (5, _)]) dX8_middleOf_83 (by decide) rfl rfl rfl ?_
        refine r_iinc (lv2 := [(0, _), (1, _), (2, _), (3, _), (4, _), (5, _)]) dX8_middleOf_86 (by decide) rfl rfl rfl ?_
        refine r_goto (tgt := 5) dX8_middleOf_89 (by decide) ?_
        rw [show (k : Int) + 1 = ((k + 1 : Nat) : Int) by omega]
        refine r_lv (lv2 := [(0, _), (1, _), (2, _), (3, _), (4, _)]) rfl ?_
        first
          | (rw [show (((midL f b k).length : Nat) : Int) + 1 = (((midL f b k).length + 1 : Nat) : Int) by omega]
             exact hi2)
          | (rw [if_neg (by first | (rw [e0.mp g18]; simp) | (intro q; exact q.2 (by omega)))] at hi
             exact hi g (by omega) hg)

theorem s_X8_middleOf_66 {h : aH} {f : Nat → Int} (c65 : h 65 = .inl (0, 9, f)) (hf : ∀ j, -1 ≤ f j ∧ f j < 1440) {b : Nat} (hb : b < 512) {g : Nat → Int} (c66 : h 66 = .inl (0, 9, g)) : mSem yX8_middleOf cX8_middleOf 6 (some .int) 0 0 0 [.ref 65, iv b, .ref 66] 97 h (RetA 66 9 (midI (midL f b 9)) h) noX := by
  refine mSem_of (own := RX8) (name := "middleOf") pn_X8 rfl rfl (Nat.le_of_ble_eq_true rfl) ?_
  refine r_iconst dX8_middleOf_0 ?_
  refine r_istore_n (lv2 := [(0, _), (1, _), (2, _), (3, _)]) dX8_middleOf_1 rfl (by decide) rfl rfl ?_
  refine r_iconst dX8_middleOf_2 ?_
  refine r_istore (lv2 := [(0, _), (1, _), (2, _), (3, _), (4, _)]) dX8_middleOf_3 (by decide) rfl rfl ?_
  refine ev_h (up_same c66) ?_
  exact l_X8_middleOf_66 c65 hf hb 9 0 g (by omega) (fun j hj => absurd hj (Nat.not_lt_zero j))

theorem l_X8_middleOf_in_33 {h : aH} {f : Nat → Int} (c65 : h 65 = .inl (0, 9, f)) (hf : ∀ j, -1 ≤ f j ∧ f j < 1440) {b : Nat} (hb : b < 512) {Q : Option Value → Nat → aH → Prop} {d n k : Nat} (hk9 : k < 9) (hn : n < 9) (hv : 0 ≤ f k) : ∀ (B A : List Int) (g : Nat → Int), (∀ x ∈ B, 0 ≤ x ∧ x < 1440) → (∀ j, j < B.length → g j = B.getD (B.length - 1 - j) 0) → (∀ j, j < A.length → g (B.length + 1 + j) = A.getD (A.length - 1 - j) 0) → n = A.length + B.length →
    (∀ (g2 : Nat → Int) (p : Int), ag g2 (A ++ rins (f k) B) → Ev RX8 "middleOf" cX8_middleOf 6 (some .int) d 0 0 Q noX 97 (va_up h 33 (.inl (0, 9, g2))) 83 [(0, .ref 65), (1, iv b), (2, .ref 33), (3, iv (n : Nat)), (4, iv (k : Nat)), (5, iv p)] []) → Ev RX8 "middleOf" cX8_middleOf 6 (some .int) d 0 0 Q noX 97 (va_up h 33 (.inl (0, 9, g))) 41 [(0, .ref 65), (1, iv b), (2, .ref 33), (3, iv (n : Nat)), (4, iv (k : Nat)), (5, iv (B.length : Nat))] [] := by
  have bf := hf k
  intro B
  induction B with
  | nil =>
    intro A g hBB hB hA hnn hk
    have h1 := ag_put (g := g) (A := A) (B := []) (v := f k) hB hA
    rw [List.length_nil]
    refine r_iload dX8_middleOf_41 rfl ?_
    refine r_if_le (tgt := 75) dX8_middleOf_43 (by decide) ⟨by omega, by omega⟩ (fun g43 => ?_) (fun g43 => absurd g43 (by omega))
    refine r_aload_n dX8_middleOf_75 rfl rfl ?_
    refine r_iload dX8_middleOf_76 rfl ?_
    refine r_aload_n dX8_middleOf_78 rfl rfl ?_
    refine r_iload dX8_middleOf_79 rfl ?_
    refine r_ald dX8_middleOf_81 (by decide) c65 (by omega) (by omega) (by decide) ?_
    rw [Int.toNat_natCast]
    refine r_ast dX8_middleOf_82 (by decide) rfl (by omega) (by omega) (by decide) ?_
    rw [bx_uu]
    exact hk _ _ h1
  | cons x B ih =>
    intro A g hBB hB hA hnn hk
    have bx := hBB x List.mem_cons_self
    rw [List.length_cons] at hnn
    have ex : g B.length = x := by
      have := hB B.length (by rw [List.length_cons]; omega)
      rw [this, List.length_cons, show B.length + 1 - 1 - B.length = 0 by omega]
      rfl
    have el : (((B.length + 1 : Nat) : Int) - 1).toNat = B.length := by omega
    have er : rins (f k) (x :: B) = if f k < x then x :: rins (f k) B else f k :: x :: B := rfl
    have h1 := ag_put (g := g) (A := A) (B := x :: B) (v := f k) hB hA
    rw [List.length_cons] at h1
    have hi := ih (A ++ [x]) (va_up g (B.length + 1) x) (fun z hz => hBB z (List.mem_cons_of_mem _ hz)) (fun j hj => by
      have := hB j (by rw [List.length_cons]; omega)
      rw [List.length_cons, show B.length + 1 - 1 - j = (B.length - 1 - j) + 1 by omega] at this
      have e2 : va_up g (B.length + 1) x j = g j := by simp [va_up, show ¬ (j = B.length + 1) by omega]
      rw [e2, this]
      rfl) (fun j hj => by
      rw [List.length_append, List.length_singleton] at hj ⊢
      cases j with
      | zero =>
        rw [show A.length + 1 - 1 - 0 = A.length + 0 by omega, getD_apr]
        simp [va_up]
      | succ j =>
        have := hA j (by omega)
        rw [List.length_cons] at this
        have e2 : va_up g (B.length + 1) x (B.length + 1 + (j + 1)) = g (B.length + 1 + 1 + j) := by simp [va_up, show B.length + 1 + (j + 1) = B.length + 1 + 1 + j by omega]; intro; omega
        rw [e2, this, show A.length + 1 - 1 - (j + 1) = A.length - 1 - j by omega, getD_apl (by omega)]) (by rw [List.length_append, List.length_singleton]; omega)
    rw [List.length_cons]
    refine r_iload dX8_middleOf_41 rfl ?_
    refine r_if_le (tgt := 75) dX8_middleOf_43 (by decide) ⟨by omega, by omega⟩ (fun g43 => absurd g43 (by omega)) (fun g43 => ?_)
    refine r_aload_n dX8_middleOf_46 rfl rfl ?_
    refine r_iload dX8_middleOf_47 rfl ?_
    refine r_iconst dX8_middleOf_49 ?_
    refine r_isub dX8_middleOf_50 ?_
    refine r_ald dX8_middleOf_51 (by decide) rfl (by omega) (by omega) (by decide) ?_
    rw [el, ex]
    refine r_aload_n dX8_middleOf_52 rfl rfl ?_
    refine r_iload dX8_middleOf_53 rfl ?_
    refine r_ald dX8_middleOf_55 (by decide) c65 (by omega) (by omega) (by decide) ?_
    rw [Int.toNat_natCast]
    refine r_icmp_le (tgt := 75) dX8_middleOf_56 (by decide) ⟨by omega, by omega⟩ ⟨by omega, by omega⟩ (fun g56 => ?_) (fun g56 => ?_)
    · refine r_aload_n dX8_middleOf_75 rfl rfl ?_
      refine r_iload dX8_middleOf_76 rfl ?_
      refine r_aload_n dX8_middleOf_78 rfl rfl ?_
      refine r_iload dX8_middleOf_79 rfl ?_
      refine r_ald dX8_middleOf_81 (by decide) c65 (by omega) (by omega) (by decide) ?_
      rw [Int.toNat_natCast]
      refine r_ast dX8_middleOf_82 (by decide) rfl (by omega) (by omega) (by decide) ?_
      rw [if_neg (by omega)] at er
      rw [er] at hk
      rw [bx_uu]
      exact hk _ _ h1
    · refine r_aload_n dX8_middleOf_59 rfl rfl ?_
      refine r_iload dX8_middleOf_60 rfl ?_
      refine r_aload_n dX8_middleOf_62 rfl rfl ?_
      refine r_iload dX8_middleOf_63 rfl ?_
      refine r_iconst dX8_middleOf_65 ?_
      refine r_isub dX8_middleOf_66 ?_
      refine r_ald dX8_middleOf_67 (by decide) rfl (by omega) (by omega) (by decide) ?_
      rw [el, ex]
      refine r_ast dX8_middleOf_68 (by decide) rfl (by omega) (by omega) (by decide) ?_
      refine r_iinc (lv2 := [(0, _), (1, _), (2, _), (3, _), (4, _), (5, _)]) dX8_middleOf_69 (by decide) rfl rfl rfl ?_
      refine r_goto (tgt := 41) dX8_middleOf_72 (by decide) ?_
      rw [if_pos (by omega)] at er
      rw [bx_uu, Int.toNat_natCast, show ((B.length + 1 : Nat) : Int) + -1 = (B.length : Nat) by omega]
      refine hi (fun g2 p hg => hk g2 p ?_)
      rw [er]
      rw [List.append_assoc] at hg
      exact hg

theorem l_X8_middleOf_33 {h : aH} {f : Nat → Int} (c65 : h 65 = .inl (0, 9, f)) (hf : ∀ j, -1 ≤ f j ∧ f j < 1440) {b : Nat} (hb : b < 512) {d : Nat} : ∀ (w k : Nat) (g : Nat → Int), k + w = 9 → ag g (midL f b k) → Ev RX8 "middleOf" cX8_middleOf 6 (some .int) d 0 0 (RetA 33 9 (midI (midL f b 9)) h) noX 97 (va_up h 33 (.inl (0, 9, g))) 5 [(0, .ref 65), (1, iv b), (2, .ref 33), (3, iv ((midL f b k).length : Nat)), (4, iv (k : Nat))] [] := by
  intro w
  induction w with
  | zero =>
    intro k g hk hg
    obtain rfl : k = 9 := by omega
    have bl := midL_len f b 9
    have bB := midL_B (b := b) hf 9
    refine r_iload dX8_middleOf_5 rfl ?_
    refine r_aload_n dX8_middleOf_7 rfl rfl ?_
    refine r_alen dX8_middleOf_8 (by decide) c65 (by decide) ?_
    refine r_icmp_ge (tgt := 92) dX8_middleOf_9 (by decide) ⟨by omega, by omega⟩ ⟨by omega, by omega⟩ (fun g9 => ?_) (fun g9 => absurd g9 (by omega))
    refine r_iload_n dX8_middleOf_92 rfl rfl ?_
    refine r_if_ne (tgt := 100) dX8_middleOf_93 (by decide) ⟨by omega, by omega⟩ (fun g93 => ?_) (fun g93 => ?_)
    · refine r_aload_n dX8_middleOf_100 rfl rfl ?_
      refine r_iload_n dX8_middleOf_101 rfl rfl ?_
      refine r_iconst dX8_middleOf_102 ?_
      refine r_idivN dX8_middleOf_103 (by omega) (by omega) (by omega) (by omega) ?_
      refine r_ald dX8_middleOf_104 (by decide) rfl (by omega) (by omega) (by decide) ?_
      refine r_iret dX8_middleOf_105 ?_
      first
        | exact ⟨ivE (by unfold midI; rw [if_pos (by omega)]), rfl, g, rfl⟩
        | (have e1 : ((((midL f b 9).length : Nat) : Int) / 2).toNat = (midL f b 9).length / 2 := by omega
           rw [e1, hg _ (by omega)]
           exact ⟨ivE (by unfold midI; rw [if_neg (by omega)]), rfl, g, rfl⟩)
    · refine r_iconst dX8_middleOf_96 ?_
      refine r_goto (tgt := 105) dX8_middleOf_97 (by decide) ?_
      refine r_iret dX8_middleOf_105 ?_
      first
        | exact ⟨ivE (by unfold midI; rw [if_pos (by omega)]), rfl, g, rfl⟩
        | (have e1 : ((((midL f b 9).length : Nat) : Int) / 2).toNat = (midL f b 9).length / 2 := by omega
           rw [e1, hg _ (by omega)]
           exact ⟨ivE (by unfold midI; rw [if_neg (by omega)]), rfl, g, rfl⟩)
  | succ w ih =>
    intro k g hk hg
    have bl := midL_len f b k
    have bB := midL_B (b := b) hf k
    have bf := hf k
    have hi := ih (k + 1)
    have e0 := bit_0 b k
    have e1 := bit_B b k
    rw [midL_s] at hi
    refine r_iload dX8_middleOf_5 rfl ?_
    refine r_aload_n dX8_middleOf_7 rfl rfl ?_
    refine r_alen dX8_middleOf_8 (by decide) c65 (by decide) ?_
    refine r_icmp_ge (tgt := 92) dX8_middleOf_9 (by decide) ⟨by omega, by omega⟩ ⟨by omega, by omega⟩ (fun g9 => absurd g9 (by omega)) (fun g9 => ?_)
    refine r_iload_n dX8_middleOf_12 rfl rfl ?_
    refine r_iload dX8_middleOf_13 rfl ?_
    refine r_ishr _ dX8_middleOf_15 (shrI hb (by omega)) ?_
    refine r_iconst dX8_middleOf_16 ?_
    refine r_iand _ dX8_middleOf_17 (andI _ 1) ?_
    refine r_if_eq (tgt := 86) dX8_middleOf_18 (by decide) ⟨by omega, by omega⟩ (fun g18 => ?_) (fun g18 => ?_)
    · refine r_iinc (lv2 := [(0, _), (1, _), (2, _), (3, _), (4, _)]) dX8_middleOf_86 (by decide) rfl rfl rfl ?_
      refine r_goto (tgt := 5) dX8_middleOf_89 (by decide) ?_
      rw [show (k : Int) + 1 = ((k + 1 : Nat) : Int) by omega]
      refine r_lv (lv2 := [(0, _), (1, _), (2, _), (3, _), (4, _)]) rfl ?_
      first
        | (rw [show (((midL f b k).length : Nat) : Int) + 1 = (((midL f b k).length + 1 : Nat) : Int) by omega]
           exact hi2)
        | (rw [if_neg (by first | (rw [e0.mp g18]; simp) | (intro q; exact q.2 (by omega)))] at hi
           exact hi g (by omega) hg)
    · refine r_aload_n dX8_middleOf_21 rfl rfl ?_
      refine r_iload dX8_middleOf_22 rfl ?_
      refine r_ald dX8_middleOf_24 (by decide) c65 (by omega) (by omega) (by decide) ?_
      rw [Int.toNat_natCast]
      refine r_iconst dX8_middleOf_25 ?_
      refine r_icmp_eq (tgt := 86) dX8_middleOf_26 (by decide) ⟨by omega, by omega⟩ ⟨by omega, by omega⟩ (fun g26 => ?_) (fun g26 => ?_)
      · refine r_iinc (lv2 := [(0, _), (1, _), (2, _), (3, _), (4, _)]) dX8_middleOf_86 (by decide) rfl rfl rfl ?_
        refine r_goto (tgt := 5) dX8_middleOf_89 (by decide) ?_
        rw [show (k : Int) + 1 = ((k + 1 : Nat) : Int) by omega]
        refine r_lv (lv2 := [(0, _), (1, _), (2, _), (3, _), (4, _)]) rfl ?_
        first
          | (rw [show (((midL f b k).length : Nat) : Int) + 1 = (((midL f b k).length + 1 : Nat) : Int) by omega]
             exact hi2)
          | (rw [if_neg (by first | (rw [e0.mp g18]; simp) | (intro q; exact q.2 (by omega)))] at hi
             exact hi g (by omega) hg)
      · refine r_iload_n dX8_middleOf_29 rfl rfl ?_
        refine r_aload_n dX8_middleOf_30 rfl rfl ?_
        refine r_alen dX8_middleOf_31 (by decide) rfl (by decide) ?_
        refine r_icmp_lt (tgt := 38) dX8_middleOf_32 (by decide) ⟨by omega, by omega⟩ ⟨by omega, by omega⟩ (fun g32 => ?_) (fun g32 => absurd g32 (by omega))
        refine r_iload_n dX8_middleOf_38 rfl rfl ?_
        refine r_istore (lv2 := [(0, _), (1, _), (2, _), (3, _), (4, _), (5, _)]) dX8_middleOf_39 (by decide) rfl rfl ?_
        have et : b.testBit k = true := by rw [e0, Bool.not_eq_false] at g18; exact g18
        rw [if_pos ⟨et, by omega⟩] at hi
        refine r_lv (lv2 := [(0, _), (1, _), (2, _), (3, _), (4, _), (5, _)]) rfl ?_
        refine l_X8_middleOf_in_33 c65 hf hb (by omega) (by omega) (by omega) (midL f b k) [] g bB hg (fun j hj => absurd hj (Nat.not_lt_zero j)) (by rw [List.length_nil]; omega) (fun g2 p hg2 => ?_)
        rw [List.nil_append] at hg2
        have hi2 := hi g2 (by omega) hg2
        rw [rins_len] at hi2
        refine r_iinc (lv2 := [(0, _), (1, _), (2, _), (3, _), (4, _), (5, _)]) dX8_middleOf_83 (by decide) rfl rfl rfl ?_
        refine r_iinc (lv2 := [(0, _), (1, _), (2, _), (3, _), (4, _), (5, _)]) dX8_middleOf_86 (by decide) rfl rfl rfl ?_
        refine r_goto (tgt := 5) dX8_middleOf_89 (by decide) ?_
        rw [show (k : Int) + 1 = ((k + 1 : Nat) : Int) by omega]
        refine r_lv (lv2 := [(0, _), (1, _), (2, _), (3, _), (4, _)]) rfl ?_
        first
          | (rw [show (((midL f b k).length : Nat) : Int) + 1 = (((midL f b k).length + 1 : Nat) : Int) by omega]
             exact hi2)
          | (rw [if_neg (by first | (rw [e0.mp g18]; simp) | (intro q; exact q.2 (by omega)))] at hi
             exact hi g (by omega) hg)

theorem s_X8_middleOf_33 {h : aH} {f : Nat → Int} (c65 : h 65 = .inl (0, 9, f)) (hf : ∀ j, -1 ≤ f j ∧ f j < 1440) {b : Nat} (hb : b < 512) {g : Nat → Int} (c33 : h 33 = .inl (0, 9, g)) : mSem yX8_middleOf cX8_middleOf 6 (some .int) 0 0 0 [.ref 65, iv b, .ref 33] 97 h (RetA 33 9 (midI (midL f b 9)) h) noX := by
  refine mSem_of (own := RX8) (name := "middleOf") pn_X8 rfl rfl (Nat.le_of_ble_eq_true rfl) ?_
  refine r_iconst dX8_middleOf_0 ?_
  refine r_istore_n (lv2 := [(0, _), (1, _), (2, _), (3, _)]) dX8_middleOf_1 rfl (by decide) rfl rfl ?_
  refine r_iconst dX8_middleOf_2 ?_
  refine r_istore (lv2 := [(0, _), (1, _), (2, _), (3, _), (4, _)]) dX8_middleOf_3 (by decide) rfl rfl ?_
  refine ev_h (up_same c33) ?_
  exact l_X8_middleOf_33 c65 hf hb 9 0 g (by omega) (fun j hj => absurd hj (Nat.not_lt_zero j))
