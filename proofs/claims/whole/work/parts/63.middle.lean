/-! ===== the reference: the middle of some ===== -/
theorem ut_85 (h : aH) (a b : aE) (g : Nat → Int) (w : Int) (lt lgt : Nat → Int) : va_up (UT (va_up h 85 a) g w lt lgt) 85 b = UT (va_up h 85 b) g w lt lgt := by
  funext j
  unfold UT va_up
  by_cases q1 : j = 78
  · simp [q1]
  · by_cases q2 : j = 77
    · simp [q2]
    · by_cases q3 : j = 68
      · simp [q3]
      · by_cases q4 : j = 85
        · simp [q4]
        · simp [q1, q2, q3, q4]
theorem one_1 (b k : Nat) : ((((b >>> k) &&& 1 : Nat) : Int) = 1) ↔ b.testBit k = true := by
  have h1 := bit_0 b k
  have h2 := bit_B b k
  constructor
  · intro h
    cases q : b.testBit k with
    | false => have := h1.mpr q; omega
    | true => rfl
  · intro h
    have h3 : ¬ ((((b >>> k) &&& 1 : Nat) : Int) = 0) := fun z => by rw [h1.mp z] at h; exact absurd h (by decide)
    omega

theorem l_X9_middleOf_in {h : aH} {w : Int} {b : Nat} {Q : Option Value → Nat → aH → Prop} {gg lt lgt : Nat → Int} {n k : Nat} {day m v : Int} (hn : n < 9) (hv : 0 ≤ v ∧ v < 1440) : ∀ (B A : List Int) (r : Nat → Int), (∀ x ∈ B, 0 ≤ x ∧ x < 1440) → (∀ j, j < B.length → r j = B.getD (B.length - 1 - j) 0) → (∀ j, j < A.length → r (B.length + 1 + j) = A.getD (A.length - 1 - j) 0) → n = A.length + B.length →
    (∀ (r2 : Nat → Int) (p : Int), ag r2 (A ++ rins v B) → Ev RX9 "middleOf" cX9_middleOf 8 (some .int) 5 0 0 Q noX 97 (UT (va_up h 85 (.inl (0, 9, r2))) gg w lt lgt) 102 [(0, .ref 68), (1, iv b), (2, iv day), (3, iv m), (4, iv (n : Nat)), (5, iv (k : Nat)), (6, iv v), (7, iv p)] []) → Ev RX9 "middleOf" cX9_middleOf 8 (some .int) 5 0 0 Q noX 97 (UT (va_up h 85 (.inl (0, 9, r))) gg w lt lgt) 52 [(0, .ref 68), (1, iv b), (2, iv day), (3, iv m), (4, iv (n : Nat)), (5, iv (k : Nat)), (6, iv v), (7, iv (B.length : Nat))] [] := by
  intro B
  induction B with
  | nil =>
    intro A r hBB hB hA hnn hk
    have h1 := ag_put (g := r) (A := A) (B := []) (v := v) hB hA
    rw [List.length_nil]
    refine r_iload dX9_middleOf_52 rfl ?_
    refine r_if_le (tgt := 93) dX9_middleOf_54 (by decide) ⟨by omega, by omega⟩ (fun g54 => ?_) (fun g54 => absurd g54 (by omega))
    refine r_aload_n dX9_middleOf_93 rfl rfl ?_
    refine r_get (fs := RGL _ _) dX9_middleOf_94 fl_X9_69 (by decide) rfl rfl ?_
    refine r_iload dX9_middleOf_97 rfl ?_
    refine r_iload dX9_middleOf_99 rfl ?_
    refine r_ast dX9_middleOf_101 (by decide) rfl (by omega) (by omega) (by decide) ?_
    rw [ut_85, Int.toNat_natCast]
    exact hk _ _ h1
  | cons x B ih =>
    intro A r hBB hB hA hnn hk
    have bx := hBB x List.mem_cons_self
    rw [List.length_cons] at hnn
    have ex : r B.length = x := by
      have := hB B.length (by rw [List.length_cons]; omega)
      rw [this, List.length_cons, show B.length + 1 - 1 - B.length = 0 by omega]
      rfl
    have el : (((B.length + 1 : Nat) : Int) - 1).toNat = B.length := by omega
    have er : rins v (x :: B) = if v < x then x :: rins v B else v :: x :: B := rfl
    have h1 := ag_put (g := r) (A := A) (B := x :: B) (v := v) hB hA
    rw [List.length_cons] at h1
    have hi := ih (A ++ [x]) (va_up r (B.length + 1) x) (fun z hz => hBB z (List.mem_cons_of_mem _ hz)) (fun j hj => by
      have := hB j (by rw [List.length_cons]; omega)
      rw [List.length_cons, show B.length + 1 - 1 - j = (B.length - 1 - j) + 1 by omega] at this
      have e2 : va_up r (B.length + 1) x j = r j := by simp [va_up, show ¬ (j = B.length + 1) by omega]
      rw [e2, this]
      rfl) (fun j hj => by
      rw [List.length_append, List.length_singleton] at hj ⊢
      cases j with
      | zero =>
        rw [show A.length + 1 - 1 - 0 = A.length + 0 by omega, getD_apr]
        simp [va_up]
      | succ j =>
        have := hA j (by omega)
        rw [List.length_cons] at this
        have e2 : va_up r (B.length + 1) x (B.length + 1 + (j + 1)) = r (B.length + 1 + 1 + j) := by simp [va_up, show B.length + 1 + (j + 1) = B.length + 1 + 1 + j by omega]; intro; omega
        rw [e2, this, show A.length + 1 - 1 - (j + 1) = A.length - 1 - j by omega, getD_apl (by omega)]) (by rw [List.length_append, List.length_singleton]; omega)
    rw [List.length_cons]
    refine r_iload dX9_middleOf_52 rfl ?_
    refine r_if_le (tgt := 93) dX9_middleOf_54 (by decide) ⟨by omega, by omega⟩ (fun g54 => absurd g54 (by omega)) (fun g54 => ?_)
    refine r_aload_n dX9_middleOf_57 rfl rfl ?_
    refine r_get (fs := RGL _ _) dX9_middleOf_58 fl_X9_69 (by decide) rfl rfl ?_
    refine r_iload dX9_middleOf_61 rfl ?_
    refine r_iconst dX9_middleOf_63 ?_
    refine r_isub dX9_middleOf_64 ?_
    refine r_ald dX9_middleOf_65 (by decide) rfl (by omega) (by omega) (by decide) ?_
    rw [el, ex]
    refine r_iload dX9_middleOf_66 rfl ?_
    refine r_icmp_le (tgt := 93) dX9_middleOf_68 (by decide) ⟨by omega, by omega⟩ ⟨by omega, by omega⟩ (fun g68 => ?_) (fun g68 => ?_)
    · refine r_aload_n dX9_middleOf_93 rfl rfl ?_
      refine r_get (fs := RGL _ _) dX9_middleOf_94 fl_X9_69 (by decide) rfl rfl ?_
      refine r_iload dX9_middleOf_97 rfl ?_
      refine r_iload dX9_middleOf_99 rfl ?_
      refine r_ast dX9_middleOf_101 (by decide) rfl (by omega) (by omega) (by decide) ?_
      rw [if_neg (by omega)] at er
      rw [er] at hk
      rw [ut_85, Int.toNat_natCast]
      exact hk _ _ h1
    · refine r_aload_n dX9_middleOf_71 rfl rfl ?_
      refine r_get (fs := RGL _ _) dX9_middleOf_72 fl_X9_69 (by decide) rfl rfl ?_
      refine r_iload dX9_middleOf_75 rfl ?_
      refine r_aload_n dX9_middleOf_77 rfl rfl ?_
      refine r_get (fs := RGL _ _) dX9_middleOf_78 fl_X9_69 (by decide) rfl rfl ?_
      refine r_iload dX9_middleOf_81 rfl ?_
      refine r_iconst dX9_middleOf_83 ?_
      refine r_isub dX9_middleOf_84 ?_
      refine r_ald dX9_middleOf_85 (by decide) rfl (by omega) (by omega) (by decide) ?_
      rw [el, ex]
      refine r_ast dX9_middleOf_86 (by decide) rfl (by omega) (by omega) (by decide) ?_
      refine r_iinc (lv2 := [(0, _), (1, _), (2, _), (3, _), (4, _), (5, _), (6, _), (7, _)]) dX9_middleOf_87 (by decide) rfl rfl rfl ?_
      refine r_goto (tgt := 52) dX9_middleOf_90 (by decide) ?_
      rw [if_pos (by omega)] at er
      rw [ut_85, Int.toNat_natCast, show ((B.length + 1 : Nat) : Int) + -1 = (B.length : Nat) by omega]
      refine hi (fun g2 p hg => hk g2 p ?_)
      rw [er]
      rw [List.append_assoc] at hg
      exact hg

theorem l_X9_middleOf {h : aH} {w : Int} {dl cl lm mn : Nat → Int} (c69 : h 69 = .inl (0, 45, dl)) (c70 : h 70 = .inl (0, 60, cl)) (c71 : h 71 = .inl (0, 12, lm)) (c79 : h 79 = .inl (0, 120, mn)) {nd sw nc nm : Int} {K U I O G L cf ct fc nx cd md my mt : Nat → Int} (pi : PInv nd sw nc K U I O G L cf ct fc nx cd) {g : Nat → Int} {b : Nat} (hb : b < 512) {day : Int} (hd : 0 ≤ day ∧ day < 365) {m : Int} (hm : 0 ≤ m ∧ m < 1440) : ∀ (f k : Nat) (r gg lt lgt : Nat → Int), k + f = nd.toNat → ag r (midL (fun j => nowI sw nc nm K U I O G L cf ct cd md my mt ((j : Nat) : Int) day m) b k) → TellR gg dl cl lm mn nd sw nc nm K U I O G L cf ct cd md my mt → LitR (gg 30) lt lgt sw nc L cf ct cd → (∀ k, k ≠ 30 → gg k = g k) → Ev RX9 "middleOf" cX9_middleOf 8 (some .int) 5 0 0 (fun v n' h' => v = some (iv (midI (midL (fun j => nowI sw nc nm K U I O G L cf ct cd md my mt ((j : Nat) : Int) day m) b nd.toNat))) ∧ n' = 97 ∧ ∃ rw2 g2 lt2 lg2, h' = UT (va_up h 85 (.inl (0, 9, rw2))) g2 w lt2 lg2 ∧ LitR (g2 30) lt2 lg2 sw nc L cf ct cd ∧ ∀ k, k ≠ 30 → g2 k = g k) noX 97 (UT (va_up h 85 (.inl (0, 9, r))) gg w lt lgt) 6 [(0, .ref 68), (1, iv b), (2, iv day), (3, iv m), (4, iv ((midL (fun j => nowI sw nc nm K U I O G L cf ct cd md my mt ((j : Nat) : Int) day m) b k).length : Nat)), (5, iv (k : Nat))] [] := by
  obtain ⟨pnd, psw, pnc, pK, pU, pI, pO, pG, pL, pcf, pct, pfc, pnx⟩ := id pi
  intro f
  induction f with
  | zero =>
    intro k r gg lt lgt hk hg trg lig kp
    obtain ⟨t1, t2, t3, t31, pnm, tdl, tcl, tlm, tmd, pmt, pmd, pmy⟩ := id trg
    obtain rfl : k = nd.toNat := by omega
    have bl := midL_len (fun j => nowI sw nc nm K U I O G L cf ct cd md my mt ((j : Nat) : Int) day m) b nd.toNat
    obtain ⟨ML, eML⟩ : ∃ l, midL (fun j => nowI sw nc nm K U I O G L cf ct cd md my mt ((j : Nat) : Int) day m) b nd.toNat = l := ⟨_, rfl⟩
    have bB := midL_B (b := b) (f := (fun j => nowI sw nc nm K U I O G L cf ct cd md my mt ((j : Nat) : Int) day m)) (fun j => now_B sw nc nm K U I O G L cf ct cd md my mt j day m) nd.toNat
    rw [eML] at hg bl bB ⊢
    have e1 : (((ML.length : Nat) : Int) / 2).toNat = ML.length / 2 := by omega
    refine r_iload dX9_middleOf_6 rfl ?_
    refine r_aload_n dX9_middleOf_8 rfl rfl ?_
    refine r_getR (z := (gg 1)) dX9_middleOf_9 fl_X9_214 (by decide) rfl rfl ?_
    refine r_icmp_ge (tgt := 111) dX9_middleOf_12 (by decide) ⟨by omega, by omega⟩ ⟨by omega, by omega⟩ (fun g12 => ?_) (fun g12 => absurd g12 (by omega))
    refine r_iload dX9_middleOf_111 rfl ?_
    refine r_if_ne (tgt := 120) dX9_middleOf_113 (by decide) ⟨by omega, by omega⟩ (fun g113 => ?_) (fun g113 => ?_)
    · refine r_aload_n dX9_middleOf_120 rfl rfl ?_
      refine r_get (fs := RGL _ _) dX9_middleOf_121 fl_X9_69 (by decide) rfl rfl ?_
      refine r_iload dX9_middleOf_124 rfl ?_
      refine r_iconst dX9_middleOf_126 ?_
      refine r_idivN dX9_middleOf_127 (by omega) (by omega) (by omega) (by omega) ?_
      refine r_ald dX9_middleOf_128 (by decide) rfl (by omega) (by omega) (by decide) ?_
      refine r_iret dX9_middleOf_129 ?_
      first
        | exact ⟨ivE (by unfold midI; rw [if_pos (by omega)]), rfl, r, gg, lt, lgt, rfl, lig, kp⟩
        | (rw [e1, hg _ (by omega)]
           exact ⟨ivE (by unfold midI; rw [if_neg (by omega)]), rfl, r, gg, lt, lgt, rfl, lig, kp⟩)
    · refine r_iconst dX9_middleOf_116 ?_
      refine r_goto (tgt := 129) dX9_middleOf_117 (by decide) ?_
      refine r_iret dX9_middleOf_129 ?_
      first
        | exact ⟨ivE (by unfold midI; rw [if_pos (by omega)]), rfl, r, gg, lt, lgt, rfl, lig, kp⟩
        | (rw [e1, hg _ (by omega)]
           exact ⟨ivE (by unfold midI; rw [if_neg (by omega)]), rfl, r, gg, lt, lgt, rfl, lig, kp⟩)
  | succ f ih =>
    intro k r gg lt lgt hk hg trg lig kp
    obtain ⟨t1, t2, t3, t31, pnm, tdl, tcl, tlm, tmd, pmt, pmd, pmy⟩ := id trg
    have bl := midL_len (fun j => nowI sw nc nm K U I O G L cf ct cd md my mt ((j : Nat) : Int) day m) b k
    have bB := midL_B (b := b) (f := (fun j => nowI sw nc nm K U I O G L cf ct cd md my mt ((j : Nat) : Int) day m)) (fun j => now_B sw nc nm K U I O G L cf ct cd md my mt j day m) k
    have bf := now_B sw nc nm K U I O G L cf ct cd md my mt (k : Nat) day m
    have hi := ih (k + 1)
    have e0 := one_1 b k
    have e1 := bit_B b k
    rw [midL_s] at hi
    obtain ⟨NL, eNL⟩ : ∃ l, (fun j => nowI sw nc nm K U I O G L cf ct cd md my mt ((j : Nat) : Int) day m) = l := ⟨_, rfl⟩
    have eF : NL k = nowI sw nc nm K U I O G L cf ct cd md my mt (k : Nat) day m := by rw [← eNL]
    rw [eNL] at hi hg bl bB ⊢
    obtain ⟨ML, eML⟩ : ∃ l, midL NL b k = l := ⟨_, rfl⟩
    rw [eML] at hi hg bl bB ⊢
    refine r_iload dX9_middleOf_6 rfl ?_
    refine r_aload_n dX9_middleOf_8 rfl rfl ?_
    refine r_getR (z := (gg 1)) dX9_middleOf_9 fl_X9_214 (by decide) rfl rfl ?_
    refine r_icmp_ge (tgt := 111) dX9_middleOf_12 (by decide) ⟨by omega, by omega⟩ ⟨by omega, by omega⟩ (fun g12 => absurd g12 (by omega)) (fun g12 => ?_)
    refine r_iload_n dX9_middleOf_15 rfl rfl ?_
    refine r_iload dX9_middleOf_16 rfl ?_
    refine r_ishr _ dX9_middleOf_18 (shrI hb (by omega)) ?_
    refine r_iconst dX9_middleOf_19 ?_
    refine r_iand _ dX9_middleOf_20 (andI _ 1) ?_
    refine r_iconst dX9_middleOf_21 ?_
    refine r_icmp_ne (tgt := 36) dX9_middleOf_22 (by decide) ⟨by omega, by omega⟩ ⟨by omega, by omega⟩ (fun g22 => ?_) (fun g22 => ?_)
    · refine r_iconst dX9_middleOf_36 ?_
      refine r_istore (lv2 := [(0, _), (1, _), (2, _), (3, _), (4, _), (5, _), (6, _)]) dX9_middleOf_37 (by decide) rfl rfl ?_
      refine r_iload dX9_middleOf_39 rfl ?_
      refine r_iconst dX9_middleOf_41 ?_
      refine r_icmp_ne (tgt := 48) dX9_middleOf_42 (by decide) ⟨by omega, by omega⟩ ⟨by omega, by omega⟩ (fun g42 => absurd g42 (by omega)) (fun g42 => ?_)
      refine r_goto (tgt := 105) dX9_middleOf_45 (by decide) ?_
      refine r_iinc (lv2 := [(0, _), (1, _), (2, _), (3, _), (4, _), (5, _), (6, _)]) dX9_middleOf_105 (by decide) rfl rfl rfl ?_
      refine r_goto (tgt := 6) dX9_middleOf_108 (by decide) ?_
      rw [show (k : Int) + 1 = ((k + 1 : Nat) : Int) by omega]
      refine r_lv (lv2 := [(0, _), (1, _), (2, _), (3, _), (4, _), (5, _)]) rfl ?_
      first
        | (rw [show ((ML.length : Nat) : Int) + 1 = ((ML.length + 1 : Nat) : Int) by omega]
           exact hi2)
        | (rw [if_neg (fun q => absurd (e0.mpr q.1) g22)] at hi
           exact hi r gg lt lgt (by omega) hg trg lig kp)
        | (rw [if_neg (fun q => q.2 (by omega))] at hi
           exact hi r gn lt2 lg2 (by omega) hg tr2 li2 (fun k hk => (kp2 k hk).trans (kp k hk)))
    · refine r_aload_n dX9_middleOf_25 rfl rfl ?_
      refine r_iload dX9_middleOf_26 rfl ?_
      refine r_iload_n dX9_middleOf_28 rfl rfl ?_
      refine r_iload_n dX9_middleOf_29 rfl rfl ?_
      refine r_callV 68 [_, _, _] (s_X9_tellsNow (g := gg) (by rfl) (by exact c69) (by exact c70) (by exact c71) (by rfl) (by rfl) (by exact c79) trg pi lig (by omega) (by omega) (by omega)) dX9_middleOf_30 cs_X9_278 im_X9_tellsNow (by decide) rfl rfl (by decide) (by decide) (by decide) rfl rfl (Nat.le_of_ble_eq_true rfl) (fun _ _ _ q => q.elim) (fun v n2 h2 q => ?_)
      obtain ⟨rfl, rfl, gn, lt2, lg2, rfl, li2, kp2⟩ := q
      rw [ut_ut]
      have tr2 := tell_kp trg kp2
      refine ⟨rfl, ?_⟩
      dsimp only [Option.toList, List.cons_append, List.nil_append]
      refine r_goto (tgt := 37) dX9_middleOf_33 (by decide) ?_
      refine r_istore (lv2 := [(0, _), (1, _), (2, _), (3, _), (4, _), (5, _), (6, _)]) dX9_middleOf_37 (by decide) rfl rfl ?_
      refine r_iload dX9_middleOf_39 rfl ?_
      refine r_iconst dX9_middleOf_41 ?_
      refine r_icmp_ne (tgt := 48) dX9_middleOf_42 (by decide) ⟨by omega, by omega⟩ ⟨by omega, by omega⟩ (fun g42 => ?_) (fun g42 => ?_)
      · refine r_iload dX9_middleOf_48 rfl ?_
        refine r_istore (lv2 := [(0, _), (1, _), (2, _), (3, _), (4, _), (5, _), (6, _), (7, _)]) dX9_middleOf_50 (by decide) rfl rfl ?_
        rw [if_pos ⟨e0.mp (by omega), by omega⟩] at hi
        refine r_lv (lv2 := [(0, _), (1, _), (2, _), (3, _), (4, _), (5, _), (6, _), (7, _)]) rfl ?_
        refine l_X9_middleOf_in (by omega) (by omega) ML [] r bB hg (fun j hj => absurd hj (Nat.not_lt_zero j)) (by rw [List.length_nil]; omega) (fun g2 p hg2 => ?_)
        rw [List.nil_append] at hg2
        have hi2 := hi g2 gn lt2 lg2 (by omega) hg2 tr2 li2 (fun k hk => (kp2 k hk).trans (kp k hk))
        rw [rins_len] at hi2
        refine r_iinc (lv2 := [(0, _), (1, _), (2, _), (3, _), (4, _), (5, _), (6, _), (7, _)]) dX9_middleOf_102 (by decide) rfl rfl rfl ?_
        refine r_iinc (lv2 := [(0, _), (1, _), (2, _), (3, _), (4, _), (5, _), (6, _), (7, _)]) dX9_middleOf_105 (by decide) rfl rfl rfl ?_
        refine r_goto (tgt := 6) dX9_middleOf_108 (by decide) ?_
        rw [show (k : Int) + 1 = ((k + 1 : Nat) : Int) by omega]
        refine r_lv (lv2 := [(0, _), (1, _), (2, _), (3, _), (4, _), (5, _)]) rfl ?_
        first
          | (rw [show ((ML.length : Nat) : Int) + 1 = ((ML.length + 1 : Nat) : Int) by omega]
             exact hi2)
          | (rw [if_neg (fun q => absurd (e0.mpr q.1) g22)] at hi
             exact hi r gg lt lgt (by omega) hg trg lig kp)
          | (rw [if_neg (fun q => q.2 (by omega))] at hi
             exact hi r gn lt2 lg2 (by omega) hg tr2 li2 (fun k hk => (kp2 k hk).trans (kp k hk)))
      · refine r_goto (tgt := 105) dX9_middleOf_45 (by decide) ?_
        refine r_iinc (lv2 := [(0, _), (1, _), (2, _), (3, _), (4, _), (5, _), (6, _)]) dX9_middleOf_105 (by decide) rfl rfl rfl ?_
        refine r_goto (tgt := 6) dX9_middleOf_108 (by decide) ?_
        rw [show (k : Int) + 1 = ((k + 1 : Nat) : Int) by omega]
        refine r_lv (lv2 := [(0, _), (1, _), (2, _), (3, _), (4, _), (5, _)]) rfl ?_
        first
          | (rw [show ((ML.length : Nat) : Int) + 1 = ((ML.length + 1 : Nat) : Int) by omega]
             exact hi2)
          | (rw [if_neg (fun q => absurd (e0.mpr q.1) g22)] at hi
             exact hi r gg lt lgt (by omega) hg trg lig kp)
          | (rw [if_neg (fun q => q.2 (by omega))] at hi
             exact hi r gn lt2 lg2 (by omega) hg tr2 li2 (fun k hk => (kp2 k hk).trans (kp k hk)))

theorem ut_s85 {h : aH} {r g : Nat → Int} {w : Int} {lt lgt : Nat → Int} (c68 : h 68 = RG g w) (c77 : h 77 = .inl (2, 1440, lt)) (c78 : h 78 = .inl (2, 1440, lgt)) (c85 : h 85 = .inl (0, 9, r)) : h = UT (va_up h 85 (.inl (0, 9, r))) g w lt lgt := by
  have e : va_up h 85 (.inl (0, 9, r)) = h := (up_same c85).symm
  rw [e]
  exact ut_self c68 c77 c78

theorem s_X9_middleOf {h : aH} {g : Nat → Int} {w : Int} (c68 : h 68 = RG g w) {dl cl lm lt lgt mn : Nat → Int} (c69 : h 69 = .inl (0, 45, dl)) (c70 : h 70 = .inl (0, 60, cl)) (c71 : h 71 = .inl (0, 12, lm)) (c77 : h 77 = .inl (2, 1440, lt)) (c78 : h 78 = .inl (2, 1440, lgt)) (c79 : h 79 = .inl (0, 120, mn)) {nd sw nc nm : Int} {K U I O G L cf ct fc nx cd md my mt : Nat → Int} (tr : TellR g dl cl lm mn nd sw nc nm K U I O G L cf ct cd md my mt) (pi : PInv nd sw nc K U I O G L cf ct fc nx cd) {r : Nat → Int} (c85 : h 85 = .inl (0, 9, r)) (li : LitR (g 30) lt lgt sw nc L cf ct cd) {b : Nat} (hb : b < 512) {day : Int} (hd : 0 ≤ day ∧ day < 365) {m : Int} (hm : 0 ≤ m ∧ m < 1440) : mSem yX9_middleOf cX9_middleOf 8 (some .int) 5 0 0 [.ref 68, iv b, iv day, iv m] 97 h (fun v n' h' => v = some (iv (midI (midL (fun j => nowI sw nc nm K U I O G L cf ct cd md my mt ((j : Nat) : Int) day m) b nd.toNat))) ∧ n' = 97 ∧ ∃ rw2 g2 lt2 lg2, h' = UT (va_up h 85 (.inl (0, 9, rw2))) g2 w lt2 lg2 ∧ LitR (g2 30) lt2 lg2 sw nc L cf ct cd ∧ ∀ k, k ≠ 30 → g2 k = g k) noX := by
  obtain ⟨t1, t2, t3, t31, pnm, tdl, tcl, tlm, tmd, pmt, pmd, pmy⟩ := id tr
  obtain ⟨pnd, psw, pnc, pK, pU, pI, pO, pG, pL, pcf, pct, pfc, pnx⟩ := id pi
  refine mSem_of (own := RX9) (name := "middleOf") pn_X9 rfl rfl (Nat.le_of_ble_eq_true rfl) ?_
  refine r_iconst dX9_middleOf_0 ?_
  refine r_istore (lv2 := [(0, _), (1, _), (2, _), (3, _), (4, _)]) dX9_middleOf_1 (by decide) rfl rfl ?_
  refine r_iconst dX9_middleOf_3 ?_
  refine r_istore (lv2 := [(0, _), (1, _), (2, _), (3, _), (4, _), (5, _)]) dX9_middleOf_4 (by decide) rfl rfl ?_
  refine ev_h (ut_s85 c68 c77 c78 c85) ?_
  exact l_X9_middleOf c69 c70 c71 c79 pi hb hd hm nd.toNat 0 r g lt lgt (by omega) (fun j hj => absurd hj (Nat.not_lt_zero j)) tr li (fun _ _ => rfl)

theorem s_X9_middle {h : aH} {th : Int} {t : Nat → Int} {tp : Nat} {fpl hlaw himg : Int} {rf : Nat → Int} {nd sw nc hl hs : Int} {K U I O G L cf ct fc nx cd : Nat → Int} {nr ns nm : Int} {rd ry rm rt se md my mt : Nat → Int} {M : ND} {ls : LSm} (cr : RefC h (t, tp, fpl, rf, hlaw, himg, ((nd, sw, nc), (hl, hs), K, U, I, O, G, L, cf, ct, fc, nx, cd), ((nr, ns, nm), rd, ry, rm, rt, se, md, my, mt), M, ls) th) {bi day m : Int} (ibi : inR bi) (iday : inR day) (im : inR m)  : mSem yX9_middle cX9_middle 4 (some .int) 7 0 0 [.ref 68, iv bi, iv day, iv m] 97 h (RefQ (ocL [(dayB day, 1), (minB m, 1), (decide (0 ≤ bi ∧ bi < ((2 ^ nd.toNat : Nat) : Int)), 2)]) (midI (midL (fun j => nowI sw nc nm K U I O G L cf ct cd md my mt ((j : Nat) : Int) day m) bi.toNat nd.toNat)) h (t, tp, fpl, rf, hlaw, himg, ((nd, sw, nc), (hl, hs), K, U, I, O, G, L, cf, ct, fc, nx, cd), ((nr, ns, nm), rd, ry, rm, rt, se, md, my, mt), M, ls)) noX := by
  refine RefC_elim cr (fun g dl cl lm trr rfr nD nC nL lt lgt mn rdg cpl grp sea rts row cod ncod pil opn stg bsd imo imr ims imm w c68 c69 c70 c71 c72 c73 c74 c75 c76 c77 c78 c79 c80 c81 c82 c83 c84 c85 c86 c87 c88 c89 c90 c91 c92 c93 c94 c95 hth rr => ?_)
  refine RR_elim rr (fun e8 e10 e33 e38 e44 e53 tr pi ni li rrf rtp htp rrd rse phl phi rim rco ht nM nsn => ?_)
  obtain ⟨t1, t2, t3, t31, pnm, tdl, tcl, tlm, tmd, pmt, pmd, pmy⟩ := id tr
  obtain ⟨pnd, psw, pnc, pK, pU, pI, pO, pG, pL, pcf, pct, pfc, pnx⟩ := id pi
  obtain ⟨pnr, pns, pnm2, prd, pry, prm, prt, pse, pmd2, pmy2, pmt2⟩ := id ni
  unfold inR at ibi iday im
  obtain ⟨dn, rfl⟩ : ∃ k : Nat, nd = k := ⟨nd.toNat, by omega⟩
  have edn : (dn : Int).toNat = dn := rfl
  have hp9 : (2 : Nat) ^ dn ≤ 512 := show (2 : Nat) ^ dn ≤ 2 ^ 9 from Nat.pow_le_pow_right (by decide) (by omega)
  obtain ⟨pw2, hpw⟩ : ∃ z : Nat, 2 ^ dn = z := ⟨_, rfl⟩
  rw [hpw] at hp9
  refine mSem_of (own := RX9) (name := "middle") pn_X9 rfl rfl (Nat.le_of_ble_eq_true rfl) ?_
  refine r_aload_n dX9_middle_0 rfl rfl ?_
  refine r_iconst dX9_middle_1 ?_
  refine r_putR dX9_middle_2 fp_X9_102 (by decide) c68 (nar_int _) (Nat.le_of_ble_eq_true rfl) setR_0 (fun z0 hz0 => ?_)
  refine r_aload_n dX9_middle_5 rfl rfl ?_
  refine r_iload_n dX9_middle_6 rfl rfl ?_
  refine r_callV 68 [_] (s_X9_isDay (by rfl) (by first | rfl | exact hz0) iday) dX9_middle_7 cs_X9_259 im_X9_isDay (by decide) rfl rfl (by decide) (by decide) (by decide) rfl rfl (Nat.le_of_ble_eq_true rfl) (fun _ _ _ q => q.elim) (fun v n2 h2 q => ?_)
  obtain ⟨rfl, q⟩ := q
  rcases q with ⟨kb1, rfl, hh⟩ | ⟨kb1, rfl, hh⟩
  · obtain rfl := hh.symm
    have bday := of_decide_eq_true kb1
    refine ⟨rfl, ?_⟩
    dsimp only [Option.toList, List.cons_append, List.nil_append]
    refine r_if_eq (tgt := 58) dX9_middle_10 (by decide) ⟨by omega, by omega⟩ (fun g10 => absurd g10 (by omega)) (fun g10 => ?_)
    refine r_aload_n dX9_middle_13 rfl rfl ?_
    refine r_iload_n dX9_middle_14 rfl rfl ?_
    refine r_callV 68 [_] (s_X9_isMinute (by rfl) (by first | rfl | exact hz0) im) dX9_middle_15 cs_X9_275 im_X9_isMinute (by decide) rfl rfl (by decide) (by decide) (by decide) rfl rfl (Nat.le_of_ble_eq_true rfl) (fun _ _ _ q => q.elim) (fun v n2 h2 q => ?_)
    obtain ⟨rfl, q⟩ := q
    rcases q with ⟨kb2, rfl, hh⟩ | ⟨kb2, rfl, hh⟩
    · obtain rfl := hh.symm
      have bm := of_decide_eq_true kb2
      refine ⟨rfl, ?_⟩
      dsimp only [Option.toList, List.cons_append, List.nil_append]
      refine r_if_eq (tgt := 58) dX9_middle_18 (by decide) ⟨by omega, by omega⟩ (fun g18 => absurd g18 (by omega)) (fun g18 => ?_)
      refine r_aload_n dX9_middle_21 rfl rfl ?_
      refine r_iload_n dX9_middle_22 rfl rfl ?_
      refine r_if_lt (tgt := 40) dX9_middle_23 (by decide) ⟨by omega, by omega⟩ (fun g23 => ?_) (fun g23 => ?_)
      · refine r_iconst dX9_middle_40 ?_
        refine r_iconst dX9_middle_41 ?_
        refine r_callV 68 [_, _] (s_X9_right (b := false) (by rfl) (by exact hz0) (by omega)) dX9_middle_42 cs_X9_207 im_X9_right (by decide) rfl rfl (by decide) (by decide) (by decide) rfl rfl (Nat.le_of_ble_eq_true rfl) (fun _ _ _ q => q.elim) (fun v n2 h2 q => ?_)
        obtain ⟨rfl, q⟩ := q
        rcases q with ⟨kb0, rfl, hh⟩ | ⟨kb0, rfl, hh⟩
        · exact absurd kb0 (by decide)
        · obtain rfl := hh.symm
          have kb3 : decide (0 ≤ bi ∧ bi < ((2 ^ dn : Nat) : Int)) = false := by rw [hpw]; exact decide_eq_false (by omega)
          refine ⟨rfl, ?_⟩
          dsimp only [Option.toList, List.cons_append, List.nil_append]
          refine r_if_eq (tgt := 58) dX9_middle_45 (by decide) ⟨by omega, by omega⟩ (fun g45 => ?_) (fun g45 => absurd g45 (by omega))
          refine r_iconst dX9_middle_58 ?_
          refine r_iret dX9_middle_59 ?_
          first
            | exact ⟨rfl, ⟨0, rfl, fun z => absurd ((ocF kb1).symm.trans z) (by decide)⟩, (RefC_mk (g := (va_up (va_up g 0 z0) 0 2)) rfl (by exact c69) (by exact c70) (by exact c71) (by exact c72) (by exact c73) (by exact c74) (by exact c75) (by exact c76) (by exact c77) (by exact c78) (by exact c79) (by exact c80) (by exact c81) (by exact c82) (by exact c83) (by exact c84) (by exact c85) (by exact c86) (by exact c87) (by exact c88) (by exact c89) (by exact c90) (by exact c91) (by exact c92) (by exact c93) (by exact c94) (by exact c95) (congrArg (fun n : Nat => (n : Int)) (ocF kb1).symm) (RR_mk (by first | exact e8 | exact (kp2 8 (by decide)).trans e8) (by first | exact e10 | exact (kp2 10 (by decide)).trans e10) (by first | exact e33 | exact (kp2 33 (by decide)).trans e33) (by first | exact e38 | exact (kp2 38 (by decide)).trans e38) (by first | exact e44 | exact (kp2 44 (by decide)).trans e44) (by first | exact e53 | exact (kp2 53 (by decide)).trans e53) (by first | exact tr | exact tell_kp (by exact tr) kp2) pi ni (by first | exact li | exact li2) rrf rtp htp rrd rse phl phi rim rco ht nM nsn)), (by repeat (first | exact fun _ _ => rfl | refine frr_up ?_ (by decide)))⟩
            | exact ⟨rfl, ⟨0, rfl, fun z => absurd (((ocT kb1).trans (ocF kb2)).symm.trans z) (by decide)⟩, (RefC_mk (g := (va_up (va_up g 0 z0) 0 2)) rfl (by exact c69) (by exact c70) (by exact c71) (by exact c72) (by exact c73) (by exact c74) (by exact c75) (by exact c76) (by exact c77) (by exact c78) (by exact c79) (by exact c80) (by exact c81) (by exact c82) (by exact c83) (by exact c84) (by exact c85) (by exact c86) (by exact c87) (by exact c88) (by exact c89) (by exact c90) (by exact c91) (by exact c92) (by exact c93) (by exact c94) (by exact c95) (congrArg (fun n : Nat => (n : Int)) ((ocT kb1).trans (ocF kb2)).symm) (RR_mk (by first | exact e8 | exact (kp2 8 (by decide)).trans e8) (by first | exact e10 | exact (kp2 10 (by decide)).trans e10) (by first | exact e33 | exact (kp2 33 (by decide)).trans e33) (by first | exact e38 | exact (kp2 38 (by decide)).trans e38) (by first | exact e44 | exact (kp2 44 (by decide)).trans e44) (by first | exact e53 | exact (kp2 53 (by decide)).trans e53) (by first | exact tr | exact tell_kp (by exact tr) kp2) pi ni (by first | exact li | exact li2) rrf rtp htp rrd rse phl phi rim rco ht nM nsn)), (by repeat (first | exact fun _ _ => rfl | refine frr_up ?_ (by decide)))⟩
            | exact ⟨rfl, ⟨0, rfl, fun z => absurd (((ocT kb1).trans ((ocT kb2).trans (ocF kb3))).symm.trans z) (by decide)⟩, (RefC_mk (g := (va_up (va_up g 0 z0) 0 2)) rfl (by exact c69) (by exact c70) (by exact c71) (by exact c72) (by exact c73) (by exact c74) (by exact c75) (by exact c76) (by exact c77) (by exact c78) (by exact c79) (by exact c80) (by exact c81) (by exact c82) (by exact c83) (by exact c84) (by exact c85) (by exact c86) (by exact c87) (by exact c88) (by exact c89) (by exact c90) (by exact c91) (by exact c92) (by exact c93) (by exact c94) (by exact c95) (congrArg (fun n : Nat => (n : Int)) ((ocT kb1).trans ((ocT kb2).trans (ocF kb3))).symm) (RR_mk (by first | exact e8 | exact (kp2 8 (by decide)).trans e8) (by first | exact e10 | exact (kp2 10 (by decide)).trans e10) (by first | exact e33 | exact (kp2 33 (by decide)).trans e33) (by first | exact e38 | exact (kp2 38 (by decide)).trans e38) (by first | exact e44 | exact (kp2 44 (by decide)).trans e44) (by first | exact e53 | exact (kp2 53 (by decide)).trans e53) (by first | exact tr | exact tell_kp (by exact tr) kp2) pi ni (by first | exact li | exact li2) rrf rtp htp rrd rse phl phi rim rco ht nM nsn)), (by repeat (first | exact fun _ _ => rfl | refine frr_up ?_ (by decide)))⟩
            | exact ⟨rfl, ⟨_, rfl, fun _ => rfl⟩, (RefC_mk (g := (va_up (va_up g 0 z0) 0 2)) rfl (by exact c69) (by exact c70) (by exact c71) (by exact c72) (by exact c73) (by exact c74) (by exact c75) (by exact c76) (by exact c77) (by exact c78) (by exact c79) (by exact c80) (by exact c81) (by exact c82) (by exact c83) (by exact c84) (by exact c85) (by exact c86) (by exact c87) (by exact c88) (by exact c89) (by exact c90) (by exact c91) (by exact c92) (by exact c93) (by exact c94) (by exact c95) (by first | exact (hz0.trans (congrArg (fun n : Nat => (n : Int)) ((ocT kb1).trans ((ocT kb2).trans ((ocT kb3).trans ocE))).symm)) | exact (kp2 0 (by decide)).trans (hz0.trans (congrArg (fun n : Nat => (n : Int)) ((ocT kb1).trans ((ocT kb2).trans ((ocT kb3).trans ocE))).symm))) (RR_mk (by first | exact e8 | exact (kp2 8 (by decide)).trans e8) (by first | exact e10 | exact (kp2 10 (by decide)).trans e10) (by first | exact e33 | exact (kp2 33 (by decide)).trans e33) (by first | exact e38 | exact (kp2 38 (by decide)).trans e38) (by first | exact e44 | exact (kp2 44 (by decide)).trans e44) (by first | exact e53 | exact (kp2 53 (by decide)).trans e53) (by first | exact tr | exact tell_kp (by exact tr) kp2) pi ni (by first | exact li | exact li2) rrf rtp htp rrd rse phl phi rim rco ht nM nsn)), (by repeat (first | exact fun _ _ => rfl | refine frr_up ?_ (by decide)))⟩
      · refine r_iload_n dX9_middle_26 rfl rfl ?_
        refine r_iconst dX9_middle_27 ?_
        refine r_aload_n dX9_middle_28 rfl rfl ?_
        refine r_getR (z := (g 1)) dX9_middle_29 fl_X9_214 (by decide) rfl rfl ?_
        refine r_ishl (pw2 : Int) dX9_middle_32 (by rw [← hpw, t1]; exact shl1 dn (by omega)) ?_
        refine r_icmp_ge (tgt := 40) dX9_middle_33 (by decide) ⟨by omega, by omega⟩ ⟨by omega, by omega⟩ (fun g33 => ?_) (fun g33 => ?_)
        · refine r_iconst dX9_middle_40 ?_
          refine r_iconst dX9_middle_41 ?_
          refine r_callV 68 [_, _] (s_X9_right (b := false) (by rfl) (by exact hz0) (by omega)) dX9_middle_42 cs_X9_207 im_X9_right (by decide) rfl rfl (by decide) (by decide) (by decide) rfl rfl (Nat.le_of_ble_eq_true rfl) (fun _ _ _ q => q.elim) (fun v n2 h2 q => ?_)
          obtain ⟨rfl, q⟩ := q
          rcases q with ⟨kb0, rfl, hh⟩ | ⟨kb0, rfl, hh⟩
          · exact absurd kb0 (by decide)
          · obtain rfl := hh.symm
            have kb3 : decide (0 ≤ bi ∧ bi < ((2 ^ dn : Nat) : Int)) = false := by rw [hpw]; exact decide_eq_false (by omega)
            refine ⟨rfl, ?_⟩
            dsimp only [Option.toList, List.cons_append, List.nil_append]
            refine r_if_eq (tgt := 58) dX9_middle_45 (by decide) ⟨by omega, by omega⟩ (fun g45 => ?_) (fun g45 => absurd g45 (by omega))
            refine r_iconst dX9_middle_58 ?_
            refine r_iret dX9_middle_59 ?_
            first
              | exact ⟨rfl, ⟨0, rfl, fun z => absurd ((ocF kb1).symm.trans z) (by decide)⟩, (RefC_mk (g := (va_up (va_up g 0 z0) 0 2)) rfl (by exact c69) (by exact c70) (by exact c71) (by exact c72) (by exact c73) (by exact c74) (by exact c75) (by exact c76) (by exact c77) (by exact c78) (by exact c79) (by exact c80) (by exact c81) (by exact c82) (by exact c83) (by exact c84) (by exact c85) (by exact c86) (by exact c87) (by exact c88) (by exact c89) (by exact c90) (by exact c91) (by exact c92) (by exact c93) (by exact c94) (by exact c95) (congrArg (fun n : Nat => (n : Int)) (ocF kb1).symm) (RR_mk (by first | exact e8 | exact (kp2 8 (by decide)).trans e8) (by first | exact e10 | exact (kp2 10 (by decide)).trans e10) (by first | exact e33 | exact (kp2 33 (by decide)).trans e33) (by first | exact e38 | exact (kp2 38 (by decide)).trans e38) (by first | exact e44 | exact (kp2 44 (by decide)).trans e44) (by first | exact e53 | exact (kp2 53 (by decide)).trans e53) (by first | exact tr | exact tell_kp (by exact tr) kp2) pi ni (by first | exact li | exact li2) rrf rtp htp rrd rse phl phi rim rco ht nM nsn)), (by repeat (first | exact fun _ _ => rfl | refine frr_up ?_ (by decide)))⟩
              | exact ⟨rfl, ⟨0, rfl, fun z => absurd (((ocT kb1).trans (ocF kb2)).symm.trans z) (by decide)⟩, (RefC_mk (g := (va_up (va_up g 0 z0) 0 2)) rfl (by exact c69) (by exact c70) (by exact c71) (by exact c72) (by exact c73) (by exact c74) (by exact c75) (by exact c76) (by exact c77) (by exact c78) (by exact c79) (by exact c80) (by exact c81) (by exact c82) (by exact c83) (by exact c84) (by exact c85) (by exact c86) (by exact c87) (by exact c88) (by exact c89) (by exact c90) (by exact c91) (by exact c92) (by exact c93) (by exact c94) (by exact c95) (congrArg (fun n : Nat => (n : Int)) ((ocT kb1).trans (ocF kb2)).symm) (RR_mk (by first | exact e8 | exact (kp2 8 (by decide)).trans e8) (by first | exact e10 | exact (kp2 10 (by decide)).trans e10) (by first | exact e33 | exact (kp2 33 (by decide)).trans e33) (by first | exact e38 | exact (kp2 38 (by decide)).trans e38) (by first | exact e44 | exact (kp2 44 (by decide)).trans e44) (by first | exact e53 | exact (kp2 53 (by decide)).trans e53) (by first | exact tr | exact tell_kp (by exact tr) kp2) pi ni (by first | exact li | exact li2) rrf rtp htp rrd rse phl phi rim rco ht nM nsn)), (by repeat (first | exact fun _ _ => rfl | refine frr_up ?_ (by decide)))⟩
              | exact ⟨rfl, ⟨0, rfl, fun z => absurd (((ocT kb1).trans ((ocT kb2).trans (ocF kb3))).symm.trans z) (by decide)⟩, (RefC_mk (g := (va_up (va_up g 0 z0) 0 2)) rfl (by exact c69) (by exact c70) (by exact c71) (by exact c72) (by exact c73) (by exact c74) (by exact c75) (by exact c76) (by exact c77) (by exact c78) (by exact c79) (by exact c80) (by exact c81) (by exact c82) (by exact c83) (by exact c84) (by exact c85) (by exact c86) (by exact c87) (by exact c88) (by exact c89) (by exact c90) (by exact c91) (by exact c92) (by exact c93) (by exact c94) (by exact c95) (congrArg (fun n : Nat => (n : Int)) ((ocT kb1).trans ((ocT kb2).trans (ocF kb3))).symm) (RR_mk (by first | exact e8 | exact (kp2 8 (by decide)).trans e8) (by first | exact e10 | exact (kp2 10 (by decide)).trans e10) (by first | exact e33 | exact (kp2 33 (by decide)).trans e33) (by first | exact e38 | exact (kp2 38 (by decide)).trans e38) (by first | exact e44 | exact (kp2 44 (by decide)).trans e44) (by first | exact e53 | exact (kp2 53 (by decide)).trans e53) (by first | exact tr | exact tell_kp (by exact tr) kp2) pi ni (by first | exact li | exact li2) rrf rtp htp rrd rse phl phi rim rco ht nM nsn)), (by repeat (first | exact fun _ _ => rfl | refine frr_up ?_ (by decide)))⟩
              | exact ⟨rfl, ⟨_, rfl, fun _ => rfl⟩, (RefC_mk (g := (va_up (va_up g 0 z0) 0 2)) rfl (by exact c69) (by exact c70) (by exact c71) (by exact c72) (by exact c73) (by exact c74) (by exact c75) (by exact c76) (by exact c77) (by exact c78) (by exact c79) (by exact c80) (by exact c81) (by exact c82) (by exact c83) (by exact c84) (by exact c85) (by exact c86) (by exact c87) (by exact c88) (by exact c89) (by exact c90) (by exact c91) (by exact c92) (by exact c93) (by exact c94) (by exact c95) (by first | exact (hz0.trans (congrArg (fun n : Nat => (n : Int)) ((ocT kb1).trans ((ocT kb2).trans ((ocT kb3).trans ocE))).symm)) | exact (kp2 0 (by decide)).trans (hz0.trans (congrArg (fun n : Nat => (n : Int)) ((ocT kb1).trans ((ocT kb2).trans ((ocT kb3).trans ocE))).symm))) (RR_mk (by first | exact e8 | exact (kp2 8 (by decide)).trans e8) (by first | exact e10 | exact (kp2 10 (by decide)).trans e10) (by first | exact e33 | exact (kp2 33 (by decide)).trans e33) (by first | exact e38 | exact (kp2 38 (by decide)).trans e38) (by first | exact e44 | exact (kp2 44 (by decide)).trans e44) (by first | exact e53 | exact (kp2 53 (by decide)).trans e53) (by first | exact tr | exact tell_kp (by exact tr) kp2) pi ni (by first | exact li | exact li2) rrf rtp htp rrd rse phl phi rim rco ht nM nsn)), (by repeat (first | exact fun _ _ => rfl | refine frr_up ?_ (by decide)))⟩
        · refine r_iconst dX9_middle_36 ?_
          refine r_goto (tgt := 41) dX9_middle_37 (by decide) ?_
          refine r_iconst dX9_middle_41 ?_
          refine r_callV 68 [_, _] (s_X9_right (b := true) (by rfl) (by exact hz0) (by omega)) dX9_middle_42 cs_X9_207 im_X9_right (by decide) rfl rfl (by decide) (by decide) (by decide) rfl rfl (Nat.le_of_ble_eq_true rfl) (fun _ _ _ q => q.elim) (fun v n2 h2 q => ?_)
          obtain ⟨rfl, q⟩ := q
          rcases q with ⟨kb0, rfl, hh⟩ | ⟨kb0, rfl, hh⟩
          · obtain rfl := hh.symm
            have kb3 : decide (0 ≤ bi ∧ bi < ((2 ^ dn : Nat) : Int)) = true := by rw [hpw]; exact decide_eq_true (by omega)
            refine ⟨rfl, ?_⟩
            dsimp only [Option.toList, List.cons_append, List.nil_append]
            refine r_if_eq (tgt := 58) dX9_middle_45 (by decide) ⟨by omega, by omega⟩ (fun g45 => absurd g45 (by omega)) (fun g45 => ?_)
            refine r_aload_n dX9_middle_48 rfl rfl ?_
            obtain ⟨bn, rfl⟩ : ∃ k : Nat, bi = k := ⟨bi.toNat, by omega⟩
            refine r_iload_n dX9_middle_49 rfl rfl ?_
            refine r_iload_n dX9_middle_50 rfl rfl ?_
            refine r_iload_n dX9_middle_51 rfl rfl ?_
            refine r_callV 68 [_, _, _] (s_X9_middleOf (b := bn) (g := (va_up g 0 z0)) (by rfl) (by exact c69) (by exact c70) (by exact c71) (by exact c77) (by exact c78) (by exact c79) (by exact tr) pi (by exact c85) (by exact li) (by omega) bday bm) dX9_middle_52 cs_X9_320 im_X9_middleOf (by decide) rfl rfl (by decide) (by decide) (by decide) rfl rfl (Nat.le_of_ble_eq_true rfl) (fun _ _ _ q => q.elim) (fun v n2 h2 q => ?_)
            obtain ⟨rfl, rfl, rw2, gn, lt2, lg2, rfl, li2, kp2⟩ := q
            refine ⟨rfl, ?_⟩
            dsimp only [Option.toList, List.cons_append, List.nil_append]
            refine r_goto (tgt := 59) dX9_middle_55 (by decide) ?_
            refine r_iret dX9_middle_59 ?_
            first
              | exact ⟨rfl, ⟨0, rfl, fun z => absurd ((ocF kb1).symm.trans z) (by decide)⟩, (RefC_mk (g := gn) rfl (by exact c69) (by exact c70) (by exact c71) (by exact c72) (by exact c73) (by exact c74) (by exact c75) (by exact c76) rfl rfl (by exact c79) (by exact c80) (by exact c81) (by exact c82) (by exact c83) (by exact c84) rfl (by exact c86) (by exact c87) (by exact c88) (by exact c89) (by exact c90) (by exact c91) (by exact c92) (by exact c93) (by exact c94) (by exact c95) (congrArg (fun n : Nat => (n : Int)) (ocF kb1).symm) (RR_mk (by first | exact e8 | exact (kp2 8 (by decide)).trans e8) (by first | exact e10 | exact (kp2 10 (by decide)).trans e10) (by first | exact e33 | exact (kp2 33 (by decide)).trans e33) (by first | exact e38 | exact (kp2 38 (by decide)).trans e38) (by first | exact e44 | exact (kp2 44 (by decide)).trans e44) (by first | exact e53 | exact (kp2 53 (by decide)).trans e53) (by first | exact tr | exact tell_kp (by exact tr) kp2) pi ni (by first | exact li | exact li2) rrf rtp htp rrd rse phl phi rim rco ht nM nsn)), (by repeat (first | exact fun _ _ => rfl | refine frr_up ?_ (by decide)))⟩
              | exact ⟨rfl, ⟨0, rfl, fun z => absurd (((ocT kb1).trans (ocF kb2)).symm.trans z) (by decide)⟩, (RefC_mk (g := gn) rfl (by exact c69) (by exact c70) (by exact c71) (by exact c72) (by exact c73) (by exact c74) (by exact c75) (by exact c76) rfl rfl (by exact c79) (by exact c80) (by exact c81) (by exact c82) (by exact c83) (by exact c84) rfl (by exact c86) (by exact c87) (by exact c88) (by exact c89) (by exact c90) (by exact c91) (by exact c92) (by exact c93) (by exact c94) (by exact c95) (congrArg (fun n : Nat => (n : Int)) ((ocT kb1).trans (ocF kb2)).symm) (RR_mk (by first | exact e8 | exact (kp2 8 (by decide)).trans e8) (by first | exact e10 | exact (kp2 10 (by decide)).trans e10) (by first | exact e33 | exact (kp2 33 (by decide)).trans e33) (by first | exact e38 | exact (kp2 38 (by decide)).trans e38) (by first | exact e44 | exact (kp2 44 (by decide)).trans e44) (by first | exact e53 | exact (kp2 53 (by decide)).trans e53) (by first | exact tr | exact tell_kp (by exact tr) kp2) pi ni (by first | exact li | exact li2) rrf rtp htp rrd rse phl phi rim rco ht nM nsn)), (by repeat (first | exact fun _ _ => rfl | refine frr_up ?_ (by decide)))⟩
              | exact ⟨rfl, ⟨0, rfl, fun z => absurd (((ocT kb1).trans ((ocT kb2).trans (ocF kb3))).symm.trans z) (by decide)⟩, (RefC_mk (g := gn) rfl (by exact c69) (by exact c70) (by exact c71) (by exact c72) (by exact c73) (by exact c74) (by exact c75) (by exact c76) rfl rfl (by exact c79) (by exact c80) (by exact c81) (by exact c82) (by exact c83) (by exact c84) rfl (by exact c86) (by exact c87) (by exact c88) (by exact c89) (by exact c90) (by exact c91) (by exact c92) (by exact c93) (by exact c94) (by exact c95) (congrArg (fun n : Nat => (n : Int)) ((ocT kb1).trans ((ocT kb2).trans (ocF kb3))).symm) (RR_mk (by first | exact e8 | exact (kp2 8 (by decide)).trans e8) (by first | exact e10 | exact (kp2 10 (by decide)).trans e10) (by first | exact e33 | exact (kp2 33 (by decide)).trans e33) (by first | exact e38 | exact (kp2 38 (by decide)).trans e38) (by first | exact e44 | exact (kp2 44 (by decide)).trans e44) (by first | exact e53 | exact (kp2 53 (by decide)).trans e53) (by first | exact tr | exact tell_kp (by exact tr) kp2) pi ni (by first | exact li | exact li2) rrf rtp htp rrd rse phl phi rim rco ht nM nsn)), (by repeat (first | exact fun _ _ => rfl | refine frr_up ?_ (by decide)))⟩
              | exact ⟨rfl, ⟨_, rfl, fun _ => rfl⟩, (RefC_mk (g := gn) rfl (by exact c69) (by exact c70) (by exact c71) (by exact c72) (by exact c73) (by exact c74) (by exact c75) (by exact c76) rfl rfl (by exact c79) (by exact c80) (by exact c81) (by exact c82) (by exact c83) (by exact c84) rfl (by exact c86) (by exact c87) (by exact c88) (by exact c89) (by exact c90) (by exact c91) (by exact c92) (by exact c93) (by exact c94) (by exact c95) (by first | exact (hz0.trans (congrArg (fun n : Nat => (n : Int)) ((ocT kb1).trans ((ocT kb2).trans ((ocT kb3).trans ocE))).symm)) | exact (kp2 0 (by decide)).trans (hz0.trans (congrArg (fun n : Nat => (n : Int)) ((ocT kb1).trans ((ocT kb2).trans ((ocT kb3).trans ocE))).symm))) (RR_mk (by first | exact e8 | exact (kp2 8 (by decide)).trans e8) (by first | exact e10 | exact (kp2 10 (by decide)).trans e10) (by first | exact e33 | exact (kp2 33 (by decide)).trans e33) (by first | exact e38 | exact (kp2 38 (by decide)).trans e38) (by first | exact e44 | exact (kp2 44 (by decide)).trans e44) (by first | exact e53 | exact (kp2 53 (by decide)).trans e53) (by first | exact tr | exact tell_kp (by exact tr) kp2) pi ni (by first | exact li | exact li2) rrf rtp htp rrd rse phl phi rim rco ht nM nsn)), (by repeat (first | exact fun _ _ => rfl | refine frr_up ?_ (by decide)))⟩
          · exact absurd kb0 (by decide)
    · obtain rfl := hh.symm
      refine ⟨rfl, ?_⟩
      dsimp only [Option.toList, List.cons_append, List.nil_append]
      refine r_if_eq (tgt := 58) dX9_middle_18 (by decide) ⟨by omega, by omega⟩ (fun g18 => ?_) (fun g18 => absurd g18 (by omega))
      refine r_iconst dX9_middle_58 ?_
      refine r_iret dX9_middle_59 ?_
      first
        | exact ⟨rfl, ⟨0, rfl, fun z => absurd ((ocF kb1).symm.trans z) (by decide)⟩, (RefC_mk (g := (va_up (va_up g 0 z0) 0 1)) rfl (by exact c69) (by exact c70) (by exact c71) (by exact c72) (by exact c73) (by exact c74) (by exact c75) (by exact c76) (by exact c77) (by exact c78) (by exact c79) (by exact c80) (by exact c81) (by exact c82) (by exact c83) (by exact c84) (by exact c85) (by exact c86) (by exact c87) (by exact c88) (by exact c89) (by exact c90) (by exact c91) (by exact c92) (by exact c93) (by exact c94) (by exact c95) (congrArg (fun n : Nat => (n : Int)) (ocF kb1).symm) (RR_mk (by first | exact e8 | exact (kp2 8 (by decide)).trans e8) (by first | exact e10 | exact (kp2 10 (by decide)).trans e10) (by first | exact e33 | exact (kp2 33 (by decide)).trans e33) (by first | exact e38 | exact (kp2 38 (by decide)).trans e38) (by first | exact e44 | exact (kp2 44 (by decide)).trans e44) (by first | exact e53 | exact (kp2 53 (by decide)).trans e53) (by first | exact tr | exact tell_kp (by exact tr) kp2) pi ni (by first | exact li | exact li2) rrf rtp htp rrd rse phl phi rim rco ht nM nsn)), (by repeat (first | exact fun _ _ => rfl | refine frr_up ?_ (by decide)))⟩
        | exact ⟨rfl, ⟨0, rfl, fun z => absurd (((ocT kb1).trans (ocF kb2)).symm.trans z) (by decide)⟩, (RefC_mk (g := (va_up (va_up g 0 z0) 0 1)) rfl (by exact c69) (by exact c70) (by exact c71) (by exact c72) (by exact c73) (by exact c74) (by exact c75) (by exact c76) (by exact c77) (by exact c78) (by exact c79) (by exact c80) (by exact c81) (by exact c82) (by exact c83) (by exact c84) (by exact c85) (by exact c86) (by exact c87) (by exact c88) (by exact c89) (by exact c90) (by exact c91) (by exact c92) (by exact c93) (by exact c94) (by exact c95) (congrArg (fun n : Nat => (n : Int)) ((ocT kb1).trans (ocF kb2)).symm) (RR_mk (by first | exact e8 | exact (kp2 8 (by decide)).trans e8) (by first | exact e10 | exact (kp2 10 (by decide)).trans e10) (by first | exact e33 | exact (kp2 33 (by decide)).trans e33) (by first | exact e38 | exact (kp2 38 (by decide)).trans e38) (by first | exact e44 | exact (kp2 44 (by decide)).trans e44) (by first | exact e53 | exact (kp2 53 (by decide)).trans e53) (by first | exact tr | exact tell_kp (by exact tr) kp2) pi ni (by first | exact li | exact li2) rrf rtp htp rrd rse phl phi rim rco ht nM nsn)), (by repeat (first | exact fun _ _ => rfl | refine frr_up ?_ (by decide)))⟩
        | exact ⟨rfl, ⟨0, rfl, fun z => absurd (((ocT kb1).trans ((ocT kb2).trans (ocF kb3))).symm.trans z) (by decide)⟩, (RefC_mk (g := (va_up (va_up g 0 z0) 0 1)) rfl (by exact c69) (by exact c70) (by exact c71) (by exact c72) (by exact c73) (by exact c74) (by exact c75) (by exact c76) (by exact c77) (by exact c78) (by exact c79) (by exact c80) (by exact c81) (by exact c82) (by exact c83) (by exact c84) (by exact c85) (by exact c86) (by exact c87) (by exact c88) (by exact c89) (by exact c90) (by exact c91) (by exact c92) (by exact c93) (by exact c94) (by exact c95) (congrArg (fun n : Nat => (n : Int)) ((ocT kb1).trans ((ocT kb2).trans (ocF kb3))).symm) (RR_mk (by first | exact e8 | exact (kp2 8 (by decide)).trans e8) (by first | exact e10 | exact (kp2 10 (by decide)).trans e10) (by first | exact e33 | exact (kp2 33 (by decide)).trans e33) (by first | exact e38 | exact (kp2 38 (by decide)).trans e38) (by first | exact e44 | exact (kp2 44 (by decide)).trans e44) (by first | exact e53 | exact (kp2 53 (by decide)).trans e53) (by first | exact tr | exact tell_kp (by exact tr) kp2) pi ni (by first | exact li | exact li2) rrf rtp htp rrd rse phl phi rim rco ht nM nsn)), (by repeat (first | exact fun _ _ => rfl | refine frr_up ?_ (by decide)))⟩
        | exact ⟨rfl, ⟨_, rfl, fun _ => rfl⟩, (RefC_mk (g := (va_up (va_up g 0 z0) 0 1)) rfl (by exact c69) (by exact c70) (by exact c71) (by exact c72) (by exact c73) (by exact c74) (by exact c75) (by exact c76) (by exact c77) (by exact c78) (by exact c79) (by exact c80) (by exact c81) (by exact c82) (by exact c83) (by exact c84) (by exact c85) (by exact c86) (by exact c87) (by exact c88) (by exact c89) (by exact c90) (by exact c91) (by exact c92) (by exact c93) (by exact c94) (by exact c95) (by first | exact (hz0.trans (congrArg (fun n : Nat => (n : Int)) ((ocT kb1).trans ((ocT kb2).trans ((ocT kb3).trans ocE))).symm)) | exact (kp2 0 (by decide)).trans (hz0.trans (congrArg (fun n : Nat => (n : Int)) ((ocT kb1).trans ((ocT kb2).trans ((ocT kb3).trans ocE))).symm))) (RR_mk (by first | exact e8 | exact (kp2 8 (by decide)).trans e8) (by first | exact e10 | exact (kp2 10 (by decide)).trans e10) (by first | exact e33 | exact (kp2 33 (by decide)).trans e33) (by first | exact e38 | exact (kp2 38 (by decide)).trans e38) (by first | exact e44 | exact (kp2 44 (by decide)).trans e44) (by first | exact e53 | exact (kp2 53 (by decide)).trans e53) (by first | exact tr | exact tell_kp (by exact tr) kp2) pi ni (by first | exact li | exact li2) rrf rtp htp rrd rse phl phi rim rco ht nM nsn)), (by repeat (first | exact fun _ _ => rfl | refine frr_up ?_ (by decide)))⟩
  · obtain rfl := hh.symm
    refine ⟨rfl, ?_⟩
    dsimp only [Option.toList, List.cons_append, List.nil_append]
    refine r_if_eq (tgt := 58) dX9_middle_10 (by decide) ⟨by omega, by omega⟩ (fun g10 => ?_) (fun g10 => absurd g10 (by omega))
    refine r_iconst dX9_middle_58 ?_
    refine r_iret dX9_middle_59 ?_
    first
      | exact ⟨rfl, ⟨0, rfl, fun z => absurd ((ocF kb1).symm.trans z) (by decide)⟩, (RefC_mk (g := (va_up (va_up g 0 z0) 0 1)) rfl (by exact c69) (by exact c70) (by exact c71) (by exact c72) (by exact c73) (by exact c74) (by exact c75) (by exact c76) (by exact c77) (by exact c78) (by exact c79) (by exact c80) (by exact c81) (by exact c82) (by exact c83) (by exact c84) (by exact c85) (by exact c86) (by exact c87) (by exact c88) (by exact c89) (by exact c90) (by exact c91) (by exact c92) (by exact c93) (by exact c94) (by exact c95) (congrArg (fun n : Nat => (n : Int)) (ocF kb1).symm) (RR_mk (by first | exact e8 | exact (kp2 8 (by decide)).trans e8) (by first | exact e10 | exact (kp2 10 (by decide)).trans e10) (by first | exact e33 | exact (kp2 33 (by decide)).trans e33) (by first | exact e38 | exact (kp2 38 (by decide)).trans e38) (by first | exact e44 | exact (kp2 44 (by decide)).trans e44) (by first | exact e53 | exact (kp2 53 (by decide)).trans e53) (by first | exact tr | exact tell_kp (by exact tr) kp2) pi ni (by first | exact li | exact li2) rrf rtp htp rrd rse phl phi rim rco ht nM nsn)), (by repeat (first | exact fun _ _ => rfl | refine frr_up ?_ (by decide)))⟩
      | exact ⟨rfl, ⟨0, rfl, fun z => absurd (((ocT kb1).trans (ocF kb2)).symm.trans z) (by decide)⟩, (RefC_mk (g := (va_up (va_up g 0 z0) 0 1)) rfl (by exact c69) (by exact c70) (by exact c71) (by exact c72) (by exact c73) (by exact c74) (by exact c75) (by exact c76) (by exact c77) (by exact c78) (by exact c79) (by exact c80) (by exact c81) (by exact c82) (by exact c83) (by exact c84) (by exact c85) (by exact c86) (by exact c87) (by exact c88) (by exact c89) (by exact c90) (by exact c91) (by exact c92) (by exact c93) (by exact c94) (by exact c95) (congrArg (fun n : Nat => (n : Int)) ((ocT kb1).trans (ocF kb2)).symm) (RR_mk (by first | exact e8 | exact (kp2 8 (by decide)).trans e8) (by first | exact e10 | exact (kp2 10 (by decide)).trans e10) (by first | exact e33 | exact (kp2 33 (by decide)).trans e33) (by first | exact e38 | exact (kp2 38 (by decide)).trans e38) (by first | exact e44 | exact (kp2 44 (by decide)).trans e44) (by first | exact e53 | exact (kp2 53 (by decide)).trans e53) (by first | exact tr | exact tell_kp (by exact tr) kp2) pi ni (by first | exact li | exact li2) rrf rtp htp rrd rse phl phi rim rco ht nM nsn)), (by repeat (first | exact fun _ _ => rfl | refine frr_up ?_ (by decide)))⟩
      | exact ⟨rfl, ⟨0, rfl, fun z => absurd (((ocT kb1).trans ((ocT kb2).trans (ocF kb3))).symm.trans z) (by decide)⟩, (RefC_mk (g := (va_up (va_up g 0 z0) 0 1)) rfl (by exact c69) (by exact c70) (by exact c71) (by exact c72) (by exact c73) (by exact c74) (by exact c75) (by exact c76) (by exact c77) (by exact c78) (by exact c79) (by exact c80) (by exact c81) (by exact c82) (by exact c83) (by exact c84) (by exact c85) (by exact c86) (by exact c87) (by exact c88) (by exact c89) (by exact c90) (by exact c91) (by exact c92) (by exact c93) (by exact c94) (by exact c95) (congrArg (fun n : Nat => (n : Int)) ((ocT kb1).trans ((ocT kb2).trans (ocF kb3))).symm) (RR_mk (by first | exact e8 | exact (kp2 8 (by decide)).trans e8) (by first | exact e10 | exact (kp2 10 (by decide)).trans e10) (by first | exact e33 | exact (kp2 33 (by decide)).trans e33) (by first | exact e38 | exact (kp2 38 (by decide)).trans e38) (by first | exact e44 | exact (kp2 44 (by decide)).trans e44) (by first | exact e53 | exact (kp2 53 (by decide)).trans e53) (by first | exact tr | exact tell_kp (by exact tr) kp2) pi ni (by first | exact li | exact li2) rrf rtp htp rrd rse phl phi rim rco ht nM nsn)), (by repeat (first | exact fun _ _ => rfl | refine frr_up ?_ (by decide)))⟩
      | exact ⟨rfl, ⟨_, rfl, fun _ => rfl⟩, (RefC_mk (g := (va_up (va_up g 0 z0) 0 1)) rfl (by exact c69) (by exact c70) (by exact c71) (by exact c72) (by exact c73) (by exact c74) (by exact c75) (by exact c76) (by exact c77) (by exact c78) (by exact c79) (by exact c80) (by exact c81) (by exact c82) (by exact c83) (by exact c84) (by exact c85) (by exact c86) (by exact c87) (by exact c88) (by exact c89) (by exact c90) (by exact c91) (by exact c92) (by exact c93) (by exact c94) (by exact c95) (by first | exact (hz0.trans (congrArg (fun n : Nat => (n : Int)) ((ocT kb1).trans ((ocT kb2).trans ((ocT kb3).trans ocE))).symm)) | exact (kp2 0 (by decide)).trans (hz0.trans (congrArg (fun n : Nat => (n : Int)) ((ocT kb1).trans ((ocT kb2).trans ((ocT kb3).trans ocE))).symm))) (RR_mk (by first | exact e8 | exact (kp2 8 (by decide)).trans e8) (by first | exact e10 | exact (kp2 10 (by decide)).trans e10) (by first | exact e33 | exact (kp2 33 (by decide)).trans e33) (by first | exact e38 | exact (kp2 38 (by decide)).trans e38) (by first | exact e44 | exact (kp2 44 (by decide)).trans e44) (by first | exact e53 | exact (kp2 53 (by decide)).trans e53) (by first | exact tr | exact tell_kp (by exact tr) kp2) pi ni (by first | exact li | exact li2) rrf rtp htp rrd rse phl phi rim rco ht nM nsn)), (by repeat (first | exact fun _ _ => rfl | refine frr_up ?_ (by decide)))⟩

