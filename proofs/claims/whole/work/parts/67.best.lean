/-! ===== the reference: best ===== -/
theorem l_X9_be0 {h : aH} {w : Int} {gg lt lgt : Nat → Int} {di m ne w_ : Int} {Q : Option Value → Nat → aH → Prop} : ∀ (k j : Nat) (r : Nat → Int), j + k = 241 → (∀ i, i < j → r i = 0) → (∀ (r : Nat → Int), (∀ i, i < 241 → r i = 0) → Ev RX9 "best" cX9_best 8 (some .int) 8 0 0 Q noX 97 (UT (va_up h 84 (.inl (0, 241, r))) gg w lt lgt) 93 [(0, .ref 68), (1, iv di), (2, iv m), (3, iv ne), (4, iv w_), (5, iv 241)] []) → Ev RX9 "best" cX9_best 8 (some .int) 8 0 0 Q noX 97 (UT (va_up h 84 (.inl (0, 241, r))) gg w lt lgt) 71 [(0, .ref 68), (1, iv di), (2, iv m), (3, iv ne), (4, iv w_), (5, iv (j : Nat))] [] := by
  intro k
  induction k with
  | zero =>
    intro j r hj hg kk
    obtain rfl : j = 241 := by omega
    refine r_iload dX9_best_71 rfl ?_
    refine r_sipush dX9_best_73 rfl ?_
    refine r_icmp_gt (tgt := 93) dX9_best_76 (by decide) ⟨by omega, by omega⟩ ⟨by omega, by omega⟩ (fun g76 => ?_) (fun g76 => absurd g76 (by omega))
    exact kk r hg
  | succ k ih =>
    intro j r hj hg kk
    refine r_iload dX9_best_71 rfl ?_
    refine r_sipush dX9_best_73 rfl ?_
    refine r_icmp_gt (tgt := 93) dX9_best_76 (by decide) ⟨by omega, by omega⟩ ⟨by omega, by omega⟩ (fun g76 => absurd g76 (by omega)) (fun g76 => ?_)
    refine r_aload_n dX9_best_79 rfl rfl ?_
    refine r_get (fs := RGL _ _) dX9_best_80 fl_X9_66 (by decide) rfl rfl ?_
    refine r_iload dX9_best_83 rfl ?_
    refine r_iconst dX9_best_85 ?_
    refine r_ast dX9_best_86 (by decide) rfl (by omega) (by omega) (by decide) ?_
    refine r_iinc (lv2 := [(0, _), (1, _), (2, _), (3, _), (4, _), (5, _)]) dX9_best_87 (by decide) rfl rfl rfl ?_
    refine r_goto (tgt := 71) dX9_best_90 (by decide) ?_
    rw [ut_c _ _ _ _ _ _ _ (by decide), Int.toNat_natCast, show (j : Int) + 1 = ((j + 1 : Nat) : Int) by omega]
    refine ih (j + 1) _ (by omega) (fun i hi => ?_) kk
    by_cases q : i = j
    · subst q; exact upI_eq
    · rw [upI_ne q]; exact hg i (by omega)

theorem l_X9_be2 {h : aH} {w : Int} {dl cl lm mn : Nat → Int} (c69 : h 69 = .inl (0, 45, dl)) (c70 : h 70 = .inl (0, 60, cl)) (c71 : h 71 = .inl (0, 12, lm)) (c79 : h 79 = .inl (0, 120, mn)) {nd sw nc nm : Int} {K U I O G L cf ct fc nx cd md my mt : Nat → Int} (pi : PInv nd sw nc K U I O G L cf ct fc nx cd) {g : Nat → Int} {di : Int} (hdi : 0 ≤ di ∧ di < nd)  {m : Int} (hm : 0 ≤ m ∧ m < 1440) {ne w_ : Int} (hne : 0 ≤ ne ∧ ne ≤ 120) (hw : 0 ≤ w_ ∧ w_ ≤ 1) {ok : Int → Int → Bool} (hok : ∀ a b, ok a b = (decide (¬ (toldI (K di.toNat) (b - 120) (I di.toNat) (O di.toNat) (G di.toNat) a m (noonI L a) (halfI sw a) (cUp cd cf ct a m nc.toNat)) = -1 ∧ wrongI (toldI (K di.toNat) (b - 120) (I di.toNat) (O di.toNat) (G di.toNat) a m (noonI L a) (halfI sw a) (cUp cd cf ct a m nc.toNat)) m ≤ ne))) {Q : Option Value → Nat → aH → Prop} {dd : Nat} (hdd : dd < 365) : ∀ (k j : Nat) (r gg lt lgt : Nat → Int), j + k = 241 → (∀ i, i < 241 → r i = if i < j then rgS ok (dd + 1) i else rgS ok dd i) → TellR gg dl cl lm mn nd sw nc nm K U I O G L cf ct cd md my mt → LitR (gg 30) lt lgt sw nc L cf ct cd → (∀ k, k ≠ 30 → gg k = g k) →
    (∀ (r gg lt lgt : Nat → Int), (∀ i, i < 241 → r i = rgS ok (dd + 1) i) → TellR gg dl cl lm mn nd sw nc nm K U I O G L cf ct cd md my mt → LitR (gg 30) lt lgt sw nc L cf ct cd → (∀ k, k ≠ 30 → gg k = g k) → Ev RX9 "best" cX9_best 8 (some .int) 8 0 0 Q noX 97 (UT (va_up h 84 (.inl (0, 241, r))) gg w lt lgt) 96 [(0, .ref 68), (1, iv di), (2, iv m), (3, iv ne), (4, iv w_), (5, iv ((dd + 1 : Nat) : Int))] []) → Ev RX9 "best" cX9_best 8 (some .int) 8 0 0 Q noX 97 (UT (va_up h 84 (.inl (0, 241, r))) gg w lt lgt) 107 [(0, .ref 68), (1, iv di), (2, iv m), (3, iv ne), (4, iv w_), (5, iv (dd : Nat)), (6, iv (j : Nat))] [] := by
  obtain ⟨pnd, psw, pnc, pK, pU, pI, pO, pG, pL, pcf, pct, pfc, pnx⟩ := id pi
  intro k
  induction k with
  | zero =>
    intro j r gg lt lgt hj hr trg lig kp kk
    obtain rfl : j = 241 := by omega
    refine r_iload dX9_best_107 rfl ?_
    refine r_sipush dX9_best_109 rfl ?_
    refine r_icmp_gt (tgt := 204) dX9_best_112 (by decide) ⟨by omega, by omega⟩ ⟨by omega, by omega⟩ (fun g112 => ?_) (fun g112 => absurd g112 (by omega))
    refine r_iinc (lv2 := [(0, _), (1, _), (2, _), (3, _), (4, _), (5, _), (6, _)]) dX9_best_204 (by decide) rfl rfl rfl ?_
    refine r_goto (tgt := 96) dX9_best_207 (by decide) ?_
    rw [show (dd : Int) + 1 = ((dd + 1 : Nat) : Int) by omega]
    refine r_lv (lv2 := [(0, _), (1, _), (2, _), (3, _), (4, _), (5, _)]) rfl ?_
    exact kk r gg lt lgt (fun i hi => (hr i hi).trans (if_pos hi)) trg lig kp
  | succ k ih =>
    intro j r gg lt lgt hj hr trg lig kp kk
    obtain ⟨t1, t2, t3, t31, pnm, tdl, tcl, tlm, tmd, pmt, pmd, pmy⟩ := id trg
    obtain ⟨k1, k2, k3, k4, k5⟩ := tdl di.toNat (by omega)
    have bK := pK di.toNat
    have bO := pO di.toNat
    have bG := pG di.toNat
    have bU := pU di.toNat
    have bI := pI di.toNat
    have q0 : (5 * di).toNat = 5 * di.toNat := by omega
    have q1 : (5 * di + 1).toNat = 5 * di.toNat + 1 := by omega
    have q2 : (5 * di + 2).toNat = 5 * di.toNat + 2 := by omega
    have q3 : (5 * di + 3).toNat = 5 * di.toNat + 3 := by omega
    have q4 : (5 * di + 4).toNat = 5 * di.toNat + 4 := by omega
    have b5 := told_B (K di.toNat) ((j : Int) - 120) (I di.toNat) (O di.toNat) (G di.toNat) (dd : Int) m (noonI L (dd : Int)) (halfI sw (dd : Int)) (cUp cd cf ct (dd : Int) m nc.toNat)
    have eo := hok (dd : Nat) (j : Nat)
    obtain ⟨v, ev⟩ : ∃ v, (toldI (K di.toNat) ((j : Int) - 120) (I di.toNat) (O di.toNat) (G di.toNat) (dd : Int) m (noonI L (dd : Int)) (halfI sw (dd : Int)) (cUp cd cf ct (dd : Int) m nc.toNat)) = v := ⟨_, rfl⟩
    rw [ev] at b5 eo
    have b6 : v = -1 ∨ 0 ≤ wrongI v m ∧ wrongI v m ≤ 720 := if q : v = -1 then Or.inl q else Or.inr (wrong_B (by omega) hm)
    have b7 := rgS_B ok dd j
    have hj1 := (hr j (by omega)).trans (if_neg (by omega))
    refine r_iload dX9_best_107 rfl ?_
    refine r_sipush dX9_best_109 rfl ?_
    refine r_icmp_gt (tgt := 204) dX9_best_112 (by decide) ⟨by omega, by omega⟩ ⟨by omega, by omega⟩ (fun g112 => absurd g112 (by omega)) (fun g112 => ?_)
    refine r_aload_n dX9_best_115 rfl rfl ?_
    refine r_aload_n dX9_best_116 rfl rfl ?_
    refine r_get (fs := RGL _ _) dX9_best_117 fl_X9_13 (by decide) rfl rfl ?_
    refine r_iconst dX9_best_120 ?_
    refine r_iload_n dX9_best_121 rfl rfl ?_
    refine r_imul dX9_best_122 ?_
    refine r_ald dX9_best_123 (by decide) c69 (by omega) (by omega) (by decide) ?_
    rw [q0, k1]
    refine r_iload dX9_best_124 rfl ?_
    refine r_bipush dX9_best_126 rfl ?_
    refine r_isub dX9_best_128 ?_
    refine r_aload_n dX9_best_129 rfl rfl ?_
    refine r_get (fs := RGL _ _) dX9_best_130 fl_X9_13 (by decide) rfl rfl ?_
    refine r_iconst dX9_best_133 ?_
    refine r_iload_n dX9_best_134 rfl rfl ?_
    refine r_imul dX9_best_135 ?_
    refine r_iconst dX9_best_136 ?_
    refine r_iadd dX9_best_137 ?_
    refine r_ald dX9_best_138 (by decide) c69 (by omega) (by omega) (by decide) ?_
    rw [q2, k3]
    refine r_aload_n dX9_best_139 rfl rfl ?_
    refine r_get (fs := RGL _ _) dX9_best_140 fl_X9_13 (by decide) rfl rfl ?_
    refine r_iconst dX9_best_143 ?_
    refine r_iload_n dX9_best_144 rfl rfl ?_
    refine r_imul dX9_best_145 ?_
    refine r_iconst dX9_best_146 ?_
    refine r_iadd dX9_best_147 ?_
    refine r_ald dX9_best_148 (by decide) c69 (by omega) (by omega) (by decide) ?_
    rw [q3, k4]
    refine r_aload_n dX9_best_149 rfl rfl ?_
    refine r_get (fs := RGL _ _) dX9_best_150 fl_X9_13 (by decide) rfl rfl ?_
    refine r_iconst dX9_best_153 ?_
    refine r_iload_n dX9_best_154 rfl rfl ?_
    refine r_imul dX9_best_155 ?_
    refine r_iconst dX9_best_156 ?_
    refine r_iadd dX9_best_157 ?_
    refine r_ald dX9_best_158 (by decide) c69 (by omega) (by omega) (by decide) ?_
    rw [q4, k5]
    refine r_iload dX9_best_159 rfl ?_
    refine r_iload_n dX9_best_161 rfl rfl ?_
    refine r_callV 68 [_, _, _, _, _, _, _] (s_X9_tellsBy (g := gg) (by rfl) (by exact c69) (by exact c70) (by exact c71) (by rfl) (by rfl) (by exact c79) trg pi lig (by omega) (by omega) (by omega) (by omega) (by omega) (by omega) (by omega)) dX9_best_162 cs_X9_271 im_X9_tellsBy (by decide) rfl rfl (by decide) (by decide) (by decide) rfl rfl (Nat.le_of_ble_eq_true rfl) (fun _ _ _ q => q.elim) (fun v n2 h2 q => ?_)
    obtain ⟨rfl, rfl, gn, lt2, lg2, rfl, li2, kp2⟩ := q
    rw [ut_ut]
    have tr2 := tell_kp trg kp2
    refine ⟨rfl, ?_⟩
    dsimp only [Option.toList, List.cons_append, List.nil_append]
    rw [ev]
    refine r_istore (lv2 := [(0, _), (1, _), (2, _), (3, _), (4, _), (5, _), (6, _), (7, _)]) dX9_best_165 (by decide) rfl rfl ?_
    refine r_aload_n dX9_best_167 rfl rfl ?_
    refine r_get (fs := RGL _ _) dX9_best_168 fl_X9_66 (by decide) rfl rfl ?_
    refine r_iload dX9_best_171 rfl ?_
    refine r_dup2 dX9_best_173 rfl rfl ?_
    refine r_ald dX9_best_174 (by decide) rfl (by omega) (by omega) (by decide) ?_
    rw [Int.toNat_natCast, hj1]
    refine r_iload dX9_best_175 rfl ?_
    refine r_iconst dX9_best_177 ?_
    refine r_icmp_eq (tgt := 195) dX9_best_178 (by decide) ⟨by omega, by omega⟩ ⟨by omega, by omega⟩ (fun g178 => ?_) (fun g178 => ?_)
    · refine r_iconst dX9_best_195 ?_
      refine r_iadd dX9_best_196 ?_
      refine r_ast dX9_best_197 (by decide) rfl (by omega) (by omega) (by decide) ?_
      refine r_iinc (lv2 := [(0, _), (1, _), (2, _), (3, _), (4, _), (5, _), (6, _), (7, _)]) dX9_best_198 (by decide) rfl rfl rfl ?_
      refine r_goto (tgt := 107) dX9_best_201 (by decide) ?_
      rw [ut_c _ _ _ _ _ _ _ (by decide), Int.toNat_natCast, show (j : Int) + 1 = ((j + 1 : Nat) : Int) by omega]
      refine r_lv (lv2 := [(0, _), (1, _), (2, _), (3, _), (4, _), (5, _), (6, _)]) rfl ?_
      refine ih (j + 1) _ gn lt2 lg2 (by omega) (fun i hi => ?_) tr2 li2 (fun k hk => (kp2 k hk).trans (kp k hk)) kk
      by_cases q : i = j
      · rw [q, upI_eq, if_pos (by omega)]
        have e9 : rgS ok (dd + 1) j = rgS ok dd j + (if ok (dd : Nat) (j : Nat) = true then 1 else 0) := rfl
        rw [e9]
        first
          | rw [if_pos (by rw [eo]; exact decide_eq_true ⟨by omega, by omega⟩)]
          | rw [if_neg (by rw [eo, decide_eq_true_eq]; omega)]
      · rw [upI_ne q, hr i hi]
        by_cases q2 : i < j
        · rw [if_pos q2, if_pos (by omega)]
        · rw [if_neg q2, if_neg (by omega)]
    · refine r_iload dX9_best_181 rfl ?_
      refine r_iload_n dX9_best_183 rfl rfl ?_
      refine r_callS [_, _] (s_X9_wrongBy (by omega) (by omega)) dX9_best_184 cs_X9_307 sm_X9_wrongBy (by decide) (by decide) (by decide) rfl rfl (Nat.le_of_ble_eq_true rfl) (fun _ _ _ q => q.elim) (fun v n2 h2 q => ?_)
      obtain ⟨rfl, rfl, hh⟩ := q
      obtain rfl := hh.symm
      refine ⟨rfl, ?_⟩
      dsimp only [Option.toList, List.cons_append, List.nil_append]
      refine r_iload_n dX9_best_187 rfl rfl ?_
      refine r_icmp_gt (tgt := 195) dX9_best_188 (by decide) ⟨by omega, by omega⟩ ⟨by omega, by omega⟩ (fun g188 => ?_) (fun g188 => ?_)
      · refine r_iconst dX9_best_195 ?_
        refine r_iadd dX9_best_196 ?_
        refine r_ast dX9_best_197 (by decide) rfl (by omega) (by omega) (by decide) ?_
        refine r_iinc (lv2 := [(0, _), (1, _), (2, _), (3, _), (4, _), (5, _), (6, _), (7, _)]) dX9_best_198 (by decide) rfl rfl rfl ?_
        refine r_goto (tgt := 107) dX9_best_201 (by decide) ?_
        rw [ut_c _ _ _ _ _ _ _ (by decide), Int.toNat_natCast, show (j : Int) + 1 = ((j + 1 : Nat) : Int) by omega]
        refine r_lv (lv2 := [(0, _), (1, _), (2, _), (3, _), (4, _), (5, _), (6, _)]) rfl ?_
        refine ih (j + 1) _ gn lt2 lg2 (by omega) (fun i hi => ?_) tr2 li2 (fun k hk => (kp2 k hk).trans (kp k hk)) kk
        by_cases q : i = j
        · rw [q, upI_eq, if_pos (by omega)]
          have e9 : rgS ok (dd + 1) j = rgS ok dd j + (if ok (dd : Nat) (j : Nat) = true then 1 else 0) := rfl
          rw [e9]
          first
            | rw [if_pos (by rw [eo]; exact decide_eq_true ⟨by omega, by omega⟩)]
            | rw [if_neg (by rw [eo, decide_eq_true_eq]; omega)]
        · rw [upI_ne q, hr i hi]
          by_cases q2 : i < j
          · rw [if_pos q2, if_pos (by omega)]
          · rw [if_neg q2, if_neg (by omega)]
      · refine r_iconst dX9_best_191 ?_
        refine r_goto (tgt := 196) dX9_best_192 (by decide) ?_
        refine r_iadd dX9_best_196 ?_
        refine r_ast dX9_best_197 (by decide) rfl (by omega) (by omega) (by decide) ?_
        refine r_iinc (lv2 := [(0, _), (1, _), (2, _), (3, _), (4, _), (5, _), (6, _), (7, _)]) dX9_best_198 (by decide) rfl rfl rfl ?_
        refine r_goto (tgt := 107) dX9_best_201 (by decide) ?_
        rw [ut_c _ _ _ _ _ _ _ (by decide), Int.toNat_natCast, show (j : Int) + 1 = ((j + 1 : Nat) : Int) by omega]
        refine r_lv (lv2 := [(0, _), (1, _), (2, _), (3, _), (4, _), (5, _), (6, _)]) rfl ?_
        refine ih (j + 1) _ gn lt2 lg2 (by omega) (fun i hi => ?_) tr2 li2 (fun k hk => (kp2 k hk).trans (kp k hk)) kk
        by_cases q : i = j
        · rw [q, upI_eq, if_pos (by omega)]
          have e9 : rgS ok (dd + 1) j = rgS ok dd j + (if ok (dd : Nat) (j : Nat) = true then 1 else 0) := rfl
          rw [e9]
          first
            | rw [if_pos (by rw [eo]; exact decide_eq_true ⟨by omega, by omega⟩)]
            | rw [if_neg (by rw [eo, decide_eq_true_eq]; omega)]
        · rw [upI_ne q, hr i hi]
          by_cases q2 : i < j
          · rw [if_pos q2, if_pos (by omega)]
          · rw [if_neg q2, if_neg (by omega)]

theorem l_X9_be1 {h : aH} {w : Int} {dl cl lm mn : Nat → Int} (c69 : h 69 = .inl (0, 45, dl)) (c70 : h 70 = .inl (0, 60, cl)) (c71 : h 71 = .inl (0, 12, lm)) (c79 : h 79 = .inl (0, 120, mn)) {nd sw nc nm : Int} {K U I O G L cf ct fc nx cd md my mt : Nat → Int} (pi : PInv nd sw nc K U I O G L cf ct fc nx cd) {g : Nat → Int} {di : Int} (hdi : 0 ≤ di ∧ di < nd)  {m : Int} (hm : 0 ≤ m ∧ m < 1440) {ne w_ : Int} (hne : 0 ≤ ne ∧ ne ≤ 120) (hw : 0 ≤ w_ ∧ w_ ≤ 1) {ok : Int → Int → Bool} (hok : ∀ a b, ok a b = (decide (¬ (toldI (K di.toNat) (b - 120) (I di.toNat) (O di.toNat) (G di.toNat) a m (noonI L a) (halfI sw a) (cUp cd cf ct a m nc.toNat)) = -1 ∧ wrongI (toldI (K di.toNat) (b - 120) (I di.toNat) (O di.toNat) (G di.toNat) a m (noonI L a) (halfI sw a) (cUp cd cf ct a m nc.toNat)) m ≤ ne))) {Q : Option Value → Nat → aH → Prop} : ∀ (k dd : Nat) (r gg lt lgt : Nat → Int), dd + k = 365 → (∀ i, i < 241 → r i = rgS ok dd i) → TellR gg dl cl lm mn nd sw nc nm K U I O G L cf ct cd md my mt → LitR (gg 30) lt lgt sw nc L cf ct cd → (∀ k, k ≠ 30 → gg k = g k) →
    (∀ (r gg lt lgt : Nat → Int), (∀ i, i < 241 → r i = rgS ok 365 i) → TellR gg dl cl lm mn nd sw nc nm K U I O G L cf ct cd md my mt → LitR (gg 30) lt lgt sw nc L cf ct cd → (∀ k, k ≠ 30 → gg k = g k) → Ev RX9 "best" cX9_best 8 (some .int) 8 0 0 Q noX 97 (UT (va_up h 84 (.inl (0, 241, r))) gg w lt lgt) 210 [(0, .ref 68), (1, iv di), (2, iv m), (3, iv ne), (4, iv w_), (5, iv 365)] []) → Ev RX9 "best" cX9_best 8 (some .int) 8 0 0 Q noX 97 (UT (va_up h 84 (.inl (0, 241, r))) gg w lt lgt) 96 [(0, .ref 68), (1, iv di), (2, iv m), (3, iv ne), (4, iv w_), (5, iv (dd : Nat))] [] := by
  obtain ⟨pnd, psw, pnc, pK, pU, pI, pO, pG, pL, pcf, pct, pfc, pnx⟩ := id pi
  intro k
  induction k with
  | zero =>
    intro j r gg lt lgt hj hr trg lig kp kk
    obtain rfl : j = 365 := by omega
    refine r_iload dX9_best_96 rfl ?_
    refine r_sipush dX9_best_98 rfl ?_
    refine r_icmp_ge (tgt := 210) dX9_best_101 (by decide) ⟨by omega, by omega⟩ ⟨by omega, by omega⟩ (fun g101 => ?_) (fun g101 => absurd g101 (by omega))
    exact kk r gg lt lgt hr trg lig kp
  | succ k ih =>
    intro j r gg lt lgt hj hr trg lig kp kk
    refine r_iload dX9_best_96 rfl ?_
    refine r_sipush dX9_best_98 rfl ?_
    refine r_icmp_ge (tgt := 210) dX9_best_101 (by decide) ⟨by omega, by omega⟩ ⟨by omega, by omega⟩ (fun g101 => absurd g101 (by omega)) (fun g101 => ?_)
    refine r_iconst dX9_best_104 ?_
    refine r_istore (lv2 := [(0, _), (1, _), (2, _), (3, _), (4, _), (5, _), (6, _)]) dX9_best_105 (by decide) rfl rfl ?_
    exact l_X9_be2 c69 c70 c71 c79 pi hdi hm hne hw hok (dd := j) (by omega) 241 0 r gg lt lgt (by omega) (fun i hi => (hr i hi).trans (if_neg (by omega)).symm) trg lig kp (fun r2 g3 l3 l4 hr2 t3 i3 k3 => ih (j + 1) r2 g3 l3 l4 (by omega) hr2 t3 i3 k3 kk)

theorem l_X9_be3 {h : aH} {w : Int} {g r : Nat → Int} (c68 : h 68 = RG g w) (c84 : h 84 = .inl (0, 241, r)) {rg : Nat → Int} (hr : ∀ i, i < 241 → r i = rg i) (hb : ∀ i, 0 ≤ rg i ∧ rg i ≤ 365) {di m ne w_ its : Int} (hw : 0 ≤ w_ ∧ w_ ≤ 1) (hi : 0 ≤ its ∧ its ≤ 240) : ∀ (k j : Nat), j + k = 240 → Ev RX9 "best" cX9_best 8 (some .int) 8 0 0 (Ret (if w_ = 0 then (bsR rg its 240 : Int) - 120 else rg (bsR rg its 240)) h) noX 97 h 231 [(0, .ref 68), (1, iv di), (2, iv m), (3, iv ne), (4, iv w_), (5, iv its), (6, iv (bsR rg its j : Nat)), (7, iv ((j + 1 : Nat) : Int))] [] := by
  intro k
  induction k with
  | zero =>
    intro j hj
    obtain rfl : j = 240 := by omega
    have b1 := bsR_B rg its 240
    have b2 := hb (bsR rg its 240)
    have e1 := hr (bsR rg its 240) (by omega)
    refine r_iload dX9_best_231 rfl ?_
    refine r_sipush dX9_best_233 rfl ?_
    refine r_icmp_gt (tgt := 300) dX9_best_236 (by decide) ⟨by omega, by omega⟩ ⟨by omega, by omega⟩ (fun g236 => ?_) (fun g236 => absurd g236 (by omega))
    refine r_iload dX9_best_300 rfl ?_
    refine r_if_ne (tgt := 313) dX9_best_302 (by decide) ⟨by omega, by omega⟩ (fun g302 => ?_) (fun g302 => ?_)
    · refine r_aload_n dX9_best_313 rfl rfl ?_
      refine r_get (fs := RGL _ _) dX9_best_314 fl_X9_66 (by decide) c68 rfl ?_
      refine r_iload dX9_best_317 rfl ?_
      refine r_ald dX9_best_319 (by decide) c84 (by omega) (by omega) (by decide) ?_
      refine r_iret dX9_best_320 ?_
      first
        | exact ⟨ivE (if_pos g302).symm, rfl, rfl⟩
        | (rw [Int.toNat_natCast, e1]
           exact ⟨ivE (if_neg g302).symm, rfl, rfl⟩)
    · refine r_iload dX9_best_305 rfl ?_
      refine r_bipush dX9_best_307 rfl ?_
      refine r_isub dX9_best_309 ?_
      refine r_goto (tgt := 320) dX9_best_310 (by decide) ?_
      refine r_iret dX9_best_320 ?_
      first
        | exact ⟨ivE (if_pos g302).symm, rfl, rfl⟩
        | (rw [Int.toNat_natCast, e1]
           exact ⟨ivE (if_neg g302).symm, rfl, rfl⟩)
  | succ k ih =>
    intro j hj
    have b1 := bsR_B rg its j
    have b2 := hb (bsR rg its j)
    have b3 := hb (j + 1)
    have e1 := hr (bsR rg its j) (by omega)
    have e2 := hr (j + 1) (by omega)
    have e3 := bsR_s rg its j
    have h3 := ih (j + 1) (by omega)
    refine r_iload dX9_best_231 rfl ?_
    refine r_sipush dX9_best_233 rfl ?_
    refine r_icmp_gt (tgt := 300) dX9_best_236 (by decide) ⟨by omega, by omega⟩ ⟨by omega, by omega⟩ (fun g236 => absurd g236 (by omega)) (fun g236 => ?_)
    refine r_aload_n dX9_best_239 rfl rfl ?_
    refine r_get (fs := RGL _ _) dX9_best_240 fl_X9_66 (by decide) c68 rfl ?_
    refine r_iload dX9_best_243 rfl ?_
    refine r_ald dX9_best_245 (by decide) c84 (by omega) (by omega) (by decide) ?_
    rw [Int.toNat_natCast, e2]
    refine r_aload_n dX9_best_246 rfl rfl ?_
    refine r_get (fs := RGL _ _) dX9_best_247 fl_X9_66 (by decide) c68 rfl ?_
    refine r_iload dX9_best_250 rfl ?_
    refine r_ald dX9_best_252 (by decide) c84 (by omega) (by omega) (by decide) ?_
    rw [Int.toNat_natCast, e1]
    refine r_icmp_gt (tgt := 290) dX9_best_253 (by decide) ⟨by omega, by omega⟩ ⟨by omega, by omega⟩ (fun g253 => ?_) (fun g253 => ?_)
    · refine r_iload dX9_best_290 rfl ?_
      refine r_istore (lv2 := [(0, _), (1, _), (2, _), (3, _), (4, _), (5, _), (6, _), (7, _)]) dX9_best_292 (by decide) rfl rfl ?_
      refine r_iinc (lv2 := [(0, _), (1, _), (2, _), (3, _), (4, _), (5, _), (6, _), (7, _)]) dX9_best_294 (by decide) rfl rfl rfl ?_
      refine r_goto (tgt := 231) dX9_best_297 (by decide) ?_
      rw [show ((j + 1 : Nat) : Int) + 1 = ((j + 1 + 1 : Nat) : Int) by omega]
      first
        | rw [if_pos (by omega)] at e3
        | rw [if_neg (by omega)] at e3
      rw [e3] at h3
      exact h3
    · refine r_aload_n dX9_best_256 rfl rfl ?_
      refine r_get (fs := RGL _ _) dX9_best_257 fl_X9_66 (by decide) c68 rfl ?_
      refine r_iload dX9_best_260 rfl ?_
      refine r_ald dX9_best_262 (by decide) c84 (by omega) (by omega) (by decide) ?_
      rw [Int.toNat_natCast, e2]
      refine r_aload_n dX9_best_263 rfl rfl ?_
      refine r_get (fs := RGL _ _) dX9_best_264 fl_X9_66 (by decide) c68 rfl ?_
      refine r_iload dX9_best_267 rfl ?_
      refine r_ald dX9_best_269 (by decide) c84 (by omega) (by omega) (by decide) ?_
      rw [Int.toNat_natCast, e1]
      refine r_icmp_ne (tgt := 294) dX9_best_270 (by decide) ⟨by omega, by omega⟩ ⟨by omega, by omega⟩ (fun g270 => ?_) (fun g270 => ?_)
      · refine r_iinc (lv2 := [(0, _), (1, _), (2, _), (3, _), (4, _), (5, _), (6, _), (7, _)]) dX9_best_294 (by decide) rfl rfl rfl ?_
        refine r_goto (tgt := 231) dX9_best_297 (by decide) ?_
        rw [show ((j + 1 : Nat) : Int) + 1 = ((j + 1 + 1 : Nat) : Int) by omega]
        first
          | rw [if_pos (by omega)] at e3
          | rw [if_neg (by omega)] at e3
        rw [e3] at h3
        exact h3
      · refine r_iload dX9_best_273 rfl ?_
        refine r_iload dX9_best_275 rfl ?_
        refine r_callS [_, _] (s_X9_off (by omega) (by omega)) dX9_best_277 cs_X9_250 sm_X9_off (by decide) (by decide) (by decide) rfl rfl (Nat.le_of_ble_eq_true rfl) (fun _ _ _ q => q.elim) (fun v n2 h2 q => ?_)
        obtain ⟨rfl, rfl, hh⟩ := q
        obtain rfl := hh.symm
        refine ⟨rfl, ?_⟩
        dsimp only [Option.toList, List.cons_append, List.nil_append]
        refine r_iload dX9_best_280 rfl ?_
        refine r_iload dX9_best_282 rfl ?_
        refine r_callS [_, _] (s_X9_off (by omega) (by omega)) dX9_best_284 cs_X9_250 sm_X9_off (by decide) (by decide) (by decide) rfl rfl (Nat.le_of_ble_eq_true rfl) (fun _ _ _ q => q.elim) (fun v n2 h2 q => ?_)
        obtain ⟨rfl, rfl, hh⟩ := q
        obtain rfl := hh.symm
        refine ⟨rfl, ?_⟩
        dsimp only [Option.toList, List.cons_append, List.nil_append]
        refine r_icmp_ge (tgt := 294) dX9_best_287 (by decide) ⟨by omega, by omega⟩ ⟨by omega, by omega⟩ (fun g287 => ?_) (fun g287 => ?_)
        · refine r_iinc (lv2 := [(0, _), (1, _), (2, _), (3, _), (4, _), (5, _), (6, _), (7, _)]) dX9_best_294 (by decide) rfl rfl rfl ?_
          refine r_goto (tgt := 231) dX9_best_297 (by decide) ?_
          rw [show ((j + 1 : Nat) : Int) + 1 = ((j + 1 + 1 : Nat) : Int) by omega]
          first
            | rw [if_pos (by omega)] at e3
            | rw [if_neg (by omega)] at e3
          rw [e3] at h3
          exact h3
        · refine r_iload dX9_best_290 rfl ?_
          refine r_istore (lv2 := [(0, _), (1, _), (2, _), (3, _), (4, _), (5, _), (6, _), (7, _)]) dX9_best_292 (by decide) rfl rfl ?_
          refine r_iinc (lv2 := [(0, _), (1, _), (2, _), (3, _), (4, _), (5, _), (6, _), (7, _)]) dX9_best_294 (by decide) rfl rfl rfl ?_
          refine r_goto (tgt := 231) dX9_best_297 (by decide) ?_
          rw [show ((j + 1 : Nat) : Int) + 1 = ((j + 1 + 1 : Nat) : Int) by omega]
          first
            | rw [if_pos (by omega)] at e3
            | rw [if_neg (by omega)] at e3
          rw [e3] at h3
          exact h3

theorem s_X9_best {h : aH} {th : Int} {t : Nat → Int} {tp : Nat} {fpl hlaw himg : Int} {rf : Nat → Int} {nd sw nc hl hs : Int} {K U I O G L cf ct fc nx cd : Nat → Int} {nr ns nm : Int} {rd ry rm rt se md my mt : Nat → Int} {M : ND} {ls : LSm} (cr : RefC h (t, tp, fpl, rf, hlaw, himg, ((nd, sw, nc), (hl, hs), K, U, I, O, G, L, cf, ct, fc, nx, cd), ((nr, ns, nm), rd, ry, rm, rt, se, md, my, mt), M, ls) th) {di m ne w_ : Int} (idi : inR di) (im : inR m) (ine : inR ne) (iw_ : inR w_)  : mSem yX9_best cX9_best 8 (some .int) 8 0 0 [.ref 68, iv di, iv m, iv ne, iv w_] 97 h (RefQ (ocL [(diaB nd di, 1), (minB m, 1), (whaB w_ 1, 1), (decide (0 ≤ ne ∧ ne ≤ 120), 2), (decide (¬ K di.toNat = 5), 2)]) (if w_ = 0 then (bsR (rgS (fun a b => (decide (¬ (toldI (K di.toNat) (b - 120) (I di.toNat) (O di.toNat) (G di.toNat) a m (noonI L a) (halfI sw a) (cUp cd cf ct a m nc.toNat)) = -1 ∧ wrongI (toldI (K di.toNat) (b - 120) (I di.toNat) (O di.toNat) (G di.toNat) a m (noonI L a) (halfI sw a) (cUp cd cf ct a m nc.toNat)) m ≤ ne))) 365) (U di.toNat + 120) 240 : Int) - 120 else rgS (fun a b => (decide (¬ (toldI (K di.toNat) (b - 120) (I di.toNat) (O di.toNat) (G di.toNat) a m (noonI L a) (halfI sw a) (cUp cd cf ct a m nc.toNat)) = -1 ∧ wrongI (toldI (K di.toNat) (b - 120) (I di.toNat) (O di.toNat) (G di.toNat) a m (noonI L a) (halfI sw a) (cUp cd cf ct a m nc.toNat)) m ≤ ne))) 365 (bsR (rgS (fun a b => (decide (¬ (toldI (K di.toNat) (b - 120) (I di.toNat) (O di.toNat) (G di.toNat) a m (noonI L a) (halfI sw a) (cUp cd cf ct a m nc.toNat)) = -1 ∧ wrongI (toldI (K di.toNat) (b - 120) (I di.toNat) (O di.toNat) (G di.toNat) a m (noonI L a) (halfI sw a) (cUp cd cf ct a m nc.toNat)) m ≤ ne))) 365) (U di.toNat + 120) 240)) h (t, tp, fpl, rf, hlaw, himg, ((nd, sw, nc), (hl, hs), K, U, I, O, G, L, cf, ct, fc, nx, cd), ((nr, ns, nm), rd, ry, rm, rt, se, md, my, mt), M, ls)) noX := by
  refine RefC_elim cr (fun g dl cl lm trr rfr nD nC nL lt lgt mn rdg cpl grp sea rts row cod ncod pil opn stg bsd imo imr ims imm w c68 c69 c70 c71 c72 c73 c74 c75 c76 c77 c78 c79 c80 c81 c82 c83 c84 c85 c86 c87 c88 c89 c90 c91 c92 c93 c94 c95 hth rr => ?_)
  refine RR_elim rr (fun e8 e10 e33 e38 e44 e53 tr pi ni li rrf rtp htp rrd rse phl phi rim rco ht nM nsn => ?_)
  obtain ⟨t1, t2, t3, t31, pnm, tdl, tcl, tlm, tmd, pmt, pmd, pmy⟩ := id tr
  obtain ⟨pnd, psw, pnc, pK, pU, pI, pO, pG, pL, pcf, pct, pfc, pnx⟩ := id pi
  obtain ⟨pnr, pns, pnm2, prd, pry, prm, prt, pse, pmd2, pmy2, pmt2⟩ := id ni
  unfold inR at idi im ine iw_
  refine mSem_of (own := RX9) (name := "best") pn_X9 rfl rfl (Nat.le_of_ble_eq_true rfl) ?_
  refine r_aload_n dX9_best_0 rfl rfl ?_
  refine r_iconst dX9_best_1 ?_
  refine r_putR dX9_best_2 fp_X9_102 (by decide) c68 (nar_int _) (Nat.le_of_ble_eq_true rfl) setR_0 (fun z0 hz0 => ?_)
  refine r_aload_n dX9_best_5 rfl rfl ?_
  refine r_iload_n dX9_best_6 rfl rfl ?_
  refine r_callV 68 [_] (s_X9_isDial (by rfl) (by first | rfl | exact hz0) (by show 0 ≤ g 1 ∧ g 1 ≤ 9; omega) idi) dX9_best_7 cs_X9_243 im_X9_isDial (by decide) rfl rfl (by decide) (by decide) (by decide) rfl rfl (Nat.le_of_ble_eq_true rfl) (fun _ _ _ q => q.elim) (fun v n2 h2 q => ?_)
  obtain ⟨rfl, q⟩ := q
  rcases q with ⟨kb1, rfl, hh⟩ | ⟨kb1, rfl, hh⟩
  · obtain rfl := hh.symm
    replace kb1 : diaB nd di = true := by rw [← t1]; exact kb1
    have bdi := of_decide_eq_true kb1
    refine ⟨rfl, ?_⟩
    dsimp only [Option.toList, List.cons_append, List.nil_append]
    refine r_if_eq (tgt := 66) dX9_best_10 (by decide) ⟨by omega, by omega⟩ (fun g10 => absurd g10 (by omega)) (fun g10 => ?_)
    refine r_aload_n dX9_best_13 rfl rfl ?_
    refine r_iload_n dX9_best_14 rfl rfl ?_
    refine r_callV 68 [_] (s_X9_isMinute (by rfl) (by first | rfl | exact hz0) im) dX9_best_15 cs_X9_275 im_X9_isMinute (by decide) rfl rfl (by decide) (by decide) (by decide) rfl rfl (Nat.le_of_ble_eq_true rfl) (fun _ _ _ q => q.elim) (fun v n2 h2 q => ?_)
    obtain ⟨rfl, q⟩ := q
    rcases q with ⟨kb2, rfl, hh⟩ | ⟨kb2, rfl, hh⟩
    · obtain rfl := hh.symm
      have bm := of_decide_eq_true kb2
      refine ⟨rfl, ?_⟩
      dsimp only [Option.toList, List.cons_append, List.nil_append]
      refine r_if_eq (tgt := 66) dX9_best_18 (by decide) ⟨by omega, by omega⟩ (fun g18 => absurd g18 (by omega)) (fun g18 => ?_)
      refine r_aload_n dX9_best_21 rfl rfl ?_
      refine r_iload dX9_best_22 rfl ?_
      refine r_iconst dX9_best_24 ?_
      refine r_callV 68 [_, _] (s_X9_isWhat (by rfl) (by first | rfl | exact hz0) iw_ ⟨by decide, by decide⟩) dX9_best_25 cs_X9_246 im_X9_isWhat (by decide) rfl rfl (by decide) (by decide) (by decide) rfl rfl (Nat.le_of_ble_eq_true rfl) (fun _ _ _ q => q.elim) (fun v n2 h2 q => ?_)
      obtain ⟨rfl, q⟩ := q
      rcases q with ⟨kb3, rfl, hh⟩ | ⟨kb3, rfl, hh⟩
      · obtain rfl := hh.symm
        have bw_ := of_decide_eq_true kb3
        refine ⟨rfl, ?_⟩
        dsimp only [Option.toList, List.cons_append, List.nil_append]
        refine r_if_eq (tgt := 66) dX9_best_28 (by decide) ⟨by omega, by omega⟩ (fun g28 => absurd g28 (by omega)) (fun g28 => ?_)
        obtain ⟨k1, k2, k3, k4, k5⟩ := tdl di.toNat (by omega)
        have bK := pK di.toNat
        have bO := pO di.toNat
        have bG := pG di.toNat
        have bU := pU di.toNat
        have bI := pI di.toNat
        have q0 : (5 * di).toNat = 5 * di.toNat := by omega
        have q1 : (5 * di + 1).toNat = 5 * di.toNat + 1 := by omega
        have q2 : (5 * di + 2).toNat = 5 * di.toNat + 2 := by omega
        have q3 : (5 * di + 3).toNat = 5 * di.toNat + 3 := by omega
        have q4 : (5 * di + 4).toNat = 5 * di.toNat + 4 := by omega
        have kbw := b2i_01 (decide (0 ≤ ne ∧ ne ≤ 120))
        refine r_aload_n dX9_best_31 rfl rfl ?_
        refine r_iload_n dX9_best_32 rfl rfl ?_
        refine r_iconst dX9_best_33 ?_
        refine r_bipush dX9_best_34 rfl ?_
        refine r_callS [_, _, _] (s_X9_within ⟨by omega, by omega⟩ ⟨by omega, by omega⟩ ⟨by omega, by omega⟩) dX9_best_36 cs_X9_239 sm_X9_within (by decide) (by decide) (by decide) rfl rfl (Nat.le_of_ble_eq_true rfl) (fun _ _ _ q => q.elim) (fun v n2 h2 q => ?_)
        obtain ⟨rfl, rfl, hh⟩ := q
        obtain rfl := hh.symm
        refine ⟨rfl, ?_⟩
        dsimp only [Option.toList, List.cons_append, List.nil_append]
        refine r_if_eq (tgt := 58) dX9_best_39 (by decide) ⟨by omega, by omega⟩ (fun g39 => ?_) (fun g39 => ?_)
        · refine r_iconst dX9_best_58 ?_
          refine r_iconst dX9_best_59 ?_
          refine r_callV 68 [_, _] (s_X9_right (b := false) (by rfl) (by exact hz0) (by omega)) dX9_best_60 cs_X9_207 im_X9_right (by decide) rfl rfl (by decide) (by decide) (by decide) rfl rfl (Nat.le_of_ble_eq_true rfl) (fun _ _ _ q => q.elim) (fun v n2 h2 q => ?_)
          obtain ⟨rfl, q⟩ := q
          rcases q with ⟨kb0, rfl, hh⟩ | ⟨kb0, rfl, hh⟩
          · exact absurd kb0 (by decide)
          · obtain rfl := hh.symm
            first
              | have kb4 : decide (0 ≤ ne ∧ ne ≤ 120) = false := by rw [b2i_0] at g39; exact g39
              | (have kb4 : decide (0 ≤ ne ∧ ne ≤ 120) = true := by rw [b2i_0, Bool.not_eq_false] at g39; exact g39
                 have kb5 : decide (¬ K di.toNat = 5) = false := decide_eq_false (fun z => z (by omega)))
            refine ⟨rfl, ?_⟩
            dsimp only [Option.toList, List.cons_append, List.nil_append]
            refine r_if_ne (tgt := 68) dX9_best_63 (by decide) ⟨by omega, by omega⟩ (fun g63 => absurd g63 (by omega)) (fun g63 => ?_)
            refine r_iconst dX9_best_66 ?_
            refine r_iret dX9_best_67 ?_
            first
              | exact ⟨rfl, ⟨0, rfl, fun z => absurd ((ocF kb1).symm.trans z) (by decide)⟩, (RefC_mk (g := (va_up (va_up g 0 z0) 0 2)) rfl (by exact c69) (by exact c70) (by exact c71) (by exact c72) (by exact c73) (by exact c74) (by exact c75) (by exact c76) (by exact c77) (by exact c78) (by exact c79) (by exact c80) (by exact c81) (by exact c82) (by exact c83) (by exact c84) (by exact c85) (by exact c86) (by exact c87) (by exact c88) (by exact c89) (by exact c90) (by exact c91) (by exact c92) (by exact c93) (by exact c94) (by exact c95) (congrArg (fun n : Nat => (n : Int)) (ocF kb1).symm) (RR_mk (by first | exact e8 | exact (kp2 8 (by decide)).trans e8) (by first | exact e10 | exact (kp2 10 (by decide)).trans e10) (by first | exact e33 | exact (kp2 33 (by decide)).trans e33) (by first | exact e38 | exact (kp2 38 (by decide)).trans e38) (by first | exact e44 | exact (kp2 44 (by decide)).trans e44) (by first | exact e53 | exact (kp2 53 (by decide)).trans e53) (by first | exact tr | exact tell_kp (by exact tr) kp2) pi ni (by first | exact li | exact li2) rrf rtp htp rrd rse phl phi rim rco ht nM nsn)), (by repeat (first | exact fun _ _ => rfl | refine frr_up ?_ (by decide)))⟩
              | exact ⟨rfl, ⟨0, rfl, fun z => absurd (((ocT kb1).trans (ocF kb2)).symm.trans z) (by decide)⟩, (RefC_mk (g := (va_up (va_up g 0 z0) 0 2)) rfl (by exact c69) (by exact c70) (by exact c71) (by exact c72) (by exact c73) (by exact c74) (by exact c75) (by exact c76) (by exact c77) (by exact c78) (by exact c79) (by exact c80) (by exact c81) (by exact c82) (by exact c83) (by exact c84) (by exact c85) (by exact c86) (by exact c87) (by exact c88) (by exact c89) (by exact c90) (by exact c91) (by exact c92) (by exact c93) (by exact c94) (by exact c95) (congrArg (fun n : Nat => (n : Int)) ((ocT kb1).trans (ocF kb2)).symm) (RR_mk (by first | exact e8 | exact (kp2 8 (by decide)).trans e8) (by first | exact e10 | exact (kp2 10 (by decide)).trans e10) (by first | exact e33 | exact (kp2 33 (by decide)).trans e33) (by first | exact e38 | exact (kp2 38 (by decide)).trans e38) (by first | exact e44 | exact (kp2 44 (by decide)).trans e44) (by first | exact e53 | exact (kp2 53 (by decide)).trans e53) (by first | exact tr | exact tell_kp (by exact tr) kp2) pi ni (by first | exact li | exact li2) rrf rtp htp rrd rse phl phi rim rco ht nM nsn)), (by repeat (first | exact fun _ _ => rfl | refine frr_up ?_ (by decide)))⟩
              | exact ⟨rfl, ⟨0, rfl, fun z => absurd (((ocT kb1).trans ((ocT kb2).trans (ocF kb3))).symm.trans z) (by decide)⟩, (RefC_mk (g := (va_up (va_up g 0 z0) 0 2)) rfl (by exact c69) (by exact c70) (by exact c71) (by exact c72) (by exact c73) (by exact c74) (by exact c75) (by exact c76) (by exact c77) (by exact c78) (by exact c79) (by exact c80) (by exact c81) (by exact c82) (by exact c83) (by exact c84) (by exact c85) (by exact c86) (by exact c87) (by exact c88) (by exact c89) (by exact c90) (by exact c91) (by exact c92) (by exact c93) (by exact c94) (by exact c95) (congrArg (fun n : Nat => (n : Int)) ((ocT kb1).trans ((ocT kb2).trans (ocF kb3))).symm) (RR_mk (by first | exact e8 | exact (kp2 8 (by decide)).trans e8) (by first | exact e10 | exact (kp2 10 (by decide)).trans e10) (by first | exact e33 | exact (kp2 33 (by decide)).trans e33) (by first | exact e38 | exact (kp2 38 (by decide)).trans e38) (by first | exact e44 | exact (kp2 44 (by decide)).trans e44) (by first | exact e53 | exact (kp2 53 (by decide)).trans e53) (by first | exact tr | exact tell_kp (by exact tr) kp2) pi ni (by first | exact li | exact li2) rrf rtp htp rrd rse phl phi rim rco ht nM nsn)), (by repeat (first | exact fun _ _ => rfl | refine frr_up ?_ (by decide)))⟩
              | exact ⟨rfl, ⟨0, rfl, fun z => absurd (((ocT kb1).trans ((ocT kb2).trans ((ocT kb3).trans (ocF kb4)))).symm.trans z) (by decide)⟩, (RefC_mk (g := (va_up (va_up g 0 z0) 0 2)) rfl (by exact c69) (by exact c70) (by exact c71) (by exact c72) (by exact c73) (by exact c74) (by exact c75) (by exact c76) (by exact c77) (by exact c78) (by exact c79) (by exact c80) (by exact c81) (by exact c82) (by exact c83) (by exact c84) (by exact c85) (by exact c86) (by exact c87) (by exact c88) (by exact c89) (by exact c90) (by exact c91) (by exact c92) (by exact c93) (by exact c94) (by exact c95) (congrArg (fun n : Nat => (n : Int)) ((ocT kb1).trans ((ocT kb2).trans ((ocT kb3).trans (ocF kb4)))).symm) (RR_mk (by first | exact e8 | exact (kp2 8 (by decide)).trans e8) (by first | exact e10 | exact (kp2 10 (by decide)).trans e10) (by first | exact e33 | exact (kp2 33 (by decide)).trans e33) (by first | exact e38 | exact (kp2 38 (by decide)).trans e38) (by first | exact e44 | exact (kp2 44 (by decide)).trans e44) (by first | exact e53 | exact (kp2 53 (by decide)).trans e53) (by first | exact tr | exact tell_kp (by exact tr) kp2) pi ni (by first | exact li | exact li2) rrf rtp htp rrd rse phl phi rim rco ht nM nsn)), (by repeat (first | exact fun _ _ => rfl | refine frr_up ?_ (by decide)))⟩
              | exact ⟨rfl, ⟨0, rfl, fun z => absurd (((ocT kb1).trans ((ocT kb2).trans ((ocT kb3).trans ((ocT kb4).trans (ocF kb5))))).symm.trans z) (by decide)⟩, (RefC_mk (g := (va_up (va_up g 0 z0) 0 2)) rfl (by exact c69) (by exact c70) (by exact c71) (by exact c72) (by exact c73) (by exact c74) (by exact c75) (by exact c76) (by exact c77) (by exact c78) (by exact c79) (by exact c80) (by exact c81) (by exact c82) (by exact c83) (by exact c84) (by exact c85) (by exact c86) (by exact c87) (by exact c88) (by exact c89) (by exact c90) (by exact c91) (by exact c92) (by exact c93) (by exact c94) (by exact c95) (congrArg (fun n : Nat => (n : Int)) ((ocT kb1).trans ((ocT kb2).trans ((ocT kb3).trans ((ocT kb4).trans (ocF kb5))))).symm) (RR_mk (by first | exact e8 | exact (kp2 8 (by decide)).trans e8) (by first | exact e10 | exact (kp2 10 (by decide)).trans e10) (by first | exact e33 | exact (kp2 33 (by decide)).trans e33) (by first | exact e38 | exact (kp2 38 (by decide)).trans e38) (by first | exact e44 | exact (kp2 44 (by decide)).trans e44) (by first | exact e53 | exact (kp2 53 (by decide)).trans e53) (by first | exact tr | exact tell_kp (by exact tr) kp2) pi ni (by first | exact li | exact li2) rrf rtp htp rrd rse phl phi rim rco ht nM nsn)), (by repeat (first | exact fun _ _ => rfl | refine frr_up ?_ (by decide)))⟩
        · refine r_aload_n dX9_best_42 rfl rfl ?_
          refine r_get (fs := RGL _ _) dX9_best_43 fl_X9_13 (by decide) rfl rfl ?_
          refine r_iconst dX9_best_46 ?_
          refine r_iload_n dX9_best_47 rfl rfl ?_
          refine r_imul dX9_best_48 ?_
          refine r_ald dX9_best_49 (by decide) c69 (by omega) (by omega) (by decide) ?_
          rw [q0, k1]
          refine r_iconst dX9_best_50 ?_
          refine r_icmp_eq (tgt := 58) dX9_best_51 (by decide) ⟨by omega, by omega⟩ ⟨by omega, by omega⟩ (fun g51 => ?_) (fun g51 => ?_)
          · refine r_iconst dX9_best_58 ?_
            refine r_iconst dX9_best_59 ?_
            refine r_callV 68 [_, _] (s_X9_right (b := false) (by rfl) (by exact hz0) (by omega)) dX9_best_60 cs_X9_207 im_X9_right (by decide) rfl rfl (by decide) (by decide) (by decide) rfl rfl (Nat.le_of_ble_eq_true rfl) (fun _ _ _ q => q.elim) (fun v n2 h2 q => ?_)
            obtain ⟨rfl, q⟩ := q
            rcases q with ⟨kb0, rfl, hh⟩ | ⟨kb0, rfl, hh⟩
            · exact absurd kb0 (by decide)
            · obtain rfl := hh.symm
              first
                | have kb4 : decide (0 ≤ ne ∧ ne ≤ 120) = false := by rw [b2i_0] at g39; exact g39
                | (have kb4 : decide (0 ≤ ne ∧ ne ≤ 120) = true := by rw [b2i_0, Bool.not_eq_false] at g39; exact g39
                   have kb5 : decide (¬ K di.toNat = 5) = false := decide_eq_false (fun z => z (by omega)))
              refine ⟨rfl, ?_⟩
              dsimp only [Option.toList, List.cons_append, List.nil_append]
              refine r_if_ne (tgt := 68) dX9_best_63 (by decide) ⟨by omega, by omega⟩ (fun g63 => absurd g63 (by omega)) (fun g63 => ?_)
              refine r_iconst dX9_best_66 ?_
              refine r_iret dX9_best_67 ?_
              first
                | exact ⟨rfl, ⟨0, rfl, fun z => absurd ((ocF kb1).symm.trans z) (by decide)⟩, (RefC_mk (g := (va_up (va_up g 0 z0) 0 2)) rfl (by exact c69) (by exact c70) (by exact c71) (by exact c72) (by exact c73) (by exact c74) (by exact c75) (by exact c76) (by exact c77) (by exact c78) (by exact c79) (by exact c80) (by exact c81) (by exact c82) (by exact c83) (by exact c84) (by exact c85) (by exact c86) (by exact c87) (by exact c88) (by exact c89) (by exact c90) (by exact c91) (by exact c92) (by exact c93) (by exact c94) (by exact c95) (congrArg (fun n : Nat => (n : Int)) (ocF kb1).symm) (RR_mk (by first | exact e8 | exact (kp2 8 (by decide)).trans e8) (by first | exact e10 | exact (kp2 10 (by decide)).trans e10) (by first | exact e33 | exact (kp2 33 (by decide)).trans e33) (by first | exact e38 | exact (kp2 38 (by decide)).trans e38) (by first | exact e44 | exact (kp2 44 (by decide)).trans e44) (by first | exact e53 | exact (kp2 53 (by decide)).trans e53) (by first | exact tr | exact tell_kp (by exact tr) kp2) pi ni (by first | exact li | exact li2) rrf rtp htp rrd rse phl phi rim rco ht nM nsn)), (by repeat (first | exact fun _ _ => rfl | refine frr_up ?_ (by decide)))⟩
                | exact ⟨rfl, ⟨0, rfl, fun z => absurd (((ocT kb1).trans (ocF kb2)).symm.trans z) (by decide)⟩, (RefC_mk (g := (va_up (va_up g 0 z0) 0 2)) rfl (by exact c69) (by exact c70) (by exact c71) (by exact c72) (by exact c73) (by exact c74) (by exact c75) (by exact c76) (by exact c77) (by exact c78) (by exact c79) (by exact c80) (by exact c81) (by exact c82) (by exact c83) (by exact c84) (by exact c85) (by exact c86) (by exact c87) (by exact c88) (by exact c89) (by exact c90) (by exact c91) (by exact c92) (by exact c93) (by exact c94) (by exact c95) (congrArg (fun n : Nat => (n : Int)) ((ocT kb1).trans (ocF kb2)).symm) (RR_mk (by first | exact e8 | exact (kp2 8 (by decide)).trans e8) (by first | exact e10 | exact (kp2 10 (by decide)).trans e10) (by first | exact e33 | exact (kp2 33 (by decide)).trans e33) (by first | exact e38 | exact (kp2 38 (by decide)).trans e38) (by first | exact e44 | exact (kp2 44 (by decide)).trans e44) (by first | exact e53 | exact (kp2 53 (by decide)).trans e53) (by first | exact tr | exact tell_kp (by exact tr) kp2) pi ni (by first | exact li | exact li2) rrf rtp htp rrd rse phl phi rim rco ht nM nsn)), (by repeat (first | exact fun _ _ => rfl | refine frr_up ?_ (by decide)))⟩
                | exact ⟨rfl, ⟨0, rfl, fun z => absurd (((ocT kb1).trans ((ocT kb2).trans (ocF kb3))).symm.trans z) (by decide)⟩, (RefC_mk (g := (va_up (va_up g 0 z0) 0 2)) rfl (by exact c69) (by exact c70) (by exact c71) (by exact c72) (by exact c73) (by exact c74) (by exact c75) (by exact c76) (by exact c77) (by exact c78) (by exact c79) (by exact c80) (by exact c81) (by exact c82) (by exact c83) (by exact c84) (by exact c85) (by exact c86) (by exact c87) (by exact c88) (by exact c89) (by exact c90) (by exact c91) (by exact c92) (by exact c93) (by exact c94) (by exact c95) (congrArg (fun n : Nat => (n : Int)) ((ocT kb1).trans ((ocT kb2).trans (ocF kb3))).symm) (RR_mk (by first | exact e8 | exact (kp2 8 (by decide)).trans e8) (by first | exact e10 | exact (kp2 10 (by decide)).trans e10) (by first | exact e33 | exact (kp2 33 (by decide)).trans e33) (by first | exact e38 | exact (kp2 38 (by decide)).trans e38) (by first | exact e44 | exact (kp2 44 (by decide)).trans e44) (by first | exact e53 | exact (kp2 53 (by decide)).trans e53) (by first | exact tr | exact tell_kp (by exact tr) kp2) pi ni (by first | exact li | exact li2) rrf rtp htp rrd rse phl phi rim rco ht nM nsn)), (by repeat (first | exact fun _ _ => rfl | refine frr_up ?_ (by decide)))⟩
                | exact ⟨rfl, ⟨0, rfl, fun z => absurd (((ocT kb1).trans ((ocT kb2).trans ((ocT kb3).trans (ocF kb4)))).symm.trans z) (by decide)⟩, (RefC_mk (g := (va_up (va_up g 0 z0) 0 2)) rfl (by exact c69) (by exact c70) (by exact c71) (by exact c72) (by exact c73) (by exact c74) (by exact c75) (by exact c76) (by exact c77) (by exact c78) (by exact c79) (by exact c80) (by exact c81) (by exact c82) (by exact c83) (by exact c84) (by exact c85) (by exact c86) (by exact c87) (by exact c88) (by exact c89) (by exact c90) (by exact c91) (by exact c92) (by exact c93) (by exact c94) (by exact c95) (congrArg (fun n : Nat => (n : Int)) ((ocT kb1).trans ((ocT kb2).trans ((ocT kb3).trans (ocF kb4)))).symm) (RR_mk (by first | exact e8 | exact (kp2 8 (by decide)).trans e8) (by first | exact e10 | exact (kp2 10 (by decide)).trans e10) (by first | exact e33 | exact (kp2 33 (by decide)).trans e33) (by first | exact e38 | exact (kp2 38 (by decide)).trans e38) (by first | exact e44 | exact (kp2 44 (by decide)).trans e44) (by first | exact e53 | exact (kp2 53 (by decide)).trans e53) (by first | exact tr | exact tell_kp (by exact tr) kp2) pi ni (by first | exact li | exact li2) rrf rtp htp rrd rse phl phi rim rco ht nM nsn)), (by repeat (first | exact fun _ _ => rfl | refine frr_up ?_ (by decide)))⟩
                | exact ⟨rfl, ⟨0, rfl, fun z => absurd (((ocT kb1).trans ((ocT kb2).trans ((ocT kb3).trans ((ocT kb4).trans (ocF kb5))))).symm.trans z) (by decide)⟩, (RefC_mk (g := (va_up (va_up g 0 z0) 0 2)) rfl (by exact c69) (by exact c70) (by exact c71) (by exact c72) (by exact c73) (by exact c74) (by exact c75) (by exact c76) (by exact c77) (by exact c78) (by exact c79) (by exact c80) (by exact c81) (by exact c82) (by exact c83) (by exact c84) (by exact c85) (by exact c86) (by exact c87) (by exact c88) (by exact c89) (by exact c90) (by exact c91) (by exact c92) (by exact c93) (by exact c94) (by exact c95) (congrArg (fun n : Nat => (n : Int)) ((ocT kb1).trans ((ocT kb2).trans ((ocT kb3).trans ((ocT kb4).trans (ocF kb5))))).symm) (RR_mk (by first | exact e8 | exact (kp2 8 (by decide)).trans e8) (by first | exact e10 | exact (kp2 10 (by decide)).trans e10) (by first | exact e33 | exact (kp2 33 (by decide)).trans e33) (by first | exact e38 | exact (kp2 38 (by decide)).trans e38) (by first | exact e44 | exact (kp2 44 (by decide)).trans e44) (by first | exact e53 | exact (kp2 53 (by decide)).trans e53) (by first | exact tr | exact tell_kp (by exact tr) kp2) pi ni (by first | exact li | exact li2) rrf rtp htp rrd rse phl phi rim rco ht nM nsn)), (by repeat (first | exact fun _ _ => rfl | refine frr_up ?_ (by decide)))⟩
          · refine r_iconst dX9_best_54 ?_
            refine r_goto (tgt := 59) dX9_best_55 (by decide) ?_
            refine r_iconst dX9_best_59 ?_
            refine r_callV 68 [_, _] (s_X9_right (b := true) (by rfl) (by exact hz0) (by omega)) dX9_best_60 cs_X9_207 im_X9_right (by decide) rfl rfl (by decide) (by decide) (by decide) rfl rfl (Nat.le_of_ble_eq_true rfl) (fun _ _ _ q => q.elim) (fun v n2 h2 q => ?_)
            obtain ⟨rfl, q⟩ := q
            rcases q with ⟨kb0, rfl, hh⟩ | ⟨kb0, rfl, hh⟩
            · obtain rfl := hh.symm
              have kb4 : decide (0 ≤ ne ∧ ne ≤ 120) = true := by rw [b2i_0, Bool.not_eq_false] at g39; exact g39
              have kb5 : decide (¬ K di.toNat = 5) = true := decide_eq_true (by omega)
              have bne := of_decide_eq_true kb4
              refine ⟨rfl, ?_⟩
              dsimp only [Option.toList, List.cons_append, List.nil_append]
              refine r_if_ne (tgt := 68) dX9_best_63 (by decide) ⟨by omega, by omega⟩ (fun g63 => ?_) (fun g63 => absurd g63 (by omega))
              refine r_iconst dX9_best_68 ?_
              refine r_istore (lv2 := [(0, _), (1, _), (2, _), (3, _), (4, _), (5, _)]) dX9_best_69 (by decide) rfl rfl ?_
              refine ev_h (ut_sc (h := va_up h 68 (RG (va_up g 0 z0) w)) (c := 84) rfl c77 c78 (by exact c84)) ?_
              refine l_X9_be0 241 0 rts (by omega) (fun i hi => absurd hi (Nat.not_lt_zero i)) (fun r0 hr0 => ?_)
              refine r_iconst dX9_best_93 ?_
              refine r_istore (lv2 := [(0, _), (1, _), (2, _), (3, _), (4, _), (5, _)]) dX9_best_94 (by decide) rfl rfl ?_
              refine l_X9_be1 (g := va_up g 0 z0) (by exact c69) (by exact c70) (by exact c71) (by exact c79) pi bdi bm bne bw_ (ok := (fun a b => (decide (¬ (toldI (K di.toNat) (b - 120) (I di.toNat) (O di.toNat) (G di.toNat) a m (noonI L a) (halfI sw a) (cUp cd cf ct a m nc.toNat)) = -1 ∧ wrongI (toldI (K di.toNat) (b - 120) (I di.toNat) (O di.toNat) (G di.toNat) a m (noonI L a) (halfI sw a) (cUp cd cf ct a m nc.toNat)) m ≤ ne)))) (fun _ _ => rfl) 365 0 r0 (va_up g 0 z0) lt lgt (by omega) hr0 (by exact tr) (by exact li) (fun _ _ => rfl) (fun r1 g3 l3 l4 hr1 t3 i3 kp2 => ?_)
              refine r_aload_n dX9_best_210 rfl rfl ?_
              refine r_get (fs := RGL _ _) dX9_best_211 fl_X9_13 (by decide) rfl rfl ?_
              refine r_iconst dX9_best_214 ?_
              refine r_iload_n dX9_best_215 rfl rfl ?_
              refine r_imul dX9_best_216 ?_
              refine r_iconst dX9_best_217 ?_
              refine r_iadd dX9_best_218 ?_
              refine r_ald dX9_best_219 (by decide) c69 (by omega) (by omega) (by decide) ?_
              rw [q1, k2]
              refine r_bipush dX9_best_220 rfl ?_
              refine r_iadd dX9_best_222 ?_
              refine r_istore (lv2 := [(0, _), (1, _), (2, _), (3, _), (4, _), (5, _)]) dX9_best_223 (by decide) rfl rfl ?_
              refine r_iconst dX9_best_225 ?_
              refine r_istore (lv2 := [(0, _), (1, _), (2, _), (3, _), (4, _), (5, _), (6, _)]) dX9_best_226 (by decide) rfl rfl ?_
              refine r_iconst dX9_best_228 ?_
              refine r_istore (lv2 := [(0, _), (1, _), (2, _), (3, _), (4, _), (5, _), (6, _), (7, _)]) dX9_best_229 (by decide) rfl rfl ?_
              refine ev_post (l_X9_be3 rfl rfl hr1 (fun i => by have := rgS_B (fun a b => (decide (¬ (toldI (K di.toNat) (b - 120) (I di.toNat) (O di.toNat) (G di.toNat) a m (noonI L a) (halfI sw a) (cUp cd cf ct a m nc.toNat)) = -1 ∧ wrongI (toldI (K di.toNat) (b - 120) (I di.toNat) (O di.toNat) (G di.toNat) a m (noonI L a) (halfI sw a) (cUp cd cf ct a m nc.toNat)) m ≤ ne))) 365 i; omega) bw_ (by omega) 240 0 (by omega)) (fun v n2 h2 q => ?_) (fun _ _ _ q => q)
              obtain ⟨rfl, rfl, rfl⟩ := q
              exact ⟨rfl, ⟨_, rfl, fun _ => rfl⟩, (RefC_mk (g := g3) rfl (by exact c69) (by exact c70) (by exact c71) (by exact c72) (by exact c73) (by exact c74) (by exact c75) (by exact c76) rfl rfl (by exact c79) (by exact c80) (by exact c81) (by exact c82) (by exact c83) rfl (by exact c85) (by exact c86) (by exact c87) (by exact c88) (by exact c89) (by exact c90) (by exact c91) (by exact c92) (by exact c93) (by exact c94) (by exact c95) (by first | exact (hz0.trans (congrArg (fun n : Nat => (n : Int)) ((ocT kb1).trans ((ocT kb2).trans ((ocT kb3).trans ((ocT kb4).trans ((ocT kb5).trans ocE))))).symm)) | exact (kp2 0 (by decide)).trans (hz0.trans (congrArg (fun n : Nat => (n : Int)) ((ocT kb1).trans ((ocT kb2).trans ((ocT kb3).trans ((ocT kb4).trans ((ocT kb5).trans ocE))))).symm))) (RR_mk (by first | exact e8 | exact (kp2 8 (by decide)).trans e8) (by first | exact e10 | exact (kp2 10 (by decide)).trans e10) (by first | exact e33 | exact (kp2 33 (by decide)).trans e33) (by first | exact e38 | exact (kp2 38 (by decide)).trans e38) (by first | exact e44 | exact (kp2 44 (by decide)).trans e44) (by first | exact e53 | exact (kp2 53 (by decide)).trans e53) (by first | exact tr | exact tell_kp (by exact tr) kp2) pi ni (by first | exact li | exact i3) rrf rtp htp rrd rse phl phi rim rco ht nM nsn)), (by repeat (first | exact fun _ _ => rfl | refine frr_up ?_ (by decide)))⟩
            · exact absurd kb0 (by decide)
      · obtain rfl := hh.symm
        refine ⟨rfl, ?_⟩
        dsimp only [Option.toList, List.cons_append, List.nil_append]
        refine r_if_eq (tgt := 66) dX9_best_28 (by decide) ⟨by omega, by omega⟩ (fun g28 => ?_) (fun g28 => absurd g28 (by omega))
        refine r_iconst dX9_best_66 ?_
        refine r_iret dX9_best_67 ?_
        first
          | exact ⟨rfl, ⟨0, rfl, fun z => absurd ((ocF kb1).symm.trans z) (by decide)⟩, (RefC_mk (g := (va_up (va_up g 0 z0) 0 1)) rfl (by exact c69) (by exact c70) (by exact c71) (by exact c72) (by exact c73) (by exact c74) (by exact c75) (by exact c76) (by exact c77) (by exact c78) (by exact c79) (by exact c80) (by exact c81) (by exact c82) (by exact c83) (by exact c84) (by exact c85) (by exact c86) (by exact c87) (by exact c88) (by exact c89) (by exact c90) (by exact c91) (by exact c92) (by exact c93) (by exact c94) (by exact c95) (congrArg (fun n : Nat => (n : Int)) (ocF kb1).symm) (RR_mk (by first | exact e8 | exact (kp2 8 (by decide)).trans e8) (by first | exact e10 | exact (kp2 10 (by decide)).trans e10) (by first | exact e33 | exact (kp2 33 (by decide)).trans e33) (by first | exact e38 | exact (kp2 38 (by decide)).trans e38) (by first | exact e44 | exact (kp2 44 (by decide)).trans e44) (by first | exact e53 | exact (kp2 53 (by decide)).trans e53) (by first | exact tr | exact tell_kp (by exact tr) kp2) pi ni (by first | exact li | exact li2) rrf rtp htp rrd rse phl phi rim rco ht nM nsn)), (by repeat (first | exact fun _ _ => rfl | refine frr_up ?_ (by decide)))⟩
          | exact ⟨rfl, ⟨0, rfl, fun z => absurd (((ocT kb1).trans (ocF kb2)).symm.trans z) (by decide)⟩, (RefC_mk (g := (va_up (va_up g 0 z0) 0 1)) rfl (by exact c69) (by exact c70) (by exact c71) (by exact c72) (by exact c73) (by exact c74) (by exact c75) (by exact c76) (by exact c77) (by exact c78) (by exact c79) (by exact c80) (by exact c81) (by exact c82) (by exact c83) (by exact c84) (by exact c85) (by exact c86) (by exact c87) (by exact c88) (by exact c89) (by exact c90) (by exact c91) (by exact c92) (by exact c93) (by exact c94) (by exact c95) (congrArg (fun n : Nat => (n : Int)) ((ocT kb1).trans (ocF kb2)).symm) (RR_mk (by first | exact e8 | exact (kp2 8 (by decide)).trans e8) (by first | exact e10 | exact (kp2 10 (by decide)).trans e10) (by first | exact e33 | exact (kp2 33 (by decide)).trans e33) (by first | exact e38 | exact (kp2 38 (by decide)).trans e38) (by first | exact e44 | exact (kp2 44 (by decide)).trans e44) (by first | exact e53 | exact (kp2 53 (by decide)).trans e53) (by first | exact tr | exact tell_kp (by exact tr) kp2) pi ni (by first | exact li | exact li2) rrf rtp htp rrd rse phl phi rim rco ht nM nsn)), (by repeat (first | exact fun _ _ => rfl | refine frr_up ?_ (by decide)))⟩
          | exact ⟨rfl, ⟨0, rfl, fun z => absurd (((ocT kb1).trans ((ocT kb2).trans (ocF kb3))).symm.trans z) (by decide)⟩, (RefC_mk (g := (va_up (va_up g 0 z0) 0 1)) rfl (by exact c69) (by exact c70) (by exact c71) (by exact c72) (by exact c73) (by exact c74) (by exact c75) (by exact c76) (by exact c77) (by exact c78) (by exact c79) (by exact c80) (by exact c81) (by exact c82) (by exact c83) (by exact c84) (by exact c85) (by exact c86) (by exact c87) (by exact c88) (by exact c89) (by exact c90) (by exact c91) (by exact c92) (by exact c93) (by exact c94) (by exact c95) (congrArg (fun n : Nat => (n : Int)) ((ocT kb1).trans ((ocT kb2).trans (ocF kb3))).symm) (RR_mk (by first | exact e8 | exact (kp2 8 (by decide)).trans e8) (by first | exact e10 | exact (kp2 10 (by decide)).trans e10) (by first | exact e33 | exact (kp2 33 (by decide)).trans e33) (by first | exact e38 | exact (kp2 38 (by decide)).trans e38) (by first | exact e44 | exact (kp2 44 (by decide)).trans e44) (by first | exact e53 | exact (kp2 53 (by decide)).trans e53) (by first | exact tr | exact tell_kp (by exact tr) kp2) pi ni (by first | exact li | exact li2) rrf rtp htp rrd rse phl phi rim rco ht nM nsn)), (by repeat (first | exact fun _ _ => rfl | refine frr_up ?_ (by decide)))⟩
          | exact ⟨rfl, ⟨0, rfl, fun z => absurd (((ocT kb1).trans ((ocT kb2).trans ((ocT kb3).trans (ocF kb4)))).symm.trans z) (by decide)⟩, (RefC_mk (g := (va_up (va_up g 0 z0) 0 1)) rfl (by exact c69) (by exact c70) (by exact c71) (by exact c72) (by exact c73) (by exact c74) (by exact c75) (by exact c76) (by exact c77) (by exact c78) (by exact c79) (by exact c80) (by exact c81) (by exact c82) (by exact c83) (by exact c84) (by exact c85) (by exact c86) (by exact c87) (by exact c88) (by exact c89) (by exact c90) (by exact c91) (by exact c92) (by exact c93) (by exact c94) (by exact c95) (congrArg (fun n : Nat => (n : Int)) ((ocT kb1).trans ((ocT kb2).trans ((ocT kb3).trans (ocF kb4)))).symm) (RR_mk (by first | exact e8 | exact (kp2 8 (by decide)).trans e8) (by first | exact e10 | exact (kp2 10 (by decide)).trans e10) (by first | exact e33 | exact (kp2 33 (by decide)).trans e33) (by first | exact e38 | exact (kp2 38 (by decide)).trans e38) (by first | exact e44 | exact (kp2 44 (by decide)).trans e44) (by first | exact e53 | exact (kp2 53 (by decide)).trans e53) (by first | exact tr | exact tell_kp (by exact tr) kp2) pi ni (by first | exact li | exact li2) rrf rtp htp rrd rse phl phi rim rco ht nM nsn)), (by repeat (first | exact fun _ _ => rfl | refine frr_up ?_ (by decide)))⟩
          | exact ⟨rfl, ⟨0, rfl, fun z => absurd (((ocT kb1).trans ((ocT kb2).trans ((ocT kb3).trans ((ocT kb4).trans (ocF kb5))))).symm.trans z) (by decide)⟩, (RefC_mk (g := (va_up (va_up g 0 z0) 0 1)) rfl (by exact c69) (by exact c70) (by exact c71) (by exact c72) (by exact c73) (by exact c74) (by exact c75) (by exact c76) (by exact c77) (by exact c78) (by exact c79) (by exact c80) (by exact c81) (by exact c82) (by exact c83) (by exact c84) (by exact c85) (by exact c86) (by exact c87) (by exact c88) (by exact c89) (by exact c90) (by exact c91) (by exact c92) (by exact c93) (by exact c94) (by exact c95) (congrArg (fun n : Nat => (n : Int)) ((ocT kb1).trans ((ocT kb2).trans ((ocT kb3).trans ((ocT kb4).trans (ocF kb5))))).symm) (RR_mk (by first | exact e8 | exact (kp2 8 (by decide)).trans e8) (by first | exact e10 | exact (kp2 10 (by decide)).trans e10) (by first | exact e33 | exact (kp2 33 (by decide)).trans e33) (by first | exact e38 | exact (kp2 38 (by decide)).trans e38) (by first | exact e44 | exact (kp2 44 (by decide)).trans e44) (by first | exact e53 | exact (kp2 53 (by decide)).trans e53) (by first | exact tr | exact tell_kp (by exact tr) kp2) pi ni (by first | exact li | exact li2) rrf rtp htp rrd rse phl phi rim rco ht nM nsn)), (by repeat (first | exact fun _ _ => rfl | refine frr_up ?_ (by decide)))⟩
    · obtain rfl := hh.symm
      refine ⟨rfl, ?_⟩
      dsimp only [Option.toList, List.cons_append, List.nil_append]
      refine r_if_eq (tgt := 66) dX9_best_18 (by decide) ⟨by omega, by omega⟩ (fun g18 => ?_) (fun g18 => absurd g18 (by omega))
      refine r_iconst dX9_best_66 ?_
      refine r_iret dX9_best_67 ?_
      first
        | exact ⟨rfl, ⟨0, rfl, fun z => absurd ((ocF kb1).symm.trans z) (by decide)⟩, (RefC_mk (g := (va_up (va_up g 0 z0) 0 1)) rfl (by exact c69) (by exact c70) (by exact c71) (by exact c72) (by exact c73) (by exact c74) (by exact c75) (by exact c76) (by exact c77) (by exact c78) (by exact c79) (by exact c80) (by exact c81) (by exact c82) (by exact c83) (by exact c84) (by exact c85) (by exact c86) (by exact c87) (by exact c88) (by exact c89) (by exact c90) (by exact c91) (by exact c92) (by exact c93) (by exact c94) (by exact c95) (congrArg (fun n : Nat => (n : Int)) (ocF kb1).symm) (RR_mk (by first | exact e8 | exact (kp2 8 (by decide)).trans e8) (by first | exact e10 | exact (kp2 10 (by decide)).trans e10) (by first | exact e33 | exact (kp2 33 (by decide)).trans e33) (by first | exact e38 | exact (kp2 38 (by decide)).trans e38) (by first | exact e44 | exact (kp2 44 (by decide)).trans e44) (by first | exact e53 | exact (kp2 53 (by decide)).trans e53) (by first | exact tr | exact tell_kp (by exact tr) kp2) pi ni (by first | exact li | exact li2) rrf rtp htp rrd rse phl phi rim rco ht nM nsn)), (by repeat (first | exact fun _ _ => rfl | refine frr_up ?_ (by decide)))⟩
        | exact ⟨rfl, ⟨0, rfl, fun z => absurd (((ocT kb1).trans (ocF kb2)).symm.trans z) (by decide)⟩, (RefC_mk (g := (va_up (va_up g 0 z0) 0 1)) rfl (by exact c69) (by exact c70) (by exact c71) (by exact c72) (by exact c73) (by exact c74) (by exact c75) (by exact c76) (by exact c77) (by exact c78) (by exact c79) (by exact c80) (by exact c81) (by exact c82) (by exact c83) (by exact c84) (by exact c85) (by exact c86) (by exact c87) (by exact c88) (by exact c89) (by exact c90) (by exact c91) (by exact c92) (by exact c93) (by exact c94) (by exact c95) (congrArg (fun n : Nat => (n : Int)) ((ocT kb1).trans (ocF kb2)).symm) (RR_mk (by first | exact e8 | exact (kp2 8 (by decide)).trans e8) (by first | exact e10 | exact (kp2 10 (by decide)).trans e10) (by first | exact e33 | exact (kp2 33 (by decide)).trans e33) (by first | exact e38 | exact (kp2 38 (by decide)).trans e38) (by first | exact e44 | exact (kp2 44 (by decide)).trans e44) (by first | exact e53 | exact (kp2 53 (by decide)).trans e53) (by first | exact tr | exact tell_kp (by exact tr) kp2) pi ni (by first | exact li | exact li2) rrf rtp htp rrd rse phl phi rim rco ht nM nsn)), (by repeat (first | exact fun _ _ => rfl | refine frr_up ?_ (by decide)))⟩
        | exact ⟨rfl, ⟨0, rfl, fun z => absurd (((ocT kb1).trans ((ocT kb2).trans (ocF kb3))).symm.trans z) (by decide)⟩, (RefC_mk (g := (va_up (va_up g 0 z0) 0 1)) rfl (by exact c69) (by exact c70) (by exact c71) (by exact c72) (by exact c73) (by exact c74) (by exact c75) (by exact c76) (by exact c77) (by exact c78) (by exact c79) (by exact c80) (by exact c81) (by exact c82) (by exact c83) (by exact c84) (by exact c85) (by exact c86) (by exact c87) (by exact c88) (by exact c89) (by exact c90) (by exact c91) (by exact c92) (by exact c93) (by exact c94) (by exact c95) (congrArg (fun n : Nat => (n : Int)) ((ocT kb1).trans ((ocT kb2).trans (ocF kb3))).symm) (RR_mk (by first | exact e8 | exact (kp2 8 (by decide)).trans e8) (by first | exact e10 | exact (kp2 10 (by decide)).trans e10) (by first | exact e33 | exact (kp2 33 (by decide)).trans e33) (by first | exact e38 | exact (kp2 38 (by decide)).trans e38) (by first | exact e44 | exact (kp2 44 (by decide)).trans e44) (by first | exact e53 | exact (kp2 53 (by decide)).trans e53) (by first | exact tr | exact tell_kp (by exact tr) kp2) pi ni (by first | exact li | exact li2) rrf rtp htp rrd rse phl phi rim rco ht nM nsn)), (by repeat (first | exact fun _ _ => rfl | refine frr_up ?_ (by decide)))⟩
        | exact ⟨rfl, ⟨0, rfl, fun z => absurd (((ocT kb1).trans ((ocT kb2).trans ((ocT kb3).trans (ocF kb4)))).symm.trans z) (by decide)⟩, (RefC_mk (g := (va_up (va_up g 0 z0) 0 1)) rfl (by exact c69) (by exact c70) (by exact c71) (by exact c72) (by exact c73) (by exact c74) (by exact c75) (by exact c76) (by exact c77) (by exact c78) (by exact c79) (by exact c80) (by exact c81) (by exact c82) (by exact c83) (by exact c84) (by exact c85) (by exact c86) (by exact c87) (by exact c88) (by exact c89) (by exact c90) (by exact c91) (by exact c92) (by exact c93) (by exact c94) (by exact c95) (congrArg (fun n : Nat => (n : Int)) ((ocT kb1).trans ((ocT kb2).trans ((ocT kb3).trans (ocF kb4)))).symm) (RR_mk (by first | exact e8 | exact (kp2 8 (by decide)).trans e8) (by first | exact e10 | exact (kp2 10 (by decide)).trans e10) (by first | exact e33 | exact (kp2 33 (by decide)).trans e33) (by first | exact e38 | exact (kp2 38 (by decide)).trans e38) (by first | exact e44 | exact (kp2 44 (by decide)).trans e44) (by first | exact e53 | exact (kp2 53 (by decide)).trans e53) (by first | exact tr | exact tell_kp (by exact tr) kp2) pi ni (by first | exact li | exact li2) rrf rtp htp rrd rse phl phi rim rco ht nM nsn)), (by repeat (first | exact fun _ _ => rfl | refine frr_up ?_ (by decide)))⟩
        | exact ⟨rfl, ⟨0, rfl, fun z => absurd (((ocT kb1).trans ((ocT kb2).trans ((ocT kb3).trans ((ocT kb4).trans (ocF kb5))))).symm.trans z) (by decide)⟩, (RefC_mk (g := (va_up (va_up g 0 z0) 0 1)) rfl (by exact c69) (by exact c70) (by exact c71) (by exact c72) (by exact c73) (by exact c74) (by exact c75) (by exact c76) (by exact c77) (by exact c78) (by exact c79) (by exact c80) (by exact c81) (by exact c82) (by exact c83) (by exact c84) (by exact c85) (by exact c86) (by exact c87) (by exact c88) (by exact c89) (by exact c90) (by exact c91) (by exact c92) (by exact c93) (by exact c94) (by exact c95) (congrArg (fun n : Nat => (n : Int)) ((ocT kb1).trans ((ocT kb2).trans ((ocT kb3).trans ((ocT kb4).trans (ocF kb5))))).symm) (RR_mk (by first | exact e8 | exact (kp2 8 (by decide)).trans e8) (by first | exact e10 | exact (kp2 10 (by decide)).trans e10) (by first | exact e33 | exact (kp2 33 (by decide)).trans e33) (by first | exact e38 | exact (kp2 38 (by decide)).trans e38) (by first | exact e44 | exact (kp2 44 (by decide)).trans e44) (by first | exact e53 | exact (kp2 53 (by decide)).trans e53) (by first | exact tr | exact tell_kp (by exact tr) kp2) pi ni (by first | exact li | exact li2) rrf rtp htp rrd rse phl phi rim rco ht nM nsn)), (by repeat (first | exact fun _ _ => rfl | refine frr_up ?_ (by decide)))⟩
  · obtain rfl := hh.symm
    replace kb1 : diaB nd di = false := by rw [← t1]; exact kb1
    refine ⟨rfl, ?_⟩
    dsimp only [Option.toList, List.cons_append, List.nil_append]
    refine r_if_eq (tgt := 66) dX9_best_10 (by decide) ⟨by omega, by omega⟩ (fun g10 => ?_) (fun g10 => absurd g10 (by omega))
    refine r_iconst dX9_best_66 ?_
    refine r_iret dX9_best_67 ?_
    first
      | exact ⟨rfl, ⟨0, rfl, fun z => absurd ((ocF kb1).symm.trans z) (by decide)⟩, (RefC_mk (g := (va_up (va_up g 0 z0) 0 1)) rfl (by exact c69) (by exact c70) (by exact c71) (by exact c72) (by exact c73) (by exact c74) (by exact c75) (by exact c76) (by exact c77) (by exact c78) (by exact c79) (by exact c80) (by exact c81) (by exact c82) (by exact c83) (by exact c84) (by exact c85) (by exact c86) (by exact c87) (by exact c88) (by exact c89) (by exact c90) (by exact c91) (by exact c92) (by exact c93) (by exact c94) (by exact c95) (congrArg (fun n : Nat => (n : Int)) (ocF kb1).symm) (RR_mk (by first | exact e8 | exact (kp2 8 (by decide)).trans e8) (by first | exact e10 | exact (kp2 10 (by decide)).trans e10) (by first | exact e33 | exact (kp2 33 (by decide)).trans e33) (by first | exact e38 | exact (kp2 38 (by decide)).trans e38) (by first | exact e44 | exact (kp2 44 (by decide)).trans e44) (by first | exact e53 | exact (kp2 53 (by decide)).trans e53) (by first | exact tr | exact tell_kp (by exact tr) kp2) pi ni (by first | exact li | exact li2) rrf rtp htp rrd rse phl phi rim rco ht nM nsn)), (by repeat (first | exact fun _ _ => rfl | refine frr_up ?_ (by decide)))⟩
      | exact ⟨rfl, ⟨0, rfl, fun z => absurd (((ocT kb1).trans (ocF kb2)).symm.trans z) (by decide)⟩, (RefC_mk (g := (va_up (va_up g 0 z0) 0 1)) rfl (by exact c69) (by exact c70) (by exact c71) (by exact c72) (by exact c73) (by exact c74) (by exact c75) (by exact c76) (by exact c77) (by exact c78) (by exact c79) (by exact c80) (by exact c81) (by exact c82) (by exact c83) (by exact c84) (by exact c85) (by exact c86) (by exact c87) (by exact c88) (by exact c89) (by exact c90) (by exact c91) (by exact c92) (by exact c93) (by exact c94) (by exact c95) (congrArg (fun n : Nat => (n : Int)) ((ocT kb1).trans (ocF kb2)).symm) (RR_mk (by first | exact e8 | exact (kp2 8 (by decide)).trans e8) (by first | exact e10 | exact (kp2 10 (by decide)).trans e10) (by first | exact e33 | exact (kp2 33 (by decide)).trans e33) (by first | exact e38 | exact (kp2 38 (by decide)).trans e38) (by first | exact e44 | exact (kp2 44 (by decide)).trans e44) (by first | exact e53 | exact (kp2 53 (by decide)).trans e53) (by first | exact tr | exact tell_kp (by exact tr) kp2) pi ni (by first | exact li | exact li2) rrf rtp htp rrd rse phl phi rim rco ht nM nsn)), (by repeat (first | exact fun _ _ => rfl | refine frr_up ?_ (by decide)))⟩
      | exact ⟨rfl, ⟨0, rfl, fun z => absurd (((ocT kb1).trans ((ocT kb2).trans (ocF kb3))).symm.trans z) (by decide)⟩, (RefC_mk (g := (va_up (va_up g 0 z0) 0 1)) rfl (by exact c69) (by exact c70) (by exact c71) (by exact c72) (by exact c73) (by exact c74) (by exact c75) (by exact c76) (by exact c77) (by exact c78) (by exact c79) (by exact c80) (by exact c81) (by exact c82) (by exact c83) (by exact c84) (by exact c85) (by exact c86) (by exact c87) (by exact c88) (by exact c89) (by exact c90) (by exact c91) (by exact c92) (by exact c93) (by exact c94) (by exact c95) (congrArg (fun n : Nat => (n : Int)) ((ocT kb1).trans ((ocT kb2).trans (ocF kb3))).symm) (RR_mk (by first | exact e8 | exact (kp2 8 (by decide)).trans e8) (by first | exact e10 | exact (kp2 10 (by decide)).trans e10) (by first | exact e33 | exact (kp2 33 (by decide)).trans e33) (by first | exact e38 | exact (kp2 38 (by decide)).trans e38) (by first | exact e44 | exact (kp2 44 (by decide)).trans e44) (by first | exact e53 | exact (kp2 53 (by decide)).trans e53) (by first | exact tr | exact tell_kp (by exact tr) kp2) pi ni (by first | exact li | exact li2) rrf rtp htp rrd rse phl phi rim rco ht nM nsn)), (by repeat (first | exact fun _ _ => rfl | refine frr_up ?_ (by decide)))⟩
      | exact ⟨rfl, ⟨0, rfl, fun z => absurd (((ocT kb1).trans ((ocT kb2).trans ((ocT kb3).trans (ocF kb4)))).symm.trans z) (by decide)⟩, (RefC_mk (g := (va_up (va_up g 0 z0) 0 1)) rfl (by exact c69) (by exact c70) (by exact c71) (by exact c72) (by exact c73) (by exact c74) (by exact c75) (by exact c76) (by exact c77) (by exact c78) (by exact c79) (by exact c80) (by exact c81) (by exact c82) (by exact c83) (by exact c84) (by exact c85) (by exact c86) (by exact c87) (by exact c88) (by exact c89) (by exact c90) (by exact c91) (by exact c92) (by exact c93) (by exact c94) (by exact c95) (congrArg (fun n : Nat => (n : Int)) ((ocT kb1).trans ((ocT kb2).trans ((ocT kb3).trans (ocF kb4)))).symm) (RR_mk (by first | exact e8 | exact (kp2 8 (by decide)).trans e8) (by first | exact e10 | exact (kp2 10 (by decide)).trans e10) (by first | exact e33 | exact (kp2 33 (by decide)).trans e33) (by first | exact e38 | exact (kp2 38 (by decide)).trans e38) (by first | exact e44 | exact (kp2 44 (by decide)).trans e44) (by first | exact e53 | exact (kp2 53 (by decide)).trans e53) (by first | exact tr | exact tell_kp (by exact tr) kp2) pi ni (by first | exact li | exact li2) rrf rtp htp rrd rse phl phi rim rco ht nM nsn)), (by repeat (first | exact fun _ _ => rfl | refine frr_up ?_ (by decide)))⟩
      | exact ⟨rfl, ⟨0, rfl, fun z => absurd (((ocT kb1).trans ((ocT kb2).trans ((ocT kb3).trans ((ocT kb4).trans (ocF kb5))))).symm.trans z) (by decide)⟩, (RefC_mk (g := (va_up (va_up g 0 z0) 0 1)) rfl (by exact c69) (by exact c70) (by exact c71) (by exact c72) (by exact c73) (by exact c74) (by exact c75) (by exact c76) (by exact c77) (by exact c78) (by exact c79) (by exact c80) (by exact c81) (by exact c82) (by exact c83) (by exact c84) (by exact c85) (by exact c86) (by exact c87) (by exact c88) (by exact c89) (by exact c90) (by exact c91) (by exact c92) (by exact c93) (by exact c94) (by exact c95) (congrArg (fun n : Nat => (n : Int)) ((ocT kb1).trans ((ocT kb2).trans ((ocT kb3).trans ((ocT kb4).trans (ocF kb5))))).symm) (RR_mk (by first | exact e8 | exact (kp2 8 (by decide)).trans e8) (by first | exact e10 | exact (kp2 10 (by decide)).trans e10) (by first | exact e33 | exact (kp2 33 (by decide)).trans e33) (by first | exact e38 | exact (kp2 38 (by decide)).trans e38) (by first | exact e44 | exact (kp2 44 (by decide)).trans e44) (by first | exact e53 | exact (kp2 53 (by decide)).trans e53) (by first | exact tr | exact tell_kp (by exact tr) kp2) pi ni (by first | exact li | exact li2) rrf rtp htp rrd rse phl phi rim rco ht nM nsn)), (by repeat (first | exact fun _ _ => rfl | refine frr_up ?_ (by decide)))⟩

