/-! ===== the reference: tellsBy, turnOf, tellsNow ===== -/
def RetT (r : Int) (h : aH) (g : Nat → Int) (w : Int) (sw nc : Int) (L cf ct cd : Nat → Int) : Option Value → Nat → aH → Prop := fun v n' h' => v = some (iv r) ∧ n' = 97 ∧ ∃ g2 lt2 lg2, h' = UT h g2 w lt2 lg2 ∧ LitR (g2 30) lt2 lg2 sw nc L cf ct cd ∧ ∀ k, k ≠ 30 → g2 k = g k
theorem tell_kp {g g2 dl cl lm mn : Nat → Int} {nd sw nc nm : Int} {K U I O G L cf ct cd md my mt : Nat → Int} (tr : TellR g dl cl lm mn nd sw nc nm K U I O G L cf ct cd md my mt) (k : ∀ k, k ≠ 30 → g2 k = g k) : TellR g2 dl cl lm mn nd sw nc nm K U I O G L cf ct cd md my mt := by
  obtain ⟨t1, t2, t3, t31, r⟩ := tr
  exact ⟨(k 1 (by decide)).trans t1, (k 2 (by decide)).trans t2, (k 3 (by decide)).trans t3, (k 31 (by decide)).trans t31, r⟩
theorem mul100 (a : Int) : (a * (100 + 0)).tdiv 100 = a := by
  rw [Int.add_zero]
  exact Int.mul_tdiv_cancel a (by decide)

theorem s_X9_tellsBy {h : aH} {g : Nat → Int} {w : Int} (c68 : h 68 = RG g w) {dl cl lm lt lgt mn : Nat → Int} (c69 : h 69 = .inl (0, 45, dl)) (c70 : h 70 = .inl (0, 60, cl)) (c71 : h 71 = .inl (0, 12, lm)) (c77 : h 77 = .inl (2, 1440, lt)) (c78 : h 78 = .inl (2, 1440, lgt)) (c79 : h 79 = .inl (0, 120, mn)) {nd sw nc nm : Int} {K U I O G L cf ct fc nx cd md my mt : Nat → Int} (tr : TellR g dl cl lm mn nd sw nc nm K U I O G L cf ct cd md my mt) (pi : PInv nd sw nc K U I O G L cf ct fc nx cd) (li : LitR (g 30) lt lgt sw nc L cf ct cd) {ki tu ti to gr : Int} (hki : 0 ≤ ki ∧ ki ≤ 5) (htu : -200 ≤ tu ∧ tu ≤ 200) (hti : -50 ≤ ti ∧ ti ≤ 50) (hto : -120 ≤ to ∧ to ≤ 120) (hgr : -1 ≤ gr ∧ gr ≤ 364) {day : Int} (hd : 0 ≤ day ∧ day < 365) {m : Int} (hm : 0 ≤ m ∧ m < 1440) : mSem yX9_tellsBy cX9_tellsBy 11 (some .int) 3 0 0 [.ref 68, iv ki, iv tu, iv ti, iv to, iv gr, iv day, iv m] 97 h (RetT (toldI ki tu ti to gr day m (noonI L day) (halfI sw day) (cUp cd cf ct day m nc.toNat)) h g w sw nc L cf ct cd) noX := by
  obtain ⟨t1, t2, t3, t31, pnm, tdl, tcl, tlm, tmd, pmt, pmd, pmy⟩ := id tr
  obtain ⟨pnd, psw, pnc, pK, pU, pI, pO, pG, pL, pcf, pct, pfc, pnx⟩ := id pi
  refine mSem_of (own := RX9) (name := "tellsBy") pn_X9 rfl rfl (Nat.le_of_ble_eq_true rfl) ?_
  have bn := noon_B (L := L) (day := day) pL
  have bh := half_B psw hd
  refine r_iload_n dX9_tellsBy_0 rfl rfl ?_
  refine r_iconst dX9_tellsBy_1 ?_
  refine r_icmp_ne (tgt := 17) dX9_tellsBy_2 (by decide) ⟨by omega, by omega⟩ ⟨by omega, by omega⟩ (fun g2 => ?_) (fun g2 => ?_)
  · refine r_iload dX9_tellsBy_17 rfl ?_
    refine r_iconst dX9_tellsBy_19 ?_
    refine r_icmp_eq (tgt := 32) dX9_tellsBy_20 (by decide) ⟨by omega, by omega⟩ ⟨by omega, by omega⟩ (fun g20 => ?_) (fun g20 => ?_)
    · refine r_aload_n dX9_tellsBy_32 rfl rfl ?_
      refine r_iload dX9_tellsBy_33 rfl ?_
      refine r_callV 68 [_] (s_X9_lights c68 c69 c70 c71 c77 c78 c79 tr pi li hd) dX9_tellsBy_35 cs_X9_265 im_X9_lights (by decide) c68 rfl (by decide) (by decide) (by decide) rfl rfl (Nat.le_of_ble_eq_true rfl) (fun _ _ _ q => q.elim) (fun v n2 h2 q => ?_)
      obtain ⟨rfl, rfl, gn, lt2, lg2, rfl, d30, li2, kp2⟩ := q
      have tr2 := tell_kp tr kp2
      obtain ⟨lv1, lv2⟩ := (li2.resolve_left (by omega)).2 m.toNat (by omega)
      rw [show ((m.toNat : Nat) : Int) = m by omega] at lv2
      have bl := b2i_01 (lgB sw L day m.toNat)
      have bl2 := b2i_01 (lgB sw L day m.toNat && !(cUp cd cf ct day m nc.toNat))
      have lgm : lgB sw L day m.toNat = true ↔ ((m - noonI L day).natAbs : Int) ≤ halfI sw day := by
        unfold lgB
        rw [decide_eq_true_eq, show ((m.toNat : Nat) : Int) = m by omega]
      have li3 : LitR (gn 30) lt2 lg2 sw nc L cf ct cd := by rw [d30]; exact li2
      have hgr : grownI gr ki day = false := by
        unfold grownI
        by_cases c1 : gr = -1
        · simp [c1]
        · have : ¬ gr ≤ day := by omega
          simp [this]
      refine ⟨rfl, ?_⟩
      dsimp only [Option.toList, List.cons_append, List.nil_append]
      refine r_iload dX9_tellsBy_38 rfl ?_
      refine r_aload_n dX9_tellsBy_40 rfl rfl ?_
      refine r_iload dX9_tellsBy_41 rfl ?_
      refine r_callV 68 [_] (s_X9_noon (by rfl) (by exact c69) (by exact c70) (by exact c71) (by rfl) (by rfl) (by exact c79) tr2 pi hd) dX9_tellsBy_43 cs_X9_253 im_X9_noon (by decide) rfl rfl (by decide) (by decide) (by decide) rfl rfl (Nat.le_of_ble_eq_true rfl) (fun _ _ _ q => q.elim) (fun v n2 h2 q => ?_)
      obtain ⟨rfl, rfl, hh⟩ := q
      obtain rfl := hh.symm
      refine ⟨rfl, ?_⟩
      dsimp only [Option.toList, List.cons_append, List.nil_append]
      refine r_isub dX9_tellsBy_46 ?_
      refine r_istore (lv2 := [(0, _), (1, _), (2, _), (3, _), (4, _), (5, _), (6, _), (7, _), (8, _)]) dX9_tellsBy_47 (by decide) rfl rfl ?_
      refine r_iload_n dX9_tellsBy_49 rfl rfl ?_
      refine r_iconst dX9_tellsBy_50 ?_
      refine r_icmp_ne (tgt := 144) dX9_tellsBy_51 (by decide) ⟨by omega, by omega⟩ ⟨by omega, by omega⟩ (fun g51 => ?_) (fun g51 => ?_)
      · refine r_aload_n dX9_tellsBy_144 rfl rfl ?_
        refine r_get (fs := RGL _ _) dX9_tellsBy_145 fl_X9_41 (by decide) rfl rfl ?_
        refine r_iload dX9_tellsBy_148 rfl ?_
        refine r_zald dX9_tellsBy_150 (by decide) rfl (by omega) (by omega) (by decide) ?_
        rw [lv2]
        refine r_if_eq (tgt := 173) dX9_tellsBy_151 (by decide) ⟨by omega, by omega⟩ (fun g151 => ?_) (fun g151 => ?_)
        · refine r_iconst dX9_tellsBy_173 ?_
          refine r_iret dX9_tellsBy_174 ?_
          exact ⟨ivE (tI_no2 hgr (by
            unfold angI sunI
            rw [if_neg (by omega), if_neg (by omega), if_pos (by
              first
                | exact Or.inr (Or.inr (Or.inl (by omega)))
                | exact Or.inr (Or.inr (Or.inr (by omega)))
                | (rw [b2i_0, Bool.and_eq_false_iff, Bool.not_eq_false'] at g151
                   rcases g151 with z | z
                   · refine Or.inl ?_
                     have hn9 : ¬ ((m - noonI L day).natAbs : Int) ≤ halfI sw day := fun q => absurd (lgm.mpr q) (by rw [z]; decide)
                     omega
                   · exact Or.inr (Or.inl z)))])).symm, rfl, gn, lt2, lg2, rfl, li3, kp2⟩
        · refine r_iload_n dX9_tellsBy_154 rfl rfl ?_
          refine r_if_ne (tgt := 163) dX9_tellsBy_155 (by decide) ⟨by omega, by omega⟩ (fun g155 => ?_) (fun g155 => ?_)
          · refine r_iload_n dX9_tellsBy_163 rfl rfl ?_
            refine r_iconst dX9_tellsBy_164 ?_
            refine r_icmp_ne (tgt := 175) dX9_tellsBy_165 (by decide) ⟨by omega, by omega⟩ ⟨by omega, by omega⟩ (fun g165 => ?_) (fun g165 => ?_)
            · first
                | (have ha : angI ki day m (noonI L day) (halfI sw day) (cUp cd cf ct day m nc.toNat) = (aroundI (m - (720 + 48 * (day % 30)))) := by
                     unfold angI mangI
                     rw [if_pos (by omega), if_neg (by
                       rintro (z | z | z)
                       · unfold moonI at z; simp at z; omega
                       · rw [b2i_0] at g120; rw [← lgm, g120] at z; exact absurd z (by decide)
                       · omega)]
                   have hA : -600 ≤ (aroundI (m - (720 + 48 * (day % 30)))) ∧ (aroundI (m - (720 + 48 * (day % 30)))) ≤ 600 := by omega
                   obtain ⟨A0, eA⟩ : ∃ z, (aroundI (m - (720 + 48 * (day % 30)))) = z := ⟨_, rfl⟩
                   rw [eA] at ha hA ⊢)
                | (have hlt : lgB sw L day m.toNat = true ∧ (cUp cd cf ct day m nc.toNat) = false := by
                     rw [b2i_0, Bool.not_eq_false, Bool.and_eq_true, Bool.not_eq_true'] at g151
                     exact g151
                   have hll := lgm.mp hlt.1
                   have ha : angI ki day m (noonI L day) (halfI sw day) (cUp cd cf ct day m nc.toNat) = (m - noonI L day) := by
                     unfold angI sunI
                     rw [if_neg (by omega), if_neg (by omega), if_neg (by
                       rintro (z | z | z | z)
                       · omega
                       · rw [hlt.2] at z; cases z
                       · omega
                       · omega)]
                   have hA : -600 ≤ (m - noonI L day) ∧ (m - noonI L day) ≤ 600 := by omega
                   obtain ⟨A0, eA⟩ : ∃ z, (m - noonI L day) = z := ⟨_, rfl⟩
                   rw [eA] at ha hA ⊢)
              have bb1 := bend_B (a := A0) (t := ti) hA hti
              have bb2 := bend_B (a := A0) (t := 0) hA (by decide)
              refine r_iload_n dX9_tellsBy_175 rfl rfl ?_
              refine r_iconst dX9_tellsBy_176 ?_
              refine r_icmp_eq (tgt := 185) dX9_tellsBy_177 (by decide) ⟨by omega, by omega⟩ ⟨by omega, by omega⟩ (fun g177 => ?_) (fun g177 => ?_)
              · have eb : (if tiltI ki then (A0 * (100 + ti)).tdiv 100 else A0) = (A0 * (100 + 0)).tdiv 100 := by rw [if_neg (by unfold tiltI; simp; omega), mul100]
                refine r_iconst dX9_tellsBy_185 ?_
                refine r_goto (tgt := 190) dX9_tellsBy_186 (by decide) ?_
                refine r_istore (lv2 := [(0, _), (1, _), (2, _), (3, _), (4, _), (5, _), (6, _), (7, _), (8, _), (9, _)]) dX9_tellsBy_190 (by decide) rfl rfl ?_
                refine r_sipush dX9_tellsBy_192 rfl ?_
                refine r_iload dX9_tellsBy_195 rfl ?_
                refine r_bipush dX9_tellsBy_197 rfl ?_
                refine r_iload dX9_tellsBy_199 rfl ?_
                refine r_iadd dX9_tellsBy_201 ?_
                refine r_imul dX9_tellsBy_202 ?_
                refine r_bipush dX9_tellsBy_203 rfl ?_
                refine r_idiv dX9_tellsBy_205 ⟨by omega, by omega⟩ ⟨by omega, by omega⟩ (by omega) ⟨by omega, by omega⟩ ?_
                refine r_iadd dX9_tellsBy_206 ?_
                refine r_iload_n dX9_tellsBy_207 rfl rfl ?_
                refine r_iadd dX9_tellsBy_208 ?_
                refine r_iload dX9_tellsBy_209 rfl ?_
                refine r_iadd dX9_tellsBy_211 ?_
                refine r_callS [_] (s_X9_round (by omega)) dX9_tellsBy_212 cs_X9_262 sm_X9_round (by decide) (by decide) (by decide) rfl rfl (Nat.le_of_ble_eq_true rfl) (fun _ _ _ q => q.elim) (fun v n2 h2 q => ?_)
                obtain ⟨rfl, rfl, hh⟩ := q
                obtain rfl := hh.symm
                refine ⟨rfl, ?_⟩
                dsimp only [Option.toList, List.cons_append, List.nil_append]
                refine r_istore (lv2 := [(0, _), (1, _), (2, _), (3, _), (4, _), (5, _), (6, _), (7, _), (8, _), (9, _), (10, _)]) dX9_tellsBy_215 (by decide) rfl rfl ?_
                refine r_iload_n dX9_tellsBy_217 rfl rfl ?_
                refine r_iconst dX9_tellsBy_218 ?_
                refine r_icmp_ne (tgt := 234) dX9_tellsBy_219 (by decide) ⟨by omega, by omega⟩ ⟨by omega, by omega⟩ (fun g219 => ?_) (fun g219 => ?_)
                · refine r_iload dX9_tellsBy_234 rfl ?_
                  refine r_iret dX9_tellsBy_236 ?_
                  first
                    | (exfalso; omega)
                    | exact ⟨ivE (by rw [tI_ok hgr ha (by omega), eb]; first | rw [if_pos (by omega)] | rw [if_neg (by omega)]), rfl, gn, lt2, lg2, rfl, li3, kp2⟩
                · refine r_iload dX9_tellsBy_222 rfl ?_
                  refine r_sipush dX9_tellsBy_224 rfl ?_
                  refine r_icmp_eq (tgt := 234) dX9_tellsBy_227 (by decide) ⟨by omega, by omega⟩ ⟨by omega, by omega⟩ (fun g227 => ?_) (fun g227 => ?_)
                  · refine r_iload dX9_tellsBy_234 rfl ?_
                    refine r_iret dX9_tellsBy_236 ?_
                    first
                      | (exfalso; omega)
                      | exact ⟨ivE (by rw [tI_ok hgr ha (by omega), eb]; first | rw [if_pos (by omega)] | rw [if_neg (by omega)]), rfl, gn, lt2, lg2, rfl, li3, kp2⟩
                  · refine r_iconst dX9_tellsBy_230 ?_
                    refine r_goto (tgt := 236) dX9_tellsBy_231 (by decide) ?_
                    refine r_iret dX9_tellsBy_236 ?_
                    first
                      | (exfalso; omega)
                      | exact ⟨ivE (by rw [tI_ok hgr ha (by omega), eb]; first | rw [if_pos (by omega)] | rw [if_neg (by omega)]), rfl, gn, lt2, lg2, rfl, li3, kp2⟩
              · refine r_iload_n dX9_tellsBy_180 rfl rfl ?_
                refine r_iconst dX9_tellsBy_181 ?_
                refine r_icmp_ne (tgt := 189) dX9_tellsBy_182 (by decide) ⟨by omega, by omega⟩ ⟨by omega, by omega⟩ (fun g182 => ?_) (fun g182 => ?_)
                · have eb : (if tiltI ki then (A0 * (100 + ti)).tdiv 100 else A0) = (A0 * (100 + ti)).tdiv 100 := by rw [if_pos (by unfold tiltI; simp; omega)]
                  refine r_iload_n dX9_tellsBy_189 rfl rfl ?_
                  refine r_istore (lv2 := [(0, _), (1, _), (2, _), (3, _), (4, _), (5, _), (6, _), (7, _), (8, _), (9, _)]) dX9_tellsBy_190 (by decide) rfl rfl ?_
                  refine r_sipush dX9_tellsBy_192 rfl ?_
                  refine r_iload dX9_tellsBy_195 rfl ?_
                  refine r_bipush dX9_tellsBy_197 rfl ?_
                  refine r_iload dX9_tellsBy_199 rfl ?_
                  refine r_iadd dX9_tellsBy_201 ?_
                  refine r_imul dX9_tellsBy_202 ?_
                  refine r_bipush dX9_tellsBy_203 rfl ?_
                  refine r_idiv dX9_tellsBy_205 ⟨by omega, by omega⟩ ⟨by omega, by omega⟩ (by omega) ⟨by omega, by omega⟩ ?_
                  refine r_iadd dX9_tellsBy_206 ?_
                  refine r_iload_n dX9_tellsBy_207 rfl rfl ?_
                  refine r_iadd dX9_tellsBy_208 ?_
                  refine r_iload dX9_tellsBy_209 rfl ?_
                  refine r_iadd dX9_tellsBy_211 ?_
                  refine r_callS [_] (s_X9_round (by omega)) dX9_tellsBy_212 cs_X9_262 sm_X9_round (by decide) (by decide) (by decide) rfl rfl (Nat.le_of_ble_eq_true rfl) (fun _ _ _ q => q.elim) (fun v n2 h2 q => ?_)
                  obtain ⟨rfl, rfl, hh⟩ := q
                  obtain rfl := hh.symm
                  refine ⟨rfl, ?_⟩
                  dsimp only [Option.toList, List.cons_append, List.nil_append]
                  refine r_istore (lv2 := [(0, _), (1, _), (2, _), (3, _), (4, _), (5, _), (6, _), (7, _), (8, _), (9, _), (10, _)]) dX9_tellsBy_215 (by decide) rfl rfl ?_
                  refine r_iload_n dX9_tellsBy_217 rfl rfl ?_
                  refine r_iconst dX9_tellsBy_218 ?_
                  refine r_icmp_ne (tgt := 234) dX9_tellsBy_219 (by decide) ⟨by omega, by omega⟩ ⟨by omega, by omega⟩ (fun g219 => ?_) (fun g219 => ?_)
                  · refine r_iload dX9_tellsBy_234 rfl ?_
                    refine r_iret dX9_tellsBy_236 ?_
                    first
                      | (exfalso; omega)
                      | exact ⟨ivE (by rw [tI_ok hgr ha (by omega), eb]; first | rw [if_pos (by omega)] | rw [if_neg (by omega)]), rfl, gn, lt2, lg2, rfl, li3, kp2⟩
                  · refine r_iload dX9_tellsBy_222 rfl ?_
                    refine r_sipush dX9_tellsBy_224 rfl ?_
                    refine r_icmp_eq (tgt := 234) dX9_tellsBy_227 (by decide) ⟨by omega, by omega⟩ ⟨by omega, by omega⟩ (fun g227 => ?_) (fun g227 => ?_)
                    · refine r_iload dX9_tellsBy_234 rfl ?_
                      refine r_iret dX9_tellsBy_236 ?_
                      first
                        | (exfalso; omega)
                        | exact ⟨ivE (by rw [tI_ok hgr ha (by omega), eb]; first | rw [if_pos (by omega)] | rw [if_neg (by omega)]), rfl, gn, lt2, lg2, rfl, li3, kp2⟩
                    · refine r_iconst dX9_tellsBy_230 ?_
                      refine r_goto (tgt := 236) dX9_tellsBy_231 (by decide) ?_
                      refine r_iret dX9_tellsBy_236 ?_
                      first
                        | (exfalso; omega)
                        | exact ⟨ivE (by rw [tI_ok hgr ha (by omega), eb]; first | rw [if_pos (by omega)] | rw [if_neg (by omega)]), rfl, gn, lt2, lg2, rfl, li3, kp2⟩
                · have eb : (if tiltI ki then (A0 * (100 + ti)).tdiv 100 else A0) = (A0 * (100 + 0)).tdiv 100 := by rw [if_neg (by unfold tiltI; simp; omega), mul100]
                  refine r_iconst dX9_tellsBy_185 ?_
                  refine r_goto (tgt := 190) dX9_tellsBy_186 (by decide) ?_
                  refine r_istore (lv2 := [(0, _), (1, _), (2, _), (3, _), (4, _), (5, _), (6, _), (7, _), (8, _), (9, _)]) dX9_tellsBy_190 (by decide) rfl rfl ?_
                  refine r_sipush dX9_tellsBy_192 rfl ?_
                  refine r_iload dX9_tellsBy_195 rfl ?_
                  refine r_bipush dX9_tellsBy_197 rfl ?_
                  refine r_iload dX9_tellsBy_199 rfl ?_
                  refine r_iadd dX9_tellsBy_201 ?_
                  refine r_imul dX9_tellsBy_202 ?_
                  refine r_bipush dX9_tellsBy_203 rfl ?_
                  refine r_idiv dX9_tellsBy_205 ⟨by omega, by omega⟩ ⟨by omega, by omega⟩ (by omega) ⟨by omega, by omega⟩ ?_
                  refine r_iadd dX9_tellsBy_206 ?_
                  refine r_iload_n dX9_tellsBy_207 rfl rfl ?_
                  refine r_iadd dX9_tellsBy_208 ?_
                  refine r_iload dX9_tellsBy_209 rfl ?_
                  refine r_iadd dX9_tellsBy_211 ?_
                  refine r_callS [_] (s_X9_round (by omega)) dX9_tellsBy_212 cs_X9_262 sm_X9_round (by decide) (by decide) (by decide) rfl rfl (Nat.le_of_ble_eq_true rfl) (fun _ _ _ q => q.elim) (fun v n2 h2 q => ?_)
                  obtain ⟨rfl, rfl, hh⟩ := q
                  obtain rfl := hh.symm
                  refine ⟨rfl, ?_⟩
                  dsimp only [Option.toList, List.cons_append, List.nil_append]
                  refine r_istore (lv2 := [(0, _), (1, _), (2, _), (3, _), (4, _), (5, _), (6, _), (7, _), (8, _), (9, _), (10, _)]) dX9_tellsBy_215 (by decide) rfl rfl ?_
                  refine r_iload_n dX9_tellsBy_217 rfl rfl ?_
                  refine r_iconst dX9_tellsBy_218 ?_
                  refine r_icmp_ne (tgt := 234) dX9_tellsBy_219 (by decide) ⟨by omega, by omega⟩ ⟨by omega, by omega⟩ (fun g219 => ?_) (fun g219 => ?_)
                  · refine r_iload dX9_tellsBy_234 rfl ?_
                    refine r_iret dX9_tellsBy_236 ?_
                    first
                      | (exfalso; omega)
                      | exact ⟨ivE (by rw [tI_ok hgr ha (by omega), eb]; first | rw [if_pos (by omega)] | rw [if_neg (by omega)]), rfl, gn, lt2, lg2, rfl, li3, kp2⟩
                  · refine r_iload dX9_tellsBy_222 rfl ?_
                    refine r_sipush dX9_tellsBy_224 rfl ?_
                    refine r_icmp_eq (tgt := 234) dX9_tellsBy_227 (by decide) ⟨by omega, by omega⟩ ⟨by omega, by omega⟩ (fun g227 => ?_) (fun g227 => ?_)
                    · refine r_iload dX9_tellsBy_234 rfl ?_
                      refine r_iret dX9_tellsBy_236 ?_
                      first
                        | (exfalso; omega)
                        | exact ⟨ivE (by rw [tI_ok hgr ha (by omega), eb]; first | rw [if_pos (by omega)] | rw [if_neg (by omega)]), rfl, gn, lt2, lg2, rfl, li3, kp2⟩
                    · refine r_iconst dX9_tellsBy_230 ?_
                      refine r_goto (tgt := 236) dX9_tellsBy_231 (by decide) ?_
                      refine r_iret dX9_tellsBy_236 ?_
                      first
                        | (exfalso; omega)
                        | exact ⟨ivE (by rw [tI_ok hgr ha (by omega), eb]; first | rw [if_pos (by omega)] | rw [if_neg (by omega)]), rfl, gn, lt2, lg2, rfl, li3, kp2⟩
            · refine r_iload dX9_tellsBy_168 rfl ?_
              refine r_if_ge (tgt := 175) dX9_tellsBy_170 (by decide) ⟨by omega, by omega⟩ (fun g170 => ?_) (fun g170 => ?_)
              · first
                  | (have ha : angI ki day m (noonI L day) (halfI sw day) (cUp cd cf ct day m nc.toNat) = (aroundI (m - (720 + 48 * (day % 30)))) := by
                       unfold angI mangI
                       rw [if_pos (by omega), if_neg (by
                         rintro (z | z | z)
                         · unfold moonI at z; simp at z; omega
                         · rw [b2i_0] at g120; rw [← lgm, g120] at z; exact absurd z (by decide)
                         · omega)]
                     have hA : -600 ≤ (aroundI (m - (720 + 48 * (day % 30)))) ∧ (aroundI (m - (720 + 48 * (day % 30)))) ≤ 600 := by omega
                     obtain ⟨A0, eA⟩ : ∃ z, (aroundI (m - (720 + 48 * (day % 30)))) = z := ⟨_, rfl⟩
                     rw [eA] at ha hA ⊢)
                  | (have hlt : lgB sw L day m.toNat = true ∧ (cUp cd cf ct day m nc.toNat) = false := by
                       rw [b2i_0, Bool.not_eq_false, Bool.and_eq_true, Bool.not_eq_true'] at g151
                       exact g151
                     have hll := lgm.mp hlt.1
                     have ha : angI ki day m (noonI L day) (halfI sw day) (cUp cd cf ct day m nc.toNat) = (m - noonI L day) := by
                       unfold angI sunI
                       rw [if_neg (by omega), if_neg (by omega), if_neg (by
                         rintro (z | z | z | z)
                         · omega
                         · rw [hlt.2] at z; cases z
                         · omega
                         · omega)]
                     have hA : -600 ≤ (m - noonI L day) ∧ (m - noonI L day) ≤ 600 := by omega
                     obtain ⟨A0, eA⟩ : ∃ z, (m - noonI L day) = z := ⟨_, rfl⟩
                     rw [eA] at ha hA ⊢)
                have bb1 := bend_B (a := A0) (t := ti) hA hti
                have bb2 := bend_B (a := A0) (t := 0) hA (by decide)
                refine r_iload_n dX9_tellsBy_175 rfl rfl ?_
                refine r_iconst dX9_tellsBy_176 ?_
                refine r_icmp_eq (tgt := 185) dX9_tellsBy_177 (by decide) ⟨by omega, by omega⟩ ⟨by omega, by omega⟩ (fun g177 => ?_) (fun g177 => ?_)
                · have eb : (if tiltI ki then (A0 * (100 + ti)).tdiv 100 else A0) = (A0 * (100 + 0)).tdiv 100 := by rw [if_neg (by unfold tiltI; simp; omega), mul100]
                  refine r_iconst dX9_tellsBy_185 ?_
                  refine r_goto (tgt := 190) dX9_tellsBy_186 (by decide) ?_
                  refine r_istore (lv2 := [(0, _), (1, _), (2, _), (3, _), (4, _), (5, _), (6, _), (7, _), (8, _), (9, _)]) dX9_tellsBy_190 (by decide) rfl rfl ?_
                  refine r_sipush dX9_tellsBy_192 rfl ?_
                  refine r_iload dX9_tellsBy_195 rfl ?_
                  refine r_bipush dX9_tellsBy_197 rfl ?_
                  refine r_iload dX9_tellsBy_199 rfl ?_
                  refine r_iadd dX9_tellsBy_201 ?_
                  refine r_imul dX9_tellsBy_202 ?_
                  refine r_bipush dX9_tellsBy_203 rfl ?_
                  refine r_idiv dX9_tellsBy_205 ⟨by omega, by omega⟩ ⟨by omega, by omega⟩ (by omega) ⟨by omega, by omega⟩ ?_
                  refine r_iadd dX9_tellsBy_206 ?_
                  refine r_iload_n dX9_tellsBy_207 rfl rfl ?_
                  refine r_iadd dX9_tellsBy_208 ?_
                  refine r_iload dX9_tellsBy_209 rfl ?_
                  refine r_iadd dX9_tellsBy_211 ?_
                  refine r_callS [_] (s_X9_round (by omega)) dX9_tellsBy_212 cs_X9_262 sm_X9_round (by decide) (by decide) (by decide) rfl rfl (Nat.le_of_ble_eq_true rfl) (fun _ _ _ q => q.elim) (fun v n2 h2 q => ?_)
                  obtain ⟨rfl, rfl, hh⟩ := q
                  obtain rfl := hh.symm
                  refine ⟨rfl, ?_⟩
                  dsimp only [Option.toList, List.cons_append, List.nil_append]
                  refine r_istore (lv2 := [(0, _), (1, _), (2, _), (3, _), (4, _), (5, _), (6, _), (7, _), (8, _), (9, _), (10, _)]) dX9_tellsBy_215 (by decide) rfl rfl ?_
                  refine r_iload_n dX9_tellsBy_217 rfl rfl ?_
                  refine r_iconst dX9_tellsBy_218 ?_
                  refine r_icmp_ne (tgt := 234) dX9_tellsBy_219 (by decide) ⟨by omega, by omega⟩ ⟨by omega, by omega⟩ (fun g219 => ?_) (fun g219 => ?_)
                  · refine r_iload dX9_tellsBy_234 rfl ?_
                    refine r_iret dX9_tellsBy_236 ?_
                    first
                      | (exfalso; omega)
                      | exact ⟨ivE (by rw [tI_ok hgr ha (by omega), eb]; first | rw [if_pos (by omega)] | rw [if_neg (by omega)]), rfl, gn, lt2, lg2, rfl, li3, kp2⟩
                  · refine r_iload dX9_tellsBy_222 rfl ?_
                    refine r_sipush dX9_tellsBy_224 rfl ?_
                    refine r_icmp_eq (tgt := 234) dX9_tellsBy_227 (by decide) ⟨by omega, by omega⟩ ⟨by omega, by omega⟩ (fun g227 => ?_) (fun g227 => ?_)
                    · refine r_iload dX9_tellsBy_234 rfl ?_
                      refine r_iret dX9_tellsBy_236 ?_
                      first
                        | (exfalso; omega)
                        | exact ⟨ivE (by rw [tI_ok hgr ha (by omega), eb]; first | rw [if_pos (by omega)] | rw [if_neg (by omega)]), rfl, gn, lt2, lg2, rfl, li3, kp2⟩
                    · refine r_iconst dX9_tellsBy_230 ?_
                      refine r_goto (tgt := 236) dX9_tellsBy_231 (by decide) ?_
                      refine r_iret dX9_tellsBy_236 ?_
                      first
                        | (exfalso; omega)
                        | exact ⟨ivE (by rw [tI_ok hgr ha (by omega), eb]; first | rw [if_pos (by omega)] | rw [if_neg (by omega)]), rfl, gn, lt2, lg2, rfl, li3, kp2⟩
                · refine r_iload_n dX9_tellsBy_180 rfl rfl ?_
                  refine r_iconst dX9_tellsBy_181 ?_
                  refine r_icmp_ne (tgt := 189) dX9_tellsBy_182 (by decide) ⟨by omega, by omega⟩ ⟨by omega, by omega⟩ (fun g182 => ?_) (fun g182 => ?_)
                  · have eb : (if tiltI ki then (A0 * (100 + ti)).tdiv 100 else A0) = (A0 * (100 + ti)).tdiv 100 := by rw [if_pos (by unfold tiltI; simp; omega)]
                    refine r_iload_n dX9_tellsBy_189 rfl rfl ?_
                    refine r_istore (lv2 := [(0, _), (1, _), (2, _), (3, _), (4, _), (5, _), (6, _), (7, _), (8, _), (9, _)]) dX9_tellsBy_190 (by decide) rfl rfl ?_
                    refine r_sipush dX9_tellsBy_192 rfl ?_
                    refine r_iload dX9_tellsBy_195 rfl ?_
                    refine r_bipush dX9_tellsBy_197 rfl ?_
                    refine r_iload dX9_tellsBy_199 rfl ?_
                    refine r_iadd dX9_tellsBy_201 ?_
                    refine r_imul dX9_tellsBy_202 ?_
                    refine r_bipush dX9_tellsBy_203 rfl ?_
                    refine r_idiv dX9_tellsBy_205 ⟨by omega, by omega⟩ ⟨by omega, by omega⟩ (by omega) ⟨by omega, by omega⟩ ?_
                    refine r_iadd dX9_tellsBy_206 ?_
                    refine r_iload_n dX9_tellsBy_207 rfl rfl ?_
                    refine r_iadd dX9_tellsBy_208 ?_
                    refine r_iload dX9_tellsBy_209 rfl ?_
                    refine r_iadd dX9_tellsBy_211 ?_
                    refine r_callS [_] (s_X9_round (by omega)) dX9_tellsBy_212 cs_X9_262 sm_X9_round (by decide) (by decide) (by decide) rfl rfl (Nat.le_of_ble_eq_true rfl) (fun _ _ _ q => q.elim) (fun v n2 h2 q => ?_)
                    obtain ⟨rfl, rfl, hh⟩ := q
                    obtain rfl := hh.symm
                    refine ⟨rfl, ?_⟩
                    dsimp only [Option.toList, List.cons_append, List.nil_append]
                    refine r_istore (lv2 := [(0, _), (1, _), (2, _), (3, _), (4, _), (5, _), (6, _), (7, _), (8, _), (9, _), (10, _)]) dX9_tellsBy_215 (by decide) rfl rfl ?_
                    refine r_iload_n dX9_tellsBy_217 rfl rfl ?_
                    refine r_iconst dX9_tellsBy_218 ?_
                    refine r_icmp_ne (tgt := 234) dX9_tellsBy_219 (by decide) ⟨by omega, by omega⟩ ⟨by omega, by omega⟩ (fun g219 => ?_) (fun g219 => ?_)
                    · refine r_iload dX9_tellsBy_234 rfl ?_
                      refine r_iret dX9_tellsBy_236 ?_
                      first
                        | (exfalso; omega)
                        | exact ⟨ivE (by rw [tI_ok hgr ha (by omega), eb]; first | rw [if_pos (by omega)] | rw [if_neg (by omega)]), rfl, gn, lt2, lg2, rfl, li3, kp2⟩
                    · refine r_iload dX9_tellsBy_222 rfl ?_
                      refine r_sipush dX9_tellsBy_224 rfl ?_
                      refine r_icmp_eq (tgt := 234) dX9_tellsBy_227 (by decide) ⟨by omega, by omega⟩ ⟨by omega, by omega⟩ (fun g227 => ?_) (fun g227 => ?_)
                      · refine r_iload dX9_tellsBy_234 rfl ?_
                        refine r_iret dX9_tellsBy_236 ?_
                        first
                          | (exfalso; omega)
                          | exact ⟨ivE (by rw [tI_ok hgr ha (by omega), eb]; first | rw [if_pos (by omega)] | rw [if_neg (by omega)]), rfl, gn, lt2, lg2, rfl, li3, kp2⟩
                      · refine r_iconst dX9_tellsBy_230 ?_
                        refine r_goto (tgt := 236) dX9_tellsBy_231 (by decide) ?_
                        refine r_iret dX9_tellsBy_236 ?_
                        first
                          | (exfalso; omega)
                          | exact ⟨ivE (by rw [tI_ok hgr ha (by omega), eb]; first | rw [if_pos (by omega)] | rw [if_neg (by omega)]), rfl, gn, lt2, lg2, rfl, li3, kp2⟩
                  · have eb : (if tiltI ki then (A0 * (100 + ti)).tdiv 100 else A0) = (A0 * (100 + 0)).tdiv 100 := by rw [if_neg (by unfold tiltI; simp; omega), mul100]
                    refine r_iconst dX9_tellsBy_185 ?_
                    refine r_goto (tgt := 190) dX9_tellsBy_186 (by decide) ?_
                    refine r_istore (lv2 := [(0, _), (1, _), (2, _), (3, _), (4, _), (5, _), (6, _), (7, _), (8, _), (9, _)]) dX9_tellsBy_190 (by decide) rfl rfl ?_
                    refine r_sipush dX9_tellsBy_192 rfl ?_
                    refine r_iload dX9_tellsBy_195 rfl ?_
                    refine r_bipush dX9_tellsBy_197 rfl ?_
                    refine r_iload dX9_tellsBy_199 rfl ?_
                    refine r_iadd dX9_tellsBy_201 ?_
                    refine r_imul dX9_tellsBy_202 ?_
                    refine r_bipush dX9_tellsBy_203 rfl ?_
                    refine r_idiv dX9_tellsBy_205 ⟨by omega, by omega⟩ ⟨by omega, by omega⟩ (by omega) ⟨by omega, by omega⟩ ?_
                    refine r_iadd dX9_tellsBy_206 ?_
                    refine r_iload_n dX9_tellsBy_207 rfl rfl ?_
                    refine r_iadd dX9_tellsBy_208 ?_
                    refine r_iload dX9_tellsBy_209 rfl ?_
                    refine r_iadd dX9_tellsBy_211 ?_
                    refine r_callS [_] (s_X9_round (by omega)) dX9_tellsBy_212 cs_X9_262 sm_X9_round (by decide) (by decide) (by decide) rfl rfl (Nat.le_of_ble_eq_true rfl) (fun _ _ _ q => q.elim) (fun v n2 h2 q => ?_)
                    obtain ⟨rfl, rfl, hh⟩ := q
                    obtain rfl := hh.symm
                    refine ⟨rfl, ?_⟩
                    dsimp only [Option.toList, List.cons_append, List.nil_append]
                    refine r_istore (lv2 := [(0, _), (1, _), (2, _), (3, _), (4, _), (5, _), (6, _), (7, _), (8, _), (9, _), (10, _)]) dX9_tellsBy_215 (by decide) rfl rfl ?_
                    refine r_iload_n dX9_tellsBy_217 rfl rfl ?_
                    refine r_iconst dX9_tellsBy_218 ?_
                    refine r_icmp_ne (tgt := 234) dX9_tellsBy_219 (by decide) ⟨by omega, by omega⟩ ⟨by omega, by omega⟩ (fun g219 => ?_) (fun g219 => ?_)
                    · refine r_iload dX9_tellsBy_234 rfl ?_
                      refine r_iret dX9_tellsBy_236 ?_
                      first
                        | (exfalso; omega)
                        | exact ⟨ivE (by rw [tI_ok hgr ha (by omega), eb]; first | rw [if_pos (by omega)] | rw [if_neg (by omega)]), rfl, gn, lt2, lg2, rfl, li3, kp2⟩
                    · refine r_iload dX9_tellsBy_222 rfl ?_
                      refine r_sipush dX9_tellsBy_224 rfl ?_
                      refine r_icmp_eq (tgt := 234) dX9_tellsBy_227 (by decide) ⟨by omega, by omega⟩ ⟨by omega, by omega⟩ (fun g227 => ?_) (fun g227 => ?_)
                      · refine r_iload dX9_tellsBy_234 rfl ?_
                        refine r_iret dX9_tellsBy_236 ?_
                        first
                          | (exfalso; omega)
                          | exact ⟨ivE (by rw [tI_ok hgr ha (by omega), eb]; first | rw [if_pos (by omega)] | rw [if_neg (by omega)]), rfl, gn, lt2, lg2, rfl, li3, kp2⟩
                      · refine r_iconst dX9_tellsBy_230 ?_
                        refine r_goto (tgt := 236) dX9_tellsBy_231 (by decide) ?_
                        refine r_iret dX9_tellsBy_236 ?_
                        first
                          | (exfalso; omega)
                          | exact ⟨ivE (by rw [tI_ok hgr ha (by omega), eb]; first | rw [if_pos (by omega)] | rw [if_neg (by omega)]), rfl, gn, lt2, lg2, rfl, li3, kp2⟩
              · refine r_iconst dX9_tellsBy_173 ?_
                refine r_iret dX9_tellsBy_174 ?_
                exact ⟨ivE (tI_no2 hgr (by
                  unfold angI sunI
                  rw [if_neg (by omega), if_neg (by omega), if_pos (by
                    first
                      | exact Or.inr (Or.inr (Or.inl (by omega)))
                      | exact Or.inr (Or.inr (Or.inr (by omega)))
                      | (rw [b2i_0, Bool.and_eq_false_iff, Bool.not_eq_false'] at g151
                         rcases g151 with z | z
                         · refine Or.inl ?_
                           have hn9 : ¬ ((m - noonI L day).natAbs : Int) ≤ halfI sw day := fun q => absurd (lgm.mpr q) (by rw [z]; decide)
                           omega
                         · exact Or.inr (Or.inl z)))])).symm, rfl, gn, lt2, lg2, rfl, li3, kp2⟩
          · refine r_iload dX9_tellsBy_158 rfl ?_
            refine r_if_gt (tgt := 173) dX9_tellsBy_160 (by decide) ⟨by omega, by omega⟩ (fun g160 => ?_) (fun g160 => ?_)
            · refine r_iconst dX9_tellsBy_173 ?_
              refine r_iret dX9_tellsBy_174 ?_
              exact ⟨ivE (tI_no2 hgr (by
                unfold angI sunI
                rw [if_neg (by omega), if_neg (by omega), if_pos (by
                  first
                    | exact Or.inr (Or.inr (Or.inl (by omega)))
                    | exact Or.inr (Or.inr (Or.inr (by omega)))
                    | (rw [b2i_0, Bool.and_eq_false_iff, Bool.not_eq_false'] at g151
                       rcases g151 with z | z
                       · refine Or.inl ?_
                         have hn9 : ¬ ((m - noonI L day).natAbs : Int) ≤ halfI sw day := fun q => absurd (lgm.mpr q) (by rw [z]; decide)
                         omega
                       · exact Or.inr (Or.inl z)))])).symm, rfl, gn, lt2, lg2, rfl, li3, kp2⟩
            · refine r_iload_n dX9_tellsBy_163 rfl rfl ?_
              refine r_iconst dX9_tellsBy_164 ?_
              refine r_icmp_ne (tgt := 175) dX9_tellsBy_165 (by decide) ⟨by omega, by omega⟩ ⟨by omega, by omega⟩ (fun g165 => ?_) (fun g165 => ?_)
              · first
                  | (have ha : angI ki day m (noonI L day) (halfI sw day) (cUp cd cf ct day m nc.toNat) = (aroundI (m - (720 + 48 * (day % 30)))) := by
                       unfold angI mangI
                       rw [if_pos (by omega), if_neg (by
                         rintro (z | z | z)
                         · unfold moonI at z; simp at z; omega
                         · rw [b2i_0] at g120; rw [← lgm, g120] at z; exact absurd z (by decide)
                         · omega)]
                     have hA : -600 ≤ (aroundI (m - (720 + 48 * (day % 30)))) ∧ (aroundI (m - (720 + 48 * (day % 30)))) ≤ 600 := by omega
                     obtain ⟨A0, eA⟩ : ∃ z, (aroundI (m - (720 + 48 * (day % 30)))) = z := ⟨_, rfl⟩
                     rw [eA] at ha hA ⊢)
                  | (have hlt : lgB sw L day m.toNat = true ∧ (cUp cd cf ct day m nc.toNat) = false := by
                       rw [b2i_0, Bool.not_eq_false, Bool.and_eq_true, Bool.not_eq_true'] at g151
                       exact g151
                     have hll := lgm.mp hlt.1
                     have ha : angI ki day m (noonI L day) (halfI sw day) (cUp cd cf ct day m nc.toNat) = (m - noonI L day) := by
                       unfold angI sunI
                       rw [if_neg (by omega), if_neg (by omega), if_neg (by
                         rintro (z | z | z | z)
                         · omega
                         · rw [hlt.2] at z; cases z
                         · omega
                         · omega)]
                     have hA : -600 ≤ (m - noonI L day) ∧ (m - noonI L day) ≤ 600 := by omega
                     obtain ⟨A0, eA⟩ : ∃ z, (m - noonI L day) = z := ⟨_, rfl⟩
                     rw [eA] at ha hA ⊢)
                have bb1 := bend_B (a := A0) (t := ti) hA hti
                have bb2 := bend_B (a := A0) (t := 0) hA (by decide)
                refine r_iload_n dX9_tellsBy_175 rfl rfl ?_
                refine r_iconst dX9_tellsBy_176 ?_
                refine r_icmp_eq (tgt := 185) dX9_tellsBy_177 (by decide) ⟨by omega, by omega⟩ ⟨by omega, by omega⟩ (fun g177 => ?_) (fun g177 => ?_)
                · have eb : (if tiltI ki then (A0 * (100 + ti)).tdiv 100 else A0) = (A0 * (100 + 0)).tdiv 100 := by rw [if_neg (by unfold tiltI; simp; omega), mul100]
                  refine r_iconst dX9_tellsBy_185 ?_
                  refine r_goto (tgt := 190) dX9_tellsBy_186 (by decide) ?_
                  refine r_istore (lv2 := [(0, _), (1, _), (2, _), (3, _), (4, _), (5, _), (6, _), (7, _), (8, _), (9, _)]) dX9_tellsBy_190 (by decide) rfl rfl ?_
                  refine r_sipush dX9_tellsBy_192 rfl ?_
                  refine r_iload dX9_tellsBy_195 rfl ?_
                  refine r_bipush dX9_tellsBy_197 rfl ?_
                  refine r_iload dX9_tellsBy_199 rfl ?_
                  refine r_iadd dX9_tellsBy_201 ?_
                  refine r_imul dX9_tellsBy_202 ?_
                  refine r_bipush dX9_tellsBy_203 rfl ?_
                  refine r_idiv dX9_tellsBy_205 ⟨by omega, by omega⟩ ⟨by omega, by omega⟩ (by omega) ⟨by omega, by omega⟩ ?_
                  refine r_iadd dX9_tellsBy_206 ?_
                  refine r_iload_n dX9_tellsBy_207 rfl rfl ?_
                  refine r_iadd dX9_tellsBy_208 ?_
                  refine r_iload dX9_tellsBy_209 rfl ?_
                  refine r_iadd dX9_tellsBy_211 ?_
                  refine r_callS [_] (s_X9_round (by omega)) dX9_tellsBy_212 cs_X9_262 sm_X9_round (by decide) (by decide) (by decide) rfl rfl (Nat.le_of_ble_eq_true rfl) (fun _ _ _ q => q.elim) (fun v n2 h2 q => ?_)
                  obtain ⟨rfl, rfl, hh⟩ := q
                  obtain rfl := hh.symm
                  refine ⟨rfl, ?_⟩
                  dsimp only [Option.toList, List.cons_append, List.nil_append]
                  refine r_istore (lv2 := [(0, _), (1, _), (2, _), (3, _), (4, _), (5, _), (6, _), (7, _), (8, _), (9, _), (10, _)]) dX9_tellsBy_215 (by decide) rfl rfl ?_
                  refine r_iload_n dX9_tellsBy_217 rfl rfl ?_
                  refine r_iconst dX9_tellsBy_218 ?_
                  refine r_icmp_ne (tgt := 234) dX9_tellsBy_219 (by decide) ⟨by omega, by omega⟩ ⟨by omega, by omega⟩ (fun g219 => ?_) (fun g219 => ?_)
                  · refine r_iload dX9_tellsBy_234 rfl ?_
                    refine r_iret dX9_tellsBy_236 ?_
                    first
                      | (exfalso; omega)
                      | exact ⟨ivE (by rw [tI_ok hgr ha (by omega), eb]; first | rw [if_pos (by omega)] | rw [if_neg (by omega)]), rfl, gn, lt2, lg2, rfl, li3, kp2⟩
                  · refine r_iload dX9_tellsBy_222 rfl ?_
                    refine r_sipush dX9_tellsBy_224 rfl ?_
                    refine r_icmp_eq (tgt := 234) dX9_tellsBy_227 (by decide) ⟨by omega, by omega⟩ ⟨by omega, by omega⟩ (fun g227 => ?_) (fun g227 => ?_)
                    · refine r_iload dX9_tellsBy_234 rfl ?_
                      refine r_iret dX9_tellsBy_236 ?_
                      first
                        | (exfalso; omega)
                        | exact ⟨ivE (by rw [tI_ok hgr ha (by omega), eb]; first | rw [if_pos (by omega)] | rw [if_neg (by omega)]), rfl, gn, lt2, lg2, rfl, li3, kp2⟩
                    · refine r_iconst dX9_tellsBy_230 ?_
                      refine r_goto (tgt := 236) dX9_tellsBy_231 (by decide) ?_
                      refine r_iret dX9_tellsBy_236 ?_
                      first
                        | (exfalso; omega)
                        | exact ⟨ivE (by rw [tI_ok hgr ha (by omega), eb]; first | rw [if_pos (by omega)] | rw [if_neg (by omega)]), rfl, gn, lt2, lg2, rfl, li3, kp2⟩
                · refine r_iload_n dX9_tellsBy_180 rfl rfl ?_
                  refine r_iconst dX9_tellsBy_181 ?_
                  refine r_icmp_ne (tgt := 189) dX9_tellsBy_182 (by decide) ⟨by omega, by omega⟩ ⟨by omega, by omega⟩ (fun g182 => ?_) (fun g182 => ?_)
                  · have eb : (if tiltI ki then (A0 * (100 + ti)).tdiv 100 else A0) = (A0 * (100 + ti)).tdiv 100 := by rw [if_pos (by unfold tiltI; simp; omega)]
                    refine r_iload_n dX9_tellsBy_189 rfl rfl ?_
                    refine r_istore (lv2 := [(0, _), (1, _), (2, _), (3, _), (4, _), (5, _), (6, _), (7, _), (8, _), (9, _)]) dX9_tellsBy_190 (by decide) rfl rfl ?_
                    refine r_sipush dX9_tellsBy_192 rfl ?_
                    refine r_iload dX9_tellsBy_195 rfl ?_
                    refine r_bipush dX9_tellsBy_197 rfl ?_
                    refine r_iload dX9_tellsBy_199 rfl ?_
                    refine r_iadd dX9_tellsBy_201 ?_
                    refine r_imul dX9_tellsBy_202 ?_
                    refine r_bipush dX9_tellsBy_203 rfl ?_
                    refine r_idiv dX9_tellsBy_205 ⟨by omega, by omega⟩ ⟨by omega, by omega⟩ (by omega) ⟨by omega, by omega⟩ ?_
                    refine r_iadd dX9_tellsBy_206 ?_
                    refine r_iload_n dX9_tellsBy_207 rfl rfl ?_
                    refine r_iadd dX9_tellsBy_208 ?_
                    refine r_iload dX9_tellsBy_209 rfl ?_
                    refine r_iadd dX9_tellsBy_211 ?_
                    refine r_callS [_] (s_X9_round (by omega)) dX9_tellsBy_212 cs_X9_262 sm_X9_round (by decide) (by decide) (by decide) rfl rfl (Nat.le_of_ble_eq_true rfl) (fun _ _ _ q => q.elim) (fun v n2 h2 q => ?_)
                    obtain ⟨rfl, rfl, hh⟩ := q
                    obtain rfl := hh.symm
                    refine ⟨rfl, ?_⟩
                    dsimp only [Option.toList, List.cons_append, List.nil_append]
                    refine r_istore (lv2 := [(0, _), (1, _), (2, _), (3, _), (4, _), (5, _), (6, _), (7, _), (8, _), (9, _), (10, _)]) dX9_tellsBy_215 (by decide) rfl rfl ?_
                    refine r_iload_n dX9_tellsBy_217 rfl rfl ?_
                    refine r_iconst dX9_tellsBy_218 ?_
                    refine r_icmp_ne (tgt := 234) dX9_tellsBy_219 (by decide) ⟨by omega, by omega⟩ ⟨by omega, by omega⟩ (fun g219 => ?_) (fun g219 => ?_)
                    · refine r_iload dX9_tellsBy_234 rfl ?_
                      refine r_iret dX9_tellsBy_236 ?_
                      first
                        | (exfalso; omega)
                        | exact ⟨ivE (by rw [tI_ok hgr ha (by omega), eb]; first | rw [if_pos (by omega)] | rw [if_neg (by omega)]), rfl, gn, lt2, lg2, rfl, li3, kp2⟩
                    · refine r_iload dX9_tellsBy_222 rfl ?_
                      refine r_sipush dX9_tellsBy_224 rfl ?_
                      refine r_icmp_eq (tgt := 234) dX9_tellsBy_227 (by decide) ⟨by omega, by omega⟩ ⟨by omega, by omega⟩ (fun g227 => ?_) (fun g227 => ?_)
                      · refine r_iload dX9_tellsBy_234 rfl ?_
                        refine r_iret dX9_tellsBy_236 ?_
                        first
                          | (exfalso; omega)
                          | exact ⟨ivE (by rw [tI_ok hgr ha (by omega), eb]; first | rw [if_pos (by omega)] | rw [if_neg (by omega)]), rfl, gn, lt2, lg2, rfl, li3, kp2⟩
                      · refine r_iconst dX9_tellsBy_230 ?_
                        refine r_goto (tgt := 236) dX9_tellsBy_231 (by decide) ?_
                        refine r_iret dX9_tellsBy_236 ?_
                        first
                          | (exfalso; omega)
                          | exact ⟨ivE (by rw [tI_ok hgr ha (by omega), eb]; first | rw [if_pos (by omega)] | rw [if_neg (by omega)]), rfl, gn, lt2, lg2, rfl, li3, kp2⟩
                  · have eb : (if tiltI ki then (A0 * (100 + ti)).tdiv 100 else A0) = (A0 * (100 + 0)).tdiv 100 := by rw [if_neg (by unfold tiltI; simp; omega), mul100]
                    refine r_iconst dX9_tellsBy_185 ?_
                    refine r_goto (tgt := 190) dX9_tellsBy_186 (by decide) ?_
                    refine r_istore (lv2 := [(0, _), (1, _), (2, _), (3, _), (4, _), (5, _), (6, _), (7, _), (8, _), (9, _)]) dX9_tellsBy_190 (by decide) rfl rfl ?_
                    refine r_sipush dX9_tellsBy_192 rfl ?_
                    refine r_iload dX9_tellsBy_195 rfl ?_
                    refine r_bipush dX9_tellsBy_197 rfl ?_
                    refine r_iload dX9_tellsBy_199 rfl ?_
                    refine r_iadd dX9_tellsBy_201 ?_
                    refine r_imul dX9_tellsBy_202 ?_
                    refine r_bipush dX9_tellsBy_203 rfl ?_
                    refine r_idiv dX9_tellsBy_205 ⟨by omega, by omega⟩ ⟨by omega, by omega⟩ (by omega) ⟨by omega, by omega⟩ ?_
                    refine r_iadd dX9_tellsBy_206 ?_
                    refine r_iload_n dX9_tellsBy_207 rfl rfl ?_
                    refine r_iadd dX9_tellsBy_208 ?_
                    refine r_iload dX9_tellsBy_209 rfl ?_
                    refine r_iadd dX9_tellsBy_211 ?_
                    refine r_callS [_] (s_X9_round (by omega)) dX9_tellsBy_212 cs_X9_262 sm_X9_round (by decide) (by decide) (by decide) rfl rfl (Nat.le_of_ble_eq_true rfl) (fun _ _ _ q => q.elim) (fun v n2 h2 q => ?_)
                    obtain ⟨rfl, rfl, hh⟩ := q
                    obtain rfl := hh.symm
                    refine ⟨rfl, ?_⟩
                    dsimp only [Option.toList, List.cons_append, List.nil_append]
                    refine r_istore (lv2 := [(0, _), (1, _), (2, _), (3, _), (4, _), (5, _), (6, _), (7, _), (8, _), (9, _), (10, _)]) dX9_tellsBy_215 (by decide) rfl rfl ?_
                    refine r_iload_n dX9_tellsBy_217 rfl rfl ?_
                    refine r_iconst dX9_tellsBy_218 ?_
                    refine r_icmp_ne (tgt := 234) dX9_tellsBy_219 (by decide) ⟨by omega, by omega⟩ ⟨by omega, by omega⟩ (fun g219 => ?_) (fun g219 => ?_)
                    · refine r_iload dX9_tellsBy_234 rfl ?_
                      refine r_iret dX9_tellsBy_236 ?_
                      first
                        | (exfalso; omega)
                        | exact ⟨ivE (by rw [tI_ok hgr ha (by omega), eb]; first | rw [if_pos (by omega)] | rw [if_neg (by omega)]), rfl, gn, lt2, lg2, rfl, li3, kp2⟩
                    · refine r_iload dX9_tellsBy_222 rfl ?_
                      refine r_sipush dX9_tellsBy_224 rfl ?_
                      refine r_icmp_eq (tgt := 234) dX9_tellsBy_227 (by decide) ⟨by omega, by omega⟩ ⟨by omega, by omega⟩ (fun g227 => ?_) (fun g227 => ?_)
                      · refine r_iload dX9_tellsBy_234 rfl ?_
                        refine r_iret dX9_tellsBy_236 ?_
                        first
                          | (exfalso; omega)
                          | exact ⟨ivE (by rw [tI_ok hgr ha (by omega), eb]; first | rw [if_pos (by omega)] | rw [if_neg (by omega)]), rfl, gn, lt2, lg2, rfl, li3, kp2⟩
                      · refine r_iconst dX9_tellsBy_230 ?_
                        refine r_goto (tgt := 236) dX9_tellsBy_231 (by decide) ?_
                        refine r_iret dX9_tellsBy_236 ?_
                        first
                          | (exfalso; omega)
                          | exact ⟨ivE (by rw [tI_ok hgr ha (by omega), eb]; first | rw [if_pos (by omega)] | rw [if_neg (by omega)]), rfl, gn, lt2, lg2, rfl, li3, kp2⟩
              · refine r_iload dX9_tellsBy_168 rfl ?_
                refine r_if_ge (tgt := 175) dX9_tellsBy_170 (by decide) ⟨by omega, by omega⟩ (fun g170 => ?_) (fun g170 => ?_)
                · first
                    | (have ha : angI ki day m (noonI L day) (halfI sw day) (cUp cd cf ct day m nc.toNat) = (aroundI (m - (720 + 48 * (day % 30)))) := by
                         unfold angI mangI
                         rw [if_pos (by omega), if_neg (by
                           rintro (z | z | z)
                           · unfold moonI at z; simp at z; omega
                           · rw [b2i_0] at g120; rw [← lgm, g120] at z; exact absurd z (by decide)
                           · omega)]
                       have hA : -600 ≤ (aroundI (m - (720 + 48 * (day % 30)))) ∧ (aroundI (m - (720 + 48 * (day % 30)))) ≤ 600 := by omega
                       obtain ⟨A0, eA⟩ : ∃ z, (aroundI (m - (720 + 48 * (day % 30)))) = z := ⟨_, rfl⟩
                       rw [eA] at ha hA ⊢)
                    | (have hlt : lgB sw L day m.toNat = true ∧ (cUp cd cf ct day m nc.toNat) = false := by
                         rw [b2i_0, Bool.not_eq_false, Bool.and_eq_true, Bool.not_eq_true'] at g151
                         exact g151
                       have hll := lgm.mp hlt.1
                       have ha : angI ki day m (noonI L day) (halfI sw day) (cUp cd cf ct day m nc.toNat) = (m - noonI L day) := by
                         unfold angI sunI
                         rw [if_neg (by omega), if_neg (by omega), if_neg (by
                           rintro (z | z | z | z)
                           · omega
                           · rw [hlt.2] at z; cases z
                           · omega
                           · omega)]
                       have hA : -600 ≤ (m - noonI L day) ∧ (m - noonI L day) ≤ 600 := by omega
                       obtain ⟨A0, eA⟩ : ∃ z, (m - noonI L day) = z := ⟨_, rfl⟩
                       rw [eA] at ha hA ⊢)
                  have bb1 := bend_B (a := A0) (t := ti) hA hti
                  have bb2 := bend_B (a := A0) (t := 0) hA (by decide)
                  refine r_iload_n dX9_tellsBy_175 rfl rfl ?_
                  refine r_iconst dX9_tellsBy_176 ?_
                  refine r_icmp_eq (tgt := 185) dX9_tellsBy_177 (by decide) ⟨by omega, by omega⟩ ⟨by omega, by omega⟩ (fun g177 => ?_) (fun g177 => ?_)
                  · have eb : (if tiltI ki then (A0 * (100 + ti)).tdiv 100 else A0) = (A0 * (100 + 0)).tdiv 100 := by rw [if_neg (by unfold tiltI; simp; omega), mul100]
                    refine r_iconst dX9_tellsBy_185 ?_
                    refine r_goto (tgt := 190) dX9_tellsBy_186 (by decide) ?_
                    refine r_istore (lv2 := [(0, _), (1, _), (2, _), (3, _), (4, _), (5, _), (6, _), (7, _), (8, _), (9, _)]) dX9_tellsBy_190 (by decide) rfl rfl ?_
                    refine r_sipush dX9_tellsBy_192 rfl ?_
                    refine r_iload dX9_tellsBy_195 rfl ?_
                    refine r_bipush dX9_tellsBy_197 rfl ?_
                    refine r_iload dX9_tellsBy_199 rfl ?_
                    refine r_iadd dX9_tellsBy_201 ?_
                    refine r_imul dX9_tellsBy_202 ?_
                    refine r_bipush dX9_tellsBy_203 rfl ?_
                    refine r_idiv dX9_tellsBy_205 ⟨by omega, by omega⟩ ⟨by omega, by omega⟩ (by omega) ⟨by omega, by omega⟩ ?_
                    refine r_iadd dX9_tellsBy_206 ?_
                    refine r_iload_n dX9_tellsBy_207 rfl rfl ?_
                    refine r_iadd dX9_tellsBy_208 ?_
                    refine r_iload dX9_tellsBy_209 rfl ?_
                    refine r_iadd dX9_tellsBy_211 ?_
                    refine r_callS [_] (s_X9_round (by omega)) dX9_tellsBy_212 cs_X9_262 sm_X9_round (by decide) (by decide) (by decide) rfl rfl (Nat.le_of_ble_eq_true rfl) (fun _ _ _ q => q.elim) (fun v n2 h2 q => ?_)
                    obtain ⟨rfl, rfl, hh⟩ := q
                    obtain rfl := hh.symm
                    refine ⟨rfl, ?_⟩
                    dsimp only [Option.toList, List.cons_append, List.nil_append]
                    refine r_istore (lv2 := [(0, _), (1, _), (2, _), (3, _), (4, _), (5, _), (6, _), (7, _), (8, _), (9, _), (10, _)]) dX9_tellsBy_215 (by decide) rfl rfl ?_
                    refine r_iload_n dX9_tellsBy_217 rfl rfl ?_
                    refine r_iconst dX9_tellsBy_218 ?_
                    refine r_icmp_ne (tgt := 234) dX9_tellsBy_219 (by decide) ⟨by omega, by omega⟩ ⟨by omega, by omega⟩ (fun g219 => ?_) (fun g219 => ?_)
                    · refine r_iload dX9_tellsBy_234 rfl ?_
                      refine r_iret dX9_tellsBy_236 ?_
                      first
                        | (exfalso; omega)
                        | exact ⟨ivE (by rw [tI_ok hgr ha (by omega), eb]; first | rw [if_pos (by omega)] | rw [if_neg (by omega)]), rfl, gn, lt2, lg2, rfl, li3, kp2⟩
                    · refine r_iload dX9_tellsBy_222 rfl ?_
                      refine r_sipush dX9_tellsBy_224 rfl ?_
                      refine r_icmp_eq (tgt := 234) dX9_tellsBy_227 (by decide) ⟨by omega, by omega⟩ ⟨by omega, by omega⟩ (fun g227 => ?_) (fun g227 => ?_)
                      · refine r_iload dX9_tellsBy_234 rfl ?_
                        refine r_iret dX9_tellsBy_236 ?_
                        first
                          | (exfalso; omega)
                          | exact ⟨ivE (by rw [tI_ok hgr ha (by omega), eb]; first | rw [if_pos (by omega)] | rw [if_neg (by omega)]), rfl, gn, lt2, lg2, rfl, li3, kp2⟩
                      · refine r_iconst dX9_tellsBy_230 ?_
                        refine r_goto (tgt := 236) dX9_tellsBy_231 (by decide) ?_
                        refine r_iret dX9_tellsBy_236 ?_
                        first
                          | (exfalso; omega)
                          | exact ⟨ivE (by rw [tI_ok hgr ha (by omega), eb]; first | rw [if_pos (by omega)] | rw [if_neg (by omega)]), rfl, gn, lt2, lg2, rfl, li3, kp2⟩
                  · refine r_iload_n dX9_tellsBy_180 rfl rfl ?_
                    refine r_iconst dX9_tellsBy_181 ?_
                    refine r_icmp_ne (tgt := 189) dX9_tellsBy_182 (by decide) ⟨by omega, by omega⟩ ⟨by omega, by omega⟩ (fun g182 => ?_) (fun g182 => ?_)
                    · have eb : (if tiltI ki then (A0 * (100 + ti)).tdiv 100 else A0) = (A0 * (100 + ti)).tdiv 100 := by rw [if_pos (by unfold tiltI; simp; omega)]
                      refine r_iload_n dX9_tellsBy_189 rfl rfl ?_
                      refine r_istore (lv2 := [(0, _), (1, _), (2, _), (3, _), (4, _), (5, _), (6, _), (7, _), (8, _), (9, _)]) dX9_tellsBy_190 (by decide) rfl rfl ?_
                      refine r_sipush dX9_tellsBy_192 rfl ?_
                      refine r_iload dX9_tellsBy_195 rfl ?_
                      refine r_bipush dX9_tellsBy_197 rfl ?_
                      refine r_iload dX9_tellsBy_199 rfl ?_
                      refine r_iadd dX9_tellsBy_201 ?_
                      refine r_imul dX9_tellsBy_202 ?_
                      refine r_bipush dX9_tellsBy_203 rfl ?_
                      refine r_idiv dX9_tellsBy_205 ⟨by omega, by omega⟩ ⟨by omega, by omega⟩ (by omega) ⟨by omega, by omega⟩ ?_
                      refine r_iadd dX9_tellsBy_206 ?_
                      refine r_iload_n dX9_tellsBy_207 rfl rfl ?_
                      refine r_iadd dX9_tellsBy_208 ?_
                      refine r_iload dX9_tellsBy_209 rfl ?_
                      refine r_iadd dX9_tellsBy_211 ?_
                      refine r_callS [_] (s_X9_round (by omega)) dX9_tellsBy_212 cs_X9_262 sm_X9_round (by decide) (by decide) (by decide) rfl rfl (Nat.le_of_ble_eq_true rfl) (fun _ _ _ q => q.elim) (fun v n2 h2 q => ?_)
                      obtain ⟨rfl, rfl, hh⟩ := q
                      obtain rfl := hh.symm
                      refine ⟨rfl, ?_⟩
                      dsimp only [Option.toList, List.cons_append, List.nil_append]
                      refine r_istore (lv2 := [(0, _), (1, _), (2, _), (3, _), (4, _), (5, _), (6, _), (7, _), (8, _), (9, _), (10, _)]) dX9_tellsBy_215 (by decide) rfl rfl ?_
                      refine r_iload_n dX9_tellsBy_217 rfl rfl ?_
                      refine r_iconst dX9_tellsBy_218 ?_
                      refine r_icmp_ne (tgt := 234) dX9_tellsBy_219 (by decide) ⟨by omega, by omega⟩ ⟨by omega, by omega⟩ (fun g219 => ?_) (fun g219 => ?_)
                      · refine r_iload dX9_tellsBy_234 rfl ?_
                        refine r_iret dX9_tellsBy_236 ?_
                        first
                          | (exfalso; omega)
                          | exact ⟨ivE (by rw [tI_ok hgr ha (by omega), eb]; first | rw [if_pos (by omega)] | rw [if_neg (by omega)]), rfl, gn, lt2, lg2, rfl, li3, kp2⟩
                      · refine r_iload dX9_tellsBy_222 rfl ?_
                        refine r_sipush dX9_tellsBy_224 rfl ?_
                        refine r_icmp_eq (tgt := 234) dX9_tellsBy_227 (by decide) ⟨by omega, by omega⟩ ⟨by omega, by omega⟩ (fun g227 => ?_) (fun g227 => ?_)
                        · refine r_iload dX9_tellsBy_234 rfl ?_
                          refine r_iret dX9_tellsBy_236 ?_
                          first
                            | (exfalso; omega)
                            | exact ⟨ivE (by rw [tI_ok hgr ha (by omega), eb]; first | rw [if_pos (by omega)] | rw [if_neg (by omega)]), rfl, gn, lt2, lg2, rfl, li3, kp2⟩
                        · refine r_iconst dX9_tellsBy_230 ?_
                          refine r_goto (tgt := 236) dX9_tellsBy_231 (by decide) ?_
                          refine r_iret dX9_tellsBy_236 ?_
                          first
                            | (exfalso; omega)
                            | exact ⟨ivE (by rw [tI_ok hgr ha (by omega), eb]; first | rw [if_pos (by omega)] | rw [if_neg (by omega)]), rfl, gn, lt2, lg2, rfl, li3, kp2⟩
                    · have eb : (if tiltI ki then (A0 * (100 + ti)).tdiv 100 else A0) = (A0 * (100 + 0)).tdiv 100 := by rw [if_neg (by unfold tiltI; simp; omega), mul100]
                      refine r_iconst dX9_tellsBy_185 ?_
                      refine r_goto (tgt := 190) dX9_tellsBy_186 (by decide) ?_
                      refine r_istore (lv2 := [(0, _), (1, _), (2, _), (3, _), (4, _), (5, _), (6, _), (7, _), (8, _), (9, _)]) dX9_tellsBy_190 (by decide) rfl rfl ?_
                      refine r_sipush dX9_tellsBy_192 rfl ?_
                      refine r_iload dX9_tellsBy_195 rfl ?_
                      refine r_bipush dX9_tellsBy_197 rfl ?_
                      refine r_iload dX9_tellsBy_199 rfl ?_
                      refine r_iadd dX9_tellsBy_201 ?_
                      refine r_imul dX9_tellsBy_202 ?_
                      refine r_bipush dX9_tellsBy_203 rfl ?_
                      refine r_idiv dX9_tellsBy_205 ⟨by omega, by omega⟩ ⟨by omega, by omega⟩ (by omega) ⟨by omega, by omega⟩ ?_
                      refine r_iadd dX9_tellsBy_206 ?_
                      refine r_iload_n dX9_tellsBy_207 rfl rfl ?_
                      refine r_iadd dX9_tellsBy_208 ?_
                      refine r_iload dX9_tellsBy_209 rfl ?_
                      refine r_iadd dX9_tellsBy_211 ?_
                      refine r_callS [_] (s_X9_round (by omega)) dX9_tellsBy_212 cs_X9_262 sm_X9_round (by decide) (by decide) (by decide) rfl rfl (Nat.le_of_ble_eq_true rfl) (fun _ _ _ q => q.elim) (fun v n2 h2 q => ?_)
                      obtain ⟨rfl, rfl, hh⟩ := q
                      obtain rfl := hh.symm
                      refine ⟨rfl, ?_⟩
                      dsimp only [Option.toList, List.cons_append, List.nil_append]
                      refine r_istore (lv2 := [(0, _), (1, _), (2, _), (3, _), (4, _), (5, _), (6, _), (7, _), (8, _), (9, _), (10, _)]) dX9_tellsBy_215 (by decide) rfl rfl ?_
                      refine r_iload_n dX9_tellsBy_217 rfl rfl ?_
                      refine r_iconst dX9_tellsBy_218 ?_
                      refine r_icmp_ne (tgt := 234) dX9_tellsBy_219 (by decide) ⟨by omega, by omega⟩ ⟨by omega, by omega⟩ (fun g219 => ?_) (fun g219 => ?_)
                      · refine r_iload dX9_tellsBy_234 rfl ?_
                        refine r_iret dX9_tellsBy_236 ?_
                        first
                          | (exfalso; omega)
                          | exact ⟨ivE (by rw [tI_ok hgr ha (by omega), eb]; first | rw [if_pos (by omega)] | rw [if_neg (by omega)]), rfl, gn, lt2, lg2, rfl, li3, kp2⟩
                      · refine r_iload dX9_tellsBy_222 rfl ?_
                        refine r_sipush dX9_tellsBy_224 rfl ?_
                        refine r_icmp_eq (tgt := 234) dX9_tellsBy_227 (by decide) ⟨by omega, by omega⟩ ⟨by omega, by omega⟩ (fun g227 => ?_) (fun g227 => ?_)
                        · refine r_iload dX9_tellsBy_234 rfl ?_
                          refine r_iret dX9_tellsBy_236 ?_
                          first
                            | (exfalso; omega)
                            | exact ⟨ivE (by rw [tI_ok hgr ha (by omega), eb]; first | rw [if_pos (by omega)] | rw [if_neg (by omega)]), rfl, gn, lt2, lg2, rfl, li3, kp2⟩
                        · refine r_iconst dX9_tellsBy_230 ?_
                          refine r_goto (tgt := 236) dX9_tellsBy_231 (by decide) ?_
                          refine r_iret dX9_tellsBy_236 ?_
                          first
                            | (exfalso; omega)
                            | exact ⟨ivE (by rw [tI_ok hgr ha (by omega), eb]; first | rw [if_pos (by omega)] | rw [if_neg (by omega)]), rfl, gn, lt2, lg2, rfl, li3, kp2⟩
                · refine r_iconst dX9_tellsBy_173 ?_
                  refine r_iret dX9_tellsBy_174 ?_
                  exact ⟨ivE (tI_no2 hgr (by
                    unfold angI sunI
                    rw [if_neg (by omega), if_neg (by omega), if_pos (by
                      first
                        | exact Or.inr (Or.inr (Or.inl (by omega)))
                        | exact Or.inr (Or.inr (Or.inr (by omega)))
                        | (rw [b2i_0, Bool.and_eq_false_iff, Bool.not_eq_false'] at g151
                           rcases g151 with z | z
                           · refine Or.inl ?_
                             have hn9 : ¬ ((m - noonI L day).natAbs : Int) ≤ halfI sw day := fun q => absurd (lgm.mpr q) (by rw [z]; decide)
                             omega
                           · exact Or.inr (Or.inl z)))])).symm, rfl, gn, lt2, lg2, rfl, li3, kp2⟩
      · refine r_iload dX9_tellsBy_54 rfl ?_
        refine r_bipush dX9_tellsBy_56 rfl ?_
        refine r_iremN dX9_tellsBy_58 (by omega) (by omega) (by omega) (by omega) ?_
        refine r_istore (lv2 := [(0, _), (1, _), (2, _), (3, _), (4, _), (5, _), (6, _), (7, _), (8, _), (9, _)]) dX9_tellsBy_59 (by decide) rfl rfl ?_
        refine r_iload dX9_tellsBy_61 rfl ?_
        refine r_sipush dX9_tellsBy_63 rfl ?_
        refine r_isub dX9_tellsBy_66 ?_
        refine r_bipush dX9_tellsBy_67 rfl ?_
        refine r_iload dX9_tellsBy_69 rfl ?_
        refine r_imul dX9_tellsBy_71 ?_
        refine r_isub dX9_tellsBy_72 ?_
        refine r_callS [_] (s_X9_round (by omega)) dX9_tellsBy_73 cs_X9_262 sm_X9_round (by decide) (by decide) (by decide) rfl rfl (Nat.le_of_ble_eq_true rfl) (fun _ _ _ q => q.elim) (fun v n2 h2 q => ?_)
        obtain ⟨rfl, rfl, hh⟩ := q
        obtain rfl := hh.symm
        refine ⟨rfl, ?_⟩
        dsimp only [Option.toList, List.cons_append, List.nil_append]
        refine r_istore (lv2 := [(0, _), (1, _), (2, _), (3, _), (4, _), (5, _), (6, _), (7, _), (8, _), (9, _)]) dX9_tellsBy_76 (by decide) rfl rfl ?_
        refine r_iload dX9_tellsBy_78 rfl ?_
        refine r_sipush dX9_tellsBy_80 rfl ?_
        refine r_icmp_lt (tgt := 95) dX9_tellsBy_83 (by decide) ⟨by omega, by omega⟩ ⟨by omega, by omega⟩ (fun g83 => ?_) (fun g83 => ?_)
        · refine r_iload dX9_tellsBy_95 rfl ?_
          first
            | rw [show (m - 720 - 48 * (day % 30)) % 1440 - 1440 = (aroundI (m - (720 + 48 * (day % 30)))) by unfold aroundI; omega]
            | rw [show (m - 720 - 48 * (day % 30)) % 1440 = (aroundI (m - (720 + 48 * (day % 30)))) by unfold aroundI; omega]
          have bar := around_B (m - (720 + 48 * (day % 30)))
          refine r_istore (lv2 := [(0, _), (1, _), (2, _), (3, _), (4, _), (5, _), (6, _), (7, _), (8, _), (9, _)]) dX9_tellsBy_97 (by decide) rfl rfl ?_
          refine r_iload dX9_tellsBy_99 rfl ?_
          refine r_bipush dX9_tellsBy_101 rfl ?_
          refine r_icmp_lt (tgt := 139) dX9_tellsBy_103 (by decide) ⟨by omega, by omega⟩ ⟨by omega, by omega⟩ (fun g103 => ?_) (fun g103 => ?_)
          · refine r_iconst dX9_tellsBy_139 ?_
            refine r_iret dX9_tellsBy_140 ?_
            exact ⟨ivE (tI_no2 hgr (by
              unfold angI mangI
              rw [if_pos (by omega), if_pos (by
                first
                  | exact Or.inl (by unfold moonI; simp; omega)
                  | exact Or.inr (Or.inr (by omega))
                  | exact Or.inr (Or.inl (lgm.mp (by rw [b2i_0, Bool.not_eq_false] at g120; exact g120))))])).symm, rfl, gn, lt2, lg2, rfl, li3, kp2⟩
          · refine r_iload dX9_tellsBy_106 rfl ?_
            refine r_bipush dX9_tellsBy_108 rfl ?_
            refine r_icmp_gt (tgt := 139) dX9_tellsBy_110 (by decide) ⟨by omega, by omega⟩ ⟨by omega, by omega⟩ (fun g110 => ?_) (fun g110 => ?_)
            · refine r_iconst dX9_tellsBy_139 ?_
              refine r_iret dX9_tellsBy_140 ?_
              exact ⟨ivE (tI_no2 hgr (by
                unfold angI mangI
                rw [if_pos (by omega), if_pos (by
                  first
                    | exact Or.inl (by unfold moonI; simp; omega)
                    | exact Or.inr (Or.inr (by omega))
                    | exact Or.inr (Or.inl (lgm.mp (by rw [b2i_0, Bool.not_eq_false] at g120; exact g120))))])).symm, rfl, gn, lt2, lg2, rfl, li3, kp2⟩
            · refine r_aload_n dX9_tellsBy_113 rfl rfl ?_
              refine r_get (fs := RGL _ _) dX9_tellsBy_114 fl_X9_45 (by decide) rfl rfl ?_
              refine r_iload dX9_tellsBy_117 rfl ?_
              refine r_zald dX9_tellsBy_119 (by decide) rfl (by omega) (by omega) (by decide) ?_
              rw [lv1]
              refine r_if_ne (tgt := 139) dX9_tellsBy_120 (by decide) ⟨by omega, by omega⟩ (fun g120 => ?_) (fun g120 => ?_)
              · refine r_iconst dX9_tellsBy_139 ?_
                refine r_iret dX9_tellsBy_140 ?_
                exact ⟨ivE (tI_no2 hgr (by
                  unfold angI mangI
                  rw [if_pos (by omega), if_pos (by
                    first
                      | exact Or.inl (by unfold moonI; simp; omega)
                      | exact Or.inr (Or.inr (by omega))
                      | exact Or.inr (Or.inl (lgm.mp (by rw [b2i_0, Bool.not_eq_false] at g120; exact g120))))])).symm, rfl, gn, lt2, lg2, rfl, li3, kp2⟩
              · refine r_iload dX9_tellsBy_123 rfl ?_
                refine r_sipush dX9_tellsBy_125 rfl ?_
                refine r_icmp_gt (tgt := 139) dX9_tellsBy_128 (by decide) ⟨by omega, by omega⟩ ⟨by omega, by omega⟩ (fun g128 => ?_) (fun g128 => ?_)
                · refine r_iconst dX9_tellsBy_139 ?_
                  refine r_iret dX9_tellsBy_140 ?_
                  exact ⟨ivE (tI_no2 hgr (by
                    unfold angI mangI
                    rw [if_pos (by omega), if_pos (by
                      first
                        | exact Or.inl (by unfold moonI; simp; omega)
                        | exact Or.inr (Or.inr (by omega))
                        | exact Or.inr (Or.inl (lgm.mp (by rw [b2i_0, Bool.not_eq_false] at g120; exact g120))))])).symm, rfl, gn, lt2, lg2, rfl, li3, kp2⟩
                · refine r_iload dX9_tellsBy_131 rfl ?_
                  refine r_sipush dX9_tellsBy_133 rfl ?_
                  refine r_icmp_ge (tgt := 141) dX9_tellsBy_136 (by decide) ⟨by omega, by omega⟩ ⟨by omega, by omega⟩ (fun g136 => ?_) (fun g136 => ?_)
                  · refine r_goto (tgt := 175) dX9_tellsBy_141 (by decide) ?_
                    first
                      | (have ha : angI ki day m (noonI L day) (halfI sw day) (cUp cd cf ct day m nc.toNat) = (aroundI (m - (720 + 48 * (day % 30)))) := by
                           unfold angI mangI
                           rw [if_pos (by omega), if_neg (by
                             rintro (z | z | z)
                             · unfold moonI at z; simp at z; omega
                             · rw [b2i_0] at g120; rw [← lgm, g120] at z; exact absurd z (by decide)
                             · omega)]
                         have hA : -600 ≤ (aroundI (m - (720 + 48 * (day % 30)))) ∧ (aroundI (m - (720 + 48 * (day % 30)))) ≤ 600 := by omega
                         obtain ⟨A0, eA⟩ : ∃ z, (aroundI (m - (720 + 48 * (day % 30)))) = z := ⟨_, rfl⟩
                         rw [eA] at ha hA ⊢)
                      | (have hlt : lgB sw L day m.toNat = true ∧ (cUp cd cf ct day m nc.toNat) = false := by
                           rw [b2i_0, Bool.not_eq_false, Bool.and_eq_true, Bool.not_eq_true'] at g151
                           exact g151
                         have hll := lgm.mp hlt.1
                         have ha : angI ki day m (noonI L day) (halfI sw day) (cUp cd cf ct day m nc.toNat) = (m - noonI L day) := by
                           unfold angI sunI
                           rw [if_neg (by omega), if_neg (by omega), if_neg (by
                             rintro (z | z | z | z)
                             · omega
                             · rw [hlt.2] at z; cases z
                             · omega
                             · omega)]
                         have hA : -600 ≤ (m - noonI L day) ∧ (m - noonI L day) ≤ 600 := by omega
                         obtain ⟨A0, eA⟩ : ∃ z, (m - noonI L day) = z := ⟨_, rfl⟩
                         rw [eA] at ha hA ⊢)
                    have bb1 := bend_B (a := A0) (t := ti) hA hti
                    have bb2 := bend_B (a := A0) (t := 0) hA (by decide)
                    refine r_iload_n dX9_tellsBy_175 rfl rfl ?_
                    refine r_iconst dX9_tellsBy_176 ?_
                    refine r_icmp_eq (tgt := 185) dX9_tellsBy_177 (by decide) ⟨by omega, by omega⟩ ⟨by omega, by omega⟩ (fun g177 => ?_) (fun g177 => ?_)
                    · have eb : (if tiltI ki then (A0 * (100 + ti)).tdiv 100 else A0) = (A0 * (100 + 0)).tdiv 100 := by rw [if_neg (by unfold tiltI; simp; omega), mul100]
                      refine r_iconst dX9_tellsBy_185 ?_
                      refine r_goto (tgt := 190) dX9_tellsBy_186 (by decide) ?_
                      refine r_istore (lv2 := [(0, _), (1, _), (2, _), (3, _), (4, _), (5, _), (6, _), (7, _), (8, _), (9, _)]) dX9_tellsBy_190 (by decide) rfl rfl ?_
                      refine r_sipush dX9_tellsBy_192 rfl ?_
                      refine r_iload dX9_tellsBy_195 rfl ?_
                      refine r_bipush dX9_tellsBy_197 rfl ?_
                      refine r_iload dX9_tellsBy_199 rfl ?_
                      refine r_iadd dX9_tellsBy_201 ?_
                      refine r_imul dX9_tellsBy_202 ?_
                      refine r_bipush dX9_tellsBy_203 rfl ?_
                      refine r_idiv dX9_tellsBy_205 ⟨by omega, by omega⟩ ⟨by omega, by omega⟩ (by omega) ⟨by omega, by omega⟩ ?_
                      refine r_iadd dX9_tellsBy_206 ?_
                      refine r_iload_n dX9_tellsBy_207 rfl rfl ?_
                      refine r_iadd dX9_tellsBy_208 ?_
                      refine r_iload dX9_tellsBy_209 rfl ?_
                      refine r_iadd dX9_tellsBy_211 ?_
                      refine r_callS [_] (s_X9_round (by omega)) dX9_tellsBy_212 cs_X9_262 sm_X9_round (by decide) (by decide) (by decide) rfl rfl (Nat.le_of_ble_eq_true rfl) (fun _ _ _ q => q.elim) (fun v n2 h2 q => ?_)
                      obtain ⟨rfl, rfl, hh⟩ := q
                      obtain rfl := hh.symm
                      refine ⟨rfl, ?_⟩
                      dsimp only [Option.toList, List.cons_append, List.nil_append]
                      refine r_istore (lv2 := [(0, _), (1, _), (2, _), (3, _), (4, _), (5, _), (6, _), (7, _), (8, _), (9, _), (10, _)]) dX9_tellsBy_215 (by decide) rfl rfl ?_
                      refine r_iload_n dX9_tellsBy_217 rfl rfl ?_
                      refine r_iconst dX9_tellsBy_218 ?_
                      refine r_icmp_ne (tgt := 234) dX9_tellsBy_219 (by decide) ⟨by omega, by omega⟩ ⟨by omega, by omega⟩ (fun g219 => ?_) (fun g219 => ?_)
                      · refine r_iload dX9_tellsBy_234 rfl ?_
                        refine r_iret dX9_tellsBy_236 ?_
                        first
                          | (exfalso; omega)
                          | exact ⟨ivE (by rw [tI_ok hgr ha (by omega), eb]; first | rw [if_pos (by omega)] | rw [if_neg (by omega)]), rfl, gn, lt2, lg2, rfl, li3, kp2⟩
                      · refine r_iload dX9_tellsBy_222 rfl ?_
                        refine r_sipush dX9_tellsBy_224 rfl ?_
                        refine r_icmp_eq (tgt := 234) dX9_tellsBy_227 (by decide) ⟨by omega, by omega⟩ ⟨by omega, by omega⟩ (fun g227 => ?_) (fun g227 => ?_)
                        · refine r_iload dX9_tellsBy_234 rfl ?_
                          refine r_iret dX9_tellsBy_236 ?_
                          first
                            | (exfalso; omega)
                            | exact ⟨ivE (by rw [tI_ok hgr ha (by omega), eb]; first | rw [if_pos (by omega)] | rw [if_neg (by omega)]), rfl, gn, lt2, lg2, rfl, li3, kp2⟩
                        · refine r_iconst dX9_tellsBy_230 ?_
                          refine r_goto (tgt := 236) dX9_tellsBy_231 (by decide) ?_
                          refine r_iret dX9_tellsBy_236 ?_
                          first
                            | (exfalso; omega)
                            | exact ⟨ivE (by rw [tI_ok hgr ha (by omega), eb]; first | rw [if_pos (by omega)] | rw [if_neg (by omega)]), rfl, gn, lt2, lg2, rfl, li3, kp2⟩
                    · refine r_iload_n dX9_tellsBy_180 rfl rfl ?_
                      refine r_iconst dX9_tellsBy_181 ?_
                      refine r_icmp_ne (tgt := 189) dX9_tellsBy_182 (by decide) ⟨by omega, by omega⟩ ⟨by omega, by omega⟩ (fun g182 => ?_) (fun g182 => ?_)
                      · have eb : (if tiltI ki then (A0 * (100 + ti)).tdiv 100 else A0) = (A0 * (100 + ti)).tdiv 100 := by rw [if_pos (by unfold tiltI; simp; omega)]
                        refine r_iload_n dX9_tellsBy_189 rfl rfl ?_
                        refine r_istore (lv2 := [(0, _), (1, _), (2, _), (3, _), (4, _), (5, _), (6, _), (7, _), (8, _), (9, _)]) dX9_tellsBy_190 (by decide) rfl rfl ?_
                        refine r_sipush dX9_tellsBy_192 rfl ?_
                        refine r_iload dX9_tellsBy_195 rfl ?_
                        refine r_bipush dX9_tellsBy_197 rfl ?_
                        refine r_iload dX9_tellsBy_199 rfl ?_
                        refine r_iadd dX9_tellsBy_201 ?_
                        refine r_imul dX9_tellsBy_202 ?_
                        refine r_bipush dX9_tellsBy_203 rfl ?_
                        refine r_idiv dX9_tellsBy_205 ⟨by omega, by omega⟩ ⟨by omega, by omega⟩ (by omega) ⟨by omega, by omega⟩ ?_
                        refine r_iadd dX9_tellsBy_206 ?_
                        refine r_iload_n dX9_tellsBy_207 rfl rfl ?_
                        refine r_iadd dX9_tellsBy_208 ?_
                        refine r_iload dX9_tellsBy_209 rfl ?_
                        refine r_iadd dX9_tellsBy_211 ?_
                        refine r_callS [_] (s_X9_round (by omega)) dX9_tellsBy_212 cs_X9_262 sm_X9_round (by decide) (by decide) (by decide) rfl rfl (Nat.le_of_ble_eq_true rfl) (fun _ _ _ q => q.elim) (fun v n2 h2 q => ?_)
                        obtain ⟨rfl, rfl, hh⟩ := q
                        obtain rfl := hh.symm
                        refine ⟨rfl, ?_⟩
                        dsimp only [Option.toList, List.cons_append, List.nil_append]
                        refine r_istore (lv2 := [(0, _), (1, _), (2, _), (3, _), (4, _), (5, _), (6, _), (7, _), (8, _), (9, _), (10, _)]) dX9_tellsBy_215 (by decide) rfl rfl ?_
                        refine r_iload_n dX9_tellsBy_217 rfl rfl ?_
                        refine r_iconst dX9_tellsBy_218 ?_
                        refine r_icmp_ne (tgt := 234) dX9_tellsBy_219 (by decide) ⟨by omega, by omega⟩ ⟨by omega, by omega⟩ (fun g219 => ?_) (fun g219 => ?_)
                        · refine r_iload dX9_tellsBy_234 rfl ?_
                          refine r_iret dX9_tellsBy_236 ?_
                          first
                            | (exfalso; omega)
                            | exact ⟨ivE (by rw [tI_ok hgr ha (by omega), eb]; first | rw [if_pos (by omega)] | rw [if_neg (by omega)]), rfl, gn, lt2, lg2, rfl, li3, kp2⟩
                        · refine r_iload dX9_tellsBy_222 rfl ?_
                          refine r_sipush dX9_tellsBy_224 rfl ?_
                          refine r_icmp_eq (tgt := 234) dX9_tellsBy_227 (by decide) ⟨by omega, by omega⟩ ⟨by omega, by omega⟩ (fun g227 => ?_) (fun g227 => ?_)
                          · refine r_iload dX9_tellsBy_234 rfl ?_
                            refine r_iret dX9_tellsBy_236 ?_
                            first
                              | (exfalso; omega)
                              | exact ⟨ivE (by rw [tI_ok hgr ha (by omega), eb]; first | rw [if_pos (by omega)] | rw [if_neg (by omega)]), rfl, gn, lt2, lg2, rfl, li3, kp2⟩
                          · refine r_iconst dX9_tellsBy_230 ?_
                            refine r_goto (tgt := 236) dX9_tellsBy_231 (by decide) ?_
                            refine r_iret dX9_tellsBy_236 ?_
                            first
                              | (exfalso; omega)
                              | exact ⟨ivE (by rw [tI_ok hgr ha (by omega), eb]; first | rw [if_pos (by omega)] | rw [if_neg (by omega)]), rfl, gn, lt2, lg2, rfl, li3, kp2⟩
                      · have eb : (if tiltI ki then (A0 * (100 + ti)).tdiv 100 else A0) = (A0 * (100 + 0)).tdiv 100 := by rw [if_neg (by unfold tiltI; simp; omega), mul100]
                        refine r_iconst dX9_tellsBy_185 ?_
                        refine r_goto (tgt := 190) dX9_tellsBy_186 (by decide) ?_
                        refine r_istore (lv2 := [(0, _), (1, _), (2, _), (3, _), (4, _), (5, _), (6, _), (7, _), (8, _), (9, _)]) dX9_tellsBy_190 (by decide) rfl rfl ?_
                        refine r_sipush dX9_tellsBy_192 rfl ?_
                        refine r_iload dX9_tellsBy_195 rfl ?_
                        refine r_bipush dX9_tellsBy_197 rfl ?_
                        refine r_iload dX9_tellsBy_199 rfl ?_
                        refine r_iadd dX9_tellsBy_201 ?_
                        refine r_imul dX9_tellsBy_202 ?_
                        refine r_bipush dX9_tellsBy_203 rfl ?_
                        refine r_idiv dX9_tellsBy_205 ⟨by omega, by omega⟩ ⟨by omega, by omega⟩ (by omega) ⟨by omega, by omega⟩ ?_
                        refine r_iadd dX9_tellsBy_206 ?_
                        refine r_iload_n dX9_tellsBy_207 rfl rfl ?_
                        refine r_iadd dX9_tellsBy_208 ?_
                        refine r_iload dX9_tellsBy_209 rfl ?_
                        refine r_iadd dX9_tellsBy_211 ?_
                        refine r_callS [_] (s_X9_round (by omega)) dX9_tellsBy_212 cs_X9_262 sm_X9_round (by decide) (by decide) (by decide) rfl rfl (Nat.le_of_ble_eq_true rfl) (fun _ _ _ q => q.elim) (fun v n2 h2 q => ?_)
                        obtain ⟨rfl, rfl, hh⟩ := q
                        obtain rfl := hh.symm
                        refine ⟨rfl, ?_⟩
                        dsimp only [Option.toList, List.cons_append, List.nil_append]
                        refine r_istore (lv2 := [(0, _), (1, _), (2, _), (3, _), (4, _), (5, _), (6, _), (7, _), (8, _), (9, _), (10, _)]) dX9_tellsBy_215 (by decide) rfl rfl ?_
                        refine r_iload_n dX9_tellsBy_217 rfl rfl ?_
                        refine r_iconst dX9_tellsBy_218 ?_
                        refine r_icmp_ne (tgt := 234) dX9_tellsBy_219 (by decide) ⟨by omega, by omega⟩ ⟨by omega, by omega⟩ (fun g219 => ?_) (fun g219 => ?_)
                        · refine r_iload dX9_tellsBy_234 rfl ?_
                          refine r_iret dX9_tellsBy_236 ?_
                          first
                            | (exfalso; omega)
                            | exact ⟨ivE (by rw [tI_ok hgr ha (by omega), eb]; first | rw [if_pos (by omega)] | rw [if_neg (by omega)]), rfl, gn, lt2, lg2, rfl, li3, kp2⟩
                        · refine r_iload dX9_tellsBy_222 rfl ?_
                          refine r_sipush dX9_tellsBy_224 rfl ?_
                          refine r_icmp_eq (tgt := 234) dX9_tellsBy_227 (by decide) ⟨by omega, by omega⟩ ⟨by omega, by omega⟩ (fun g227 => ?_) (fun g227 => ?_)
                          · refine r_iload dX9_tellsBy_234 rfl ?_
                            refine r_iret dX9_tellsBy_236 ?_
                            first
                              | (exfalso; omega)
                              | exact ⟨ivE (by rw [tI_ok hgr ha (by omega), eb]; first | rw [if_pos (by omega)] | rw [if_neg (by omega)]), rfl, gn, lt2, lg2, rfl, li3, kp2⟩
                          · refine r_iconst dX9_tellsBy_230 ?_
                            refine r_goto (tgt := 236) dX9_tellsBy_231 (by decide) ?_
                            refine r_iret dX9_tellsBy_236 ?_
                            first
                              | (exfalso; omega)
                              | exact ⟨ivE (by rw [tI_ok hgr ha (by omega), eb]; first | rw [if_pos (by omega)] | rw [if_neg (by omega)]), rfl, gn, lt2, lg2, rfl, li3, kp2⟩
                  · refine r_iconst dX9_tellsBy_139 ?_
                    refine r_iret dX9_tellsBy_140 ?_
                    exact ⟨ivE (tI_no2 hgr (by
                      unfold angI mangI
                      rw [if_pos (by omega), if_pos (by
                        first
                          | exact Or.inl (by unfold moonI; simp; omega)
                          | exact Or.inr (Or.inr (by omega))
                          | exact Or.inr (Or.inl (lgm.mp (by rw [b2i_0, Bool.not_eq_false] at g120; exact g120))))])).symm, rfl, gn, lt2, lg2, rfl, li3, kp2⟩
        · refine r_iload dX9_tellsBy_86 rfl ?_
          refine r_sipush dX9_tellsBy_88 rfl ?_
          refine r_isub dX9_tellsBy_91 ?_
          refine r_goto (tgt := 97) dX9_tellsBy_92 (by decide) ?_
          first
            | rw [show (m - 720 - 48 * (day % 30)) % 1440 - 1440 = (aroundI (m - (720 + 48 * (day % 30)))) by unfold aroundI; omega]
            | rw [show (m - 720 - 48 * (day % 30)) % 1440 = (aroundI (m - (720 + 48 * (day % 30)))) by unfold aroundI; omega]
          have bar := around_B (m - (720 + 48 * (day % 30)))
          refine r_istore (lv2 := [(0, _), (1, _), (2, _), (3, _), (4, _), (5, _), (6, _), (7, _), (8, _), (9, _)]) dX9_tellsBy_97 (by decide) rfl rfl ?_
          refine r_iload dX9_tellsBy_99 rfl ?_
          refine r_bipush dX9_tellsBy_101 rfl ?_
          refine r_icmp_lt (tgt := 139) dX9_tellsBy_103 (by decide) ⟨by omega, by omega⟩ ⟨by omega, by omega⟩ (fun g103 => ?_) (fun g103 => ?_)
          · refine r_iconst dX9_tellsBy_139 ?_
            refine r_iret dX9_tellsBy_140 ?_
            exact ⟨ivE (tI_no2 hgr (by
              unfold angI mangI
              rw [if_pos (by omega), if_pos (by
                first
                  | exact Or.inl (by unfold moonI; simp; omega)
                  | exact Or.inr (Or.inr (by omega))
                  | exact Or.inr (Or.inl (lgm.mp (by rw [b2i_0, Bool.not_eq_false] at g120; exact g120))))])).symm, rfl, gn, lt2, lg2, rfl, li3, kp2⟩
          · refine r_iload dX9_tellsBy_106 rfl ?_
            refine r_bipush dX9_tellsBy_108 rfl ?_
            refine r_icmp_gt (tgt := 139) dX9_tellsBy_110 (by decide) ⟨by omega, by omega⟩ ⟨by omega, by omega⟩ (fun g110 => ?_) (fun g110 => ?_)
            · refine r_iconst dX9_tellsBy_139 ?_
              refine r_iret dX9_tellsBy_140 ?_
              exact ⟨ivE (tI_no2 hgr (by
                unfold angI mangI
                rw [if_pos (by omega), if_pos (by
                  first
                    | exact Or.inl (by unfold moonI; simp; omega)
                    | exact Or.inr (Or.inr (by omega))
                    | exact Or.inr (Or.inl (lgm.mp (by rw [b2i_0, Bool.not_eq_false] at g120; exact g120))))])).symm, rfl, gn, lt2, lg2, rfl, li3, kp2⟩
            · refine r_aload_n dX9_tellsBy_113 rfl rfl ?_
              refine r_get (fs := RGL _ _) dX9_tellsBy_114 fl_X9_45 (by decide) rfl rfl ?_
              refine r_iload dX9_tellsBy_117 rfl ?_
              refine r_zald dX9_tellsBy_119 (by decide) rfl (by omega) (by omega) (by decide) ?_
              rw [lv1]
              refine r_if_ne (tgt := 139) dX9_tellsBy_120 (by decide) ⟨by omega, by omega⟩ (fun g120 => ?_) (fun g120 => ?_)
              · refine r_iconst dX9_tellsBy_139 ?_
                refine r_iret dX9_tellsBy_140 ?_
                exact ⟨ivE (tI_no2 hgr (by
                  unfold angI mangI
                  rw [if_pos (by omega), if_pos (by
                    first
                      | exact Or.inl (by unfold moonI; simp; omega)
                      | exact Or.inr (Or.inr (by omega))
                      | exact Or.inr (Or.inl (lgm.mp (by rw [b2i_0, Bool.not_eq_false] at g120; exact g120))))])).symm, rfl, gn, lt2, lg2, rfl, li3, kp2⟩
              · refine r_iload dX9_tellsBy_123 rfl ?_
                refine r_sipush dX9_tellsBy_125 rfl ?_
                refine r_icmp_gt (tgt := 139) dX9_tellsBy_128 (by decide) ⟨by omega, by omega⟩ ⟨by omega, by omega⟩ (fun g128 => ?_) (fun g128 => ?_)
                · refine r_iconst dX9_tellsBy_139 ?_
                  refine r_iret dX9_tellsBy_140 ?_
                  exact ⟨ivE (tI_no2 hgr (by
                    unfold angI mangI
                    rw [if_pos (by omega), if_pos (by
                      first
                        | exact Or.inl (by unfold moonI; simp; omega)
                        | exact Or.inr (Or.inr (by omega))
                        | exact Or.inr (Or.inl (lgm.mp (by rw [b2i_0, Bool.not_eq_false] at g120; exact g120))))])).symm, rfl, gn, lt2, lg2, rfl, li3, kp2⟩
                · refine r_iload dX9_tellsBy_131 rfl ?_
                  refine r_sipush dX9_tellsBy_133 rfl ?_
                  refine r_icmp_ge (tgt := 141) dX9_tellsBy_136 (by decide) ⟨by omega, by omega⟩ ⟨by omega, by omega⟩ (fun g136 => ?_) (fun g136 => ?_)
                  · refine r_goto (tgt := 175) dX9_tellsBy_141 (by decide) ?_
                    first
                      | (have ha : angI ki day m (noonI L day) (halfI sw day) (cUp cd cf ct day m nc.toNat) = (aroundI (m - (720 + 48 * (day % 30)))) := by
                           unfold angI mangI
                           rw [if_pos (by omega), if_neg (by
                             rintro (z | z | z)
                             · unfold moonI at z; simp at z; omega
                             · rw [b2i_0] at g120; rw [← lgm, g120] at z; exact absurd z (by decide)
                             · omega)]
                         have hA : -600 ≤ (aroundI (m - (720 + 48 * (day % 30)))) ∧ (aroundI (m - (720 + 48 * (day % 30)))) ≤ 600 := by omega
                         obtain ⟨A0, eA⟩ : ∃ z, (aroundI (m - (720 + 48 * (day % 30)))) = z := ⟨_, rfl⟩
                         rw [eA] at ha hA ⊢)
                      | (have hlt : lgB sw L day m.toNat = true ∧ (cUp cd cf ct day m nc.toNat) = false := by
                           rw [b2i_0, Bool.not_eq_false, Bool.and_eq_true, Bool.not_eq_true'] at g151
                           exact g151
                         have hll := lgm.mp hlt.1
                         have ha : angI ki day m (noonI L day) (halfI sw day) (cUp cd cf ct day m nc.toNat) = (m - noonI L day) := by
                           unfold angI sunI
                           rw [if_neg (by omega), if_neg (by omega), if_neg (by
                             rintro (z | z | z | z)
                             · omega
                             · rw [hlt.2] at z; cases z
                             · omega
                             · omega)]
                         have hA : -600 ≤ (m - noonI L day) ∧ (m - noonI L day) ≤ 600 := by omega
                         obtain ⟨A0, eA⟩ : ∃ z, (m - noonI L day) = z := ⟨_, rfl⟩
                         rw [eA] at ha hA ⊢)
                    have bb1 := bend_B (a := A0) (t := ti) hA hti
                    have bb2 := bend_B (a := A0) (t := 0) hA (by decide)
                    refine r_iload_n dX9_tellsBy_175 rfl rfl ?_
                    refine r_iconst dX9_tellsBy_176 ?_
                    refine r_icmp_eq (tgt := 185) dX9_tellsBy_177 (by decide) ⟨by omega, by omega⟩ ⟨by omega, by omega⟩ (fun g177 => ?_) (fun g177 => ?_)
                    · have eb : (if tiltI ki then (A0 * (100 + ti)).tdiv 100 else A0) = (A0 * (100 + 0)).tdiv 100 := by rw [if_neg (by unfold tiltI; simp; omega), mul100]
                      refine r_iconst dX9_tellsBy_185 ?_
                      refine r_goto (tgt := 190) dX9_tellsBy_186 (by decide) ?_
                      refine r_istore (lv2 := [(0, _), (1, _), (2, _), (3, _), (4, _), (5, _), (6, _), (7, _), (8, _), (9, _)]) dX9_tellsBy_190 (by decide) rfl rfl ?_
                      refine r_sipush dX9_tellsBy_192 rfl ?_
                      refine r_iload dX9_tellsBy_195 rfl ?_
                      refine r_bipush dX9_tellsBy_197 rfl ?_
                      refine r_iload dX9_tellsBy_199 rfl ?_
                      refine r_iadd dX9_tellsBy_201 ?_
                      refine r_imul dX9_tellsBy_202 ?_
                      refine r_bipush dX9_tellsBy_203 rfl ?_
                      refine r_idiv dX9_tellsBy_205 ⟨by omega, by omega⟩ ⟨by omega, by omega⟩ (by omega) ⟨by omega, by omega⟩ ?_
                      refine r_iadd dX9_tellsBy_206 ?_
                      refine r_iload_n dX9_tellsBy_207 rfl rfl ?_
                      refine r_iadd dX9_tellsBy_208 ?_
                      refine r_iload dX9_tellsBy_209 rfl ?_
                      refine r_iadd dX9_tellsBy_211 ?_
                      refine r_callS [_] (s_X9_round (by omega)) dX9_tellsBy_212 cs_X9_262 sm_X9_round (by decide) (by decide) (by decide) rfl rfl (Nat.le_of_ble_eq_true rfl) (fun _ _ _ q => q.elim) (fun v n2 h2 q => ?_)
                      obtain ⟨rfl, rfl, hh⟩ := q
                      obtain rfl := hh.symm
                      refine ⟨rfl, ?_⟩
                      dsimp only [Option.toList, List.cons_append, List.nil_append]
                      refine r_istore (lv2 := [(0, _), (1, _), (2, _), (3, _), (4, _), (5, _), (6, _), (7, _), (8, _), (9, _), (10, _)]) dX9_tellsBy_215 (by decide) rfl rfl ?_
                      refine r_iload_n dX9_tellsBy_217 rfl rfl ?_
                      refine r_iconst dX9_tellsBy_218 ?_
                      refine r_icmp_ne (tgt := 234) dX9_tellsBy_219 (by decide) ⟨by omega, by omega⟩ ⟨by omega, by omega⟩ (fun g219 => ?_) (fun g219 => ?_)
                      · refine r_iload dX9_tellsBy_234 rfl ?_
                        refine r_iret dX9_tellsBy_236 ?_
                        first
                          | (exfalso; omega)
                          | exact ⟨ivE (by rw [tI_ok hgr ha (by omega), eb]; first | rw [if_pos (by omega)] | rw [if_neg (by omega)]), rfl, gn, lt2, lg2, rfl, li3, kp2⟩
                      · refine r_iload dX9_tellsBy_222 rfl ?_
                        refine r_sipush dX9_tellsBy_224 rfl ?_
                        refine r_icmp_eq (tgt := 234) dX9_tellsBy_227 (by decide) ⟨by omega, by omega⟩ ⟨by omega, by omega⟩ (fun g227 => ?_) (fun g227 => ?_)
                        · refine r_iload dX9_tellsBy_234 rfl ?_
                          refine r_iret dX9_tellsBy_236 ?_
                          first
                            | (exfalso; omega)
                            | exact ⟨ivE (by rw [tI_ok hgr ha (by omega), eb]; first | rw [if_pos (by omega)] | rw [if_neg (by omega)]), rfl, gn, lt2, lg2, rfl, li3, kp2⟩
                        · refine r_iconst dX9_tellsBy_230 ?_
                          refine r_goto (tgt := 236) dX9_tellsBy_231 (by decide) ?_
                          refine r_iret dX9_tellsBy_236 ?_
                          first
                            | (exfalso; omega)
                            | exact ⟨ivE (by rw [tI_ok hgr ha (by omega), eb]; first | rw [if_pos (by omega)] | rw [if_neg (by omega)]), rfl, gn, lt2, lg2, rfl, li3, kp2⟩
                    · refine r_iload_n dX9_tellsBy_180 rfl rfl ?_
                      refine r_iconst dX9_tellsBy_181 ?_
                      refine r_icmp_ne (tgt := 189) dX9_tellsBy_182 (by decide) ⟨by omega, by omega⟩ ⟨by omega, by omega⟩ (fun g182 => ?_) (fun g182 => ?_)
                      · have eb : (if tiltI ki then (A0 * (100 + ti)).tdiv 100 else A0) = (A0 * (100 + ti)).tdiv 100 := by rw [if_pos (by unfold tiltI; simp; omega)]
                        refine r_iload_n dX9_tellsBy_189 rfl rfl ?_
                        refine r_istore (lv2 := [(0, _), (1, _), (2, _), (3, _), (4, _), (5, _), (6, _), (7, _), (8, _), (9, _)]) dX9_tellsBy_190 (by decide) rfl rfl ?_
                        refine r_sipush dX9_tellsBy_192 rfl ?_
                        refine r_iload dX9_tellsBy_195 rfl ?_
                        refine r_bipush dX9_tellsBy_197 rfl ?_
                        refine r_iload dX9_tellsBy_199 rfl ?_
                        refine r_iadd dX9_tellsBy_201 ?_
                        refine r_imul dX9_tellsBy_202 ?_
                        refine r_bipush dX9_tellsBy_203 rfl ?_
                        refine r_idiv dX9_tellsBy_205 ⟨by omega, by omega⟩ ⟨by omega, by omega⟩ (by omega) ⟨by omega, by omega⟩ ?_
                        refine r_iadd dX9_tellsBy_206 ?_
                        refine r_iload_n dX9_tellsBy_207 rfl rfl ?_
                        refine r_iadd dX9_tellsBy_208 ?_
                        refine r_iload dX9_tellsBy_209 rfl ?_
                        refine r_iadd dX9_tellsBy_211 ?_
                        refine r_callS [_] (s_X9_round (by omega)) dX9_tellsBy_212 cs_X9_262 sm_X9_round (by decide) (by decide) (by decide) rfl rfl (Nat.le_of_ble_eq_true rfl) (fun _ _ _ q => q.elim) (fun v n2 h2 q => ?_)
                        obtain ⟨rfl, rfl, hh⟩ := q
                        obtain rfl := hh.symm
                        refine ⟨rfl, ?_⟩
                        dsimp only [Option.toList, List.cons_append, List.nil_append]
                        refine r_istore (lv2 := [(0, _), (1, _), (2, _), (3, _), (4, _), (5, _), (6, _), (7, _), (8, _), (9, _), (10, _)]) dX9_tellsBy_215 (by decide) rfl rfl ?_
                        refine r_iload_n dX9_tellsBy_217 rfl rfl ?_
                        refine r_iconst dX9_tellsBy_218 ?_
                        refine r_icmp_ne (tgt := 234) dX9_tellsBy_219 (by decide) ⟨by omega, by omega⟩ ⟨by omega, by omega⟩ (fun g219 => ?_) (fun g219 => ?_)
                        · refine r_iload dX9_tellsBy_234 rfl ?_
                          refine r_iret dX9_tellsBy_236 ?_
                          first
                            | (exfalso; omega)
                            | exact ⟨ivE (by rw [tI_ok hgr ha (by omega), eb]; first | rw [if_pos (by omega)] | rw [if_neg (by omega)]), rfl, gn, lt2, lg2, rfl, li3, kp2⟩
                        · refine r_iload dX9_tellsBy_222 rfl ?_
                          refine r_sipush dX9_tellsBy_224 rfl ?_
                          refine r_icmp_eq (tgt := 234) dX9_tellsBy_227 (by decide) ⟨by omega, by omega⟩ ⟨by omega, by omega⟩ (fun g227 => ?_) (fun g227 => ?_)
                          · refine r_iload dX9_tellsBy_234 rfl ?_
                            refine r_iret dX9_tellsBy_236 ?_
                            first
                              | (exfalso; omega)
                              | exact ⟨ivE (by rw [tI_ok hgr ha (by omega), eb]; first | rw [if_pos (by omega)] | rw [if_neg (by omega)]), rfl, gn, lt2, lg2, rfl, li3, kp2⟩
                          · refine r_iconst dX9_tellsBy_230 ?_
                            refine r_goto (tgt := 236) dX9_tellsBy_231 (by decide) ?_
                            refine r_iret dX9_tellsBy_236 ?_
                            first
                              | (exfalso; omega)
                              | exact ⟨ivE (by rw [tI_ok hgr ha (by omega), eb]; first | rw [if_pos (by omega)] | rw [if_neg (by omega)]), rfl, gn, lt2, lg2, rfl, li3, kp2⟩
                      · have eb : (if tiltI ki then (A0 * (100 + ti)).tdiv 100 else A0) = (A0 * (100 + 0)).tdiv 100 := by rw [if_neg (by unfold tiltI; simp; omega), mul100]
                        refine r_iconst dX9_tellsBy_185 ?_
                        refine r_goto (tgt := 190) dX9_tellsBy_186 (by decide) ?_
                        refine r_istore (lv2 := [(0, _), (1, _), (2, _), (3, _), (4, _), (5, _), (6, _), (7, _), (8, _), (9, _)]) dX9_tellsBy_190 (by decide) rfl rfl ?_
                        refine r_sipush dX9_tellsBy_192 rfl ?_
                        refine r_iload dX9_tellsBy_195 rfl ?_
                        refine r_bipush dX9_tellsBy_197 rfl ?_
                        refine r_iload dX9_tellsBy_199 rfl ?_
                        refine r_iadd dX9_tellsBy_201 ?_
                        refine r_imul dX9_tellsBy_202 ?_
                        refine r_bipush dX9_tellsBy_203 rfl ?_
                        refine r_idiv dX9_tellsBy_205 ⟨by omega, by omega⟩ ⟨by omega, by omega⟩ (by omega) ⟨by omega, by omega⟩ ?_
                        refine r_iadd dX9_tellsBy_206 ?_
                        refine r_iload_n dX9_tellsBy_207 rfl rfl ?_
                        refine r_iadd dX9_tellsBy_208 ?_
                        refine r_iload dX9_tellsBy_209 rfl ?_
                        refine r_iadd dX9_tellsBy_211 ?_
                        refine r_callS [_] (s_X9_round (by omega)) dX9_tellsBy_212 cs_X9_262 sm_X9_round (by decide) (by decide) (by decide) rfl rfl (Nat.le_of_ble_eq_true rfl) (fun _ _ _ q => q.elim) (fun v n2 h2 q => ?_)
                        obtain ⟨rfl, rfl, hh⟩ := q
                        obtain rfl := hh.symm
                        refine ⟨rfl, ?_⟩
                        dsimp only [Option.toList, List.cons_append, List.nil_append]
                        refine r_istore (lv2 := [(0, _), (1, _), (2, _), (3, _), (4, _), (5, _), (6, _), (7, _), (8, _), (9, _), (10, _)]) dX9_tellsBy_215 (by decide) rfl rfl ?_
                        refine r_iload_n dX9_tellsBy_217 rfl rfl ?_
                        refine r_iconst dX9_tellsBy_218 ?_
                        refine r_icmp_ne (tgt := 234) dX9_tellsBy_219 (by decide) ⟨by omega, by omega⟩ ⟨by omega, by omega⟩ (fun g219 => ?_) (fun g219 => ?_)
                        · refine r_iload dX9_tellsBy_234 rfl ?_
                          refine r_iret dX9_tellsBy_236 ?_
                          first
                            | (exfalso; omega)
                            | exact ⟨ivE (by rw [tI_ok hgr ha (by omega), eb]; first | rw [if_pos (by omega)] | rw [if_neg (by omega)]), rfl, gn, lt2, lg2, rfl, li3, kp2⟩
                        · refine r_iload dX9_tellsBy_222 rfl ?_
                          refine r_sipush dX9_tellsBy_224 rfl ?_
                          refine r_icmp_eq (tgt := 234) dX9_tellsBy_227 (by decide) ⟨by omega, by omega⟩ ⟨by omega, by omega⟩ (fun g227 => ?_) (fun g227 => ?_)
                          · refine r_iload dX9_tellsBy_234 rfl ?_
                            refine r_iret dX9_tellsBy_236 ?_
                            first
                              | (exfalso; omega)
                              | exact ⟨ivE (by rw [tI_ok hgr ha (by omega), eb]; first | rw [if_pos (by omega)] | rw [if_neg (by omega)]), rfl, gn, lt2, lg2, rfl, li3, kp2⟩
                          · refine r_iconst dX9_tellsBy_230 ?_
                            refine r_goto (tgt := 236) dX9_tellsBy_231 (by decide) ?_
                            refine r_iret dX9_tellsBy_236 ?_
                            first
                              | (exfalso; omega)
                              | exact ⟨ivE (by rw [tI_ok hgr ha (by omega), eb]; first | rw [if_pos (by omega)] | rw [if_neg (by omega)]), rfl, gn, lt2, lg2, rfl, li3, kp2⟩
                  · refine r_iconst dX9_tellsBy_139 ?_
                    refine r_iret dX9_tellsBy_140 ?_
                    exact ⟨ivE (tI_no2 hgr (by
                      unfold angI mangI
                      rw [if_pos (by omega), if_pos (by
                        first
                          | exact Or.inl (by unfold moonI; simp; omega)
                          | exact Or.inr (Or.inr (by omega))
                          | exact Or.inr (Or.inl (lgm.mp (by rw [b2i_0, Bool.not_eq_false] at g120; exact g120))))])).symm, rfl, gn, lt2, lg2, rfl, li3, kp2⟩
    · refine r_iload dX9_tellsBy_23 rfl ?_
      refine r_iload dX9_tellsBy_25 rfl ?_
      refine r_icmp_lt (tgt := 32) dX9_tellsBy_27 (by decide) ⟨by omega, by omega⟩ ⟨by omega, by omega⟩ (fun g27 => ?_) (fun g27 => ?_)
      · refine r_aload_n dX9_tellsBy_32 rfl rfl ?_
        refine r_iload dX9_tellsBy_33 rfl ?_
        refine r_callV 68 [_] (s_X9_lights c68 c69 c70 c71 c77 c78 c79 tr pi li hd) dX9_tellsBy_35 cs_X9_265 im_X9_lights (by decide) c68 rfl (by decide) (by decide) (by decide) rfl rfl (Nat.le_of_ble_eq_true rfl) (fun _ _ _ q => q.elim) (fun v n2 h2 q => ?_)
        obtain ⟨rfl, rfl, gn, lt2, lg2, rfl, d30, li2, kp2⟩ := q
        have tr2 := tell_kp tr kp2
        obtain ⟨lv1, lv2⟩ := (li2.resolve_left (by omega)).2 m.toNat (by omega)
        rw [show ((m.toNat : Nat) : Int) = m by omega] at lv2
        have bl := b2i_01 (lgB sw L day m.toNat)
        have bl2 := b2i_01 (lgB sw L day m.toNat && !(cUp cd cf ct day m nc.toNat))
        have lgm : lgB sw L day m.toNat = true ↔ ((m - noonI L day).natAbs : Int) ≤ halfI sw day := by
          unfold lgB
          rw [decide_eq_true_eq, show ((m.toNat : Nat) : Int) = m by omega]
        have li3 : LitR (gn 30) lt2 lg2 sw nc L cf ct cd := by rw [d30]; exact li2
        have hgr : grownI gr ki day = false := by
          unfold grownI
          by_cases c1 : gr = -1
          · simp [c1]
          · have : ¬ gr ≤ day := by omega
            simp [this]
        refine ⟨rfl, ?_⟩
        dsimp only [Option.toList, List.cons_append, List.nil_append]
        refine r_iload dX9_tellsBy_38 rfl ?_
        refine r_aload_n dX9_tellsBy_40 rfl rfl ?_
        refine r_iload dX9_tellsBy_41 rfl ?_
        refine r_callV 68 [_] (s_X9_noon (by rfl) (by exact c69) (by exact c70) (by exact c71) (by rfl) (by rfl) (by exact c79) tr2 pi hd) dX9_tellsBy_43 cs_X9_253 im_X9_noon (by decide) rfl rfl (by decide) (by decide) (by decide) rfl rfl (Nat.le_of_ble_eq_true rfl) (fun _ _ _ q => q.elim) (fun v n2 h2 q => ?_)
        obtain ⟨rfl, rfl, hh⟩ := q
        obtain rfl := hh.symm
        refine ⟨rfl, ?_⟩
        dsimp only [Option.toList, List.cons_append, List.nil_append]
        refine r_isub dX9_tellsBy_46 ?_
        refine r_istore (lv2 := [(0, _), (1, _), (2, _), (3, _), (4, _), (5, _), (6, _), (7, _), (8, _)]) dX9_tellsBy_47 (by decide) rfl rfl ?_
        refine r_iload_n dX9_tellsBy_49 rfl rfl ?_
        refine r_iconst dX9_tellsBy_50 ?_
        refine r_icmp_ne (tgt := 144) dX9_tellsBy_51 (by decide) ⟨by omega, by omega⟩ ⟨by omega, by omega⟩ (fun g51 => ?_) (fun g51 => ?_)
        · refine r_aload_n dX9_tellsBy_144 rfl rfl ?_
          refine r_get (fs := RGL _ _) dX9_tellsBy_145 fl_X9_41 (by decide) rfl rfl ?_
          refine r_iload dX9_tellsBy_148 rfl ?_
          refine r_zald dX9_tellsBy_150 (by decide) rfl (by omega) (by omega) (by decide) ?_
          rw [lv2]
          refine r_if_eq (tgt := 173) dX9_tellsBy_151 (by decide) ⟨by omega, by omega⟩ (fun g151 => ?_) (fun g151 => ?_)
          · refine r_iconst dX9_tellsBy_173 ?_
            refine r_iret dX9_tellsBy_174 ?_
            exact ⟨ivE (tI_no2 hgr (by
              unfold angI sunI
              rw [if_neg (by omega), if_neg (by omega), if_pos (by
                first
                  | exact Or.inr (Or.inr (Or.inl (by omega)))
                  | exact Or.inr (Or.inr (Or.inr (by omega)))
                  | (rw [b2i_0, Bool.and_eq_false_iff, Bool.not_eq_false'] at g151
                     rcases g151 with z | z
                     · refine Or.inl ?_
                       have hn9 : ¬ ((m - noonI L day).natAbs : Int) ≤ halfI sw day := fun q => absurd (lgm.mpr q) (by rw [z]; decide)
                       omega
                     · exact Or.inr (Or.inl z)))])).symm, rfl, gn, lt2, lg2, rfl, li3, kp2⟩
          · refine r_iload_n dX9_tellsBy_154 rfl rfl ?_
            refine r_if_ne (tgt := 163) dX9_tellsBy_155 (by decide) ⟨by omega, by omega⟩ (fun g155 => ?_) (fun g155 => ?_)
            · refine r_iload_n dX9_tellsBy_163 rfl rfl ?_
              refine r_iconst dX9_tellsBy_164 ?_
              refine r_icmp_ne (tgt := 175) dX9_tellsBy_165 (by decide) ⟨by omega, by omega⟩ ⟨by omega, by omega⟩ (fun g165 => ?_) (fun g165 => ?_)
              · first
                  | (have ha : angI ki day m (noonI L day) (halfI sw day) (cUp cd cf ct day m nc.toNat) = (aroundI (m - (720 + 48 * (day % 30)))) := by
                       unfold angI mangI
                       rw [if_pos (by omega), if_neg (by
                         rintro (z | z | z)
                         · unfold moonI at z; simp at z; omega
                         · rw [b2i_0] at g120; rw [← lgm, g120] at z; exact absurd z (by decide)
                         · omega)]
                     have hA : -600 ≤ (aroundI (m - (720 + 48 * (day % 30)))) ∧ (aroundI (m - (720 + 48 * (day % 30)))) ≤ 600 := by omega
                     obtain ⟨A0, eA⟩ : ∃ z, (aroundI (m - (720 + 48 * (day % 30)))) = z := ⟨_, rfl⟩
                     rw [eA] at ha hA ⊢)
                  | (have hlt : lgB sw L day m.toNat = true ∧ (cUp cd cf ct day m nc.toNat) = false := by
                       rw [b2i_0, Bool.not_eq_false, Bool.and_eq_true, Bool.not_eq_true'] at g151
                       exact g151
                     have hll := lgm.mp hlt.1
                     have ha : angI ki day m (noonI L day) (halfI sw day) (cUp cd cf ct day m nc.toNat) = (m - noonI L day) := by
                       unfold angI sunI
                       rw [if_neg (by omega), if_neg (by omega), if_neg (by
                         rintro (z | z | z | z)
                         · omega
                         · rw [hlt.2] at z; cases z
                         · omega
                         · omega)]
                     have hA : -600 ≤ (m - noonI L day) ∧ (m - noonI L day) ≤ 600 := by omega
                     obtain ⟨A0, eA⟩ : ∃ z, (m - noonI L day) = z := ⟨_, rfl⟩
                     rw [eA] at ha hA ⊢)
                have bb1 := bend_B (a := A0) (t := ti) hA hti
                have bb2 := bend_B (a := A0) (t := 0) hA (by decide)
                refine r_iload_n dX9_tellsBy_175 rfl rfl ?_
                refine r_iconst dX9_tellsBy_176 ?_
                refine r_icmp_eq (tgt := 185) dX9_tellsBy_177 (by decide) ⟨by omega, by omega⟩ ⟨by omega, by omega⟩ (fun g177 => ?_) (fun g177 => ?_)
                · have eb : (if tiltI ki then (A0 * (100 + ti)).tdiv 100 else A0) = (A0 * (100 + 0)).tdiv 100 := by rw [if_neg (by unfold tiltI; simp; omega), mul100]
                  refine r_iconst dX9_tellsBy_185 ?_
                  refine r_goto (tgt := 190) dX9_tellsBy_186 (by decide) ?_
                  refine r_istore (lv2 := [(0, _), (1, _), (2, _), (3, _), (4, _), (5, _), (6, _), (7, _), (8, _), (9, _)]) dX9_tellsBy_190 (by decide) rfl rfl ?_
                  refine r_sipush dX9_tellsBy_192 rfl ?_
                  refine r_iload dX9_tellsBy_195 rfl ?_
                  refine r_bipush dX9_tellsBy_197 rfl ?_
                  refine r_iload dX9_tellsBy_199 rfl ?_
                  refine r_iadd dX9_tellsBy_201 ?_
                  refine r_imul dX9_tellsBy_202 ?_
                  refine r_bipush dX9_tellsBy_203 rfl ?_
                  refine r_idiv dX9_tellsBy_205 ⟨by omega, by omega⟩ ⟨by omega, by omega⟩ (by omega) ⟨by omega, by omega⟩ ?_
                  refine r_iadd dX9_tellsBy_206 ?_
                  refine r_iload_n dX9_tellsBy_207 rfl rfl ?_
                  refine r_iadd dX9_tellsBy_208 ?_
                  refine r_iload dX9_tellsBy_209 rfl ?_
                  refine r_iadd dX9_tellsBy_211 ?_
                  refine r_callS [_] (s_X9_round (by omega)) dX9_tellsBy_212 cs_X9_262 sm_X9_round (by decide) (by decide) (by decide) rfl rfl (Nat.le_of_ble_eq_true rfl) (fun _ _ _ q => q.elim) (fun v n2 h2 q => ?_)
                  obtain ⟨rfl, rfl, hh⟩ := q
                  obtain rfl := hh.symm
                  refine ⟨rfl, ?_⟩
                  dsimp only [Option.toList, List.cons_append, List.nil_append]
                  refine r_istore (lv2 := [(0, _), (1, _), (2, _), (3, _), (4, _), (5, _), (6, _), (7, _), (8, _), (9, _), (10, _)]) dX9_tellsBy_215 (by decide) rfl rfl ?_
                  refine r_iload_n dX9_tellsBy_217 rfl rfl ?_
                  refine r_iconst dX9_tellsBy_218 ?_
                  refine r_icmp_ne (tgt := 234) dX9_tellsBy_219 (by decide) ⟨by omega, by omega⟩ ⟨by omega, by omega⟩ (fun g219 => ?_) (fun g219 => ?_)
                  · refine r_iload dX9_tellsBy_234 rfl ?_
                    refine r_iret dX9_tellsBy_236 ?_
                    first
                      | (exfalso; omega)
                      | exact ⟨ivE (by rw [tI_ok hgr ha (by omega), eb]; first | rw [if_pos (by omega)] | rw [if_neg (by omega)]), rfl, gn, lt2, lg2, rfl, li3, kp2⟩
                  · refine r_iload dX9_tellsBy_222 rfl ?_
                    refine r_sipush dX9_tellsBy_224 rfl ?_
                    refine r_icmp_eq (tgt := 234) dX9_tellsBy_227 (by decide) ⟨by omega, by omega⟩ ⟨by omega, by omega⟩ (fun g227 => ?_) (fun g227 => ?_)
                    · refine r_iload dX9_tellsBy_234 rfl ?_
                      refine r_iret dX9_tellsBy_236 ?_
                      first
                        | (exfalso; omega)
                        | exact ⟨ivE (by rw [tI_ok hgr ha (by omega), eb]; first | rw [if_pos (by omega)] | rw [if_neg (by omega)]), rfl, gn, lt2, lg2, rfl, li3, kp2⟩
                    · refine r_iconst dX9_tellsBy_230 ?_
                      refine r_goto (tgt := 236) dX9_tellsBy_231 (by decide) ?_
                      refine r_iret dX9_tellsBy_236 ?_
                      first
                        | (exfalso; omega)
                        | exact ⟨ivE (by rw [tI_ok hgr ha (by omega), eb]; first | rw [if_pos (by omega)] | rw [if_neg (by omega)]), rfl, gn, lt2, lg2, rfl, li3, kp2⟩
                · refine r_iload_n dX9_tellsBy_180 rfl rfl ?_
                  refine r_iconst dX9_tellsBy_181 ?_
                  refine r_icmp_ne (tgt := 189) dX9_tellsBy_182 (by decide) ⟨by omega, by omega⟩ ⟨by omega, by omega⟩ (fun g182 => ?_) (fun g182 => ?_)
                  · have eb : (if tiltI ki then (A0 * (100 + ti)).tdiv 100 else A0) = (A0 * (100 + ti)).tdiv 100 := by rw [if_pos (by unfold tiltI; simp; omega)]
                    refine r_iload_n dX9_tellsBy_189 rfl rfl ?_
                    refine r_istore (lv2 := [(0, _), (1, _), (2, _), (3, _), (4, _), (5, _), (6, _), (7, _), (8, _), (9, _)]) dX9_tellsBy_190 (by decide) rfl rfl ?_
                    refine r_sipush dX9_tellsBy_192 rfl ?_
                    refine r_iload dX9_tellsBy_195 rfl ?_
                    refine r_bipush dX9_tellsBy_197 rfl ?_
                    refine r_iload dX9_tellsBy_199 rfl ?_
                    refine r_iadd dX9_tellsBy_201 ?_
                    refine r_imul dX9_tellsBy_202 ?_
                    refine r_bipush dX9_tellsBy_203 rfl ?_
                    refine r_idiv dX9_tellsBy_205 ⟨by omega, by omega⟩ ⟨by omega, by omega⟩ (by omega) ⟨by omega, by omega⟩ ?_
                    refine r_iadd dX9_tellsBy_206 ?_
                    refine r_iload_n dX9_tellsBy_207 rfl rfl ?_
                    refine r_iadd dX9_tellsBy_208 ?_
                    refine r_iload dX9_tellsBy_209 rfl ?_
                    refine r_iadd dX9_tellsBy_211 ?_
                    refine r_callS [_] (s_X9_round (by omega)) dX9_tellsBy_212 cs_X9_262 sm_X9_round (by decide) (by decide) (by decide) rfl rfl (Nat.le_of_ble_eq_true rfl) (fun _ _ _ q => q.elim) (fun v n2 h2 q => ?_)
                    obtain ⟨rfl, rfl, hh⟩ := q
                    obtain rfl := hh.symm
                    refine ⟨rfl, ?_⟩
                    dsimp only [Option.toList, List.cons_append, List.nil_append]
                    refine r_istore (lv2 := [(0, _), (1, _), (2, _), (3, _), (4, _), (5, _), (6, _), (7, _), (8, _), (9, _), (10, _)]) dX9_tellsBy_215 (by decide) rfl rfl ?_
                    refine r_iload_n dX9_tellsBy_217 rfl rfl ?_
                    refine r_iconst dX9_tellsBy_218 ?_
                    refine r_icmp_ne (tgt := 234) dX9_tellsBy_219 (by decide) ⟨by omega, by omega⟩ ⟨by omega, by omega⟩ (fun g219 => ?_) (fun g219 => ?_)
                    · refine r_iload dX9_tellsBy_234 rfl ?_
                      refine r_iret dX9_tellsBy_236 ?_
                      first
                        | (exfalso; omega)
                        | exact ⟨ivE (by rw [tI_ok hgr ha (by omega), eb]; first | rw [if_pos (by omega)] | rw [if_neg (by omega)]), rfl, gn, lt2, lg2, rfl, li3, kp2⟩
                    · refine r_iload dX9_tellsBy_222 rfl ?_
                      refine r_sipush dX9_tellsBy_224 rfl ?_
                      refine r_icmp_eq (tgt := 234) dX9_tellsBy_227 (by decide) ⟨by omega, by omega⟩ ⟨by omega, by omega⟩ (fun g227 => ?_) (fun g227 => ?_)
                      · refine r_iload dX9_tellsBy_234 rfl ?_
                        refine r_iret dX9_tellsBy_236 ?_
                        first
                          | (exfalso; omega)
                          | exact ⟨ivE (by rw [tI_ok hgr ha (by omega), eb]; first | rw [if_pos (by omega)] | rw [if_neg (by omega)]), rfl, gn, lt2, lg2, rfl, li3, kp2⟩
                      · refine r_iconst dX9_tellsBy_230 ?_
                        refine r_goto (tgt := 236) dX9_tellsBy_231 (by decide) ?_
                        refine r_iret dX9_tellsBy_236 ?_
                        first
                          | (exfalso; omega)
                          | exact ⟨ivE (by rw [tI_ok hgr ha (by omega), eb]; first | rw [if_pos (by omega)] | rw [if_neg (by omega)]), rfl, gn, lt2, lg2, rfl, li3, kp2⟩
                  · have eb : (if tiltI ki then (A0 * (100 + ti)).tdiv 100 else A0) = (A0 * (100 + 0)).tdiv 100 := by rw [if_neg (by unfold tiltI; simp; omega), mul100]
                    refine r_iconst dX9_tellsBy_185 ?_
                    refine r_goto (tgt := 190) dX9_tellsBy_186 (by decide) ?_
                    refine r_istore (lv2 := [(0, _), (1, _), (2, _), (3, _), (4, _), (5, _), (6, _), (7, _), (8, _), (9, _)]) dX9_tellsBy_190 (by decide) rfl rfl ?_
                    refine r_sipush dX9_tellsBy_192 rfl ?_
                    refine r_iload dX9_tellsBy_195 rfl ?_
                    refine r_bipush dX9_tellsBy_197 rfl ?_
                    refine r_iload dX9_tellsBy_199 rfl ?_
                    refine r_iadd dX9_tellsBy_201 ?_
                    refine r_imul dX9_tellsBy_202 ?_
                    refine r_bipush dX9_tellsBy_203 rfl ?_
                    refine r_idiv dX9_tellsBy_205 ⟨by omega, by omega⟩ ⟨by omega, by omega⟩ (by omega) ⟨by omega, by omega⟩ ?_
                    refine r_iadd dX9_tellsBy_206 ?_
                    refine r_iload_n dX9_tellsBy_207 rfl rfl ?_
                    refine r_iadd dX9_tellsBy_208 ?_
                    refine r_iload dX9_tellsBy_209 rfl ?_
                    refine r_iadd dX9_tellsBy_211 ?_
                    refine r_callS [_] (s_X9_round (by omega)) dX9_tellsBy_212 cs_X9_262 sm_X9_round (by decide) (by decide) (by decide) rfl rfl (Nat.le_of_ble_eq_true rfl) (fun _ _ _ q => q.elim) (fun v n2 h2 q => ?_)
                    obtain ⟨rfl, rfl, hh⟩ := q
                    obtain rfl := hh.symm
                    refine ⟨rfl, ?_⟩
                    dsimp only [Option.toList, List.cons_append, List.nil_append]
                    refine r_istore (lv2 := [(0, _), (1, _), (2, _), (3, _), (4, _), (5, _), (6, _), (7, _), (8, _), (9, _), (10, _)]) dX9_tellsBy_215 (by decide) rfl rfl ?_
                    refine r_iload_n dX9_tellsBy_217 rfl rfl ?_
                    refine r_iconst dX9_tellsBy_218 ?_
                    refine r_icmp_ne (tgt := 234) dX9_tellsBy_219 (by decide) ⟨by omega, by omega⟩ ⟨by omega, by omega⟩ (fun g219 => ?_) (fun g219 => ?_)
                    · refine r_iload dX9_tellsBy_234 rfl ?_
                      refine r_iret dX9_tellsBy_236 ?_
                      first
                        | (exfalso; omega)
                        | exact ⟨ivE (by rw [tI_ok hgr ha (by omega), eb]; first | rw [if_pos (by omega)] | rw [if_neg (by omega)]), rfl, gn, lt2, lg2, rfl, li3, kp2⟩
                    · refine r_iload dX9_tellsBy_222 rfl ?_
                      refine r_sipush dX9_tellsBy_224 rfl ?_
                      refine r_icmp_eq (tgt := 234) dX9_tellsBy_227 (by decide) ⟨by omega, by omega⟩ ⟨by omega, by omega⟩ (fun g227 => ?_) (fun g227 => ?_)
                      · refine r_iload dX9_tellsBy_234 rfl ?_
                        refine r_iret dX9_tellsBy_236 ?_
                        first
                          | (exfalso; omega)
                          | exact ⟨ivE (by rw [tI_ok hgr ha (by omega), eb]; first | rw [if_pos (by omega)] | rw [if_neg (by omega)]), rfl, gn, lt2, lg2, rfl, li3, kp2⟩
                      · refine r_iconst dX9_tellsBy_230 ?_
                        refine r_goto (tgt := 236) dX9_tellsBy_231 (by decide) ?_
                        refine r_iret dX9_tellsBy_236 ?_
                        first
                          | (exfalso; omega)
                          | exact ⟨ivE (by rw [tI_ok hgr ha (by omega), eb]; first | rw [if_pos (by omega)] | rw [if_neg (by omega)]), rfl, gn, lt2, lg2, rfl, li3, kp2⟩
              · refine r_iload dX9_tellsBy_168 rfl ?_
                refine r_if_ge (tgt := 175) dX9_tellsBy_170 (by decide) ⟨by omega, by omega⟩ (fun g170 => ?_) (fun g170 => ?_)
                · first
                    | (have ha : angI ki day m (noonI L day) (halfI sw day) (cUp cd cf ct day m nc.toNat) = (aroundI (m - (720 + 48 * (day % 30)))) := by
                         unfold angI mangI
                         rw [if_pos (by omega), if_neg (by
                           rintro (z | z | z)
                           · unfold moonI at z; simp at z; omega
                           · rw [b2i_0] at g120; rw [← lgm, g120] at z; exact absurd z (by decide)
                           · omega)]
                       have hA : -600 ≤ (aroundI (m - (720 + 48 * (day % 30)))) ∧ (aroundI (m - (720 + 48 * (day % 30)))) ≤ 600 := by omega
                       obtain ⟨A0, eA⟩ : ∃ z, (aroundI (m - (720 + 48 * (day % 30)))) = z := ⟨_, rfl⟩
                       rw [eA] at ha hA ⊢)
                    | (have hlt : lgB sw L day m.toNat = true ∧ (cUp cd cf ct day m nc.toNat) = false := by
                         rw [b2i_0, Bool.not_eq_false, Bool.and_eq_true, Bool.not_eq_true'] at g151
                         exact g151
                       have hll := lgm.mp hlt.1
                       have ha : angI ki day m (noonI L day) (halfI sw day) (cUp cd cf ct day m nc.toNat) = (m - noonI L day) := by
                         unfold angI sunI
                         rw [if_neg (by omega), if_neg (by omega), if_neg (by
                           rintro (z | z | z | z)
                           · omega
                           · rw [hlt.2] at z; cases z
                           · omega
                           · omega)]
                       have hA : -600 ≤ (m - noonI L day) ∧ (m - noonI L day) ≤ 600 := by omega
                       obtain ⟨A0, eA⟩ : ∃ z, (m - noonI L day) = z := ⟨_, rfl⟩
                       rw [eA] at ha hA ⊢)
                  have bb1 := bend_B (a := A0) (t := ti) hA hti
                  have bb2 := bend_B (a := A0) (t := 0) hA (by decide)
                  refine r_iload_n dX9_tellsBy_175 rfl rfl ?_
                  refine r_iconst dX9_tellsBy_176 ?_
                  refine r_icmp_eq (tgt := 185) dX9_tellsBy_177 (by decide) ⟨by omega, by omega⟩ ⟨by omega, by omega⟩ (fun g177 => ?_) (fun g177 => ?_)
                  · have eb : (if tiltI ki then (A0 * (100 + ti)).tdiv 100 else A0) = (A0 * (100 + 0)).tdiv 100 := by rw [if_neg (by unfold tiltI; simp; omega), mul100]
                    refine r_iconst dX9_tellsBy_185 ?_
                    refine r_goto (tgt := 190) dX9_tellsBy_186 (by decide) ?_
                    refine r_istore (lv2 := [(0, _), (1, _), (2, _), (3, _), (4, _), (5, _), (6, _), (7, _), (8, _), (9, _)]) dX9_tellsBy_190 (by decide) rfl rfl ?_
                    refine r_sipush dX9_tellsBy_192 rfl ?_
                    refine r_iload dX9_tellsBy_195 rfl ?_
                    refine r_bipush dX9_tellsBy_197 rfl ?_
                    refine r_iload dX9_tellsBy_199 rfl ?_
                    refine r_iadd dX9_tellsBy_201 ?_
                    refine r_imul dX9_tellsBy_202 ?_
                    refine r_bipush dX9_tellsBy_203 rfl ?_
                    refine r_idiv dX9_tellsBy_205 ⟨by omega, by omega⟩ ⟨by omega, by omega⟩ (by omega) ⟨by omega, by omega⟩ ?_
                    refine r_iadd dX9_tellsBy_206 ?_
                    refine r_iload_n dX9_tellsBy_207 rfl rfl ?_
                    refine r_iadd dX9_tellsBy_208 ?_
                    refine r_iload dX9_tellsBy_209 rfl ?_
                    refine r_iadd dX9_tellsBy_211 ?_
                    refine r_callS [_] (s_X9_round (by omega)) dX9_tellsBy_212 cs_X9_262 sm_X9_round (by decide) (by decide) (by decide) rfl rfl (Nat.le_of_ble_eq_true rfl) (fun _ _ _ q => q.elim) (fun v n2 h2 q => ?_)
                    obtain ⟨rfl, rfl, hh⟩ := q
                    obtain rfl := hh.symm
                    refine ⟨rfl, ?_⟩
                    dsimp only [Option.toList, List.cons_append, List.nil_append]
                    refine r_istore (lv2 := [(0, _), (1, _), (2, _), (3, _), (4, _), (5, _), (6, _), (7, _), (8, _), (9, _), (10, _)]) dX9_tellsBy_215 (by decide) rfl rfl ?_
                    refine r_iload_n dX9_tellsBy_217 rfl rfl ?_
                    refine r_iconst dX9_tellsBy_218 ?_
                    refine r_icmp_ne (tgt := 234) dX9_tellsBy_219 (by decide) ⟨by omega, by omega⟩ ⟨by omega, by omega⟩ (fun g219 => ?_) (fun g219 => ?_)
                    · refine r_iload dX9_tellsBy_234 rfl ?_
                      refine r_iret dX9_tellsBy_236 ?_
                      first
                        | (exfalso; omega)
                        | exact ⟨ivE (by rw [tI_ok hgr ha (by omega), eb]; first | rw [if_pos (by omega)] | rw [if_neg (by omega)]), rfl, gn, lt2, lg2, rfl, li3, kp2⟩
                    · refine r_iload dX9_tellsBy_222 rfl ?_
                      refine r_sipush dX9_tellsBy_224 rfl ?_
                      refine r_icmp_eq (tgt := 234) dX9_tellsBy_227 (by decide) ⟨by omega, by omega⟩ ⟨by omega, by omega⟩ (fun g227 => ?_) (fun g227 => ?_)
                      · refine r_iload dX9_tellsBy_234 rfl ?_
                        refine r_iret dX9_tellsBy_236 ?_
                        first
                          | (exfalso; omega)
                          | exact ⟨ivE (by rw [tI_ok hgr ha (by omega), eb]; first | rw [if_pos (by omega)] | rw [if_neg (by omega)]), rfl, gn, lt2, lg2, rfl, li3, kp2⟩
                      · refine r_iconst dX9_tellsBy_230 ?_
                        refine r_goto (tgt := 236) dX9_tellsBy_231 (by decide) ?_
                        refine r_iret dX9_tellsBy_236 ?_
                        first
                          | (exfalso; omega)
                          | exact ⟨ivE (by rw [tI_ok hgr ha (by omega), eb]; first | rw [if_pos (by omega)] | rw [if_neg (by omega)]), rfl, gn, lt2, lg2, rfl, li3, kp2⟩
                  · refine r_iload_n dX9_tellsBy_180 rfl rfl ?_
                    refine r_iconst dX9_tellsBy_181 ?_
                    refine r_icmp_ne (tgt := 189) dX9_tellsBy_182 (by decide) ⟨by omega, by omega⟩ ⟨by omega, by omega⟩ (fun g182 => ?_) (fun g182 => ?_)
                    · have eb : (if tiltI ki then (A0 * (100 + ti)).tdiv 100 else A0) = (A0 * (100 + ti)).tdiv 100 := by rw [if_pos (by unfold tiltI; simp; omega)]
                      refine r_iload_n dX9_tellsBy_189 rfl rfl ?_
                      refine r_istore (lv2 := [(0, _), (1, _), (2, _), (3, _), (4, _), (5, _), (6, _), (7, _), (8, _), (9, _)]) dX9_tellsBy_190 (by decide) rfl rfl ?_
                      refine r_sipush dX9_tellsBy_192 rfl ?_
                      refine r_iload dX9_tellsBy_195 rfl ?_
                      refine r_bipush dX9_tellsBy_197 rfl ?_
                      refine r_iload dX9_tellsBy_199 rfl ?_
                      refine r_iadd dX9_tellsBy_201 ?_
                      refine r_imul dX9_tellsBy_202 ?_
                      refine r_bipush dX9_tellsBy_203 rfl ?_
                      refine r_idiv dX9_tellsBy_205 ⟨by omega, by omega⟩ ⟨by omega, by omega⟩ (by omega) ⟨by omega, by omega⟩ ?_
                      refine r_iadd dX9_tellsBy_206 ?_
                      refine r_iload_n dX9_tellsBy_207 rfl rfl ?_
                      refine r_iadd dX9_tellsBy_208 ?_
                      refine r_iload dX9_tellsBy_209 rfl ?_
                      refine r_iadd dX9_tellsBy_211 ?_
                      refine r_callS [_] (s_X9_round (by omega)) dX9_tellsBy_212 cs_X9_262 sm_X9_round (by decide) (by decide) (by decide) rfl rfl (Nat.le_of_ble_eq_true rfl) (fun _ _ _ q => q.elim) (fun v n2 h2 q => ?_)
                      obtain ⟨rfl, rfl, hh⟩ := q
                      obtain rfl := hh.symm
                      refine ⟨rfl, ?_⟩
                      dsimp only [Option.toList, List.cons_append, List.nil_append]
                      refine r_istore (lv2 := [(0, _), (1, _), (2, _), (3, _), (4, _), (5, _), (6, _), (7, _), (8, _), (9, _), (10, _)]) dX9_tellsBy_215 (by decide) rfl rfl ?_
                      refine r_iload_n dX9_tellsBy_217 rfl rfl ?_
                      refine r_iconst dX9_tellsBy_218 ?_
                      refine r_icmp_ne (tgt := 234) dX9_tellsBy_219 (by decide) ⟨by omega, by omega⟩ ⟨by omega, by omega⟩ (fun g219 => ?_) (fun g219 => ?_)
                      · refine r_iload dX9_tellsBy_234 rfl ?_
                        refine r_iret dX9_tellsBy_236 ?_
                        first
                          | (exfalso; omega)
                          | exact ⟨ivE (by rw [tI_ok hgr ha (by omega), eb]; first | rw [if_pos (by omega)] | rw [if_neg (by omega)]), rfl, gn, lt2, lg2, rfl, li3, kp2⟩
                      · refine r_iload dX9_tellsBy_222 rfl ?_
                        refine r_sipush dX9_tellsBy_224 rfl ?_
                        refine r_icmp_eq (tgt := 234) dX9_tellsBy_227 (by decide) ⟨by omega, by omega⟩ ⟨by omega, by omega⟩ (fun g227 => ?_) (fun g227 => ?_)
                        · refine r_iload dX9_tellsBy_234 rfl ?_
                          refine r_iret dX9_tellsBy_236 ?_
                          first
                            | (exfalso; omega)
                            | exact ⟨ivE (by rw [tI_ok hgr ha (by omega), eb]; first | rw [if_pos (by omega)] | rw [if_neg (by omega)]), rfl, gn, lt2, lg2, rfl, li3, kp2⟩
                        · refine r_iconst dX9_tellsBy_230 ?_
                          refine r_goto (tgt := 236) dX9_tellsBy_231 (by decide) ?_
                          refine r_iret dX9_tellsBy_236 ?_
                          first
                            | (exfalso; omega)
                            | exact ⟨ivE (by rw [tI_ok hgr ha (by omega), eb]; first | rw [if_pos (by omega)] | rw [if_neg (by omega)]), rfl, gn, lt2, lg2, rfl, li3, kp2⟩
                    · have eb : (if tiltI ki then (A0 * (100 + ti)).tdiv 100 else A0) = (A0 * (100 + 0)).tdiv 100 := by rw [if_neg (by unfold tiltI; simp; omega), mul100]
                      refine r_iconst dX9_tellsBy_185 ?_
                      refine r_goto (tgt := 190) dX9_tellsBy_186 (by decide) ?_
                      refine r_istore (lv2 := [(0, _), (1, _), (2, _), (3, _), (4, _), (5, _), (6, _), (7, _), (8, _), (9, _)]) dX9_tellsBy_190 (by decide) rfl rfl ?_
                      refine r_sipush dX9_tellsBy_192 rfl ?_
                      refine r_iload dX9_tellsBy_195 rfl ?_
                      refine r_bipush dX9_tellsBy_197 rfl ?_
                      refine r_iload dX9_tellsBy_199 rfl ?_
                      refine r_iadd dX9_tellsBy_201 ?_
                      refine r_imul dX9_tellsBy_202 ?_
                      refine r_bipush dX9_tellsBy_203 rfl ?_
                      refine r_idiv dX9_tellsBy_205 ⟨by omega, by omega⟩ ⟨by omega, by omega⟩ (by omega) ⟨by omega, by omega⟩ ?_
                      refine r_iadd dX9_tellsBy_206 ?_
                      refine r_iload_n dX9_tellsBy_207 rfl rfl ?_
                      refine r_iadd dX9_tellsBy_208 ?_
                      refine r_iload dX9_tellsBy_209 rfl ?_
                      refine r_iadd dX9_tellsBy_211 ?_
                      refine r_callS [_] (s_X9_round (by omega)) dX9_tellsBy_212 cs_X9_262 sm_X9_round (by decide) (by decide) (by decide) rfl rfl (Nat.le_of_ble_eq_true rfl) (fun _ _ _ q => q.elim) (fun v n2 h2 q => ?_)
                      obtain ⟨rfl, rfl, hh⟩ := q
                      obtain rfl := hh.symm
                      refine ⟨rfl, ?_⟩
                      dsimp only [Option.toList, List.cons_append, List.nil_append]
                      refine r_istore (lv2 := [(0, _), (1, _), (2, _), (3, _), (4, _), (5, _), (6, _), (7, _), (8, _), (9, _), (10, _)]) dX9_tellsBy_215 (by decide) rfl rfl ?_
                      refine r_iload_n dX9_tellsBy_217 rfl rfl ?_
                      refine r_iconst dX9_tellsBy_218 ?_
                      refine r_icmp_ne (tgt := 234) dX9_tellsBy_219 (by decide) ⟨by omega, by omega⟩ ⟨by omega, by omega⟩ (fun g219 => ?_) (fun g219 => ?_)
                      · refine r_iload dX9_tellsBy_234 rfl ?_
                        refine r_iret dX9_tellsBy_236 ?_
                        first
                          | (exfalso; omega)
                          | exact ⟨ivE (by rw [tI_ok hgr ha (by omega), eb]; first | rw [if_pos (by omega)] | rw [if_neg (by omega)]), rfl, gn, lt2, lg2, rfl, li3, kp2⟩
                      · refine r_iload dX9_tellsBy_222 rfl ?_
                        refine r_sipush dX9_tellsBy_224 rfl ?_
                        refine r_icmp_eq (tgt := 234) dX9_tellsBy_227 (by decide) ⟨by omega, by omega⟩ ⟨by omega, by omega⟩ (fun g227 => ?_) (fun g227 => ?_)
                        · refine r_iload dX9_tellsBy_234 rfl ?_
                          refine r_iret dX9_tellsBy_236 ?_
                          first
                            | (exfalso; omega)
                            | exact ⟨ivE (by rw [tI_ok hgr ha (by omega), eb]; first | rw [if_pos (by omega)] | rw [if_neg (by omega)]), rfl, gn, lt2, lg2, rfl, li3, kp2⟩
                        · refine r_iconst dX9_tellsBy_230 ?_
                          refine r_goto (tgt := 236) dX9_tellsBy_231 (by decide) ?_
                          refine r_iret dX9_tellsBy_236 ?_
                          first
                            | (exfalso; omega)
                            | exact ⟨ivE (by rw [tI_ok hgr ha (by omega), eb]; first | rw [if_pos (by omega)] | rw [if_neg (by omega)]), rfl, gn, lt2, lg2, rfl, li3, kp2⟩
                · refine r_iconst dX9_tellsBy_173 ?_
                  refine r_iret dX9_tellsBy_174 ?_
                  exact ⟨ivE (tI_no2 hgr (by
                    unfold angI sunI
                    rw [if_neg (by omega), if_neg (by omega), if_pos (by
                      first
                        | exact Or.inr (Or.inr (Or.inl (by omega)))
                        | exact Or.inr (Or.inr (Or.inr (by omega)))
                        | (rw [b2i_0, Bool.and_eq_false_iff, Bool.not_eq_false'] at g151
                           rcases g151 with z | z
                           · refine Or.inl ?_
                             have hn9 : ¬ ((m - noonI L day).natAbs : Int) ≤ halfI sw day := fun q => absurd (lgm.mpr q) (by rw [z]; decide)
                             omega
                           · exact Or.inr (Or.inl z)))])).symm, rfl, gn, lt2, lg2, rfl, li3, kp2⟩
            · refine r_iload dX9_tellsBy_158 rfl ?_
              refine r_if_gt (tgt := 173) dX9_tellsBy_160 (by decide) ⟨by omega, by omega⟩ (fun g160 => ?_) (fun g160 => ?_)
              · refine r_iconst dX9_tellsBy_173 ?_
                refine r_iret dX9_tellsBy_174 ?_
                exact ⟨ivE (tI_no2 hgr (by
                  unfold angI sunI
                  rw [if_neg (by omega), if_neg (by omega), if_pos (by
                    first
                      | exact Or.inr (Or.inr (Or.inl (by omega)))
                      | exact Or.inr (Or.inr (Or.inr (by omega)))
                      | (rw [b2i_0, Bool.and_eq_false_iff, Bool.not_eq_false'] at g151
                         rcases g151 with z | z
                         · refine Or.inl ?_
                           have hn9 : ¬ ((m - noonI L day).natAbs : Int) ≤ halfI sw day := fun q => absurd (lgm.mpr q) (by rw [z]; decide)
                           omega
                         · exact Or.inr (Or.inl z)))])).symm, rfl, gn, lt2, lg2, rfl, li3, kp2⟩
              · refine r_iload_n dX9_tellsBy_163 rfl rfl ?_
                refine r_iconst dX9_tellsBy_164 ?_
                refine r_icmp_ne (tgt := 175) dX9_tellsBy_165 (by decide) ⟨by omega, by omega⟩ ⟨by omega, by omega⟩ (fun g165 => ?_) (fun g165 => ?_)
                · first
                    | (have ha : angI ki day m (noonI L day) (halfI sw day) (cUp cd cf ct day m nc.toNat) = (aroundI (m - (720 + 48 * (day % 30)))) := by
                         unfold angI mangI
                         rw [if_pos (by omega), if_neg (by
                           rintro (z | z | z)
                           · unfold moonI at z; simp at z; omega
                           · rw [b2i_0] at g120; rw [← lgm, g120] at z; exact absurd z (by decide)
                           · omega)]
                       have hA : -600 ≤ (aroundI (m - (720 + 48 * (day % 30)))) ∧ (aroundI (m - (720 + 48 * (day % 30)))) ≤ 600 := by omega
                       obtain ⟨A0, eA⟩ : ∃ z, (aroundI (m - (720 + 48 * (day % 30)))) = z := ⟨_, rfl⟩
                       rw [eA] at ha hA ⊢)
                    | (have hlt : lgB sw L day m.toNat = true ∧ (cUp cd cf ct day m nc.toNat) = false := by
                         rw [b2i_0, Bool.not_eq_false, Bool.and_eq_true, Bool.not_eq_true'] at g151
                         exact g151
                       have hll := lgm.mp hlt.1
                       have ha : angI ki day m (noonI L day) (halfI sw day) (cUp cd cf ct day m nc.toNat) = (m - noonI L day) := by
                         unfold angI sunI
                         rw [if_neg (by omega), if_neg (by omega), if_neg (by
                           rintro (z | z | z | z)
                           · omega
                           · rw [hlt.2] at z; cases z
                           · omega
                           · omega)]
                       have hA : -600 ≤ (m - noonI L day) ∧ (m - noonI L day) ≤ 600 := by omega
                       obtain ⟨A0, eA⟩ : ∃ z, (m - noonI L day) = z := ⟨_, rfl⟩
                       rw [eA] at ha hA ⊢)
                  have bb1 := bend_B (a := A0) (t := ti) hA hti
                  have bb2 := bend_B (a := A0) (t := 0) hA (by decide)
                  refine r_iload_n dX9_tellsBy_175 rfl rfl ?_
                  refine r_iconst dX9_tellsBy_176 ?_
                  refine r_icmp_eq (tgt := 185) dX9_tellsBy_177 (by decide) ⟨by omega, by omega⟩ ⟨by omega, by omega⟩ (fun g177 => ?_) (fun g177 => ?_)
                  · have eb : (if tiltI ki then (A0 * (100 + ti)).tdiv 100 else A0) = (A0 * (100 + 0)).tdiv 100 := by rw [if_neg (by unfold tiltI; simp; omega), mul100]
                    refine r_iconst dX9_tellsBy_185 ?_
                    refine r_goto (tgt := 190) dX9_tellsBy_186 (by decide) ?_
                    refine r_istore (lv2 := [(0, _), (1, _), (2, _), (3, _), (4, _), (5, _), (6, _), (7, _), (8, _), (9, _)]) dX9_tellsBy_190 (by decide) rfl rfl ?_
                    refine r_sipush dX9_tellsBy_192 rfl ?_
                    refine r_iload dX9_tellsBy_195 rfl ?_
                    refine r_bipush dX9_tellsBy_197 rfl ?_
                    refine r_iload dX9_tellsBy_199 rfl ?_
                    refine r_iadd dX9_tellsBy_201 ?_
                    refine r_imul dX9_tellsBy_202 ?_
                    refine r_bipush dX9_tellsBy_203 rfl ?_
                    refine r_idiv dX9_tellsBy_205 ⟨by omega, by omega⟩ ⟨by omega, by omega⟩ (by omega) ⟨by omega, by omega⟩ ?_
                    refine r_iadd dX9_tellsBy_206 ?_
                    refine r_iload_n dX9_tellsBy_207 rfl rfl ?_
                    refine r_iadd dX9_tellsBy_208 ?_
                    refine r_iload dX9_tellsBy_209 rfl ?_
                    refine r_iadd dX9_tellsBy_211 ?_
                    refine r_callS [_] (s_X9_round (by omega)) dX9_tellsBy_212 cs_X9_262 sm_X9_round (by decide) (by decide) (by decide) rfl rfl (Nat.le_of_ble_eq_true rfl) (fun _ _ _ q => q.elim) (fun v n2 h2 q => ?_)
                    obtain ⟨rfl, rfl, hh⟩ := q
                    obtain rfl := hh.symm
                    refine ⟨rfl, ?_⟩
                    dsimp only [Option.toList, List.cons_append, List.nil_append]
                    refine r_istore (lv2 := [(0, _), (1, _), (2, _), (3, _), (4, _), (5, _), (6, _), (7, _), (8, _), (9, _), (10, _)]) dX9_tellsBy_215 (by decide) rfl rfl ?_
                    refine r_iload_n dX9_tellsBy_217 rfl rfl ?_
                    refine r_iconst dX9_tellsBy_218 ?_
                    refine r_icmp_ne (tgt := 234) dX9_tellsBy_219 (by decide) ⟨by omega, by omega⟩ ⟨by omega, by omega⟩ (fun g219 => ?_) (fun g219 => ?_)
                    · refine r_iload dX9_tellsBy_234 rfl ?_
                      refine r_iret dX9_tellsBy_236 ?_
                      first
                        | (exfalso; omega)
                        | exact ⟨ivE (by rw [tI_ok hgr ha (by omega), eb]; first | rw [if_pos (by omega)] | rw [if_neg (by omega)]), rfl, gn, lt2, lg2, rfl, li3, kp2⟩
                    · refine r_iload dX9_tellsBy_222 rfl ?_
                      refine r_sipush dX9_tellsBy_224 rfl ?_
                      refine r_icmp_eq (tgt := 234) dX9_tellsBy_227 (by decide) ⟨by omega, by omega⟩ ⟨by omega, by omega⟩ (fun g227 => ?_) (fun g227 => ?_)
                      · refine r_iload dX9_tellsBy_234 rfl ?_
                        refine r_iret dX9_tellsBy_236 ?_
                        first
                          | (exfalso; omega)
                          | exact ⟨ivE (by rw [tI_ok hgr ha (by omega), eb]; first | rw [if_pos (by omega)] | rw [if_neg (by omega)]), rfl, gn, lt2, lg2, rfl, li3, kp2⟩
                      · refine r_iconst dX9_tellsBy_230 ?_
                        refine r_goto (tgt := 236) dX9_tellsBy_231 (by decide) ?_
                        refine r_iret dX9_tellsBy_236 ?_
                        first
                          | (exfalso; omega)
                          | exact ⟨ivE (by rw [tI_ok hgr ha (by omega), eb]; first | rw [if_pos (by omega)] | rw [if_neg (by omega)]), rfl, gn, lt2, lg2, rfl, li3, kp2⟩
                  · refine r_iload_n dX9_tellsBy_180 rfl rfl ?_
                    refine r_iconst dX9_tellsBy_181 ?_
                    refine r_icmp_ne (tgt := 189) dX9_tellsBy_182 (by decide) ⟨by omega, by omega⟩ ⟨by omega, by omega⟩ (fun g182 => ?_) (fun g182 => ?_)
                    · have eb : (if tiltI ki then (A0 * (100 + ti)).tdiv 100 else A0) = (A0 * (100 + ti)).tdiv 100 := by rw [if_pos (by unfold tiltI; simp; omega)]
                      refine r_iload_n dX9_tellsBy_189 rfl rfl ?_
                      refine r_istore (lv2 := [(0, _), (1, _), (2, _), (3, _), (4, _), (5, _), (6, _), (7, _), (8, _), (9, _)]) dX9_tellsBy_190 (by decide) rfl rfl ?_
                      refine r_sipush dX9_tellsBy_192 rfl ?_
                      refine r_iload dX9_tellsBy_195 rfl ?_
                      refine r_bipush dX9_tellsBy_197 rfl ?_
                      refine r_iload dX9_tellsBy_199 rfl ?_
                      refine r_iadd dX9_tellsBy_201 ?_
                      refine r_imul dX9_tellsBy_202 ?_
                      refine r_bipush dX9_tellsBy_203 rfl ?_
                      refine r_idiv dX9_tellsBy_205 ⟨by omega, by omega⟩ ⟨by omega, by omega⟩ (by omega) ⟨by omega, by omega⟩ ?_
                      refine r_iadd dX9_tellsBy_206 ?_
                      refine r_iload_n dX9_tellsBy_207 rfl rfl ?_
                      refine r_iadd dX9_tellsBy_208 ?_
                      refine r_iload dX9_tellsBy_209 rfl ?_
                      refine r_iadd dX9_tellsBy_211 ?_
                      refine r_callS [_] (s_X9_round (by omega)) dX9_tellsBy_212 cs_X9_262 sm_X9_round (by decide) (by decide) (by decide) rfl rfl (Nat.le_of_ble_eq_true rfl) (fun _ _ _ q => q.elim) (fun v n2 h2 q => ?_)
                      obtain ⟨rfl, rfl, hh⟩ := q
                      obtain rfl := hh.symm
                      refine ⟨rfl, ?_⟩
                      dsimp only [Option.toList, List.cons_append, List.nil_append]
                      refine r_istore (lv2 := [(0, _), (1, _), (2, _), (3, _), (4, _), (5, _), (6, _), (7, _), (8, _), (9, _), (10, _)]) dX9_tellsBy_215 (by decide) rfl rfl ?_
                      refine r_iload_n dX9_tellsBy_217 rfl rfl ?_
                      refine r_iconst dX9_tellsBy_218 ?_
                      refine r_icmp_ne (tgt := 234) dX9_tellsBy_219 (by decide) ⟨by omega, by omega⟩ ⟨by omega, by omega⟩ (fun g219 => ?_) (fun g219 => ?_)
                      · refine r_iload dX9_tellsBy_234 rfl ?_
                        refine r_iret dX9_tellsBy_236 ?_
                        first
                          | (exfalso; omega)
                          | exact ⟨ivE (by rw [tI_ok hgr ha (by omega), eb]; first | rw [if_pos (by omega)] | rw [if_neg (by omega)]), rfl, gn, lt2, lg2, rfl, li3, kp2⟩
                      · refine r_iload dX9_tellsBy_222 rfl ?_
                        refine r_sipush dX9_tellsBy_224 rfl ?_
                        refine r_icmp_eq (tgt := 234) dX9_tellsBy_227 (by decide) ⟨by omega, by omega⟩ ⟨by omega, by omega⟩ (fun g227 => ?_) (fun g227 => ?_)
                        · refine r_iload dX9_tellsBy_234 rfl ?_
                          refine r_iret dX9_tellsBy_236 ?_
                          first
                            | (exfalso; omega)
                            | exact ⟨ivE (by rw [tI_ok hgr ha (by omega), eb]; first | rw [if_pos (by omega)] | rw [if_neg (by omega)]), rfl, gn, lt2, lg2, rfl, li3, kp2⟩
                        · refine r_iconst dX9_tellsBy_230 ?_
                          refine r_goto (tgt := 236) dX9_tellsBy_231 (by decide) ?_
                          refine r_iret dX9_tellsBy_236 ?_
                          first
                            | (exfalso; omega)
                            | exact ⟨ivE (by rw [tI_ok hgr ha (by omega), eb]; first | rw [if_pos (by omega)] | rw [if_neg (by omega)]), rfl, gn, lt2, lg2, rfl, li3, kp2⟩
                    · have eb : (if tiltI ki then (A0 * (100 + ti)).tdiv 100 else A0) = (A0 * (100 + 0)).tdiv 100 := by rw [if_neg (by unfold tiltI; simp; omega), mul100]
                      refine r_iconst dX9_tellsBy_185 ?_
                      refine r_goto (tgt := 190) dX9_tellsBy_186 (by decide) ?_
                      refine r_istore (lv2 := [(0, _), (1, _), (2, _), (3, _), (4, _), (5, _), (6, _), (7, _), (8, _), (9, _)]) dX9_tellsBy_190 (by decide) rfl rfl ?_
                      refine r_sipush dX9_tellsBy_192 rfl ?_
                      refine r_iload dX9_tellsBy_195 rfl ?_
                      refine r_bipush dX9_tellsBy_197 rfl ?_
                      refine r_iload dX9_tellsBy_199 rfl ?_
                      refine r_iadd dX9_tellsBy_201 ?_
                      refine r_imul dX9_tellsBy_202 ?_
                      refine r_bipush dX9_tellsBy_203 rfl ?_
                      refine r_idiv dX9_tellsBy_205 ⟨by omega, by omega⟩ ⟨by omega, by omega⟩ (by omega) ⟨by omega, by omega⟩ ?_
                      refine r_iadd dX9_tellsBy_206 ?_
                      refine r_iload_n dX9_tellsBy_207 rfl rfl ?_
                      refine r_iadd dX9_tellsBy_208 ?_
                      refine r_iload dX9_tellsBy_209 rfl ?_
                      refine r_iadd dX9_tellsBy_211 ?_
                      refine r_callS [_] (s_X9_round (by omega)) dX9_tellsBy_212 cs_X9_262 sm_X9_round (by decide) (by decide) (by decide) rfl rfl (Nat.le_of_ble_eq_true rfl) (fun _ _ _ q => q.elim) (fun v n2 h2 q => ?_)
                      obtain ⟨rfl, rfl, hh⟩ := q
                      obtain rfl := hh.symm
                      refine ⟨rfl, ?_⟩
                      dsimp only [Option.toList, List.cons_append, List.nil_append]
                      refine r_istore (lv2 := [(0, _), (1, _), (2, _), (3, _), (4, _), (5, _), (6, _), (7, _), (8, _), (9, _), (10, _)]) dX9_tellsBy_215 (by decide) rfl rfl ?_
                      refine r_iload_n dX9_tellsBy_217 rfl rfl ?_
                      refine r_iconst dX9_tellsBy_218 ?_
                      refine r_icmp_ne (tgt := 234) dX9_tellsBy_219 (by decide) ⟨by omega, by omega⟩ ⟨by omega, by omega⟩ (fun g219 => ?_) (fun g219 => ?_)
                      · refine r_iload dX9_tellsBy_234 rfl ?_
                        refine r_iret dX9_tellsBy_236 ?_
                        first
                          | (exfalso; omega)
                          | exact ⟨ivE (by rw [tI_ok hgr ha (by omega), eb]; first | rw [if_pos (by omega)] | rw [if_neg (by omega)]), rfl, gn, lt2, lg2, rfl, li3, kp2⟩
                      · refine r_iload dX9_tellsBy_222 rfl ?_
                        refine r_sipush dX9_tellsBy_224 rfl ?_
                        refine r_icmp_eq (tgt := 234) dX9_tellsBy_227 (by decide) ⟨by omega, by omega⟩ ⟨by omega, by omega⟩ (fun g227 => ?_) (fun g227 => ?_)
                        · refine r_iload dX9_tellsBy_234 rfl ?_
                          refine r_iret dX9_tellsBy_236 ?_
                          first
                            | (exfalso; omega)
                            | exact ⟨ivE (by rw [tI_ok hgr ha (by omega), eb]; first | rw [if_pos (by omega)] | rw [if_neg (by omega)]), rfl, gn, lt2, lg2, rfl, li3, kp2⟩
                        · refine r_iconst dX9_tellsBy_230 ?_
                          refine r_goto (tgt := 236) dX9_tellsBy_231 (by decide) ?_
                          refine r_iret dX9_tellsBy_236 ?_
                          first
                            | (exfalso; omega)
                            | exact ⟨ivE (by rw [tI_ok hgr ha (by omega), eb]; first | rw [if_pos (by omega)] | rw [if_neg (by omega)]), rfl, gn, lt2, lg2, rfl, li3, kp2⟩
                · refine r_iload dX9_tellsBy_168 rfl ?_
                  refine r_if_ge (tgt := 175) dX9_tellsBy_170 (by decide) ⟨by omega, by omega⟩ (fun g170 => ?_) (fun g170 => ?_)
                  · first
                      | (have ha : angI ki day m (noonI L day) (halfI sw day) (cUp cd cf ct day m nc.toNat) = (aroundI (m - (720 + 48 * (day % 30)))) := by
                           unfold angI mangI
                           rw [if_pos (by omega), if_neg (by
                             rintro (z | z | z)
                             · unfold moonI at z; simp at z; omega
                             · rw [b2i_0] at g120; rw [← lgm, g120] at z; exact absurd z (by decide)
                             · omega)]
                         have hA : -600 ≤ (aroundI (m - (720 + 48 * (day % 30)))) ∧ (aroundI (m - (720 + 48 * (day % 30)))) ≤ 600 := by omega
                         obtain ⟨A0, eA⟩ : ∃ z, (aroundI (m - (720 + 48 * (day % 30)))) = z := ⟨_, rfl⟩
                         rw [eA] at ha hA ⊢)
                      | (have hlt : lgB sw L day m.toNat = true ∧ (cUp cd cf ct day m nc.toNat) = false := by
                           rw [b2i_0, Bool.not_eq_false, Bool.and_eq_true, Bool.not_eq_true'] at g151
                           exact g151
                         have hll := lgm.mp hlt.1
                         have ha : angI ki day m (noonI L day) (halfI sw day) (cUp cd cf ct day m nc.toNat) = (m - noonI L day) := by
                           unfold angI sunI
                           rw [if_neg (by omega), if_neg (by omega), if_neg (by
                             rintro (z | z | z | z)
                             · omega
                             · rw [hlt.2] at z; cases z
                             · omega
                             · omega)]
                         have hA : -600 ≤ (m - noonI L day) ∧ (m - noonI L day) ≤ 600 := by omega
                         obtain ⟨A0, eA⟩ : ∃ z, (m - noonI L day) = z := ⟨_, rfl⟩
                         rw [eA] at ha hA ⊢)
                    have bb1 := bend_B (a := A0) (t := ti) hA hti
                    have bb2 := bend_B (a := A0) (t := 0) hA (by decide)
                    refine r_iload_n dX9_tellsBy_175 rfl rfl ?_
                    refine r_iconst dX9_tellsBy_176 ?_
                    refine r_icmp_eq (tgt := 185) dX9_tellsBy_177 (by decide) ⟨by omega, by omega⟩ ⟨by omega, by omega⟩ (fun g177 => ?_) (fun g177 => ?_)
                    · have eb : (if tiltI ki then (A0 * (100 + ti)).tdiv 100 else A0) = (A0 * (100 + 0)).tdiv 100 := by rw [if_neg (by unfold tiltI; simp; omega), mul100]
                      refine r_iconst dX9_tellsBy_185 ?_
                      refine r_goto (tgt := 190) dX9_tellsBy_186 (by decide) ?_
                      refine r_istore (lv2 := [(0, _), (1, _), (2, _), (3, _), (4, _), (5, _), (6, _), (7, _), (8, _), (9, _)]) dX9_tellsBy_190 (by decide) rfl rfl ?_
                      refine r_sipush dX9_tellsBy_192 rfl ?_
                      refine r_iload dX9_tellsBy_195 rfl ?_
                      refine r_bipush dX9_tellsBy_197 rfl ?_
                      refine r_iload dX9_tellsBy_199 rfl ?_
                      refine r_iadd dX9_tellsBy_201 ?_
                      refine r_imul dX9_tellsBy_202 ?_
                      refine r_bipush dX9_tellsBy_203 rfl ?_
                      refine r_idiv dX9_tellsBy_205 ⟨by omega, by omega⟩ ⟨by omega, by omega⟩ (by omega) ⟨by omega, by omega⟩ ?_
                      refine r_iadd dX9_tellsBy_206 ?_
                      refine r_iload_n dX9_tellsBy_207 rfl rfl ?_
                      refine r_iadd dX9_tellsBy_208 ?_
                      refine r_iload dX9_tellsBy_209 rfl ?_
                      refine r_iadd dX9_tellsBy_211 ?_
                      refine r_callS [_] (s_X9_round (by omega)) dX9_tellsBy_212 cs_X9_262 sm_X9_round (by decide) (by decide) (by decide) rfl rfl (Nat.le_of_ble_eq_true rfl) (fun _ _ _ q => q.elim) (fun v n2 h2 q => ?_)
                      obtain ⟨rfl, rfl, hh⟩ := q
                      obtain rfl := hh.symm
                      refine ⟨rfl, ?_⟩
                      dsimp only [Option.toList, List.cons_append, List.nil_append]
                      refine r_istore (lv2 := [(0, _), (1, _), (2, _), (3, _), (4, _), (5, _), (6, _), (7, _), (8, _), (9, _), (10, _)]) dX9_tellsBy_215 (by decide) rfl rfl ?_
                      refine r_iload_n dX9_tellsBy_217 rfl rfl ?_
                      refine r_iconst dX9_tellsBy_218 ?_
                      refine r_icmp_ne (tgt := 234) dX9_tellsBy_219 (by decide) ⟨by omega, by omega⟩ ⟨by omega, by omega⟩ (fun g219 => ?_) (fun g219 => ?_)
                      · refine r_iload dX9_tellsBy_234 rfl ?_
                        refine r_iret dX9_tellsBy_236 ?_
                        first
                          | (exfalso; omega)
                          | exact ⟨ivE (by rw [tI_ok hgr ha (by omega), eb]; first | rw [if_pos (by omega)] | rw [if_neg (by omega)]), rfl, gn, lt2, lg2, rfl, li3, kp2⟩
                      · refine r_iload dX9_tellsBy_222 rfl ?_
                        refine r_sipush dX9_tellsBy_224 rfl ?_
                        refine r_icmp_eq (tgt := 234) dX9_tellsBy_227 (by decide) ⟨by omega, by omega⟩ ⟨by omega, by omega⟩ (fun g227 => ?_) (fun g227 => ?_)
                        · refine r_iload dX9_tellsBy_234 rfl ?_
                          refine r_iret dX9_tellsBy_236 ?_
                          first
                            | (exfalso; omega)
                            | exact ⟨ivE (by rw [tI_ok hgr ha (by omega), eb]; first | rw [if_pos (by omega)] | rw [if_neg (by omega)]), rfl, gn, lt2, lg2, rfl, li3, kp2⟩
                        · refine r_iconst dX9_tellsBy_230 ?_
                          refine r_goto (tgt := 236) dX9_tellsBy_231 (by decide) ?_
                          refine r_iret dX9_tellsBy_236 ?_
                          first
                            | (exfalso; omega)
                            | exact ⟨ivE (by rw [tI_ok hgr ha (by omega), eb]; first | rw [if_pos (by omega)] | rw [if_neg (by omega)]), rfl, gn, lt2, lg2, rfl, li3, kp2⟩
                    · refine r_iload_n dX9_tellsBy_180 rfl rfl ?_
                      refine r_iconst dX9_tellsBy_181 ?_
                      refine r_icmp_ne (tgt := 189) dX9_tellsBy_182 (by decide) ⟨by omega, by omega⟩ ⟨by omega, by omega⟩ (fun g182 => ?_) (fun g182 => ?_)
                      · have eb : (if tiltI ki then (A0 * (100 + ti)).tdiv 100 else A0) = (A0 * (100 + ti)).tdiv 100 := by rw [if_pos (by unfold tiltI; simp; omega)]
                        refine r_iload_n dX9_tellsBy_189 rfl rfl ?_
                        refine r_istore (lv2 := [(0, _), (1, _), (2, _), (3, _), (4, _), (5, _), (6, _), (7, _), (8, _), (9, _)]) dX9_tellsBy_190 (by decide) rfl rfl ?_
                        refine r_sipush dX9_tellsBy_192 rfl ?_
                        refine r_iload dX9_tellsBy_195 rfl ?_
                        refine r_bipush dX9_tellsBy_197 rfl ?_
                        refine r_iload dX9_tellsBy_199 rfl ?_
                        refine r_iadd dX9_tellsBy_201 ?_
                        refine r_imul dX9_tellsBy_202 ?_
                        refine r_bipush dX9_tellsBy_203 rfl ?_
                        refine r_idiv dX9_tellsBy_205 ⟨by omega, by omega⟩ ⟨by omega, by omega⟩ (by omega) ⟨by omega, by omega⟩ ?_
                        refine r_iadd dX9_tellsBy_206 ?_
                        refine r_iload_n dX9_tellsBy_207 rfl rfl ?_
                        refine r_iadd dX9_tellsBy_208 ?_
                        refine r_iload dX9_tellsBy_209 rfl ?_
                        refine r_iadd dX9_tellsBy_211 ?_
                        refine r_callS [_] (s_X9_round (by omega)) dX9_tellsBy_212 cs_X9_262 sm_X9_round (by decide) (by decide) (by decide) rfl rfl (Nat.le_of_ble_eq_true rfl) (fun _ _ _ q => q.elim) (fun v n2 h2 q => ?_)
                        obtain ⟨rfl, rfl, hh⟩ := q
                        obtain rfl := hh.symm
                        refine ⟨rfl, ?_⟩
                        dsimp only [Option.toList, List.cons_append, List.nil_append]
                        refine r_istore (lv2 := [(0, _), (1, _), (2, _), (3, _), (4, _), (5, _), (6, _), (7, _), (8, _), (9, _), (10, _)]) dX9_tellsBy_215 (by decide) rfl rfl ?_
                        refine r_iload_n dX9_tellsBy_217 rfl rfl ?_
                        refine r_iconst dX9_tellsBy_218 ?_
                        refine r_icmp_ne (tgt := 234) dX9_tellsBy_219 (by decide) ⟨by omega, by omega⟩ ⟨by omega, by omega⟩ (fun g219 => ?_) (fun g219 => ?_)
                        · refine r_iload dX9_tellsBy_234 rfl ?_
                          refine r_iret dX9_tellsBy_236 ?_
                          first
                            | (exfalso; omega)
                            | exact ⟨ivE (by rw [tI_ok hgr ha (by omega), eb]; first | rw [if_pos (by omega)] | rw [if_neg (by omega)]), rfl, gn, lt2, lg2, rfl, li3, kp2⟩
                        · refine r_iload dX9_tellsBy_222 rfl ?_
                          refine r_sipush dX9_tellsBy_224 rfl ?_
                          refine r_icmp_eq (tgt := 234) dX9_tellsBy_227 (by decide) ⟨by omega, by omega⟩ ⟨by omega, by omega⟩ (fun g227 => ?_) (fun g227 => ?_)
                          · refine r_iload dX9_tellsBy_234 rfl ?_
                            refine r_iret dX9_tellsBy_236 ?_
                            first
                              | (exfalso; omega)
                              | exact ⟨ivE (by rw [tI_ok hgr ha (by omega), eb]; first | rw [if_pos (by omega)] | rw [if_neg (by omega)]), rfl, gn, lt2, lg2, rfl, li3, kp2⟩
                          · refine r_iconst dX9_tellsBy_230 ?_
                            refine r_goto (tgt := 236) dX9_tellsBy_231 (by decide) ?_
                            refine r_iret dX9_tellsBy_236 ?_
                            first
                              | (exfalso; omega)
                              | exact ⟨ivE (by rw [tI_ok hgr ha (by omega), eb]; first | rw [if_pos (by omega)] | rw [if_neg (by omega)]), rfl, gn, lt2, lg2, rfl, li3, kp2⟩
                      · have eb : (if tiltI ki then (A0 * (100 + ti)).tdiv 100 else A0) = (A0 * (100 + 0)).tdiv 100 := by rw [if_neg (by unfold tiltI; simp; omega), mul100]
                        refine r_iconst dX9_tellsBy_185 ?_
                        refine r_goto (tgt := 190) dX9_tellsBy_186 (by decide) ?_
                        refine r_istore (lv2 := [(0, _), (1, _), (2, _), (3, _), (4, _), (5, _), (6, _), (7, _), (8, _), (9, _)]) dX9_tellsBy_190 (by decide) rfl rfl ?_
                        refine r_sipush dX9_tellsBy_192 rfl ?_
                        refine r_iload dX9_tellsBy_195 rfl ?_
                        refine r_bipush dX9_tellsBy_197 rfl ?_
                        refine r_iload dX9_tellsBy_199 rfl ?_
                        refine r_iadd dX9_tellsBy_201 ?_
                        refine r_imul dX9_tellsBy_202 ?_
                        refine r_bipush dX9_tellsBy_203 rfl ?_
                        refine r_idiv dX9_tellsBy_205 ⟨by omega, by omega⟩ ⟨by omega, by omega⟩ (by omega) ⟨by omega, by omega⟩ ?_
                        refine r_iadd dX9_tellsBy_206 ?_
                        refine r_iload_n dX9_tellsBy_207 rfl rfl ?_
                        refine r_iadd dX9_tellsBy_208 ?_
                        refine r_iload dX9_tellsBy_209 rfl ?_
                        refine r_iadd dX9_tellsBy_211 ?_
                        refine r_callS [_] (s_X9_round (by omega)) dX9_tellsBy_212 cs_X9_262 sm_X9_round (by decide) (by decide) (by decide) rfl rfl (Nat.le_of_ble_eq_true rfl) (fun _ _ _ q => q.elim) (fun v n2 h2 q => ?_)
                        obtain ⟨rfl, rfl, hh⟩ := q
                        obtain rfl := hh.symm
                        refine ⟨rfl, ?_⟩
                        dsimp only [Option.toList, List.cons_append, List.nil_append]
                        refine r_istore (lv2 := [(0, _), (1, _), (2, _), (3, _), (4, _), (5, _), (6, _), (7, _), (8, _), (9, _), (10, _)]) dX9_tellsBy_215 (by decide) rfl rfl ?_
                        refine r_iload_n dX9_tellsBy_217 rfl rfl ?_
                        refine r_iconst dX9_tellsBy_218 ?_
                        refine r_icmp_ne (tgt := 234) dX9_tellsBy_219 (by decide) ⟨by omega, by omega⟩ ⟨by omega, by omega⟩ (fun g219 => ?_) (fun g219 => ?_)
                        · refine r_iload dX9_tellsBy_234 rfl ?_
                          refine r_iret dX9_tellsBy_236 ?_
                          first
                            | (exfalso; omega)
                            | exact ⟨ivE (by rw [tI_ok hgr ha (by omega), eb]; first | rw [if_pos (by omega)] | rw [if_neg (by omega)]), rfl, gn, lt2, lg2, rfl, li3, kp2⟩
                        · refine r_iload dX9_tellsBy_222 rfl ?_
                          refine r_sipush dX9_tellsBy_224 rfl ?_
                          refine r_icmp_eq (tgt := 234) dX9_tellsBy_227 (by decide) ⟨by omega, by omega⟩ ⟨by omega, by omega⟩ (fun g227 => ?_) (fun g227 => ?_)
                          · refine r_iload dX9_tellsBy_234 rfl ?_
                            refine r_iret dX9_tellsBy_236 ?_
                            first
                              | (exfalso; omega)
                              | exact ⟨ivE (by rw [tI_ok hgr ha (by omega), eb]; first | rw [if_pos (by omega)] | rw [if_neg (by omega)]), rfl, gn, lt2, lg2, rfl, li3, kp2⟩
                          · refine r_iconst dX9_tellsBy_230 ?_
                            refine r_goto (tgt := 236) dX9_tellsBy_231 (by decide) ?_
                            refine r_iret dX9_tellsBy_236 ?_
                            first
                              | (exfalso; omega)
                              | exact ⟨ivE (by rw [tI_ok hgr ha (by omega), eb]; first | rw [if_pos (by omega)] | rw [if_neg (by omega)]), rfl, gn, lt2, lg2, rfl, li3, kp2⟩
                  · refine r_iconst dX9_tellsBy_173 ?_
                    refine r_iret dX9_tellsBy_174 ?_
                    exact ⟨ivE (tI_no2 hgr (by
                      unfold angI sunI
                      rw [if_neg (by omega), if_neg (by omega), if_pos (by
                        first
                          | exact Or.inr (Or.inr (Or.inl (by omega)))
                          | exact Or.inr (Or.inr (Or.inr (by omega)))
                          | (rw [b2i_0, Bool.and_eq_false_iff, Bool.not_eq_false'] at g151
                             rcases g151 with z | z
                             · refine Or.inl ?_
                               have hn9 : ¬ ((m - noonI L day).natAbs : Int) ≤ halfI sw day := fun q => absurd (lgm.mpr q) (by rw [z]; decide)
                               omega
                             · exact Or.inr (Or.inl z)))])).symm, rfl, gn, lt2, lg2, rfl, li3, kp2⟩
        · refine r_iload dX9_tellsBy_54 rfl ?_
          refine r_bipush dX9_tellsBy_56 rfl ?_
          refine r_iremN dX9_tellsBy_58 (by omega) (by omega) (by omega) (by omega) ?_
          refine r_istore (lv2 := [(0, _), (1, _), (2, _), (3, _), (4, _), (5, _), (6, _), (7, _), (8, _), (9, _)]) dX9_tellsBy_59 (by decide) rfl rfl ?_
          refine r_iload dX9_tellsBy_61 rfl ?_
          refine r_sipush dX9_tellsBy_63 rfl ?_
          refine r_isub dX9_tellsBy_66 ?_
          refine r_bipush dX9_tellsBy_67 rfl ?_
          refine r_iload dX9_tellsBy_69 rfl ?_
          refine r_imul dX9_tellsBy_71 ?_
          refine r_isub dX9_tellsBy_72 ?_
          refine r_callS [_] (s_X9_round (by omega)) dX9_tellsBy_73 cs_X9_262 sm_X9_round (by decide) (by decide) (by decide) rfl rfl (Nat.le_of_ble_eq_true rfl) (fun _ _ _ q => q.elim) (fun v n2 h2 q => ?_)
          obtain ⟨rfl, rfl, hh⟩ := q
          obtain rfl := hh.symm
          refine ⟨rfl, ?_⟩
          dsimp only [Option.toList, List.cons_append, List.nil_append]
          refine r_istore (lv2 := [(0, _), (1, _), (2, _), (3, _), (4, _), (5, _), (6, _), (7, _), (8, _), (9, _)]) dX9_tellsBy_76 (by decide) rfl rfl ?_
          refine r_iload dX9_tellsBy_78 rfl ?_
          refine r_sipush dX9_tellsBy_80 rfl ?_
          refine r_icmp_lt (tgt := 95) dX9_tellsBy_83 (by decide) ⟨by omega, by omega⟩ ⟨by omega, by omega⟩ (fun g83 => ?_) (fun g83 => ?_)
          · refine r_iload dX9_tellsBy_95 rfl ?_
            first
              | rw [show (m - 720 - 48 * (day % 30)) % 1440 - 1440 = (aroundI (m - (720 + 48 * (day % 30)))) by unfold aroundI; omega]
              | rw [show (m - 720 - 48 * (day % 30)) % 1440 = (aroundI (m - (720 + 48 * (day % 30)))) by unfold aroundI; omega]
            have bar := around_B (m - (720 + 48 * (day % 30)))
            refine r_istore (lv2 := [(0, _), (1, _), (2, _), (3, _), (4, _), (5, _), (6, _), (7, _), (8, _), (9, _)]) dX9_tellsBy_97 (by decide) rfl rfl ?_
            refine r_iload dX9_tellsBy_99 rfl ?_
            refine r_bipush dX9_tellsBy_101 rfl ?_
            refine r_icmp_lt (tgt := 139) dX9_tellsBy_103 (by decide) ⟨by omega, by omega⟩ ⟨by omega, by omega⟩ (fun g103 => ?_) (fun g103 => ?_)
            · refine r_iconst dX9_tellsBy_139 ?_
              refine r_iret dX9_tellsBy_140 ?_
              exact ⟨ivE (tI_no2 hgr (by
                unfold angI mangI
                rw [if_pos (by omega), if_pos (by
                  first
                    | exact Or.inl (by unfold moonI; simp; omega)
                    | exact Or.inr (Or.inr (by omega))
                    | exact Or.inr (Or.inl (lgm.mp (by rw [b2i_0, Bool.not_eq_false] at g120; exact g120))))])).symm, rfl, gn, lt2, lg2, rfl, li3, kp2⟩
            · refine r_iload dX9_tellsBy_106 rfl ?_
              refine r_bipush dX9_tellsBy_108 rfl ?_
              refine r_icmp_gt (tgt := 139) dX9_tellsBy_110 (by decide) ⟨by omega, by omega⟩ ⟨by omega, by omega⟩ (fun g110 => ?_) (fun g110 => ?_)
              · refine r_iconst dX9_tellsBy_139 ?_
                refine r_iret dX9_tellsBy_140 ?_
                exact ⟨ivE (tI_no2 hgr (by
                  unfold angI mangI
                  rw [if_pos (by omega), if_pos (by
                    first
                      | exact Or.inl (by unfold moonI; simp; omega)
                      | exact Or.inr (Or.inr (by omega))
                      | exact Or.inr (Or.inl (lgm.mp (by rw [b2i_0, Bool.not_eq_false] at g120; exact g120))))])).symm, rfl, gn, lt2, lg2, rfl, li3, kp2⟩
              · refine r_aload_n dX9_tellsBy_113 rfl rfl ?_
                refine r_get (fs := RGL _ _) dX9_tellsBy_114 fl_X9_45 (by decide) rfl rfl ?_
                refine r_iload dX9_tellsBy_117 rfl ?_
                refine r_zald dX9_tellsBy_119 (by decide) rfl (by omega) (by omega) (by decide) ?_
                rw [lv1]
                refine r_if_ne (tgt := 139) dX9_tellsBy_120 (by decide) ⟨by omega, by omega⟩ (fun g120 => ?_) (fun g120 => ?_)
                · refine r_iconst dX9_tellsBy_139 ?_
                  refine r_iret dX9_tellsBy_140 ?_
                  exact ⟨ivE (tI_no2 hgr (by
                    unfold angI mangI
                    rw [if_pos (by omega), if_pos (by
                      first
                        | exact Or.inl (by unfold moonI; simp; omega)
                        | exact Or.inr (Or.inr (by omega))
                        | exact Or.inr (Or.inl (lgm.mp (by rw [b2i_0, Bool.not_eq_false] at g120; exact g120))))])).symm, rfl, gn, lt2, lg2, rfl, li3, kp2⟩
                · refine r_iload dX9_tellsBy_123 rfl ?_
                  refine r_sipush dX9_tellsBy_125 rfl ?_
                  refine r_icmp_gt (tgt := 139) dX9_tellsBy_128 (by decide) ⟨by omega, by omega⟩ ⟨by omega, by omega⟩ (fun g128 => ?_) (fun g128 => ?_)
                  · refine r_iconst dX9_tellsBy_139 ?_
                    refine r_iret dX9_tellsBy_140 ?_
                    exact ⟨ivE (tI_no2 hgr (by
                      unfold angI mangI
                      rw [if_pos (by omega), if_pos (by
                        first
                          | exact Or.inl (by unfold moonI; simp; omega)
                          | exact Or.inr (Or.inr (by omega))
                          | exact Or.inr (Or.inl (lgm.mp (by rw [b2i_0, Bool.not_eq_false] at g120; exact g120))))])).symm, rfl, gn, lt2, lg2, rfl, li3, kp2⟩
                  · refine r_iload dX9_tellsBy_131 rfl ?_
                    refine r_sipush dX9_tellsBy_133 rfl ?_
                    refine r_icmp_ge (tgt := 141) dX9_tellsBy_136 (by decide) ⟨by omega, by omega⟩ ⟨by omega, by omega⟩ (fun g136 => ?_) (fun g136 => ?_)
                    · refine r_goto (tgt := 175) dX9_tellsBy_141 (by decide) ?_
                      first
                        | (have ha : angI ki day m (noonI L day) (halfI sw day) (cUp cd cf ct day m nc.toNat) = (aroundI (m - (720 + 48 * (day % 30)))) := by
                             unfold angI mangI
                             rw [if_pos (by omega), if_neg (by
                               rintro (z | z | z)
                               · unfold moonI at z; simp at z; omega
                               · rw [b2i_0] at g120; rw [← lgm, g120] at z; exact absurd z (by decide)
                               · omega)]
                           have hA : -600 ≤ (aroundI (m - (720 + 48 * (day % 30)))) ∧ (aroundI (m - (720 + 48 * (day % 30)))) ≤ 600 := by omega
                           obtain ⟨A0, eA⟩ : ∃ z, (aroundI (m - (720 + 48 * (day % 30)))) = z := ⟨_, rfl⟩
                           rw [eA] at ha hA ⊢)
                        | (have hlt : lgB sw L day m.toNat = true ∧ (cUp cd cf ct day m nc.toNat) = false := by
                             rw [b2i_0, Bool.not_eq_false, Bool.and_eq_true, Bool.not_eq_true'] at g151
                             exact g151
                           have hll := lgm.mp hlt.1
                           have ha : angI ki day m (noonI L day) (halfI sw day) (cUp cd cf ct day m nc.toNat) = (m - noonI L day) := by
                             unfold angI sunI
                             rw [if_neg (by omega), if_neg (by omega), if_neg (by
                               rintro (z | z | z | z)
                               · omega
                               · rw [hlt.2] at z; cases z
                               · omega
                               · omega)]
                           have hA : -600 ≤ (m - noonI L day) ∧ (m - noonI L day) ≤ 600 := by omega
                           obtain ⟨A0, eA⟩ : ∃ z, (m - noonI L day) = z := ⟨_, rfl⟩
                           rw [eA] at ha hA ⊢)
                      have bb1 := bend_B (a := A0) (t := ti) hA hti
                      have bb2 := bend_B (a := A0) (t := 0) hA (by decide)
                      refine r_iload_n dX9_tellsBy_175 rfl rfl ?_
                      refine r_iconst dX9_tellsBy_176 ?_
                      refine r_icmp_eq (tgt := 185) dX9_tellsBy_177 (by decide) ⟨by omega, by omega⟩ ⟨by omega, by omega⟩ (fun g177 => ?_) (fun g177 => ?_)
                      · have eb : (if tiltI ki then (A0 * (100 + ti)).tdiv 100 else A0) = (A0 * (100 + 0)).tdiv 100 := by rw [if_neg (by unfold tiltI; simp; omega), mul100]
                        refine r_iconst dX9_tellsBy_185 ?_
                        refine r_goto (tgt := 190) dX9_tellsBy_186 (by decide) ?_
                        refine r_istore (lv2 := [(0, _), (1, _), (2, _), (3, _), (4, _), (5, _), (6, _), (7, _), (8, _), (9, _)]) dX9_tellsBy_190 (by decide) rfl rfl ?_
                        refine r_sipush dX9_tellsBy_192 rfl ?_
                        refine r_iload dX9_tellsBy_195 rfl ?_
                        refine r_bipush dX9_tellsBy_197 rfl ?_
                        refine r_iload dX9_tellsBy_199 rfl ?_
                        refine r_iadd dX9_tellsBy_201 ?_
                        refine r_imul dX9_tellsBy_202 ?_
                        refine r_bipush dX9_tellsBy_203 rfl ?_
                        refine r_idiv dX9_tellsBy_205 ⟨by omega, by omega⟩ ⟨by omega, by omega⟩ (by omega) ⟨by omega, by omega⟩ ?_
                        refine r_iadd dX9_tellsBy_206 ?_
                        refine r_iload_n dX9_tellsBy_207 rfl rfl ?_
                        refine r_iadd dX9_tellsBy_208 ?_
                        refine r_iload dX9_tellsBy_209 rfl ?_
                        refine r_iadd dX9_tellsBy_211 ?_
                        refine r_callS [_] (s_X9_round (by omega)) dX9_tellsBy_212 cs_X9_262 sm_X9_round (by decide) (by decide) (by decide) rfl rfl (Nat.le_of_ble_eq_true rfl) (fun _ _ _ q => q.elim) (fun v n2 h2 q => ?_)
                        obtain ⟨rfl, rfl, hh⟩ := q
                        obtain rfl := hh.symm
                        refine ⟨rfl, ?_⟩
                        dsimp only [Option.toList, List.cons_append, List.nil_append]
                        refine r_istore (lv2 := [(0, _), (1, _), (2, _), (3, _), (4, _), (5, _), (6, _), (7, _), (8, _), (9, _), (10, _)]) dX9_tellsBy_215 (by decide) rfl rfl ?_
                        refine r_iload_n dX9_tellsBy_217 rfl rfl ?_
                        refine r_iconst dX9_tellsBy_218 ?_
                        refine r_icmp_ne (tgt := 234) dX9_tellsBy_219 (by decide) ⟨by omega, by omega⟩ ⟨by omega, by omega⟩ (fun g219 => ?_) (fun g219 => ?_)
                        · refine r_iload dX9_tellsBy_234 rfl ?_
                          refine r_iret dX9_tellsBy_236 ?_
                          first
                            | (exfalso; omega)
                            | exact ⟨ivE (by rw [tI_ok hgr ha (by omega), eb]; first | rw [if_pos (by omega)] | rw [if_neg (by omega)]), rfl, gn, lt2, lg2, rfl, li3, kp2⟩
                        · refine r_iload dX9_tellsBy_222 rfl ?_
                          refine r_sipush dX9_tellsBy_224 rfl ?_
                          refine r_icmp_eq (tgt := 234) dX9_tellsBy_227 (by decide) ⟨by omega, by omega⟩ ⟨by omega, by omega⟩ (fun g227 => ?_) (fun g227 => ?_)
                          · refine r_iload dX9_tellsBy_234 rfl ?_
                            refine r_iret dX9_tellsBy_236 ?_
                            first
                              | (exfalso; omega)
                              | exact ⟨ivE (by rw [tI_ok hgr ha (by omega), eb]; first | rw [if_pos (by omega)] | rw [if_neg (by omega)]), rfl, gn, lt2, lg2, rfl, li3, kp2⟩
                          · refine r_iconst dX9_tellsBy_230 ?_
                            refine r_goto (tgt := 236) dX9_tellsBy_231 (by decide) ?_
                            refine r_iret dX9_tellsBy_236 ?_
                            first
                              | (exfalso; omega)
                              | exact ⟨ivE (by rw [tI_ok hgr ha (by omega), eb]; first | rw [if_pos (by omega)] | rw [if_neg (by omega)]), rfl, gn, lt2, lg2, rfl, li3, kp2⟩
                      · refine r_iload_n dX9_tellsBy_180 rfl rfl ?_
                        refine r_iconst dX9_tellsBy_181 ?_
                        refine r_icmp_ne (tgt := 189) dX9_tellsBy_182 (by decide) ⟨by omega, by omega⟩ ⟨by omega, by omega⟩ (fun g182 => ?_) (fun g182 => ?_)
                        · have eb : (if tiltI ki then (A0 * (100 + ti)).tdiv 100 else A0) = (A0 * (100 + ti)).tdiv 100 := by rw [if_pos (by unfold tiltI; simp; omega)]
                          refine r_iload_n dX9_tellsBy_189 rfl rfl ?_
                          refine r_istore (lv2 := [(0, _), (1, _), (2, _), (3, _), (4, _), (5, _), (6, _), (7, _), (8, _), (9, _)]) dX9_tellsBy_190 (by decide) rfl rfl ?_
                          refine r_sipush dX9_tellsBy_192 rfl ?_
                          refine r_iload dX9_tellsBy_195 rfl ?_
                          refine r_bipush dX9_tellsBy_197 rfl ?_
                          refine r_iload dX9_tellsBy_199 rfl ?_
                          refine r_iadd dX9_tellsBy_201 ?_
                          refine r_imul dX9_tellsBy_202 ?_
                          refine r_bipush dX9_tellsBy_203 rfl ?_
                          refine r_idiv dX9_tellsBy_205 ⟨by omega, by omega⟩ ⟨by omega, by omega⟩ (by omega) ⟨by omega, by omega⟩ ?_
                          refine r_iadd dX9_tellsBy_206 ?_
                          refine r_iload_n dX9_tellsBy_207 rfl rfl ?_
                          refine r_iadd dX9_tellsBy_208 ?_
                          refine r_iload dX9_tellsBy_209 rfl ?_
                          refine r_iadd dX9_tellsBy_211 ?_
                          refine r_callS [_] (s_X9_round (by omega)) dX9_tellsBy_212 cs_X9_262 sm_X9_round (by decide) (by decide) (by decide) rfl rfl (Nat.le_of_ble_eq_true rfl) (fun _ _ _ q => q.elim) (fun v n2 h2 q => ?_)
                          obtain ⟨rfl, rfl, hh⟩ := q
                          obtain rfl := hh.symm
                          refine ⟨rfl, ?_⟩
                          dsimp only [Option.toList, List.cons_append, List.nil_append]
                          refine r_istore (lv2 := [(0, _), (1, _), (2, _), (3, _), (4, _), (5, _), (6, _), (7, _), (8, _), (9, _), (10, _)]) dX9_tellsBy_215 (by decide) rfl rfl ?_
                          refine r_iload_n dX9_tellsBy_217 rfl rfl ?_
                          refine r_iconst dX9_tellsBy_218 ?_
                          refine r_icmp_ne (tgt := 234) dX9_tellsBy_219 (by decide) ⟨by omega, by omega⟩ ⟨by omega, by omega⟩ (fun g219 => ?_) (fun g219 => ?_)
                          · refine r_iload dX9_tellsBy_234 rfl ?_
                            refine r_iret dX9_tellsBy_236 ?_
                            first
                              | (exfalso; omega)
                              | exact ⟨ivE (by rw [tI_ok hgr ha (by omega), eb]; first | rw [if_pos (by omega)] | rw [if_neg (by omega)]), rfl, gn, lt2, lg2, rfl, li3, kp2⟩
                          · refine r_iload dX9_tellsBy_222 rfl ?_
                            refine r_sipush dX9_tellsBy_224 rfl ?_
                            refine r_icmp_eq (tgt := 234) dX9_tellsBy_227 (by decide) ⟨by omega, by omega⟩ ⟨by omega, by omega⟩ (fun g227 => ?_) (fun g227 => ?_)
                            · refine r_iload dX9_tellsBy_234 rfl ?_
                              refine r_iret dX9_tellsBy_236 ?_
                              first
                                | (exfalso; omega)
                                | exact ⟨ivE (by rw [tI_ok hgr ha (by omega), eb]; first | rw [if_pos (by omega)] | rw [if_neg (by omega)]), rfl, gn, lt2, lg2, rfl, li3, kp2⟩
                            · refine r_iconst dX9_tellsBy_230 ?_
                              refine r_goto (tgt := 236) dX9_tellsBy_231 (by decide) ?_
                              refine r_iret dX9_tellsBy_236 ?_
                              first
                                | (exfalso; omega)
                                | exact ⟨ivE (by rw [tI_ok hgr ha (by omega), eb]; first | rw [if_pos (by omega)] | rw [if_neg (by omega)]), rfl, gn, lt2, lg2, rfl, li3, kp2⟩
                        · have eb : (if tiltI ki then (A0 * (100 + ti)).tdiv 100 else A0) = (A0 * (100 + 0)).tdiv 100 := by rw [if_neg (by unfold tiltI; simp; omega), mul100]
                          refine r_iconst dX9_tellsBy_185 ?_
                          refine r_goto (tgt := 190) dX9_tellsBy_186 (by decide) ?_
                          refine r_istore (lv2 := [(0, _), (1, _), (2, _), (3, _), (4, _), (5, _), (6, _), (7, _), (8, _), (9, _)]) dX9_tellsBy_190 (by decide) rfl rfl ?_
                          refine r_sipush dX9_tellsBy_192 rfl ?_
                          refine r_iload dX9_tellsBy_195 rfl ?_
                          refine r_bipush dX9_tellsBy_197 rfl ?_
                          refine r_iload dX9_tellsBy_199 rfl ?_
                          refine r_iadd dX9_tellsBy_201 ?_
                          refine r_imul dX9_tellsBy_202 ?_
                          refine r_bipush dX9_tellsBy_203 rfl ?_
                          refine r_idiv dX9_tellsBy_205 ⟨by omega, by omega⟩ ⟨by omega, by omega⟩ (by omega) ⟨by omega, by omega⟩ ?_
                          refine r_iadd dX9_tellsBy_206 ?_
                          refine r_iload_n dX9_tellsBy_207 rfl rfl ?_
                          refine r_iadd dX9_tellsBy_208 ?_
                          refine r_iload dX9_tellsBy_209 rfl ?_
                          refine r_iadd dX9_tellsBy_211 ?_
                          refine r_callS [_] (s_X9_round (by omega)) dX9_tellsBy_212 cs_X9_262 sm_X9_round (by decide) (by decide) (by decide) rfl rfl (Nat.le_of_ble_eq_true rfl) (fun _ _ _ q => q.elim) (fun v n2 h2 q => ?_)
                          obtain ⟨rfl, rfl, hh⟩ := q
                          obtain rfl := hh.symm
                          refine ⟨rfl, ?_⟩
                          dsimp only [Option.toList, List.cons_append, List.nil_append]
                          refine r_istore (lv2 := [(0, _), (1, _), (2, _), (3, _), (4, _), (5, _), (6, _), (7, _), (8, _), (9, _), (10, _)]) dX9_tellsBy_215 (by decide) rfl rfl ?_
                          refine r_iload_n dX9_tellsBy_217 rfl rfl ?_
                          refine r_iconst dX9_tellsBy_218 ?_
                          refine r_icmp_ne (tgt := 234) dX9_tellsBy_219 (by decide) ⟨by omega, by omega⟩ ⟨by omega, by omega⟩ (fun g219 => ?_) (fun g219 => ?_)
                          · refine r_iload dX9_tellsBy_234 rfl ?_
                            refine r_iret dX9_tellsBy_236 ?_
                            first
                              | (exfalso; omega)
                              | exact ⟨ivE (by rw [tI_ok hgr ha (by omega), eb]; first | rw [if_pos (by omega)] | rw [if_neg (by omega)]), rfl, gn, lt2, lg2, rfl, li3, kp2⟩
                          · refine r_iload dX9_tellsBy_222 rfl ?_
                            refine r_sipush dX9_tellsBy_224 rfl ?_
                            refine r_icmp_eq (tgt := 234) dX9_tellsBy_227 (by decide) ⟨by omega, by omega⟩ ⟨by omega, by omega⟩ (fun g227 => ?_) (fun g227 => ?_)
                            · refine r_iload dX9_tellsBy_234 rfl ?_
                              refine r_iret dX9_tellsBy_236 ?_
                              first
                                | (exfalso; omega)
                                | exact ⟨ivE (by rw [tI_ok hgr ha (by omega), eb]; first | rw [if_pos (by omega)] | rw [if_neg (by omega)]), rfl, gn, lt2, lg2, rfl, li3, kp2⟩
                            · refine r_iconst dX9_tellsBy_230 ?_
                              refine r_goto (tgt := 236) dX9_tellsBy_231 (by decide) ?_
                              refine r_iret dX9_tellsBy_236 ?_
                              first
                                | (exfalso; omega)
                                | exact ⟨ivE (by rw [tI_ok hgr ha (by omega), eb]; first | rw [if_pos (by omega)] | rw [if_neg (by omega)]), rfl, gn, lt2, lg2, rfl, li3, kp2⟩
                    · refine r_iconst dX9_tellsBy_139 ?_
                      refine r_iret dX9_tellsBy_140 ?_
                      exact ⟨ivE (tI_no2 hgr (by
                        unfold angI mangI
                        rw [if_pos (by omega), if_pos (by
                          first
                            | exact Or.inl (by unfold moonI; simp; omega)
                            | exact Or.inr (Or.inr (by omega))
                            | exact Or.inr (Or.inl (lgm.mp (by rw [b2i_0, Bool.not_eq_false] at g120; exact g120))))])).symm, rfl, gn, lt2, lg2, rfl, li3, kp2⟩
          · refine r_iload dX9_tellsBy_86 rfl ?_
            refine r_sipush dX9_tellsBy_88 rfl ?_
            refine r_isub dX9_tellsBy_91 ?_
            refine r_goto (tgt := 97) dX9_tellsBy_92 (by decide) ?_
            first
              | rw [show (m - 720 - 48 * (day % 30)) % 1440 - 1440 = (aroundI (m - (720 + 48 * (day % 30)))) by unfold aroundI; omega]
              | rw [show (m - 720 - 48 * (day % 30)) % 1440 = (aroundI (m - (720 + 48 * (day % 30)))) by unfold aroundI; omega]
            have bar := around_B (m - (720 + 48 * (day % 30)))
            refine r_istore (lv2 := [(0, _), (1, _), (2, _), (3, _), (4, _), (5, _), (6, _), (7, _), (8, _), (9, _)]) dX9_tellsBy_97 (by decide) rfl rfl ?_
            refine r_iload dX9_tellsBy_99 rfl ?_
            refine r_bipush dX9_tellsBy_101 rfl ?_
            refine r_icmp_lt (tgt := 139) dX9_tellsBy_103 (by decide) ⟨by omega, by omega⟩ ⟨by omega, by omega⟩ (fun g103 => ?_) (fun g103 => ?_)
            · refine r_iconst dX9_tellsBy_139 ?_
              refine r_iret dX9_tellsBy_140 ?_
              exact ⟨ivE (tI_no2 hgr (by
                unfold angI mangI
                rw [if_pos (by omega), if_pos (by
                  first
                    | exact Or.inl (by unfold moonI; simp; omega)
                    | exact Or.inr (Or.inr (by omega))
                    | exact Or.inr (Or.inl (lgm.mp (by rw [b2i_0, Bool.not_eq_false] at g120; exact g120))))])).symm, rfl, gn, lt2, lg2, rfl, li3, kp2⟩
            · refine r_iload dX9_tellsBy_106 rfl ?_
              refine r_bipush dX9_tellsBy_108 rfl ?_
              refine r_icmp_gt (tgt := 139) dX9_tellsBy_110 (by decide) ⟨by omega, by omega⟩ ⟨by omega, by omega⟩ (fun g110 => ?_) (fun g110 => ?_)
              · refine r_iconst dX9_tellsBy_139 ?_
                refine r_iret dX9_tellsBy_140 ?_
                exact ⟨ivE (tI_no2 hgr (by
                  unfold angI mangI
                  rw [if_pos (by omega), if_pos (by
                    first
                      | exact Or.inl (by unfold moonI; simp; omega)
                      | exact Or.inr (Or.inr (by omega))
                      | exact Or.inr (Or.inl (lgm.mp (by rw [b2i_0, Bool.not_eq_false] at g120; exact g120))))])).symm, rfl, gn, lt2, lg2, rfl, li3, kp2⟩
              · refine r_aload_n dX9_tellsBy_113 rfl rfl ?_
                refine r_get (fs := RGL _ _) dX9_tellsBy_114 fl_X9_45 (by decide) rfl rfl ?_
                refine r_iload dX9_tellsBy_117 rfl ?_
                refine r_zald dX9_tellsBy_119 (by decide) rfl (by omega) (by omega) (by decide) ?_
                rw [lv1]
                refine r_if_ne (tgt := 139) dX9_tellsBy_120 (by decide) ⟨by omega, by omega⟩ (fun g120 => ?_) (fun g120 => ?_)
                · refine r_iconst dX9_tellsBy_139 ?_
                  refine r_iret dX9_tellsBy_140 ?_
                  exact ⟨ivE (tI_no2 hgr (by
                    unfold angI mangI
                    rw [if_pos (by omega), if_pos (by
                      first
                        | exact Or.inl (by unfold moonI; simp; omega)
                        | exact Or.inr (Or.inr (by omega))
                        | exact Or.inr (Or.inl (lgm.mp (by rw [b2i_0, Bool.not_eq_false] at g120; exact g120))))])).symm, rfl, gn, lt2, lg2, rfl, li3, kp2⟩
                · refine r_iload dX9_tellsBy_123 rfl ?_
                  refine r_sipush dX9_tellsBy_125 rfl ?_
                  refine r_icmp_gt (tgt := 139) dX9_tellsBy_128 (by decide) ⟨by omega, by omega⟩ ⟨by omega, by omega⟩ (fun g128 => ?_) (fun g128 => ?_)
                  · refine r_iconst dX9_tellsBy_139 ?_
                    refine r_iret dX9_tellsBy_140 ?_
                    exact ⟨ivE (tI_no2 hgr (by
                      unfold angI mangI
                      rw [if_pos (by omega), if_pos (by
                        first
                          | exact Or.inl (by unfold moonI; simp; omega)
                          | exact Or.inr (Or.inr (by omega))
                          | exact Or.inr (Or.inl (lgm.mp (by rw [b2i_0, Bool.not_eq_false] at g120; exact g120))))])).symm, rfl, gn, lt2, lg2, rfl, li3, kp2⟩
                  · refine r_iload dX9_tellsBy_131 rfl ?_
                    refine r_sipush dX9_tellsBy_133 rfl ?_
                    refine r_icmp_ge (tgt := 141) dX9_tellsBy_136 (by decide) ⟨by omega, by omega⟩ ⟨by omega, by omega⟩ (fun g136 => ?_) (fun g136 => ?_)
                    · refine r_goto (tgt := 175) dX9_tellsBy_141 (by decide) ?_
                      first
                        | (have ha : angI ki day m (noonI L day) (halfI sw day) (cUp cd cf ct day m nc.toNat) = (aroundI (m - (720 + 48 * (day % 30)))) := by
                             unfold angI mangI
                             rw [if_pos (by omega), if_neg (by
                               rintro (z | z | z)
                               · unfold moonI at z; simp at z; omega
                               · rw [b2i_0] at g120; rw [← lgm, g120] at z; exact absurd z (by decide)
                               · omega)]
                           have hA : -600 ≤ (aroundI (m - (720 + 48 * (day % 30)))) ∧ (aroundI (m - (720 + 48 * (day % 30)))) ≤ 600 := by omega
                           obtain ⟨A0, eA⟩ : ∃ z, (aroundI (m - (720 + 48 * (day % 30)))) = z := ⟨_, rfl⟩
                           rw [eA] at ha hA ⊢)
                        | (have hlt : lgB sw L day m.toNat = true ∧ (cUp cd cf ct day m nc.toNat) = false := by
                             rw [b2i_0, Bool.not_eq_false, Bool.and_eq_true, Bool.not_eq_true'] at g151
                             exact g151
                           have hll := lgm.mp hlt.1
                           have ha : angI ki day m (noonI L day) (halfI sw day) (cUp cd cf ct day m nc.toNat) = (m - noonI L day) := by
                             unfold angI sunI
                             rw [if_neg (by omega), if_neg (by omega), if_neg (by
                               rintro (z | z | z | z)
                               · omega
                               · rw [hlt.2] at z; cases z
                               · omega
                               · omega)]
                           have hA : -600 ≤ (m - noonI L day) ∧ (m - noonI L day) ≤ 600 := by omega
                           obtain ⟨A0, eA⟩ : ∃ z, (m - noonI L day) = z := ⟨_, rfl⟩
                           rw [eA] at ha hA ⊢)
                      have bb1 := bend_B (a := A0) (t := ti) hA hti
                      have bb2 := bend_B (a := A0) (t := 0) hA (by decide)
                      refine r_iload_n dX9_tellsBy_175 rfl rfl ?_
                      refine r_iconst dX9_tellsBy_176 ?_
                      refine r_icmp_eq (tgt := 185) dX9_tellsBy_177 (by decide) ⟨by omega, by omega⟩ ⟨by omega, by omega⟩ (fun g177 => ?_) (fun g177 => ?_)
                      · have eb : (if tiltI ki then (A0 * (100 + ti)).tdiv 100 else A0) = (A0 * (100 + 0)).tdiv 100 := by rw [if_neg (by unfold tiltI; simp; omega), mul100]
                        refine r_iconst dX9_tellsBy_185 ?_
                        refine r_goto (tgt := 190) dX9_tellsBy_186 (by decide) ?_
                        refine r_istore (lv2 := [(0, _), (1, _), (2, _), (3, _), (4, _), (5, _), (6, _), (7, _), (8, _), (9, _)]) dX9_tellsBy_190 (by decide) rfl rfl ?_
                        refine r_sipush dX9_tellsBy_192 rfl ?_
                        refine r_iload dX9_tellsBy_195 rfl ?_
                        refine r_bipush dX9_tellsBy_197 rfl ?_
                        refine r_iload dX9_tellsBy_199 rfl ?_
                        refine r_iadd dX9_tellsBy_201 ?_
                        refine r_imul dX9_tellsBy_202 ?_
                        refine r_bipush dX9_tellsBy_203 rfl ?_
                        refine r_idiv dX9_tellsBy_205 ⟨by omega, by omega⟩ ⟨by omega, by omega⟩ (by omega) ⟨by omega, by omega⟩ ?_
                        refine r_iadd dX9_tellsBy_206 ?_
                        refine r_iload_n dX9_tellsBy_207 rfl rfl ?_
                        refine r_iadd dX9_tellsBy_208 ?_
                        refine r_iload dX9_tellsBy_209 rfl ?_
                        refine r_iadd dX9_tellsBy_211 ?_
                        refine r_callS [_] (s_X9_round (by omega)) dX9_tellsBy_212 cs_X9_262 sm_X9_round (by decide) (by decide) (by decide) rfl rfl (Nat.le_of_ble_eq_true rfl) (fun _ _ _ q => q.elim) (fun v n2 h2 q => ?_)
                        obtain ⟨rfl, rfl, hh⟩ := q
                        obtain rfl := hh.symm
                        refine ⟨rfl, ?_⟩
                        dsimp only [Option.toList, List.cons_append, List.nil_append]
                        refine r_istore (lv2 := [(0, _), (1, _), (2, _), (3, _), (4, _), (5, _), (6, _), (7, _), (8, _), (9, _), (10, _)]) dX9_tellsBy_215 (by decide) rfl rfl ?_
                        refine r_iload_n dX9_tellsBy_217 rfl rfl ?_
                        refine r_iconst dX9_tellsBy_218 ?_
                        refine r_icmp_ne (tgt := 234) dX9_tellsBy_219 (by decide) ⟨by omega, by omega⟩ ⟨by omega, by omega⟩ (fun g219 => ?_) (fun g219 => ?_)
                        · refine r_iload dX9_tellsBy_234 rfl ?_
                          refine r_iret dX9_tellsBy_236 ?_
                          first
                            | (exfalso; omega)
                            | exact ⟨ivE (by rw [tI_ok hgr ha (by omega), eb]; first | rw [if_pos (by omega)] | rw [if_neg (by omega)]), rfl, gn, lt2, lg2, rfl, li3, kp2⟩
                        · refine r_iload dX9_tellsBy_222 rfl ?_
                          refine r_sipush dX9_tellsBy_224 rfl ?_
                          refine r_icmp_eq (tgt := 234) dX9_tellsBy_227 (by decide) ⟨by omega, by omega⟩ ⟨by omega, by omega⟩ (fun g227 => ?_) (fun g227 => ?_)
                          · refine r_iload dX9_tellsBy_234 rfl ?_
                            refine r_iret dX9_tellsBy_236 ?_
                            first
                              | (exfalso; omega)
                              | exact ⟨ivE (by rw [tI_ok hgr ha (by omega), eb]; first | rw [if_pos (by omega)] | rw [if_neg (by omega)]), rfl, gn, lt2, lg2, rfl, li3, kp2⟩
                          · refine r_iconst dX9_tellsBy_230 ?_
                            refine r_goto (tgt := 236) dX9_tellsBy_231 (by decide) ?_
                            refine r_iret dX9_tellsBy_236 ?_
                            first
                              | (exfalso; omega)
                              | exact ⟨ivE (by rw [tI_ok hgr ha (by omega), eb]; first | rw [if_pos (by omega)] | rw [if_neg (by omega)]), rfl, gn, lt2, lg2, rfl, li3, kp2⟩
                      · refine r_iload_n dX9_tellsBy_180 rfl rfl ?_
                        refine r_iconst dX9_tellsBy_181 ?_
                        refine r_icmp_ne (tgt := 189) dX9_tellsBy_182 (by decide) ⟨by omega, by omega⟩ ⟨by omega, by omega⟩ (fun g182 => ?_) (fun g182 => ?_)
                        · have eb : (if tiltI ki then (A0 * (100 + ti)).tdiv 100 else A0) = (A0 * (100 + ti)).tdiv 100 := by rw [if_pos (by unfold tiltI; simp; omega)]
                          refine r_iload_n dX9_tellsBy_189 rfl rfl ?_
                          refine r_istore (lv2 := [(0, _), (1, _), (2, _), (3, _), (4, _), (5, _), (6, _), (7, _), (8, _), (9, _)]) dX9_tellsBy_190 (by decide) rfl rfl ?_
                          refine r_sipush dX9_tellsBy_192 rfl ?_
                          refine r_iload dX9_tellsBy_195 rfl ?_
                          refine r_bipush dX9_tellsBy_197 rfl ?_
                          refine r_iload dX9_tellsBy_199 rfl ?_
                          refine r_iadd dX9_tellsBy_201 ?_
                          refine r_imul dX9_tellsBy_202 ?_
                          refine r_bipush dX9_tellsBy_203 rfl ?_
                          refine r_idiv dX9_tellsBy_205 ⟨by omega, by omega⟩ ⟨by omega, by omega⟩ (by omega) ⟨by omega, by omega⟩ ?_
                          refine r_iadd dX9_tellsBy_206 ?_
                          refine r_iload_n dX9_tellsBy_207 rfl rfl ?_
                          refine r_iadd dX9_tellsBy_208 ?_
                          refine r_iload dX9_tellsBy_209 rfl ?_
                          refine r_iadd dX9_tellsBy_211 ?_
                          refine r_callS [_] (s_X9_round (by omega)) dX9_tellsBy_212 cs_X9_262 sm_X9_round (by decide) (by decide) (by decide) rfl rfl (Nat.le_of_ble_eq_true rfl) (fun _ _ _ q => q.elim) (fun v n2 h2 q => ?_)
                          obtain ⟨rfl, rfl, hh⟩ := q
                          obtain rfl := hh.symm
                          refine ⟨rfl, ?_⟩
                          dsimp only [Option.toList, List.cons_append, List.nil_append]
                          refine r_istore (lv2 := [(0, _), (1, _), (2, _), (3, _), (4, _), (5, _), (6, _), (7, _), (8, _), (9, _), (10, _)]) dX9_tellsBy_215 (by decide) rfl rfl ?_
                          refine r_iload_n dX9_tellsBy_217 rfl rfl ?_
                          refine r_iconst dX9_tellsBy_218 ?_
                          refine r_icmp_ne (tgt := 234) dX9_tellsBy_219 (by decide) ⟨by omega, by omega⟩ ⟨by omega, by omega⟩ (fun g219 => ?_) (fun g219 => ?_)
                          · refine r_iload dX9_tellsBy_234 rfl ?_
                            refine r_iret dX9_tellsBy_236 ?_
                            first
                              | (exfalso; omega)
                              | exact ⟨ivE (by rw [tI_ok hgr ha (by omega), eb]; first | rw [if_pos (by omega)] | rw [if_neg (by omega)]), rfl, gn, lt2, lg2, rfl, li3, kp2⟩
                          · refine r_iload dX9_tellsBy_222 rfl ?_
                            refine r_sipush dX9_tellsBy_224 rfl ?_
                            refine r_icmp_eq (tgt := 234) dX9_tellsBy_227 (by decide) ⟨by omega, by omega⟩ ⟨by omega, by omega⟩ (fun g227 => ?_) (fun g227 => ?_)
                            · refine r_iload dX9_tellsBy_234 rfl ?_
                              refine r_iret dX9_tellsBy_236 ?_
                              first
                                | (exfalso; omega)
                                | exact ⟨ivE (by rw [tI_ok hgr ha (by omega), eb]; first | rw [if_pos (by omega)] | rw [if_neg (by omega)]), rfl, gn, lt2, lg2, rfl, li3, kp2⟩
                            · refine r_iconst dX9_tellsBy_230 ?_
                              refine r_goto (tgt := 236) dX9_tellsBy_231 (by decide) ?_
                              refine r_iret dX9_tellsBy_236 ?_
                              first
                                | (exfalso; omega)
                                | exact ⟨ivE (by rw [tI_ok hgr ha (by omega), eb]; first | rw [if_pos (by omega)] | rw [if_neg (by omega)]), rfl, gn, lt2, lg2, rfl, li3, kp2⟩
                        · have eb : (if tiltI ki then (A0 * (100 + ti)).tdiv 100 else A0) = (A0 * (100 + 0)).tdiv 100 := by rw [if_neg (by unfold tiltI; simp; omega), mul100]
                          refine r_iconst dX9_tellsBy_185 ?_
                          refine r_goto (tgt := 190) dX9_tellsBy_186 (by decide) ?_
                          refine r_istore (lv2 := [(0, _), (1, _), (2, _), (3, _), (4, _), (5, _), (6, _), (7, _), (8, _), (9, _)]) dX9_tellsBy_190 (by decide) rfl rfl ?_
                          refine r_sipush dX9_tellsBy_192 rfl ?_
                          refine r_iload dX9_tellsBy_195 rfl ?_
                          refine r_bipush dX9_tellsBy_197 rfl ?_
                          refine r_iload dX9_tellsBy_199 rfl ?_
                          refine r_iadd dX9_tellsBy_201 ?_
                          refine r_imul dX9_tellsBy_202 ?_
                          refine r_bipush dX9_tellsBy_203 rfl ?_
                          refine r_idiv dX9_tellsBy_205 ⟨by omega, by omega⟩ ⟨by omega, by omega⟩ (by omega) ⟨by omega, by omega⟩ ?_
                          refine r_iadd dX9_tellsBy_206 ?_
                          refine r_iload_n dX9_tellsBy_207 rfl rfl ?_
                          refine r_iadd dX9_tellsBy_208 ?_
                          refine r_iload dX9_tellsBy_209 rfl ?_
                          refine r_iadd dX9_tellsBy_211 ?_
                          refine r_callS [_] (s_X9_round (by omega)) dX9_tellsBy_212 cs_X9_262 sm_X9_round (by decide) (by decide) (by decide) rfl rfl (Nat.le_of_ble_eq_true rfl) (fun _ _ _ q => q.elim) (fun v n2 h2 q => ?_)
                          obtain ⟨rfl, rfl, hh⟩ := q
                          obtain rfl := hh.symm
                          refine ⟨rfl, ?_⟩
                          dsimp only [Option.toList, List.cons_append, List.nil_append]
                          refine r_istore (lv2 := [(0, _), (1, _), (2, _), (3, _), (4, _), (5, _), (6, _), (7, _), (8, _), (9, _), (10, _)]) dX9_tellsBy_215 (by decide) rfl rfl ?_
                          refine r_iload_n dX9_tellsBy_217 rfl rfl ?_
                          refine r_iconst dX9_tellsBy_218 ?_
                          refine r_icmp_ne (tgt := 234) dX9_tellsBy_219 (by decide) ⟨by omega, by omega⟩ ⟨by omega, by omega⟩ (fun g219 => ?_) (fun g219 => ?_)
                          · refine r_iload dX9_tellsBy_234 rfl ?_
                            refine r_iret dX9_tellsBy_236 ?_
                            first
                              | (exfalso; omega)
                              | exact ⟨ivE (by rw [tI_ok hgr ha (by omega), eb]; first | rw [if_pos (by omega)] | rw [if_neg (by omega)]), rfl, gn, lt2, lg2, rfl, li3, kp2⟩
                          · refine r_iload dX9_tellsBy_222 rfl ?_
                            refine r_sipush dX9_tellsBy_224 rfl ?_
                            refine r_icmp_eq (tgt := 234) dX9_tellsBy_227 (by decide) ⟨by omega, by omega⟩ ⟨by omega, by omega⟩ (fun g227 => ?_) (fun g227 => ?_)
                            · refine r_iload dX9_tellsBy_234 rfl ?_
                              refine r_iret dX9_tellsBy_236 ?_
                              first
                                | (exfalso; omega)
                                | exact ⟨ivE (by rw [tI_ok hgr ha (by omega), eb]; first | rw [if_pos (by omega)] | rw [if_neg (by omega)]), rfl, gn, lt2, lg2, rfl, li3, kp2⟩
                            · refine r_iconst dX9_tellsBy_230 ?_
                              refine r_goto (tgt := 236) dX9_tellsBy_231 (by decide) ?_
                              refine r_iret dX9_tellsBy_236 ?_
                              first
                                | (exfalso; omega)
                                | exact ⟨ivE (by rw [tI_ok hgr ha (by omega), eb]; first | rw [if_pos (by omega)] | rw [if_neg (by omega)]), rfl, gn, lt2, lg2, rfl, li3, kp2⟩
                    · refine r_iconst dX9_tellsBy_139 ?_
                      refine r_iret dX9_tellsBy_140 ?_
                      exact ⟨ivE (tI_no2 hgr (by
                        unfold angI mangI
                        rw [if_pos (by omega), if_pos (by
                          first
                            | exact Or.inl (by unfold moonI; simp; omega)
                            | exact Or.inr (Or.inr (by omega))
                            | exact Or.inr (Or.inl (lgm.mp (by rw [b2i_0, Bool.not_eq_false] at g120; exact g120))))])).symm, rfl, gn, lt2, lg2, rfl, li3, kp2⟩
      · refine r_iconst dX9_tellsBy_30 ?_
        refine r_iret dX9_tellsBy_31 ?_
        exact ⟨ivE (tI_no1 (by unfold grownI; simp; omega)).symm, rfl, g, lt, lgt, ut_self c68 c77 c78, li, fun _ _ => rfl⟩
  · refine r_sipush dX9_tellsBy_5 rfl ?_
    refine r_iload_n dX9_tellsBy_8 rfl rfl ?_
    refine r_iadd dX9_tellsBy_9 ?_
    refine r_iload dX9_tellsBy_10 rfl ?_
    refine r_iadd dX9_tellsBy_12 ?_
    refine r_callS [_] (s_X9_round (by omega)) dX9_tellsBy_13 cs_X9_262 sm_X9_round (by decide) (by decide) (by decide) rfl rfl (Nat.le_of_ble_eq_true rfl) (fun _ _ _ q => q.elim) (fun v n2 h2 q => ?_)
    obtain ⟨rfl, rfl, hh⟩ := q
    obtain rfl := hh.symm
    refine ⟨rfl, ?_⟩
    dsimp only [Option.toList, List.cons_append, List.nil_append]
    refine r_iret dX9_tellsBy_16 ?_
    exact ⟨ivE (by
      rw [tI_ok (a := 0) (by unfold grownI; simp [g2]) (by unfold angI; rw [if_neg (by omega), if_pos (by omega)]) (by decide), if_neg (by omega), show (if tiltI ki then ((0 : Int) * (100 + ti)).tdiv 100 else 0) = 0 by rw [Int.zero_mul]; split <;> rfl]
      omega), rfl, g, lt, lgt, ut_self c68 c77 c78, li, fun _ _ => rfl⟩

theorem l_X9_turnOf {h : aH} {g : Nat → Int} {w : Int} (c68 : h 68 = RG g w) {dl cl lm lt lgt mn : Nat → Int} (c69 : h 69 = .inl (0, 45, dl)) (c70 : h 70 = .inl (0, 60, cl)) (c71 : h 71 = .inl (0, 12, lm)) (c77 : h 77 = .inl (2, 1440, lt)) (c78 : h 78 = .inl (2, 1440, lgt)) (c79 : h 79 = .inl (0, 120, mn)) {nd sw nc nm : Int} {K U I O G L cf ct fc nx cd md my mt : Nat → Int} (tr : TellR g dl cl lm mn nd sw nc nm K U I O G L cf ct cd md my mt) (pi : PInv nd sw nc K U I O G L cf ct fc nx cd) {di : Int} (hdi : 0 ≤ di ∧ di < nd) {day : Int} (hd : 0 ≤ day ∧ day < 365) {d : Nat} : ∀ (k : Nat), (k : Int) ≤ nm → Ev RX9 "turnOf" cX9_turnOf 4 (some .int) d 0 0 (Ret (turnI md my mt di day (U di.toNat) k) h) noX 97 h 7 [(0, .ref 68), (1, iv di), (2, iv day), (3, iv ((k : Int) - 1))] [] := by
  obtain ⟨t1, t2, t3, t31, pnm, tdl, tcl, tlm, tmd, pmt, pmd, pmy⟩ := id tr
  obtain ⟨pnd, psw, pnc, pK, pU, pI, pO, pG, pL, pcf, pct, pfc, pnx⟩ := id pi
  intro k
  induction k with
  | zero =>
    intro hk
    obtain ⟨k1, k2, k3, k4, k5⟩ := tdl di.toNat (by omega)
    refine r_iload_n dX9_turnOf_7 rfl rfl ?_
    refine r_if_lt (tgt := 54) dX9_turnOf_8 (by decide) ⟨by omega, by omega⟩ (fun g8 => ?_) (fun g8 => absurd g8 (by omega))
    refine r_aload_n dX9_turnOf_54 rfl rfl ?_
    refine r_get (fs := RGL _ _) dX9_turnOf_55 fl_X9_13 (by decide) c68 rfl ?_
    refine r_iconst dX9_turnOf_58 ?_
    refine r_iload_n dX9_turnOf_59 rfl rfl ?_
    refine r_imul dX9_turnOf_60 ?_
    refine r_iconst dX9_turnOf_61 ?_
    refine r_iadd dX9_turnOf_62 ?_
    refine r_ald dX9_turnOf_63 (by decide) c69 (by omega) (by omega) (by decide) ?_
    rw [show (5 * di + 1).toNat = 5 * di.toNat + 1 by omega, k2]
    refine r_iret dX9_turnOf_64 ?_
    exact ⟨rfl, rfl, rfl⟩
  | succ k ih =>
    intro hk
    obtain ⟨k1, k2, k3⟩ := tmd k (by omega)
    have b1 := pmd k
    have b2 := pmy k
    have ek : ((k + 1 : Nat) : Int) - 1 = (k : Int) := by omega
    have e1 : turnI md my mt di day (U di.toNat) (k + 1) = if md k = di ∧ my k ≤ day then mt k else turnI md my mt di day (U di.toNat) k := rfl
    rw [ek]
    refine r_iload_n dX9_turnOf_7 rfl rfl ?_
    refine r_if_lt (tgt := 54) dX9_turnOf_8 (by decide) ⟨by omega, by omega⟩ (fun g8 => absurd g8 (by omega)) (fun g8 => ?_)
    refine r_aload_n dX9_turnOf_11 rfl rfl ?_
    refine r_get (fs := RGL _ _) dX9_turnOf_12 fl_X9_51 (by decide) c68 rfl ?_
    refine r_iconst dX9_turnOf_15 ?_
    refine r_iload_n dX9_turnOf_16 rfl rfl ?_
    refine r_imul dX9_turnOf_17 ?_
    refine r_ald dX9_turnOf_18 (by decide) c79 (by omega) (by omega) (by decide) ?_
    rw [show (3 * (k : Int)).toNat = 3 * k by omega, k1]
    refine r_iload_n dX9_turnOf_19 rfl rfl ?_
    refine r_icmp_ne (tgt := 48) dX9_turnOf_20 (by decide) ⟨by omega, by omega⟩ ⟨by omega, by omega⟩ (fun g20 => ?_) (fun g20 => ?_)
    · refine r_iinc (lv2 := [(0, _), (1, _), (2, _), (3, _)]) dX9_turnOf_48 (by decide) rfl rfl rfl ?_
      refine r_goto (tgt := 7) dX9_turnOf_51 (by decide) ?_
      rw [e1, if_neg (by omega), show (k : Int) + -1 = (k : Int) - 1 by omega]
      exact ih (by omega)
    · refine r_aload_n dX9_turnOf_23 rfl rfl ?_
      refine r_get (fs := RGL _ _) dX9_turnOf_24 fl_X9_51 (by decide) c68 rfl ?_
      refine r_iconst dX9_turnOf_27 ?_
      refine r_iload_n dX9_turnOf_28 rfl rfl ?_
      refine r_imul dX9_turnOf_29 ?_
      refine r_iconst dX9_turnOf_30 ?_
      refine r_iadd dX9_turnOf_31 ?_
      refine r_ald dX9_turnOf_32 (by decide) c79 (by omega) (by omega) (by decide) ?_
      rw [show (3 * (k : Int) + 1).toNat = 3 * k + 1 by omega, k2]
      refine r_iload_n dX9_turnOf_33 rfl rfl ?_
      refine r_icmp_gt (tgt := 48) dX9_turnOf_34 (by decide) ⟨by omega, by omega⟩ ⟨by omega, by omega⟩ (fun g34 => ?_) (fun g34 => ?_)
      · refine r_iinc (lv2 := [(0, _), (1, _), (2, _), (3, _)]) dX9_turnOf_48 (by decide) rfl rfl rfl ?_
        refine r_goto (tgt := 7) dX9_turnOf_51 (by decide) ?_
        rw [e1, if_neg (by omega), show (k : Int) + -1 = (k : Int) - 1 by omega]
        exact ih (by omega)
      · refine r_aload_n dX9_turnOf_37 rfl rfl ?_
        refine r_get (fs := RGL _ _) dX9_turnOf_38 fl_X9_51 (by decide) c68 rfl ?_
        refine r_iconst dX9_turnOf_41 ?_
        refine r_iload_n dX9_turnOf_42 rfl rfl ?_
        refine r_imul dX9_turnOf_43 ?_
        refine r_iconst dX9_turnOf_44 ?_
        refine r_iadd dX9_turnOf_45 ?_
        refine r_ald dX9_turnOf_46 (by decide) c79 (by omega) (by omega) (by decide) ?_
        rw [show (3 * (k : Int) + 2).toNat = 3 * k + 2 by omega, k3]
        refine r_iret dX9_turnOf_47 ?_
        exact ⟨ivE (by rw [e1, if_pos (by omega)]), rfl, rfl⟩

theorem s_X9_turnOf {h : aH} {g : Nat → Int} {w : Int} (c68 : h 68 = RG g w) {dl cl lm lt lgt mn : Nat → Int} (c69 : h 69 = .inl (0, 45, dl)) (c70 : h 70 = .inl (0, 60, cl)) (c71 : h 71 = .inl (0, 12, lm)) (c77 : h 77 = .inl (2, 1440, lt)) (c78 : h 78 = .inl (2, 1440, lgt)) (c79 : h 79 = .inl (0, 120, mn)) {nd sw nc nm : Int} {K U I O G L cf ct fc nx cd md my mt : Nat → Int} (tr : TellR g dl cl lm mn nd sw nc nm K U I O G L cf ct cd md my mt) (pi : PInv nd sw nc K U I O G L cf ct fc nx cd) {di : Int} (hdi : 0 ≤ di ∧ di < nd) {day : Int} (hd : 0 ≤ day ∧ day < 365) : mSem yX9_turnOf cX9_turnOf 4 (some .int) 0 0 0 [.ref 68, iv di, iv day] 97 h (Ret (turnI md my mt di day (U di.toNat) nm.toNat) h) noX := by
  obtain ⟨t1, t2, t3, t31, pnm, tdl, tcl, tlm, tmd, pmt, pmd, pmy⟩ := id tr
  obtain ⟨pnd, psw, pnc, pK, pU, pI, pO, pG, pL, pcf, pct, pfc, pnx⟩ := id pi
  refine mSem_of (own := RX9) (name := "turnOf") pn_X9 rfl rfl (Nat.le_of_ble_eq_true rfl) ?_
  refine r_aload_n dX9_turnOf_0 rfl rfl ?_
  refine r_getR (z := (g 31)) dX9_turnOf_1 fl_X9_230 (by decide) c68 rfl ?_
  rw [t31, show nm = ((nm.toNat : Nat) : Int) by omega]
  refine r_iconst dX9_turnOf_4 ?_
  refine r_isub dX9_turnOf_5 ?_
  refine r_istore_n (lv2 := [(0, _), (1, _), (2, _), (3, _)]) dX9_turnOf_6 rfl (by decide) rfl rfl ?_
  exact l_X9_turnOf c68 c69 c70 c71 c77 c78 c79 tr pi hdi hd nm.toNat (by omega)

theorem s_X9_tellsNow {h : aH} {g : Nat → Int} {w : Int} (c68 : h 68 = RG g w) {dl cl lm lt lgt mn : Nat → Int} (c69 : h 69 = .inl (0, 45, dl)) (c70 : h 70 = .inl (0, 60, cl)) (c71 : h 71 = .inl (0, 12, lm)) (c77 : h 77 = .inl (2, 1440, lt)) (c78 : h 78 = .inl (2, 1440, lgt)) (c79 : h 79 = .inl (0, 120, mn)) {nd sw nc nm : Int} {K U I O G L cf ct fc nx cd md my mt : Nat → Int} (tr : TellR g dl cl lm mn nd sw nc nm K U I O G L cf ct cd md my mt) (pi : PInv nd sw nc K U I O G L cf ct fc nx cd) (li : LitR (g 30) lt lgt sw nc L cf ct cd) {di : Int} (hdi : 0 ≤ di ∧ di < nd) {day : Int} (hd : 0 ≤ day ∧ day < 365) {m : Int} (hm : 0 ≤ m ∧ m < 1440) : mSem yX9_tellsNow cX9_tellsNow 4 (some .int) 4 0 0 [.ref 68, iv di, iv day, iv m] 97 h (RetT (nowI sw nc nm K U I O G L cf ct cd md my mt di day m) h g w sw nc L cf ct cd) noX := by
  obtain ⟨t1, t2, t3, t31, pnm, tdl, tcl, tlm, tmd, pmt, pmd, pmy⟩ := id tr
  obtain ⟨pnd, psw, pnc, pK, pU, pI, pO, pG, pL, pcf, pct, pfc, pnx⟩ := id pi
  refine mSem_of (own := RX9) (name := "tellsNow") pn_X9 rfl rfl (Nat.le_of_ble_eq_true rfl) ?_
  obtain ⟨k1, k2, k3, k4, k5⟩ := tdl di.toNat (by omega)
  have bK := pK di.toNat
  have bI := pI di.toNat
  have bO := pO di.toNat
  have bG := pG di.toNat
  have bT := turn_B (md := md) (my := my) (di := di) (day := day) (pU di.toNat) pmt nm.toNat
  refine r_aload_n dX9_tellsNow_0 rfl rfl ?_
  refine r_aload_n dX9_tellsNow_1 rfl rfl ?_
  refine r_get (fs := RGL _ _) dX9_tellsNow_2 fl_X9_13 (by decide) c68 rfl ?_
  refine r_iconst dX9_tellsNow_5 ?_
  refine r_iload_n dX9_tellsNow_6 rfl rfl ?_
  refine r_imul dX9_tellsNow_7 ?_
  refine r_ald dX9_tellsNow_8 (by decide) c69 (by omega) (by omega) (by decide) ?_
  rw [show (5 * di).toNat = 5 * di.toNat by omega, k1]
  refine r_aload_n dX9_tellsNow_9 rfl rfl ?_
  refine r_iload_n dX9_tellsNow_10 rfl rfl ?_
  refine r_iload_n dX9_tellsNow_11 rfl rfl ?_
  refine r_callV 68 [_, _] (s_X9_turnOf c68 c69 c70 c71 c77 c78 c79 tr pi (by omega) (by omega)) dX9_tellsNow_12 cs_X9_268 im_X9_turnOf (by decide) c68 rfl (by decide) (by decide) (by decide) rfl rfl (Nat.le_of_ble_eq_true rfl) (fun _ _ _ q => q.elim) (fun v n2 h2 q => ?_)
  obtain ⟨rfl, rfl, hh⟩ := q
  obtain rfl := hh.symm
  refine ⟨rfl, ?_⟩
  dsimp only [Option.toList, List.cons_append, List.nil_append]
  refine r_aload_n dX9_tellsNow_15 rfl rfl ?_
  refine r_get (fs := RGL _ _) dX9_tellsNow_16 fl_X9_13 (by decide) c68 rfl ?_
  refine r_iconst dX9_tellsNow_19 ?_
  refine r_iload_n dX9_tellsNow_20 rfl rfl ?_
  refine r_imul dX9_tellsNow_21 ?_
  refine r_iconst dX9_tellsNow_22 ?_
  refine r_iadd dX9_tellsNow_23 ?_
  refine r_ald dX9_tellsNow_24 (by decide) c69 (by omega) (by omega) (by decide) ?_
  rw [show (5 * di + 2).toNat = 5 * di.toNat + 2 by omega, k3]
  refine r_aload_n dX9_tellsNow_25 rfl rfl ?_
  refine r_get (fs := RGL _ _) dX9_tellsNow_26 fl_X9_13 (by decide) c68 rfl ?_
  refine r_iconst dX9_tellsNow_29 ?_
  refine r_iload_n dX9_tellsNow_30 rfl rfl ?_
  refine r_imul dX9_tellsNow_31 ?_
  refine r_iconst dX9_tellsNow_32 ?_
  refine r_iadd dX9_tellsNow_33 ?_
  refine r_ald dX9_tellsNow_34 (by decide) c69 (by omega) (by omega) (by decide) ?_
  rw [show (5 * di + 3).toNat = 5 * di.toNat + 3 by omega, k4]
  refine r_aload_n dX9_tellsNow_35 rfl rfl ?_
  refine r_get (fs := RGL _ _) dX9_tellsNow_36 fl_X9_13 (by decide) c68 rfl ?_
  refine r_iconst dX9_tellsNow_39 ?_
  refine r_iload_n dX9_tellsNow_40 rfl rfl ?_
  refine r_imul dX9_tellsNow_41 ?_
  refine r_iconst dX9_tellsNow_42 ?_
  refine r_iadd dX9_tellsNow_43 ?_
  refine r_ald dX9_tellsNow_44 (by decide) c69 (by omega) (by omega) (by decide) ?_
  rw [show (5 * di + 4).toNat = 5 * di.toNat + 4 by omega, k5]
  refine r_iload_n dX9_tellsNow_45 rfl rfl ?_
  refine r_iload_n dX9_tellsNow_46 rfl rfl ?_
  refine r_callV 68 [_, _, _, _, _, _, _] (s_X9_tellsBy c68 c69 c70 c71 c77 c78 c79 tr pi li (by omega) (by omega) (by omega) (by omega) (by omega) (by omega) (by omega)) dX9_tellsNow_47 cs_X9_271 im_X9_tellsBy (by decide) c68 rfl (by decide) (by decide) (by decide) rfl rfl (Nat.le_of_ble_eq_true rfl) (fun _ _ _ q => q.elim) (fun v n2 h2 q => ?_)
  obtain ⟨rfl, rfl, gn, lt2, lg2, rfl, li2, kp2⟩ := q
  refine ⟨rfl, ?_⟩
  dsimp only [Option.toList, List.cons_append, List.nil_append]
  refine r_iret dX9_tellsNow_50 ?_
  exact ⟨rfl, rfl, gn, lt2, lg2, rfl, li2, kp2⟩

