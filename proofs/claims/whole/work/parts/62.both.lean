/-! ===== the reference: which two together; the middle ===== -/
theorem l_X9_tog3 {h : aH} {w : Int} {dl cl lm mn : Nat → Int} (c69 : h 69 = .inl (0, 45, dl)) (c70 : h 70 = .inl (0, 60, cl)) (c71 : h 71 = .inl (0, 12, lm)) (c79 : h 79 = .inl (0, 120, mn)) {nd sw nc nm : Int} {K U I O G L cf ct fc nx cd md my mt : Nat → Int} (pi : PInv nd sw nc K U I O G L cf ct fc nx cd) {g : Nat → Int} {day : Int} (hd : 0 ≤ day ∧ day < 365) {w_ : Int} {s : Int × Int} {i o : Nat} (hi : (i : Int) < nd) (ho : (o : Int) < nd) {Q : Option Value → Nat → aH → Prop} : ∀ (k : Nat) (m n : Int) (gg lt lgt : Nat → Int), m + k = 1440 → 0 ≤ m → TellR gg dl cl lm mn nd sw nc nm K U I O G L cf ct cd md my mt → LitR (gg 30) lt lgt sw nc L cf ct cd → (∀ k, k ≠ 30 → gg k = g k) →
    (∀ (gg lt lgt : Nat → Int), TellR gg dl cl lm mn nd sw nc nm K U I O G L cf ct cd md my mt → LitR (gg 30) lt lgt sw nc L cf ct cd → (∀ k, k ≠ 30 → gg k = g k) → Ev RX9 "together" cX9_together 9 (some .int) 7 0 0 Q noX 97 (UT h gg w lt lgt) 112 [(0, .ref 68), (1, iv day), (2, iv w_), (3, iv s.1), (4, iv s.2), (5, iv i), (6, iv o), (7, iv (bothR (fun m => nowI sw nc nm K U I O G L cf ct cd md my mt ((i : Nat) : Int) day m) (fun m => nowI sw nc nm K U I O G L cf ct cd md my mt ((o : Nat) : Int) day m) k m n)), (8, iv (1440 : Int))] []) → Ev RX9 "together" cX9_together 9 (some .int) 7 0 0 Q noX 97 (UT h gg w lt lgt) 62 [(0, .ref 68), (1, iv day), (2, iv w_), (3, iv s.1), (4, iv s.2), (5, iv i), (6, iv o), (7, iv n), (8, iv m)] [] := by
  obtain ⟨pnd, psw, pnc, pK, pU, pI, pO, pG, pL, pcf, pct, pfc, pnx⟩ := id pi
  intro k
  induction k with
  | zero =>
    intro m n gg lt lgt hm h0 trg lig kp kk
    obtain rfl : m = 1440 := by omega
    refine r_iload dX9_together_62 rfl ?_
    refine r_sipush dX9_together_64 rfl ?_
    refine r_icmp_ge (tgt := 112) dX9_together_67 (by decide) ⟨by omega, by omega⟩ ⟨by omega, by omega⟩ (fun g67 => ?_) (fun g67 => absurd g67 (by omega))
    exact kk gg lt lgt trg lig kp
  | succ k ih =>
    intro m n gg lt lgt hm h0 trg lig kp kk
    have b1 := now_B sw nc nm K U I O G L cf ct cd md my mt i day m
    have b2 := now_B sw nc nm K U I O G L cf ct cd md my mt o day m
    have e1 : ∀ n, bothR (fun m => nowI sw nc nm K U I O G L cf ct cd md my mt ((i : Nat) : Int) day m) (fun m => nowI sw nc nm K U I O G L cf ct cd md my mt ((o : Nat) : Int) day m) (k + 1) m n = bothR (fun m => nowI sw nc nm K U I O G L cf ct cd md my mt ((i : Nat) : Int) day m) (fun m => nowI sw nc nm K U I O G L cf ct cd md my mt ((o : Nat) : Int) day m) k (m + 1) (n + (if nowI sw nc nm K U I O G L cf ct cd md my mt i day m = -1 ∨ nowI sw nc nm K U I O G L cf ct cd md my mt o day m = -1 then 0 else 1)) := fun _ => rfl
    refine r_iload dX9_together_62 rfl ?_
    refine r_sipush dX9_together_64 rfl ?_
    refine r_icmp_ge (tgt := 112) dX9_together_67 (by decide) ⟨by omega, by omega⟩ ⟨by omega, by omega⟩ (fun g67 => absurd g67 (by omega)) (fun g67 => ?_)
    refine r_iload dX9_together_70 rfl ?_
    refine r_aload_n dX9_together_72 rfl rfl ?_
    refine r_iload dX9_together_73 rfl ?_
    refine r_iload_n dX9_together_75 rfl rfl ?_
    refine r_iload dX9_together_76 rfl ?_
    refine r_callV 68 [_, _, _] (s_X9_tellsNow (g := gg) (by rfl) (by exact c69) (by exact c70) (by exact c71) (by rfl) (by rfl) (by exact c79) trg pi lig (by omega) (by omega) (by omega)) dX9_together_78 cs_X9_278 im_X9_tellsNow (by decide) rfl rfl (by decide) (by decide) (by decide) rfl rfl (Nat.le_of_ble_eq_true rfl) (fun _ _ _ q => q.elim) (fun v n2 h2 q => ?_)
    obtain ⟨rfl, rfl, gn, lt2, lg2, rfl, li2, kp2⟩ := q
    rw [ut_ut]
    have tr2 := tell_kp trg kp2
    refine ⟨rfl, ?_⟩
    dsimp only [Option.toList, List.cons_append, List.nil_append]
    refine r_iconst dX9_together_81 ?_
    refine r_icmp_eq (tgt := 102) dX9_together_82 (by decide) ⟨by omega, by omega⟩ ⟨by omega, by omega⟩ (fun g82 => ?_) (fun g82 => ?_)
    · refine r_iconst dX9_together_102 ?_
      refine r_iadd dX9_together_103 ?_
      refine r_istore (lv2 := [(0, _), (1, _), (2, _), (3, _), (4, _), (5, _), (6, _), (7, _), (8, _)]) dX9_together_104 (by decide) rfl rfl ?_
      refine r_iinc (lv2 := [(0, _), (1, _), (2, _), (3, _), (4, _), (5, _), (6, _), (7, _), (8, _)]) dX9_together_106 (by decide) rfl rfl rfl ?_
      refine r_goto (tgt := 62) dX9_together_109 (by decide) ?_
      first
        | (refine ih (m + 1) _ gnb ltb2 lgb2 (by omega) (by omega) trb2 lib2 (fun k hk => (kpb2 k hk).trans ((kp2 k hk).trans (kp k hk))) (fun g3 l3 l4 t3 i3 k3 => ?_)
           have hk := kk g3 l3 l4 t3 i3 k3
           rw [e1] at hk
           first
             | (rw [if_pos (by omega)] at hk
                exact hk)
             | (rw [if_neg (by omega)] at hk
                exact hk))
        | (refine ih (m + 1) _ gn lt2 lg2 (by omega) (by omega) tr2 li2 (fun k hk => (kp2 k hk).trans (kp k hk)) (fun g3 l3 l4 t3 i3 k3 => ?_)
           have hk := kk g3 l3 l4 t3 i3 k3
           rw [e1] at hk
           rw [if_pos (by omega)] at hk
           exact hk)
    · refine r_aload_n dX9_together_85 rfl rfl ?_
      refine r_iload dX9_together_86 rfl ?_
      refine r_iload_n dX9_together_88 rfl rfl ?_
      refine r_iload dX9_together_89 rfl ?_
      refine r_callV 68 [_, _, _] (s_X9_tellsNow (g := gn) (by rfl) (by exact c69) (by exact c70) (by exact c71) (by rfl) (by rfl) (by exact c79) tr2 pi li2 (by omega) (by omega) (by omega)) dX9_together_91 cs_X9_278 im_X9_tellsNow (by decide) rfl rfl (by decide) (by decide) (by decide) rfl rfl (Nat.le_of_ble_eq_true rfl) (fun _ _ _ q => q.elim) (fun v n2 h2 q => ?_)
      obtain ⟨rfl, rfl, gnb, ltb2, lgb2, rfl, lib2, kpb2⟩ := q
      rw [ut_ut]
      have trb2 := tell_kp tr2 kpb2
      refine ⟨rfl, ?_⟩
      dsimp only [Option.toList, List.cons_append, List.nil_append]
      refine r_iconst dX9_together_94 ?_
      refine r_icmp_eq (tgt := 102) dX9_together_95 (by decide) ⟨by omega, by omega⟩ ⟨by omega, by omega⟩ (fun g95 => ?_) (fun g95 => ?_)
      · refine r_iconst dX9_together_102 ?_
        refine r_iadd dX9_together_103 ?_
        refine r_istore (lv2 := [(0, _), (1, _), (2, _), (3, _), (4, _), (5, _), (6, _), (7, _), (8, _)]) dX9_together_104 (by decide) rfl rfl ?_
        refine r_iinc (lv2 := [(0, _), (1, _), (2, _), (3, _), (4, _), (5, _), (6, _), (7, _), (8, _)]) dX9_together_106 (by decide) rfl rfl rfl ?_
        refine r_goto (tgt := 62) dX9_together_109 (by decide) ?_
        first
          | (refine ih (m + 1) _ gnb ltb2 lgb2 (by omega) (by omega) trb2 lib2 (fun k hk => (kpb2 k hk).trans ((kp2 k hk).trans (kp k hk))) (fun g3 l3 l4 t3 i3 k3 => ?_)
             have hk := kk g3 l3 l4 t3 i3 k3
             rw [e1] at hk
             first
               | (rw [if_pos (by omega)] at hk
                  exact hk)
               | (rw [if_neg (by omega)] at hk
                  exact hk))
          | (refine ih (m + 1) _ gn lt2 lg2 (by omega) (by omega) tr2 li2 (fun k hk => (kp2 k hk).trans (kp k hk)) (fun g3 l3 l4 t3 i3 k3 => ?_)
             have hk := kk g3 l3 l4 t3 i3 k3
             rw [e1] at hk
             rw [if_pos (by omega)] at hk
             exact hk)
      · refine r_iconst dX9_together_98 ?_
        refine r_goto (tgt := 103) dX9_together_99 (by decide) ?_
        refine r_iadd dX9_together_103 ?_
        refine r_istore (lv2 := [(0, _), (1, _), (2, _), (3, _), (4, _), (5, _), (6, _), (7, _), (8, _)]) dX9_together_104 (by decide) rfl rfl ?_
        refine r_iinc (lv2 := [(0, _), (1, _), (2, _), (3, _), (4, _), (5, _), (6, _), (7, _), (8, _)]) dX9_together_106 (by decide) rfl rfl rfl ?_
        refine r_goto (tgt := 62) dX9_together_109 (by decide) ?_
        first
          | (refine ih (m + 1) _ gnb ltb2 lgb2 (by omega) (by omega) trb2 lib2 (fun k hk => (kpb2 k hk).trans ((kp2 k hk).trans (kp k hk))) (fun g3 l3 l4 t3 i3 k3 => ?_)
             have hk := kk g3 l3 l4 t3 i3 k3
             rw [e1] at hk
             first
               | (rw [if_pos (by omega)] at hk
                  exact hk)
               | (rw [if_neg (by omega)] at hk
                  exact hk))
          | (refine ih (m + 1) _ gn lt2 lg2 (by omega) (by omega) tr2 li2 (fun k hk => (kp2 k hk).trans (kp k hk)) (fun g3 l3 l4 t3 i3 k3 => ?_)
             have hk := kk g3 l3 l4 t3 i3 k3
             rw [e1] at hk
             rw [if_pos (by omega)] at hk
             exact hk)

theorem l_X9_tog2 {h : aH} {w : Int} {dl cl lm mn : Nat → Int} (c69 : h 69 = .inl (0, 45, dl)) (c70 : h 70 = .inl (0, 60, cl)) (c71 : h 71 = .inl (0, 12, lm)) (c79 : h 79 = .inl (0, 120, mn)) {nd sw nc nm : Int} {K U I O G L cf ct fc nx cd md my mt : Nat → Int} (pi : PInv nd sw nc K U I O G L cf ct fc nx cd) {g : Nat → Int} {day : Int} (hd : 0 ≤ day ∧ day < 365) {w_ : Int} {i : Nat} (hi : (i : Int) < nd) {Q : Option Value → Nat → aH → Prop} {bo : Nat → Nat → Int} (hbo : ∀ x y, (fun x y => bothR (fun m => nowI sw nc nm K U I O G L cf ct cd md my mt ((x : Nat) : Int) day m) (fun m => nowI sw nc nm K U I O G L cf ct cd md my mt ((y : Nat) : Int) day m) 1440 0 0) x y = bo x y) (bG : ∀ x y, 0 ≤ bo x y ∧ bo x y ≤ 1440) : ∀ (k o : Nat) (s : Int × Int) (gg lt lgt : Nat → Int), o + k = nd.toNat → ((-1 ≤ s.1 ∧ s.1 ≤ 1000) ∧ 0 ≤ s.2 ∧ s.2 ≤ 1440) → TellR gg dl cl lm mn nd sw nc nm K U I O G L cf ct cd md my mt → LitR (gg 30) lt lgt sw nc L cf ct cd → (∀ k, k ≠ 30 → gg k = g k) →
    (∀ (s2 : Int × Int) (gg lt lgt : Nat → Int), s2 = tgI bo i k o s → ((-1 ≤ s2.1 ∧ s2.1 ≤ 1000) ∧ 0 ≤ s2.2 ∧ s2.2 ≤ 1440) → TellR gg dl cl lm mn nd sw nc nm K U I O G L cf ct cd md my mt → LitR (gg 30) lt lgt sw nc L cf ct cd → (∀ k, k ≠ 30 → gg k = g k) → Ev RX9 "together" cX9_together 9 (some .int) 7 0 0 Q noX 97 (UT h gg w lt lgt) 32 [(0, .ref 68), (1, iv day), (2, iv w_), (3, iv s2.1), (4, iv s2.2), (5, iv ((i + 1 : Nat) : Int))] []) → Ev RX9 "together" cX9_together 9 (some .int) 7 0 0 Q noX 97 (UT h gg w lt lgt) 47 [(0, .ref 68), (1, iv day), (2, iv w_), (3, iv s.1), (4, iv s.2), (5, iv i), (6, iv o)] [] := by
  obtain ⟨pnd, psw, pnc, pK, pU, pI, pO, pG, pL, pcf, pct, pfc, pnx⟩ := id pi
  intro k
  induction k with
  | zero =>
    intro o s gg lt lgt ho hs trg lig kp kk
    obtain ⟨t1, t2, t3, t31, pnm, tdl, tcl, tlm, tmd, pmt, pmd, pmy⟩ := id trg
    refine r_iload dX9_together_47 rfl ?_
    refine r_aload_n dX9_together_49 rfl rfl ?_
    refine r_getR (z := (gg 1)) dX9_together_50 fl_X9_214 (by decide) rfl rfl ?_
    refine r_icmp_ge (tgt := 146) dX9_together_53 (by decide) ⟨by omega, by omega⟩ ⟨by omega, by omega⟩ (fun g53 => ?_) (fun g53 => absurd g53 (by omega))
    refine r_iinc (lv2 := [(0, _), (1, _), (2, _), (3, _), (4, _), (5, _), (6, _)]) dX9_together_146 (by decide) rfl rfl rfl ?_
    refine r_goto (tgt := 32) dX9_together_149 (by decide) ?_
    refine r_lv (lv2 := [(0, _), (1, _), (2, _), (3, _), (4, _), (5, _)]) rfl ?_
    rw [show (i : Int) + 1 = ((i + 1 : Nat) : Int) by omega]
    exact kk s gg lt lgt rfl hs trg lig kp
  | succ k ih =>
    intro o s gg lt lgt ho hs trg lig kp kk
    obtain ⟨t1, t2, t3, t31, pnm, tdl, tcl, tlm, tmd, pmt, pmd, pmy⟩ := id trg
    have b1 := bG i o
    have e1 : tgI bo i (k + 1) o s = tgI bo i k (o + 1) (if s.1 = -1 ∨ s.2 < bo i o then (10 * (i : Int) + (o : Int), bo i o) else s) := rfl
    rw [e1] at kk
    refine r_iload dX9_together_47 rfl ?_
    refine r_aload_n dX9_together_49 rfl rfl ?_
    refine r_getR (z := (gg 1)) dX9_together_50 fl_X9_214 (by decide) rfl rfl ?_
    refine r_icmp_ge (tgt := 146) dX9_together_53 (by decide) ⟨by omega, by omega⟩ ⟨by omega, by omega⟩ (fun g53 => absurd g53 (by omega)) (fun g53 => ?_)
    refine r_iconst dX9_together_56 ?_
    refine r_istore (lv2 := [(0, _), (1, _), (2, _), (3, _), (4, _), (5, _), (6, _), (7, _)]) dX9_together_57 (by decide) rfl rfl ?_
    refine r_iconst dX9_together_59 ?_
    refine r_istore (lv2 := [(0, _), (1, _), (2, _), (3, _), (4, _), (5, _), (6, _), (7, _), (8, _)]) dX9_together_60 (by decide) rfl rfl ?_
    refine l_X9_tog3 c69 c70 c71 c79 pi hd hi (by omega) 1440 0 0 gg lt lgt (by omega) (by omega) trg lig kp (fun g3 l3 l4 t3 i3 k3 => ?_)
    rw [show bothR (fun m => nowI sw nc nm K U I O G L cf ct cd md my mt ((i : Nat) : Int) day m) (fun m => nowI sw nc nm K U I O G L cf ct cd md my mt ((o : Nat) : Int) day m) 1440 0 0 = bo i o from hbo i o]
    refine r_iload_n dX9_together_112 rfl rfl ?_
    refine r_iconst dX9_together_113 ?_
    refine r_icmp_eq (tgt := 127) dX9_together_114 (by decide) ⟨by omega, by omega⟩ ⟨by omega, by omega⟩ (fun g114 => ?_) (fun g114 => ?_)
    · refine r_bipush dX9_together_127 rfl ?_
      refine r_iload dX9_together_129 rfl ?_
      refine r_imul dX9_together_131 ?_
      refine r_iload dX9_together_132 rfl ?_
      refine r_iadd dX9_together_134 ?_
      refine r_istore_n (lv2 := [(0, _), (1, _), (2, _), (3, _), (4, _), (5, _), (6, _), (7, _), (8, _)]) dX9_together_135 rfl (by decide) rfl rfl ?_
      refine r_iload dX9_together_136 rfl ?_
      refine r_istore (lv2 := [(0, _), (1, _), (2, _), (3, _), (4, _), (5, _), (6, _), (7, _), (8, _)]) dX9_together_138 (by decide) rfl rfl ?_
      refine r_iinc (lv2 := [(0, _), (1, _), (2, _), (3, _), (4, _), (5, _), (6, _), (7, _), (8, _)]) dX9_together_140 (by decide) rfl rfl rfl ?_
      refine r_goto (tgt := 47) dX9_together_143 (by decide) ?_
      refine r_lv (lv2 := [(0, _), (1, _), (2, _), (3, _), (4, _), (5, _), (6, _)]) rfl ?_
      rw [show (o : Int) + 1 = ((o + 1 : Nat) : Int) by omega]
      first
        | (rw [if_pos (by omega)] at kk
           exact ih (o + 1) (10 * (i : Int) + (o : Int), bo i o) g3 l3 l4 (by omega) ⟨⟨by show (-1 : Int) ≤ 10 * (i : Int) + (o : Int); omega, by show 10 * (i : Int) + (o : Int) ≤ 1000; omega⟩, b1⟩ t3 i3 k3 kk)
        | (rw [if_neg (by omega)] at kk
           exact ih (o + 1) s g3 l3 l4 (by omega) hs t3 i3 k3 kk)
    · refine r_iload dX9_together_117 rfl ?_
      refine r_iload dX9_together_119 rfl ?_
      refine r_icmp_gt (tgt := 127) dX9_together_121 (by decide) ⟨by omega, by omega⟩ ⟨by omega, by omega⟩ (fun g121 => ?_) (fun g121 => ?_)
      · refine r_bipush dX9_together_127 rfl ?_
        refine r_iload dX9_together_129 rfl ?_
        refine r_imul dX9_together_131 ?_
        refine r_iload dX9_together_132 rfl ?_
        refine r_iadd dX9_together_134 ?_
        refine r_istore_n (lv2 := [(0, _), (1, _), (2, _), (3, _), (4, _), (5, _), (6, _), (7, _), (8, _)]) dX9_together_135 rfl (by decide) rfl rfl ?_
        refine r_iload dX9_together_136 rfl ?_
        refine r_istore (lv2 := [(0, _), (1, _), (2, _), (3, _), (4, _), (5, _), (6, _), (7, _), (8, _)]) dX9_together_138 (by decide) rfl rfl ?_
        refine r_iinc (lv2 := [(0, _), (1, _), (2, _), (3, _), (4, _), (5, _), (6, _), (7, _), (8, _)]) dX9_together_140 (by decide) rfl rfl rfl ?_
        refine r_goto (tgt := 47) dX9_together_143 (by decide) ?_
        refine r_lv (lv2 := [(0, _), (1, _), (2, _), (3, _), (4, _), (5, _), (6, _)]) rfl ?_
        rw [show (o : Int) + 1 = ((o + 1 : Nat) : Int) by omega]
        first
          | (rw [if_pos (by omega)] at kk
             exact ih (o + 1) (10 * (i : Int) + (o : Int), bo i o) g3 l3 l4 (by omega) ⟨⟨by show (-1 : Int) ≤ 10 * (i : Int) + (o : Int); omega, by show 10 * (i : Int) + (o : Int) ≤ 1000; omega⟩, b1⟩ t3 i3 k3 kk)
          | (rw [if_neg (by omega)] at kk
             exact ih (o + 1) s g3 l3 l4 (by omega) hs t3 i3 k3 kk)
      · refine r_goto (tgt := 140) dX9_together_124 (by decide) ?_
        refine r_iinc (lv2 := [(0, _), (1, _), (2, _), (3, _), (4, _), (5, _), (6, _), (7, _), (8, _)]) dX9_together_140 (by decide) rfl rfl rfl ?_
        refine r_goto (tgt := 47) dX9_together_143 (by decide) ?_
        refine r_lv (lv2 := [(0, _), (1, _), (2, _), (3, _), (4, _), (5, _), (6, _)]) rfl ?_
        rw [show (o : Int) + 1 = ((o + 1 : Nat) : Int) by omega]
        first
          | (rw [if_pos (by omega)] at kk
             exact ih (o + 1) (10 * (i : Int) + (o : Int), bo i o) g3 l3 l4 (by omega) ⟨⟨by show (-1 : Int) ≤ 10 * (i : Int) + (o : Int); omega, by show 10 * (i : Int) + (o : Int) ≤ 1000; omega⟩, b1⟩ t3 i3 k3 kk)
          | (rw [if_neg (by omega)] at kk
             exact ih (o + 1) s g3 l3 l4 (by omega) hs t3 i3 k3 kk)

theorem l_X9_tog1 {h : aH} {w : Int} {dl cl lm mn : Nat → Int} (c69 : h 69 = .inl (0, 45, dl)) (c70 : h 70 = .inl (0, 60, cl)) (c71 : h 71 = .inl (0, 12, lm)) (c79 : h 79 = .inl (0, 120, mn)) {nd sw nc nm : Int} {K U I O G L cf ct fc nx cd md my mt : Nat → Int} (pi : PInv nd sw nc K U I O G L cf ct fc nx cd) {g : Nat → Int} {day : Int} (hd : 0 ≤ day ∧ day < 365) {w_ : Int} (hw : 0 ≤ w_ ∧ w_ ≤ 1) {bo : Nat → Nat → Int} (hbo : ∀ x y, (fun x y => bothR (fun m => nowI sw nc nm K U I O G L cf ct cd md my mt ((x : Nat) : Int) day m) (fun m => nowI sw nc nm K U I O G L cf ct cd md my mt ((y : Nat) : Int) day m) 1440 0 0) x y = bo x y) (bG : ∀ x y, 0 ≤ bo x y ∧ bo x y ≤ 1440) : ∀ (k i : Nat) (s : Int × Int) (gg lt lgt : Nat → Int), i + k = nd.toNat → ((-1 ≤ s.1 ∧ s.1 ≤ 1000) ∧ 0 ≤ s.2 ∧ s.2 ≤ 1440) → tgO bo nd.toNat k i s = (tgO bo nd.toNat nd.toNat 0 (-1, 0)) → TellR gg dl cl lm mn nd sw nc nm K U I O G L cf ct cd md my mt → LitR (gg 30) lt lgt sw nc L cf ct cd → (∀ k, k ≠ 30 → gg k = g k) → Ev RX9 "together" cX9_together 9 (some .int) 7 0 0 (RetT (if w_ = 0 then (tgO bo nd.toNat nd.toNat 0 (-1, 0)).1 else (tgO bo nd.toNat nd.toNat 0 (-1, 0)).2) h g w sw nc L cf ct cd) noX 97 (UT h gg w lt lgt) 32 [(0, .ref 68), (1, iv day), (2, iv w_), (3, iv s.1), (4, iv s.2), (5, iv i)] [] := by
  obtain ⟨pnd, psw, pnc, pK, pU, pI, pO, pG, pL, pcf, pct, pfc, pnx⟩ := id pi
  intro k
  induction k with
  | zero =>
    intro i s gg lt lgt ho hs hT trg lig kp
    obtain ⟨t1, t2, t3, t31, pnm, tdl, tcl, tlm, tmd, pmt, pmd, pmy⟩ := id trg
    have e1 : s = (tgO bo nd.toNat nd.toNat 0 (-1, 0)) := hT
    refine r_iload dX9_together_32 rfl ?_
    refine r_aload_n dX9_together_34 rfl rfl ?_
    refine r_getR (z := (gg 1)) dX9_together_35 fl_X9_214 (by decide) rfl rfl ?_
    refine r_icmp_ge (tgt := 152) dX9_together_38 (by decide) ⟨by omega, by omega⟩ ⟨by omega, by omega⟩ (fun g38 => ?_) (fun g38 => absurd g38 (by omega))
    refine r_iload_n dX9_together_152 rfl rfl ?_
    refine r_if_ne (tgt := 160) dX9_together_153 (by decide) ⟨by omega, by omega⟩ (fun g153 => ?_) (fun g153 => ?_)
    · refine r_iload dX9_together_160 rfl ?_
      refine r_iret dX9_together_162 ?_
      exact ⟨ivE (by rw [← e1]; first | rw [if_pos g153] | rw [if_neg g153]), rfl, gg, lt, lgt, rfl, lig, kp⟩
    · refine r_iload_n dX9_together_156 rfl rfl ?_
      refine r_goto (tgt := 162) dX9_together_157 (by decide) ?_
      refine r_iret dX9_together_162 ?_
      exact ⟨ivE (by rw [← e1]; first | rw [if_pos g153] | rw [if_neg g153]), rfl, gg, lt, lgt, rfl, lig, kp⟩
  | succ k ih =>
    intro i s gg lt lgt ho hs hT trg lig kp
    obtain ⟨t1, t2, t3, t31, pnm, tdl, tcl, tlm, tmd, pmt, pmd, pmy⟩ := id trg
    refine r_iload dX9_together_32 rfl ?_
    refine r_aload_n dX9_together_34 rfl rfl ?_
    refine r_getR (z := (gg 1)) dX9_together_35 fl_X9_214 (by decide) rfl rfl ?_
    refine r_icmp_ge (tgt := 152) dX9_together_38 (by decide) ⟨by omega, by omega⟩ ⟨by omega, by omega⟩ (fun g38 => absurd g38 (by omega)) (fun g38 => ?_)
    refine r_iload dX9_together_41 rfl ?_
    refine r_iconst dX9_together_43 ?_
    refine r_iadd dX9_together_44 ?_
    refine r_istore (lv2 := [(0, _), (1, _), (2, _), (3, _), (4, _), (5, _), (6, _)]) dX9_together_45 (by decide) rfl rfl ?_
    rw [show (i : Int) + 1 = ((i + 1 : Nat) : Int) by omega]
    exact l_X9_tog2 c69 c70 c71 c79 pi hd (i := i) (by omega) hbo bG (nd.toNat - (i + 1)) (i + 1) s gg lt lgt (by omega) hs trg lig kp (fun s2 g3 l3 l4 e2 h2 t3 i3 k3 => ih (i + 1) s2 g3 l3 l4 (by omega) h2 (by rw [e2]; exact hT) t3 i3 k3)

theorem s_X9_together {h : aH} {th : Int} {t : Nat → Int} {tp : Nat} {fpl hlaw himg : Int} {rf : Nat → Int} {nd sw nc hl hs : Int} {K U I O G L cf ct fc nx cd : Nat → Int} {nr ns nm : Int} {rd ry rm rt se md my mt : Nat → Int} {M : ND} {ls : LSm} (cr : RefC h (t, tp, fpl, rf, hlaw, himg, ((nd, sw, nc), (hl, hs), K, U, I, O, G, L, cf, ct, fc, nx, cd), ((nr, ns, nm), rd, ry, rm, rt, se, md, my, mt), M, ls) th) {day w_ : Int} (iday : inR day) (iw_ : inR w_)  : mSem yX9_together cX9_together 9 (some .int) 7 0 0 [.ref 68, iv day, iv w_] 97 h (RefQ (ocL [(dayB day, 1), (whaB w_ 1, 1)]) (if w_ = 0 then (tgO (fun x y => bothR (fun m => nowI sw nc nm K U I O G L cf ct cd md my mt ((x : Nat) : Int) day m) (fun m => nowI sw nc nm K U I O G L cf ct cd md my mt ((y : Nat) : Int) day m) 1440 0 0) nd.toNat nd.toNat 0 (-1, 0)).1 else (tgO (fun x y => bothR (fun m => nowI sw nc nm K U I O G L cf ct cd md my mt ((x : Nat) : Int) day m) (fun m => nowI sw nc nm K U I O G L cf ct cd md my mt ((y : Nat) : Int) day m) 1440 0 0) nd.toNat nd.toNat 0 (-1, 0)).2) h (t, tp, fpl, rf, hlaw, himg, ((nd, sw, nc), (hl, hs), K, U, I, O, G, L, cf, ct, fc, nx, cd), ((nr, ns, nm), rd, ry, rm, rt, se, md, my, mt), M, ls)) noX := by
  refine RefC_elim cr (fun g dl cl lm trr rfr nD nC nL lt lgt mn rdg cpl grp sea rts row cod ncod pil opn stg bsd imo imr ims imm w c68 c69 c70 c71 c72 c73 c74 c75 c76 c77 c78 c79 c80 c81 c82 c83 c84 c85 c86 c87 c88 c89 c90 c91 c92 c93 c94 c95 hth rr => ?_)
  refine RR_elim rr (fun e8 e10 e33 e38 e44 e53 tr pi ni li rrf rtp htp rrd rse phl phi rim rco ht nM nsn => ?_)
  obtain ⟨t1, t2, t3, t31, pnm, tdl, tcl, tlm, tmd, pmt, pmd, pmy⟩ := id tr
  obtain ⟨pnd, psw, pnc, pK, pU, pI, pO, pG, pL, pcf, pct, pfc, pnx⟩ := id pi
  obtain ⟨pnr, pns, pnm2, prd, pry, prm, prt, pse, pmd2, pmy2, pmt2⟩ := id ni
  unfold inR at iday iw_
  refine mSem_of (own := RX9) (name := "together") pn_X9 rfl rfl (Nat.le_of_ble_eq_true rfl) ?_
  refine r_aload_n dX9_together_0 rfl rfl ?_
  refine r_iconst dX9_together_1 ?_
  refine r_putR dX9_together_2 fp_X9_102 (by decide) c68 (nar_int _) (Nat.le_of_ble_eq_true rfl) setR_0 (fun z0 hz0 => ?_)
  refine r_aload_n dX9_together_5 rfl rfl ?_
  refine r_iload_n dX9_together_6 rfl rfl ?_
  refine r_callV 68 [_] (s_X9_isDay (by rfl) (by first | rfl | exact hz0) iday) dX9_together_7 cs_X9_259 im_X9_isDay (by decide) rfl rfl (by decide) (by decide) (by decide) rfl rfl (Nat.le_of_ble_eq_true rfl) (fun _ _ _ q => q.elim) (fun v n2 h2 q => ?_)
  obtain ⟨rfl, q⟩ := q
  rcases q with ⟨kb1, rfl, hh⟩ | ⟨kb1, rfl, hh⟩
  · obtain rfl := hh.symm
    have bday := of_decide_eq_true kb1
    refine ⟨rfl, ?_⟩
    dsimp only [Option.toList, List.cons_append, List.nil_append]
    refine r_if_eq (tgt := 22) dX9_together_10 (by decide) ⟨by omega, by omega⟩ (fun g10 => absurd g10 (by omega)) (fun g10 => ?_)
    refine r_aload_n dX9_together_13 rfl rfl ?_
    refine r_iload_n dX9_together_14 rfl rfl ?_
    refine r_iconst dX9_together_15 ?_
    refine r_callV 68 [_, _] (s_X9_isWhat (by rfl) (by first | rfl | exact hz0) iw_ ⟨by decide, by decide⟩) dX9_together_16 cs_X9_246 im_X9_isWhat (by decide) rfl rfl (by decide) (by decide) (by decide) rfl rfl (Nat.le_of_ble_eq_true rfl) (fun _ _ _ q => q.elim) (fun v n2 h2 q => ?_)
    obtain ⟨rfl, q⟩ := q
    rcases q with ⟨kb2, rfl, hh⟩ | ⟨kb2, rfl, hh⟩
    · obtain rfl := hh.symm
      have bw_ := of_decide_eq_true kb2
      refine ⟨rfl, ?_⟩
      dsimp only [Option.toList, List.cons_append, List.nil_append]
      refine r_if_ne (tgt := 24) dX9_together_19 (by decide) ⟨by omega, by omega⟩ (fun g19 => ?_) (fun g19 => absurd g19 (by omega))
      refine r_iconst dX9_together_24 ?_
      refine r_istore_n (lv2 := [(0, _), (1, _), (2, _), (3, _)]) dX9_together_25 rfl (by decide) rfl rfl ?_
      refine r_iconst dX9_together_26 ?_
      refine r_istore (lv2 := [(0, _), (1, _), (2, _), (3, _), (4, _)]) dX9_together_27 (by decide) rfl rfl ?_
      refine r_iconst dX9_together_29 ?_
      refine r_istore (lv2 := [(0, _), (1, _), (2, _), (3, _), (4, _), (5, _)]) dX9_together_30 (by decide) rfl rfl ?_
      refine ev_h (ut_self (h := va_up h 68 (RG (va_up g 0 z0) w)) rfl c77 c78) ?_
      rw [ut_68]
      refine ev_post (l_X9_tog1 c69 c70 c71 c79 pi bday bw_ (bo := (fun x y => bothR (fun m => nowI sw nc nm K U I O G L cf ct cd md my mt ((x : Nat) : Int) day m) (fun m => nowI sw nc nm K U I O G L cf ct cd md my mt ((y : Nat) : Int) day m) 1440 0 0)) (fun _ _ => rfl) (fun x y => by have := bothR_B (fun m => nowI sw nc nm K U I O G L cf ct cd md my mt ((x : Nat) : Int) day m) (fun m => nowI sw nc nm K U I O G L cf ct cd md my mt ((y : Nat) : Int) day m) 1440 0 0; omega) nd.toNat 0 (-1, 0) (va_up g 0 z0) lt lgt (by omega) ⟨⟨show (-1 : Int) ≤ -1 by decide, show (-1 : Int) ≤ 1000 by decide⟩, show (0 : Int) ≤ 0 by decide, show (0 : Int) ≤ 1440 by decide⟩ rfl (by exact tr) (by exact li) (g := va_up g 0 z0) (fun _ _ => rfl)) (fun v n2 h2 q => ?_) (fun _ _ _ q => q)
      obtain ⟨rfl, rfl, gn, lt2, lg2, rfl, li2, kp2⟩ := q
      exact ⟨rfl, ⟨_, rfl, fun _ => rfl⟩, (RefC_mk (g := gn) rfl (by exact c69) (by exact c70) (by exact c71) (by exact c72) (by exact c73) (by exact c74) (by exact c75) (by exact c76) rfl rfl (by exact c79) (by exact c80) (by exact c81) (by exact c82) (by exact c83) (by exact c84) (by exact c85) (by exact c86) (by exact c87) (by exact c88) (by exact c89) (by exact c90) (by exact c91) (by exact c92) (by exact c93) (by exact c94) (by exact c95) (by first | exact (hz0.trans (congrArg (fun n : Nat => (n : Int)) ((ocT kb1).trans ((ocT kb2).trans ocE)).symm)) | exact (kp2 0 (by decide)).trans (hz0.trans (congrArg (fun n : Nat => (n : Int)) ((ocT kb1).trans ((ocT kb2).trans ocE)).symm))) (RR_mk (by first | exact e8 | exact (kp2 8 (by decide)).trans e8) (by first | exact e10 | exact (kp2 10 (by decide)).trans e10) (by first | exact e33 | exact (kp2 33 (by decide)).trans e33) (by first | exact e38 | exact (kp2 38 (by decide)).trans e38) (by first | exact e44 | exact (kp2 44 (by decide)).trans e44) (by first | exact e53 | exact (kp2 53 (by decide)).trans e53) (by first | exact tr | exact tell_kp (by exact tr) kp2) pi ni (by first | exact li | exact li2) rrf rtp htp rrd rse phl phi rim rco ht nM nsn)), (by repeat (first | exact fun _ _ => rfl | refine frr_up ?_ (by decide)))⟩
    · obtain rfl := hh.symm
      refine ⟨rfl, ?_⟩
      dsimp only [Option.toList, List.cons_append, List.nil_append]
      refine r_if_ne (tgt := 24) dX9_together_19 (by decide) ⟨by omega, by omega⟩ (fun g19 => absurd g19 (by omega)) (fun g19 => ?_)
      refine r_iconst dX9_together_22 ?_
      refine r_iret dX9_together_23 ?_
      first
        | exact ⟨rfl, ⟨0, rfl, fun z => absurd ((ocF kb1).symm.trans z) (by decide)⟩, (RefC_mk (g := (va_up (va_up g 0 z0) 0 1)) rfl (by exact c69) (by exact c70) (by exact c71) (by exact c72) (by exact c73) (by exact c74) (by exact c75) (by exact c76) (by exact c77) (by exact c78) (by exact c79) (by exact c80) (by exact c81) (by exact c82) (by exact c83) (by exact c84) (by exact c85) (by exact c86) (by exact c87) (by exact c88) (by exact c89) (by exact c90) (by exact c91) (by exact c92) (by exact c93) (by exact c94) (by exact c95) (congrArg (fun n : Nat => (n : Int)) (ocF kb1).symm) (RR_mk (by first | exact e8 | exact (kp2 8 (by decide)).trans e8) (by first | exact e10 | exact (kp2 10 (by decide)).trans e10) (by first | exact e33 | exact (kp2 33 (by decide)).trans e33) (by first | exact e38 | exact (kp2 38 (by decide)).trans e38) (by first | exact e44 | exact (kp2 44 (by decide)).trans e44) (by first | exact e53 | exact (kp2 53 (by decide)).trans e53) (by first | exact tr | exact tell_kp (by exact tr) kp2) pi ni (by first | exact li | exact li2) rrf rtp htp rrd rse phl phi rim rco ht nM nsn)), (by repeat (first | exact fun _ _ => rfl | refine frr_up ?_ (by decide)))⟩
        | exact ⟨rfl, ⟨0, rfl, fun z => absurd (((ocT kb1).trans (ocF kb2)).symm.trans z) (by decide)⟩, (RefC_mk (g := (va_up (va_up g 0 z0) 0 1)) rfl (by exact c69) (by exact c70) (by exact c71) (by exact c72) (by exact c73) (by exact c74) (by exact c75) (by exact c76) (by exact c77) (by exact c78) (by exact c79) (by exact c80) (by exact c81) (by exact c82) (by exact c83) (by exact c84) (by exact c85) (by exact c86) (by exact c87) (by exact c88) (by exact c89) (by exact c90) (by exact c91) (by exact c92) (by exact c93) (by exact c94) (by exact c95) (congrArg (fun n : Nat => (n : Int)) ((ocT kb1).trans (ocF kb2)).symm) (RR_mk (by first | exact e8 | exact (kp2 8 (by decide)).trans e8) (by first | exact e10 | exact (kp2 10 (by decide)).trans e10) (by first | exact e33 | exact (kp2 33 (by decide)).trans e33) (by first | exact e38 | exact (kp2 38 (by decide)).trans e38) (by first | exact e44 | exact (kp2 44 (by decide)).trans e44) (by first | exact e53 | exact (kp2 53 (by decide)).trans e53) (by first | exact tr | exact tell_kp (by exact tr) kp2) pi ni (by first | exact li | exact li2) rrf rtp htp rrd rse phl phi rim rco ht nM nsn)), (by repeat (first | exact fun _ _ => rfl | refine frr_up ?_ (by decide)))⟩
  · obtain rfl := hh.symm
    refine ⟨rfl, ?_⟩
    dsimp only [Option.toList, List.cons_append, List.nil_append]
    refine r_if_eq (tgt := 22) dX9_together_10 (by decide) ⟨by omega, by omega⟩ (fun g10 => ?_) (fun g10 => absurd g10 (by omega))
    refine r_iconst dX9_together_22 ?_
    refine r_iret dX9_together_23 ?_
    first
      | exact ⟨rfl, ⟨0, rfl, fun z => absurd ((ocF kb1).symm.trans z) (by decide)⟩, (RefC_mk (g := (va_up (va_up g 0 z0) 0 1)) rfl (by exact c69) (by exact c70) (by exact c71) (by exact c72) (by exact c73) (by exact c74) (by exact c75) (by exact c76) (by exact c77) (by exact c78) (by exact c79) (by exact c80) (by exact c81) (by exact c82) (by exact c83) (by exact c84) (by exact c85) (by exact c86) (by exact c87) (by exact c88) (by exact c89) (by exact c90) (by exact c91) (by exact c92) (by exact c93) (by exact c94) (by exact c95) (congrArg (fun n : Nat => (n : Int)) (ocF kb1).symm) (RR_mk (by first | exact e8 | exact (kp2 8 (by decide)).trans e8) (by first | exact e10 | exact (kp2 10 (by decide)).trans e10) (by first | exact e33 | exact (kp2 33 (by decide)).trans e33) (by first | exact e38 | exact (kp2 38 (by decide)).trans e38) (by first | exact e44 | exact (kp2 44 (by decide)).trans e44) (by first | exact e53 | exact (kp2 53 (by decide)).trans e53) (by first | exact tr | exact tell_kp (by exact tr) kp2) pi ni (by first | exact li | exact li2) rrf rtp htp rrd rse phl phi rim rco ht nM nsn)), (by repeat (first | exact fun _ _ => rfl | refine frr_up ?_ (by decide)))⟩
      | exact ⟨rfl, ⟨0, rfl, fun z => absurd (((ocT kb1).trans (ocF kb2)).symm.trans z) (by decide)⟩, (RefC_mk (g := (va_up (va_up g 0 z0) 0 1)) rfl (by exact c69) (by exact c70) (by exact c71) (by exact c72) (by exact c73) (by exact c74) (by exact c75) (by exact c76) (by exact c77) (by exact c78) (by exact c79) (by exact c80) (by exact c81) (by exact c82) (by exact c83) (by exact c84) (by exact c85) (by exact c86) (by exact c87) (by exact c88) (by exact c89) (by exact c90) (by exact c91) (by exact c92) (by exact c93) (by exact c94) (by exact c95) (congrArg (fun n : Nat => (n : Int)) ((ocT kb1).trans (ocF kb2)).symm) (RR_mk (by first | exact e8 | exact (kp2 8 (by decide)).trans e8) (by first | exact e10 | exact (kp2 10 (by decide)).trans e10) (by first | exact e33 | exact (kp2 33 (by decide)).trans e33) (by first | exact e38 | exact (kp2 38 (by decide)).trans e38) (by first | exact e44 | exact (kp2 44 (by decide)).trans e44) (by first | exact e53 | exact (kp2 53 (by decide)).trans e53) (by first | exact tr | exact tell_kp (by exact tr) kp2) pi ni (by first | exact li | exact li2) rrf rtp htp rrd rse phl phi rim rco ht nM nsn)), (by repeat (first | exact fun _ _ => rfl | refine frr_up ?_ (by decide)))⟩

