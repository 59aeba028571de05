/-! ===== the reference: which minutes, which days; which two together ===== -/
theorem al_T {nd ns : Int} {sea se : Nat → Int} {f : Nat → Int} (h : SeR nd ns sea se) (hn : 0 ≤ nd ∧ nd ≤ 9) (hk : ∀ k : Nat, (k : Int) < ns → f (sea (2 * k)).toNat = sea (2 * k + 1)) : alI se f nd.toNat = true := by
  refine decide_eq_true (fun j hj => ?_)
  by_cases q : se j = -1
  · exact Or.inl q
  · obtain ⟨k, h1, h2⟩ := h.2.1 j (by omega) q
    have h3 := hk k h1
    obtain ⟨-, -, h4⟩ := h.1 k h1
    rw [h2, Int.toNat_natCast] at h3 h4
    exact Or.inr (h3.trans h4.symm)
theorem al_F {nd ns : Int} {sea se : Nat → Int} {f : Nat → Int} (h : SeR nd ns sea se) {k : Nat} (hk : (k : Int) < ns) (hf : ¬ f (sea (2 * k)).toNat = sea (2 * k + 1)) : alI se f nd.toNat = false := by
  refine decide_eq_false (fun z => ?_)
  obtain ⟨h1, h2, h3⟩ := h.1 k hk
  rcases z (sea (2 * k)).toNat (by omega) with q | q
  · omega
  · exact hf (q.trans h3)
def mnR (ok : Int → Bool) : Nat → Int → Int × Int × Int → Int × Int × Int
  | 0, _, s => s
  | k + 1, m, s => mnR ok k (m + 1) (if ok m = true then (s.1 + 1, if s.2.1 = -1 then m else s.2.1, m) else s)
def dyI (ok : Int → Bool) (w day : Int) : Nat → Int → Int → Int ⊕ Int
  | 0, _, n => .inr n
  | k + 1, m, n => if ok m = true then (if 0 < w then .inl (if w = 1 then day else m) else dyI ok w day k (m + 1) (n + 1)) else dyI ok w day k (m + 1) n
def dyO (ok : Int → Int → Bool) (w : Int) : Nat → Int → Int → Int
  | 0, _, n => if w = 0 then n else -1
  | k + 1, day, n => match dyI (ok day) w day 1440 0 n with
    | .inl r => r
    | .inr n2 => dyO ok w k (day + 1) n2
def bothR (f g : Int → Int) : Nat → Int → Int → Int
  | 0, _, a => a
  | k + 1, m, a => bothR f g k (m + 1) (a + (if f m = -1 ∨ g m = -1 then 0 else 1))
theorem bothR_B (f g : Int → Int) : ∀ (k : Nat) (m a : Int), a ≤ bothR f g k m a ∧ bothR f g k m a ≤ a + k := by
  intro k
  induction k with
  | zero => intro m a; exact ⟨Int.le_refl _, by show a ≤ a + 0; omega⟩
  | succ k ih =>
    intro m a
    have h1 := ih (m + 1) (a + (if f m = -1 ∨ g m = -1 then 0 else 1))
    have h2 : (0 : Int) ≤ (if f m = -1 ∨ g m = -1 then 0 else 1) ∧ (if f m = -1 ∨ g m = -1 then (0 : Int) else 1) ≤ 1 := by split <;> omega
    show a ≤ bothR f g k (m + 1) (a + (if f m = -1 ∨ g m = -1 then 0 else 1)) ∧ bothR f g k (m + 1) (a + (if f m = -1 ∨ g m = -1 then 0 else 1)) ≤ a + ((k + 1 : Nat) : Int)
    generalize (if f m = -1 ∨ g m = -1 then (0 : Int) else 1) = c at h1 h2
    omega

theorem l_X9_isSeen {h : aH} {w : Int} {dl cl lm mn : Nat → Int} (c69 : h 69 = .inl (0, 45, dl)) (c70 : h 70 = .inl (0, 60, cl)) (c71 : h 71 = .inl (0, 12, lm)) (c79 : h 79 = .inl (0, 120, mn)) {nd sw nc nm : Int} {K U I O G L cf ct fc nx cd md my mt : Nat → Int} (pi : PInv nd sw nc K U I O G L cf ct fc nx cd) {sea : Nat → Int} (c83 : h 83 = .inl (0, 18, sea)) {ns : Int} {se : Nat → Int} (rse : SeR nd ns sea se) (pns : 0 ≤ ns ∧ ns ≤ 9) {g : Nat → Int} {day : Int} (hd : 0 ≤ day ∧ day < 365) {m : Int} (hm : 0 ≤ m ∧ m < 1440) : ∀ (k j : Nat) (gg lt lgt : Nat → Int), (j : Int) + k = ns → (∀ i : Nat, i < j → (fun j => nowI sw nc nm K U I O G L cf ct cd md my mt ((j : Nat) : Int) day m) (sea (2 * i)).toNat = sea (2 * i + 1)) → gg 38 = ns → TellR gg dl cl lm mn nd sw nc nm K U I O G L cf ct cd md my mt → LitR (gg 30) lt lgt sw nc L cf ct cd → (∀ k, k ≠ 30 → gg k = g k) → Ev RX9 "isSeen" cX9_isSeen 4 (some .boolean) 5 0 0 (RetT (b2i (alI se (fun j => nowI sw nc nm K U I O G L cf ct cd md my mt ((j : Nat) : Int) day m) nd.toNat)) h g w sw nc L cf ct cd) noX 97 (UT h gg w lt lgt) 2 [(0, .ref 68), (1, iv day), (2, iv m), (3, iv j)] [] := by
  obtain ⟨pnd, psw, pnc, pK, pU, pI, pO, pG, pL, pcf, pct, pfc, pnx⟩ := id pi
  intro k
  induction k with
  | zero =>
    intro j gg lt lgt hj hi e38 trg lig kp
    have ha := al_T (f := (fun j => nowI sw nc nm K U I O G L cf ct cd md my mt ((j : Nat) : Int) day m)) rse pnd (fun i h => hi i (by omega))
    refine r_iload_n dX9_isSeen_2 rfl rfl ?_
    refine r_aload_n dX9_isSeen_3 rfl rfl ?_
    refine r_getR (z := (gg 38)) dX9_isSeen_4 fl_X9_227 (by decide) rfl rfl ?_
    refine r_icmp_ge (tgt := 45) dX9_isSeen_7 (by decide) ⟨by omega, by omega⟩ ⟨by omega, by omega⟩ (fun g7 => ?_) (fun g7 => absurd g7 (by omega))
    refine r_iconst dX9_isSeen_45 ?_
    refine r_zret dX9_isSeen_46 (nar_z (by omega)) ?_
    exact ⟨ivE (by rw [ha]; rfl), rfl, gg, lt, lgt, rfl, lig, kp⟩
  | succ k ih =>
    intro j gg lt lgt hj hi e38 trg lig kp
    obtain ⟨r1, r2, r3⟩ := rse.1 j (by omega)
    have b2 := now_B sw nc nm K U I O G L cf ct cd md my mt (sea (2 * j)) day m
    have ej : (2 * (j : Int)).toNat = 2 * j := by omega
    have ej1 : (2 * (j : Int) + 1).toNat = 2 * j + 1 := by omega
    have eo : (fun j => nowI sw nc nm K U I O G L cf ct cd md my mt ((j : Nat) : Int) day m) (sea (2 * j)).toNat = nowI sw nc nm K U I O G L cf ct cd md my mt (sea (2 * j)) day m := by
      dsimp only
      rw [show ((sea (2 * j)).toNat : Int) = sea (2 * j) by omega]
    refine r_iload_n dX9_isSeen_2 rfl rfl ?_
    refine r_aload_n dX9_isSeen_3 rfl rfl ?_
    refine r_getR (z := (gg 38)) dX9_isSeen_4 fl_X9_227 (by decide) rfl rfl ?_
    refine r_icmp_ge (tgt := 45) dX9_isSeen_7 (by decide) ⟨by omega, by omega⟩ ⟨by omega, by omega⟩ (fun g7 => absurd g7 (by omega)) (fun g7 => ?_)
    refine r_aload_n dX9_isSeen_10 rfl rfl ?_
    refine r_aload_n dX9_isSeen_11 rfl rfl ?_
    refine r_get (fs := RGL _ _) dX9_isSeen_12 fl_X9_63 (by decide) rfl rfl ?_
    refine r_iconst dX9_isSeen_15 ?_
    refine r_iload_n dX9_isSeen_16 rfl rfl ?_
    refine r_imul dX9_isSeen_17 ?_
    refine r_ald dX9_isSeen_18 (by decide) c83 (by omega) (by omega) (by decide) ?_
    rw [ej]
    refine r_iload_n dX9_isSeen_19 rfl rfl ?_
    refine r_iload_n dX9_isSeen_20 rfl rfl ?_
    refine r_callV 68 [_, _, _] (s_X9_tellsNow (g := gg) (by rfl) (by exact c69) (by exact c70) (by exact c71) (by rfl) (by rfl) (by exact c79) trg pi lig (by omega) (by omega) (by omega)) dX9_isSeen_21 cs_X9_278 im_X9_tellsNow (by decide) rfl rfl (by decide) (by decide) (by decide) rfl rfl (Nat.le_of_ble_eq_true rfl) (fun _ _ _ q => q.elim) (fun v n2 h2 q => ?_)
    obtain ⟨rfl, rfl, gn, lt2, lg2, rfl, li2, kp2⟩ := q
    rw [ut_ut]
    have tr2 := tell_kp trg kp2
    refine ⟨rfl, ?_⟩
    dsimp only [Option.toList, List.cons_append, List.nil_append]
    refine r_aload_n dX9_isSeen_24 rfl rfl ?_
    refine r_get (fs := RGL _ _) dX9_isSeen_25 fl_X9_63 (by decide) rfl rfl ?_
    refine r_iconst dX9_isSeen_28 ?_
    refine r_iload_n dX9_isSeen_29 rfl rfl ?_
    refine r_imul dX9_isSeen_30 ?_
    refine r_iconst dX9_isSeen_31 ?_
    refine r_iadd dX9_isSeen_32 ?_
    refine r_ald dX9_isSeen_33 (by decide) c83 (by omega) (by omega) (by decide) ?_
    rw [ej1]
    refine r_icmp_eq (tgt := 39) dX9_isSeen_34 (by decide) ⟨by omega, by omega⟩ ⟨by omega, by omega⟩ (fun g34 => ?_) (fun g34 => ?_)
    · refine r_iinc (lv2 := [(0, _), (1, _), (2, _), (3, _)]) dX9_isSeen_39 (by decide) rfl rfl rfl ?_
      refine r_goto (tgt := 2) dX9_isSeen_42 (by decide) ?_
      rw [show (j : Int) + 1 = ((j + 1 : Nat) : Int) by omega]
      exact ih (j + 1) gn lt2 lg2 (by omega) (fun i h => by
        by_cases q : i = j
        · subst q; rw [eo]; exact g34
        · exact hi i (by omega)) ((kp2 38 (by decide)).trans e38) tr2 li2 (fun k hk => (kp2 k hk).trans (kp k hk))
    · refine r_iconst dX9_isSeen_37 ?_
      refine r_zret dX9_isSeen_38 (nar_z (by omega)) ?_
      have ha := al_F (f := (fun j => nowI sw nc nm K U I O G L cf ct cd md my mt ((j : Nat) : Int) day m)) rse (k := j) (by omega) (fun z => g34 (eo.symm.trans z))
      exact ⟨ivE (by rw [ha]; rfl), rfl, gn, lt2, lg2, rfl, li2, fun k hk => (kp2 k hk).trans (kp k hk)⟩

theorem s_X9_isSeen {h : aH} {g : Nat → Int} {w : Int} (c68 : h 68 = RG g w) {dl cl lm lt lgt mn : Nat → Int} (c69 : h 69 = .inl (0, 45, dl)) (c70 : h 70 = .inl (0, 60, cl)) (c71 : h 71 = .inl (0, 12, lm)) (c77 : h 77 = .inl (2, 1440, lt)) (c78 : h 78 = .inl (2, 1440, lgt)) (c79 : h 79 = .inl (0, 120, mn)) {nd sw nc nm : Int} {K U I O G L cf ct fc nx cd md my mt : Nat → Int} (tr : TellR g dl cl lm mn nd sw nc nm K U I O G L cf ct cd md my mt) (pi : PInv nd sw nc K U I O G L cf ct fc nx cd) (li : LitR (g 30) lt lgt sw nc L cf ct cd) {sea : Nat → Int} (c83 : h 83 = .inl (0, 18, sea)) {ns : Int} {se : Nat → Int} (rse : SeR nd ns sea se) (pns : 0 ≤ ns ∧ ns ≤ 9) (e38 : g 38 = ns) {day : Int} (hd : 0 ≤ day ∧ day < 365) {m : Int} (hm : 0 ≤ m ∧ m < 1440) : mSem yX9_isSeen cX9_isSeen 4 (some .boolean) 5 0 0 [.ref 68, iv day, iv m] 97 h (RetT (b2i (alI se (fun j => nowI sw nc nm K U I O G L cf ct cd md my mt ((j : Nat) : Int) day m) nd.toNat)) h g w sw nc L cf ct cd) noX := by
  obtain ⟨t1, t2, t3, t31, pnm, tdl, tcl, tlm, tmd, pmt, pmd, pmy⟩ := id tr
  obtain ⟨pnd, psw, pnc, pK, pU, pI, pO, pG, pL, pcf, pct, pfc, pnx⟩ := id pi
  refine mSem_of (own := RX9) (name := "isSeen") pn_X9 rfl rfl (Nat.le_of_ble_eq_true rfl) ?_
  refine r_iconst dX9_isSeen_0 ?_
  refine r_istore_n (lv2 := [(0, _), (1, _), (2, _), (3, _)]) dX9_isSeen_1 rfl (by decide) rfl rfl ?_
  refine ev_h (ut_self c68 c77 c78) ?_
  exact l_X9_isSeen c69 c70 c71 c79 pi c83 rse pns hd hm ns.toNat 0 g lt lgt (by omega) (fun i h => absurd h (by omega)) e38 tr li (fun _ _ => rfl)

theorem l_X9_minutes {h : aH} {w : Int} {dl cl lm mn : Nat → Int} (c69 : h 69 = .inl (0, 45, dl)) (c70 : h 70 = .inl (0, 60, cl)) (c71 : h 71 = .inl (0, 12, lm)) (c79 : h 79 = .inl (0, 120, mn)) {nd sw nc nm : Int} {K U I O G L cf ct fc nx cd md my mt : Nat → Int} (pi : PInv nd sw nc K U I O G L cf ct fc nx cd) {sea : Nat → Int} (c83 : h 83 = .inl (0, 18, sea)) {ns : Int} {se : Nat → Int} (rse : SeR nd ns sea se) (pns : 0 ≤ ns ∧ ns ≤ 9) {g : Nat → Int} {day : Int} (hd : 0 ≤ day ∧ day < 365){w_ : Int} (hw : 0 ≤ w_ ∧ w_ ≤ 2) : ∀ (k : Nat) (m : Int) (s : Int × Int × Int) (gg lt lgt : Nat → Int), m + k = 1440 → 0 ≤ m → (-1 ≤ s.2.1 ∧ s.2.1 < 1440) → gg 38 = ns → TellR gg dl cl lm mn nd sw nc nm K U I O G L cf ct cd md my mt → LitR (gg 30) lt lgt sw nc L cf ct cd → (∀ k, k ≠ 30 → gg k = g k) → Ev RX9 "minutes" cX9_minutes 7 (some .int) 7 0 0 (RetT (mnV (mnR (fun m => alI se (fun j => nowI sw nc nm K U I O G L cf ct cd md my mt ((j : Nat) : Int) day m) nd.toNat) k m s) w_) h g w sw nc L cf ct cd) noX 97 (UT h gg w lt lgt) 35 [(0, .ref 68), (1, iv day), (2, iv w_), (3, iv s.1), (4, iv s.2.1), (5, iv s.2.2), (6, iv m)] [] := by
  obtain ⟨pnd, psw, pnc, pK, pU, pI, pO, pG, pL, pcf, pct, pfc, pnx⟩ := id pi
  intro k
  induction k with
  | zero =>
    intro m s gg lt lgt hm h0 hs e38 trg lig kp
    refine r_iload dX9_minutes_35 rfl ?_
    refine r_sipush dX9_minutes_37 rfl ?_
    refine r_icmp_ge (tgt := 84) dX9_minutes_40 (by decide) ⟨by omega, by omega⟩ ⟨by omega, by omega⟩ (fun g40 => ?_) (fun g40 => absurd g40 (by omega))
    refine r_iload_n dX9_minutes_84 rfl rfl ?_
    refine r_if_ne (tgt := 92) dX9_minutes_85 (by decide) ⟨by omega, by omega⟩ (fun g85 => ?_) (fun g85 => ?_)
    · refine r_iload_n dX9_minutes_92 rfl rfl ?_
      refine r_iconst dX9_minutes_93 ?_
      refine r_icmp_ne (tgt := 102) dX9_minutes_94 (by decide) ⟨by omega, by omega⟩ ⟨by omega, by omega⟩ (fun g94 => ?_) (fun g94 => ?_)
      · refine r_iload dX9_minutes_102 rfl ?_
        refine r_iret dX9_minutes_104 ?_
        exact ⟨ivE (by unfold mnV mnR; first | rw [if_pos (by omega)] | rw [if_neg (by omega), if_pos (by omega)] | rw [if_neg (by omega), if_neg (by omega)]), rfl, gg, lt, lgt, rfl, lig, kp⟩
      · refine r_iload dX9_minutes_97 rfl ?_
        refine r_goto (tgt := 104) dX9_minutes_99 (by decide) ?_
        refine r_iret dX9_minutes_104 ?_
        exact ⟨ivE (by unfold mnV mnR; first | rw [if_pos (by omega)] | rw [if_neg (by omega), if_pos (by omega)] | rw [if_neg (by omega), if_neg (by omega)]), rfl, gg, lt, lgt, rfl, lig, kp⟩
    · refine r_iload_n dX9_minutes_88 rfl rfl ?_
      refine r_goto (tgt := 104) dX9_minutes_89 (by decide) ?_
      refine r_iret dX9_minutes_104 ?_
      exact ⟨ivE (by unfold mnV mnR; first | rw [if_pos (by omega)] | rw [if_neg (by omega), if_pos (by omega)] | rw [if_neg (by omega), if_neg (by omega)]), rfl, gg, lt, lgt, rfl, lig, kp⟩
  | succ k ih =>
    intro m s gg lt lgt hm h0 hs e38 trg lig kp
    have kb := b2i_01 (alI se (fun j => nowI sw nc nm K U I O G L cf ct cd md my mt ((j : Nat) : Int) day m) nd.toNat)
    have e1 : mnR (fun m => alI se (fun j => nowI sw nc nm K U I O G L cf ct cd md my mt ((j : Nat) : Int) day m) nd.toNat) (k + 1) m s = mnR (fun m => alI se (fun j => nowI sw nc nm K U I O G L cf ct cd md my mt ((j : Nat) : Int) day m) nd.toNat) k (m + 1) (if alI se (fun j => nowI sw nc nm K U I O G L cf ct cd md my mt ((j : Nat) : Int) day m) nd.toNat = true then (s.1 + 1, if s.2.1 = -1 then m else s.2.1, m) else s) := rfl
    refine r_iload dX9_minutes_35 rfl ?_
    refine r_sipush dX9_minutes_37 rfl ?_
    refine r_icmp_ge (tgt := 84) dX9_minutes_40 (by decide) ⟨by omega, by omega⟩ ⟨by omega, by omega⟩ (fun g40 => absurd g40 (by omega)) (fun g40 => ?_)
    refine r_aload_n dX9_minutes_43 rfl rfl ?_
    refine r_iload_n dX9_minutes_44 rfl rfl ?_
    refine r_iload dX9_minutes_45 rfl ?_
    refine r_callV 68 [_, _] (s_X9_isSeen (g := gg) (by rfl) (by exact c69) (by exact c70) (by exact c71) (by rfl) (by rfl) (by exact c79) trg pi lig (by exact c83) rse pns e38 (by omega) (by omega)) dX9_minutes_47 cs_X9_297 im_X9_isSeen (by decide) rfl rfl (by decide) (by decide) (by decide) rfl rfl (Nat.le_of_ble_eq_true rfl) (fun _ _ _ q => q.elim) (fun v n2 h2 q => ?_)
    obtain ⟨rfl, rfl, gn, lt2, lg2, rfl, li2, kp2⟩ := q
    rw [ut_ut]
    refine ⟨rfl, ?_⟩
    dsimp only [Option.toList, List.cons_append, List.nil_append]
    refine r_if_ne (tgt := 56) dX9_minutes_50 (by decide) ⟨by omega, by omega⟩ (fun g50 => ?_) (fun g50 => ?_)
    · refine r_iinc (lv2 := [(0, _), (1, _), (2, _), (3, _), (4, _), (5, _), (6, _)]) dX9_minutes_56 (by decide) rfl rfl rfl ?_
      refine r_iload dX9_minutes_59 rfl ?_
      refine r_iconst dX9_minutes_61 ?_
      refine r_icmp_ne (tgt := 70) dX9_minutes_62 (by decide) ⟨by omega, by omega⟩ ⟨by omega, by omega⟩ (fun g62 => ?_) (fun g62 => ?_)
      · refine r_iload dX9_minutes_70 rfl ?_
        refine r_istore (lv2 := [(0, _), (1, _), (2, _), (3, _), (4, _), (5, _), (6, _)]) dX9_minutes_72 (by decide) rfl rfl ?_
        refine r_iload dX9_minutes_74 rfl ?_
        refine r_istore (lv2 := [(0, _), (1, _), (2, _), (3, _), (4, _), (5, _), (6, _)]) dX9_minutes_76 (by decide) rfl rfl ?_
        refine r_iinc (lv2 := [(0, _), (1, _), (2, _), (3, _), (4, _), (5, _), (6, _)]) dX9_minutes_78 (by decide) rfl rfl rfl ?_
        refine r_goto (tgt := 35) dX9_minutes_81 (by decide) ?_
        first
          | (rw [b2i_0] at g50
             rw [e1, if_neg (by rw [g50]; decide)]
             exact ih (m + 1) s gn lt2 lg2 (by omega) (by omega) hs ((kp2 38 (by decide)).trans e38) (tell_kp trg kp2) li2 (fun k hk => (kp2 k hk).trans (kp k hk)))
          | (rw [b2i_0, Bool.not_eq_false] at g50
             rw [e1, if_pos g50]
             first
               | (rw [if_pos g62]
                  exact ih (m + 1) (s.1 + 1, m, m) gn lt2 lg2 (by omega) (by omega) ⟨by show (-1 : Int) ≤ m; omega, by show m < 1440; omega⟩ ((kp2 38 (by decide)).trans e38) (tell_kp trg kp2) li2 (fun k hk => (kp2 k hk).trans (kp k hk)))
               | (rw [if_neg g62]
                  exact ih (m + 1) (s.1 + 1, s.2.1, m) gn lt2 lg2 (by omega) (by omega) hs ((kp2 38 (by decide)).trans e38) (tell_kp trg kp2) li2 (fun k hk => (kp2 k hk).trans (kp k hk))))
      · refine r_iload dX9_minutes_65 rfl ?_
        refine r_goto (tgt := 72) dX9_minutes_67 (by decide) ?_
        refine r_istore (lv2 := [(0, _), (1, _), (2, _), (3, _), (4, _), (5, _), (6, _)]) dX9_minutes_72 (by decide) rfl rfl ?_
        refine r_iload dX9_minutes_74 rfl ?_
        refine r_istore (lv2 := [(0, _), (1, _), (2, _), (3, _), (4, _), (5, _), (6, _)]) dX9_minutes_76 (by decide) rfl rfl ?_
        refine r_iinc (lv2 := [(0, _), (1, _), (2, _), (3, _), (4, _), (5, _), (6, _)]) dX9_minutes_78 (by decide) rfl rfl rfl ?_
        refine r_goto (tgt := 35) dX9_minutes_81 (by decide) ?_
        first
          | (rw [b2i_0] at g50
             rw [e1, if_neg (by rw [g50]; decide)]
             exact ih (m + 1) s gn lt2 lg2 (by omega) (by omega) hs ((kp2 38 (by decide)).trans e38) (tell_kp trg kp2) li2 (fun k hk => (kp2 k hk).trans (kp k hk)))
          | (rw [b2i_0, Bool.not_eq_false] at g50
             rw [e1, if_pos g50]
             first
               | (rw [if_pos g62]
                  exact ih (m + 1) (s.1 + 1, m, m) gn lt2 lg2 (by omega) (by omega) ⟨by show (-1 : Int) ≤ m; omega, by show m < 1440; omega⟩ ((kp2 38 (by decide)).trans e38) (tell_kp trg kp2) li2 (fun k hk => (kp2 k hk).trans (kp k hk)))
               | (rw [if_neg g62]
                  exact ih (m + 1) (s.1 + 1, s.2.1, m) gn lt2 lg2 (by omega) (by omega) hs ((kp2 38 (by decide)).trans e38) (tell_kp trg kp2) li2 (fun k hk => (kp2 k hk).trans (kp k hk))))
    · refine r_goto (tgt := 78) dX9_minutes_53 (by decide) ?_
      refine r_iinc (lv2 := [(0, _), (1, _), (2, _), (3, _), (4, _), (5, _), (6, _)]) dX9_minutes_78 (by decide) rfl rfl rfl ?_
      refine r_goto (tgt := 35) dX9_minutes_81 (by decide) ?_
      first
        | (rw [b2i_0] at g50
           rw [e1, if_neg (by rw [g50]; decide)]
           exact ih (m + 1) s gn lt2 lg2 (by omega) (by omega) hs ((kp2 38 (by decide)).trans e38) (tell_kp trg kp2) li2 (fun k hk => (kp2 k hk).trans (kp k hk)))
        | (rw [b2i_0, Bool.not_eq_false] at g50
           rw [e1, if_pos g50]
           first
             | (rw [if_pos g62]
                exact ih (m + 1) (s.1 + 1, m, m) gn lt2 lg2 (by omega) (by omega) ⟨by show (-1 : Int) ≤ m; omega, by show m < 1440; omega⟩ ((kp2 38 (by decide)).trans e38) (tell_kp trg kp2) li2 (fun k hk => (kp2 k hk).trans (kp k hk)))
             | (rw [if_neg g62]
                exact ih (m + 1) (s.1 + 1, s.2.1, m) gn lt2 lg2 (by omega) (by omega) hs ((kp2 38 (by decide)).trans e38) (tell_kp trg kp2) li2 (fun k hk => (kp2 k hk).trans (kp k hk))))

theorem s_X9_minutes {h : aH} {th : Int} {t : Nat → Int} {tp : Nat} {fpl hlaw himg : Int} {rf : Nat → Int} {nd sw nc hl hs : Int} {K U I O G L cf ct fc nx cd : Nat → Int} {nr ns nm : Int} {rd ry rm rt se md my mt : Nat → Int} {M : ND} {ls : LSm} (cr : RefC h (t, tp, fpl, rf, hlaw, himg, ((nd, sw, nc), (hl, hs), K, U, I, O, G, L, cf, ct, fc, nx, cd), ((nr, ns, nm), rd, ry, rm, rt, se, md, my, mt), M, ls) th) {day w_ : Int} (iday : inR day) (iw_ : inR w_)  : mSem yX9_minutes cX9_minutes 7 (some .int) 7 0 0 [.ref 68, iv day, iv w_] 97 h (RefQ (ocL [(dayB day, 1), (whaB w_ 2, 1)]) (mnV (mnR (fun m => alI se (fun j => nowI sw nc nm K U I O G L cf ct cd md my mt ((j : Nat) : Int) day m) nd.toNat) 1440 0 (0, -1, -1)) w_) h (t, tp, fpl, rf, hlaw, himg, ((nd, sw, nc), (hl, hs), K, U, I, O, G, L, cf, ct, fc, nx, cd), ((nr, ns, nm), rd, ry, rm, rt, se, md, my, mt), M, ls)) noX := by
  refine RefC_elim cr (fun g dl cl lm trr rfr nD nC nL lt lgt mn rdg cpl grp sea rts row cod ncod pil opn stg bsd imo imr ims imm w c68 c69 c70 c71 c72 c73 c74 c75 c76 c77 c78 c79 c80 c81 c82 c83 c84 c85 c86 c87 c88 c89 c90 c91 c92 c93 c94 c95 hth rr => ?_)
  refine RR_elim rr (fun e8 e10 e33 e38 e44 e53 tr pi ni li rrf rtp htp rrd rse phl phi rim rco ht nM nsn => ?_)
  obtain ⟨t1, t2, t3, t31, pnm, tdl, tcl, tlm, tmd, pmt, pmd, pmy⟩ := id tr
  obtain ⟨pnd, psw, pnc, pK, pU, pI, pO, pG, pL, pcf, pct, pfc, pnx⟩ := id pi
  obtain ⟨pnr, pns, pnm2, prd, pry, prm, prt, pse, pmd2, pmy2, pmt2⟩ := id ni
  unfold inR at iday iw_
  refine mSem_of (own := RX9) (name := "minutes") pn_X9 rfl rfl (Nat.le_of_ble_eq_true rfl) ?_
  refine r_aload_n dX9_minutes_0 rfl rfl ?_
  refine r_iconst dX9_minutes_1 ?_
  refine r_putR dX9_minutes_2 fp_X9_102 (by decide) c68 (nar_int _) (Nat.le_of_ble_eq_true rfl) setR_0 (fun z0 hz0 => ?_)
  refine r_aload_n dX9_minutes_5 rfl rfl ?_
  refine r_iload_n dX9_minutes_6 rfl rfl ?_
  refine r_callV 68 [_] (s_X9_isDay (by rfl) (by first | rfl | exact hz0) iday) dX9_minutes_7 cs_X9_259 im_X9_isDay (by decide) rfl rfl (by decide) (by decide) (by decide) rfl rfl (Nat.le_of_ble_eq_true rfl) (fun _ _ _ q => q.elim) (fun v n2 h2 q => ?_)
  obtain ⟨rfl, q⟩ := q
  rcases q with ⟨kb1, rfl, hh⟩ | ⟨kb1, rfl, hh⟩
  · obtain rfl := hh.symm
    have bday := of_decide_eq_true kb1
    refine ⟨rfl, ?_⟩
    dsimp only [Option.toList, List.cons_append, List.nil_append]
    refine r_if_eq (tgt := 22) dX9_minutes_10 (by decide) ⟨by omega, by omega⟩ (fun g10 => absurd g10 (by omega)) (fun g10 => ?_)
    refine r_aload_n dX9_minutes_13 rfl rfl ?_
    refine r_iload_n dX9_minutes_14 rfl rfl ?_
    refine r_iconst dX9_minutes_15 ?_
    refine r_callV 68 [_, _] (s_X9_isWhat (by rfl) (by first | rfl | exact hz0) iw_ ⟨by decide, by decide⟩) dX9_minutes_16 cs_X9_246 im_X9_isWhat (by decide) rfl rfl (by decide) (by decide) (by decide) rfl rfl (Nat.le_of_ble_eq_true rfl) (fun _ _ _ q => q.elim) (fun v n2 h2 q => ?_)
    obtain ⟨rfl, q⟩ := q
    rcases q with ⟨kb2, rfl, hh⟩ | ⟨kb2, rfl, hh⟩
    · obtain rfl := hh.symm
      have bw_ := of_decide_eq_true kb2
      refine ⟨rfl, ?_⟩
      dsimp only [Option.toList, List.cons_append, List.nil_append]
      refine r_if_ne (tgt := 24) dX9_minutes_19 (by decide) ⟨by omega, by omega⟩ (fun g19 => ?_) (fun g19 => absurd g19 (by omega))
      refine r_iconst dX9_minutes_24 ?_
      refine r_istore_n (lv2 := [(0, _), (1, _), (2, _), (3, _)]) dX9_minutes_25 rfl (by decide) rfl rfl ?_
      refine r_iconst dX9_minutes_26 ?_
      refine r_istore (lv2 := [(0, _), (1, _), (2, _), (3, _), (4, _)]) dX9_minutes_27 (by decide) rfl rfl ?_
      refine r_iconst dX9_minutes_29 ?_
      refine r_istore (lv2 := [(0, _), (1, _), (2, _), (3, _), (4, _), (5, _)]) dX9_minutes_30 (by decide) rfl rfl ?_
      refine r_iconst dX9_minutes_32 ?_
      refine r_istore (lv2 := [(0, _), (1, _), (2, _), (3, _), (4, _), (5, _), (6, _)]) dX9_minutes_33 (by decide) rfl rfl ?_
      refine ev_h (ut_self (h := va_up h 68 (RG (va_up g 0 z0) w)) rfl c77 c78) ?_
      rw [ut_68]
      refine ev_post (l_X9_minutes c69 c70 c71 c79 pi (by exact c83) rse pns bday bw_ 1440 0 (0, -1, -1) (va_up g 0 z0) lt lgt (by omega) (by omega) ⟨show (-1 : Int) ≤ -1 by decide, show (-1 : Int) < 1440 by decide⟩ (by exact e38) (by exact tr) (by exact li) (g := va_up g 0 z0) (fun _ _ => rfl)) (fun v n2 h2 q => ?_) (fun _ _ _ q => q)
      obtain ⟨rfl, rfl, gn, lt2, lg2, rfl, li2, kp2⟩ := q
      exact ⟨rfl, ⟨_, rfl, fun _ => rfl⟩, (RefC_mk (g := gn) rfl (by exact c69) (by exact c70) (by exact c71) (by exact c72) (by exact c73) (by exact c74) (by exact c75) (by exact c76) rfl rfl (by exact c79) (by exact c80) (by exact c81) (by exact c82) (by exact c83) (by exact c84) (by exact c85) (by exact c86) (by exact c87) (by exact c88) (by exact c89) (by exact c90) (by exact c91) (by exact c92) (by exact c93) (by exact c94) (by exact c95) (by first | exact (hz0.trans (congrArg (fun n : Nat => (n : Int)) ((ocT kb1).trans ((ocT kb2).trans ocE)).symm)) | exact (kp2 0 (by decide)).trans (hz0.trans (congrArg (fun n : Nat => (n : Int)) ((ocT kb1).trans ((ocT kb2).trans ocE)).symm))) (RR_mk (by first | exact e8 | exact (kp2 8 (by decide)).trans e8) (by first | exact e10 | exact (kp2 10 (by decide)).trans e10) (by first | exact e33 | exact (kp2 33 (by decide)).trans e33) (by first | exact e38 | exact (kp2 38 (by decide)).trans e38) (by first | exact e44 | exact (kp2 44 (by decide)).trans e44) (by first | exact e53 | exact (kp2 53 (by decide)).trans e53) (by first | exact tr | exact tell_kp (by exact tr) kp2) pi ni (by first | exact li | exact li2) rrf rtp htp rrd rse phl phi rim rco ht nM nsn)), (by repeat (first | exact fun _ _ => rfl | refine frr_up ?_ (by decide)))⟩
    · obtain rfl := hh.symm
      refine ⟨rfl, ?_⟩
      dsimp only [Option.toList, List.cons_append, List.nil_append]
      refine r_if_ne (tgt := 24) dX9_minutes_19 (by decide) ⟨by omega, by omega⟩ (fun g19 => absurd g19 (by omega)) (fun g19 => ?_)
      refine r_iconst dX9_minutes_22 ?_
      refine r_iret dX9_minutes_23 ?_
      first
        | exact ⟨rfl, ⟨0, rfl, fun z => absurd ((ocF kb1).symm.trans z) (by decide)⟩, (RefC_mk (g := (va_up (va_up g 0 z0) 0 1)) rfl (by exact c69) (by exact c70) (by exact c71) (by exact c72) (by exact c73) (by exact c74) (by exact c75) (by exact c76) (by exact c77) (by exact c78) (by exact c79) (by exact c80) (by exact c81) (by exact c82) (by exact c83) (by exact c84) (by exact c85) (by exact c86) (by exact c87) (by exact c88) (by exact c89) (by exact c90) (by exact c91) (by exact c92) (by exact c93) (by exact c94) (by exact c95) (congrArg (fun n : Nat => (n : Int)) (ocF kb1).symm) (RR_mk (by first | exact e8 | exact (kp2 8 (by decide)).trans e8) (by first | exact e10 | exact (kp2 10 (by decide)).trans e10) (by first | exact e33 | exact (kp2 33 (by decide)).trans e33) (by first | exact e38 | exact (kp2 38 (by decide)).trans e38) (by first | exact e44 | exact (kp2 44 (by decide)).trans e44) (by first | exact e53 | exact (kp2 53 (by decide)).trans e53) (by first | exact tr | exact tell_kp (by exact tr) kp2) pi ni (by first | exact li | exact li2) rrf rtp htp rrd rse phl phi rim rco ht nM nsn)), (by repeat (first | exact fun _ _ => rfl | refine frr_up ?_ (by decide)))⟩
        | exact ⟨rfl, ⟨0, rfl, fun z => absurd (((ocT kb1).trans (ocF kb2)).symm.trans z) (by decide)⟩, (RefC_mk (g := (va_up (va_up g 0 z0) 0 1)) rfl (by exact c69) (by exact c70) (by exact c71) (by exact c72) (by exact c73) (by exact c74) (by exact c75) (by exact c76) (by exact c77) (by exact c78) (by exact c79) (by exact c80) (by exact c81) (by exact c82) (by exact c83) (by exact c84) (by exact c85) (by exact c86) (by exact c87) (by exact c88) (by exact c89) (by exact c90) (by exact c91) (by exact c92) (by exact c93) (by exact c94) (by exact c95) (congrArg (fun n : Nat => (n : Int)) ((ocT kb1).trans (ocF kb2)).symm) (RR_mk (by first | exact e8 | exact (kp2 8 (by decide)).trans e8) (by first | exact e10 | exact (kp2 10 (by decide)).trans e10) (by first | exact e33 | exact (kp2 33 (by decide)).trans e33) (by first | exact e38 | exact (kp2 38 (by decide)).trans e38) (by first | exact e44 | exact (kp2 44 (by decide)).trans e44) (by first | exact e53 | exact (kp2 53 (by decide)).trans e53) (by first | exact tr | exact tell_kp (by exact tr) kp2) pi ni (by first | exact li | exact li2) rrf rtp htp rrd rse phl phi rim rco ht nM nsn)), (by repeat (first | exact fun _ _ => rfl | refine frr_up ?_ (by decide)))⟩
  · obtain rfl := hh.symm
    refine ⟨rfl, ?_⟩
    dsimp only [Option.toList, List.cons_append, List.nil_append]
    refine r_if_eq (tgt := 22) dX9_minutes_10 (by decide) ⟨by omega, by omega⟩ (fun g10 => ?_) (fun g10 => absurd g10 (by omega))
    refine r_iconst dX9_minutes_22 ?_
    refine r_iret dX9_minutes_23 ?_
    first
      | exact ⟨rfl, ⟨0, rfl, fun z => absurd ((ocF kb1).symm.trans z) (by decide)⟩, (RefC_mk (g := (va_up (va_up g 0 z0) 0 1)) rfl (by exact c69) (by exact c70) (by exact c71) (by exact c72) (by exact c73) (by exact c74) (by exact c75) (by exact c76) (by exact c77) (by exact c78) (by exact c79) (by exact c80) (by exact c81) (by exact c82) (by exact c83) (by exact c84) (by exact c85) (by exact c86) (by exact c87) (by exact c88) (by exact c89) (by exact c90) (by exact c91) (by exact c92) (by exact c93) (by exact c94) (by exact c95) (congrArg (fun n : Nat => (n : Int)) (ocF kb1).symm) (RR_mk (by first | exact e8 | exact (kp2 8 (by decide)).trans e8) (by first | exact e10 | exact (kp2 10 (by decide)).trans e10) (by first | exact e33 | exact (kp2 33 (by decide)).trans e33) (by first | exact e38 | exact (kp2 38 (by decide)).trans e38) (by first | exact e44 | exact (kp2 44 (by decide)).trans e44) (by first | exact e53 | exact (kp2 53 (by decide)).trans e53) (by first | exact tr | exact tell_kp (by exact tr) kp2) pi ni (by first | exact li | exact li2) rrf rtp htp rrd rse phl phi rim rco ht nM nsn)), (by repeat (first | exact fun _ _ => rfl | refine frr_up ?_ (by decide)))⟩
      | exact ⟨rfl, ⟨0, rfl, fun z => absurd (((ocT kb1).trans (ocF kb2)).symm.trans z) (by decide)⟩, (RefC_mk (g := (va_up (va_up g 0 z0) 0 1)) rfl (by exact c69) (by exact c70) (by exact c71) (by exact c72) (by exact c73) (by exact c74) (by exact c75) (by exact c76) (by exact c77) (by exact c78) (by exact c79) (by exact c80) (by exact c81) (by exact c82) (by exact c83) (by exact c84) (by exact c85) (by exact c86) (by exact c87) (by exact c88) (by exact c89) (by exact c90) (by exact c91) (by exact c92) (by exact c93) (by exact c94) (by exact c95) (congrArg (fun n : Nat => (n : Int)) ((ocT kb1).trans (ocF kb2)).symm) (RR_mk (by first | exact e8 | exact (kp2 8 (by decide)).trans e8) (by first | exact e10 | exact (kp2 10 (by decide)).trans e10) (by first | exact e33 | exact (kp2 33 (by decide)).trans e33) (by first | exact e38 | exact (kp2 38 (by decide)).trans e38) (by first | exact e44 | exact (kp2 44 (by decide)).trans e44) (by first | exact e53 | exact (kp2 53 (by decide)).trans e53) (by first | exact tr | exact tell_kp (by exact tr) kp2) pi ni (by first | exact li | exact li2) rrf rtp htp rrd rse phl phi rim rco ht nM nsn)), (by repeat (first | exact fun _ _ => rfl | refine frr_up ?_ (by decide)))⟩

theorem l_X9_days2 {h : aH} {w : Int} {dl cl lm mn : Nat → Int} (c69 : h 69 = .inl (0, 45, dl)) (c70 : h 70 = .inl (0, 60, cl)) (c71 : h 71 = .inl (0, 12, lm)) (c79 : h 79 = .inl (0, 120, mn)) {nd sw nc nm : Int} {K U I O G L cf ct fc nx cd md my mt : Nat → Int} (pi : PInv nd sw nc K U I O G L cf ct fc nx cd) {sea : Nat → Int} (c83 : h 83 = .inl (0, 18, sea)) {ns : Int} {se : Nat → Int} (rse : SeR nd ns sea se) (pns : 0 ≤ ns ∧ ns ≤ 9) {g : Nat → Int} {day : Int} (hd : 0 ≤ day ∧ day < 365) {w_ : Int} (hw : 0 ≤ w_ ∧ w_ ≤ 2) {Q : Option Value → Nat → aH → Prop} : ∀ (k : Nat) (m n : Int) (gg lt lgt : Nat → Int), m + k = 1440 → 0 ≤ m → gg 38 = ns → TellR gg dl cl lm mn nd sw nc nm K U I O G L cf ct cd md my mt → LitR (gg 30) lt lgt sw nc L cf ct cd → (∀ k, k ≠ 30 → gg k = g k) →
    (∀ (r : Int) (gg lt lgt : Nat → Int), dyI (fun m => alI se (fun j => nowI sw nc nm K U I O G L cf ct cd md my mt ((j : Nat) : Int) day m) nd.toNat) w_ day k m n = .inl r → TellR gg dl cl lm mn nd sw nc nm K U I O G L cf ct cd md my mt → LitR (gg 30) lt lgt sw nc L cf ct cd → (∀ k, k ≠ 30 → gg k = g k) → Q (some (iv r)) 97 (UT h gg w lt lgt)) →
    (∀ (n2 : Int) (gg lt lgt : Nat → Int), dyI (fun m => alI se (fun j => nowI sw nc nm K U I O G L cf ct cd md my mt ((j : Nat) : Int) day m) nd.toNat) w_ day k m n = .inr n2 → gg 38 = ns → TellR gg dl cl lm mn nd sw nc nm K U I O G L cf ct cd md my mt → LitR (gg 30) lt lgt sw nc L cf ct cd → (∀ k, k ≠ 30 → gg k = g k) → Ev RX9 "days" cX9_days 5 (some .int) 7 0 0 Q noX 97 (UT h gg w lt lgt) 20 [(0, .ref 68), (1, iv w_), (2, iv n2), (3, iv (day + 1))] []) →
    Ev RX9 "days" cX9_days 5 (some .int) 7 0 0 Q noX 97 (UT h gg w lt lgt) 30 [(0, .ref 68), (1, iv w_), (2, iv n), (3, iv day), (4, iv m)] [] := by
  obtain ⟨pnd, psw, pnc, pK, pU, pI, pO, pG, pL, pcf, pct, pfc, pnx⟩ := id pi
  intro k
  induction k with
  | zero =>
    intro m n gg lt lgt hm h0 e38 trg lig kp hq hk
    refine r_iload dX9_days_30 rfl ?_
    refine r_sipush dX9_days_32 rfl ?_
    refine r_icmp_ge (tgt := 76) dX9_days_35 (by decide) ⟨by omega, by omega⟩ ⟨by omega, by omega⟩ (fun g35 => ?_) (fun g35 => absurd g35 (by omega))
    refine r_iinc (lv2 := [(0, _), (1, _), (2, _), (3, _), (4, _)]) dX9_days_76 (by decide) rfl rfl rfl ?_
    refine r_goto (tgt := 20) dX9_days_79 (by decide) ?_
    refine r_lv (lv2 := [(0, _), (1, _), (2, _), (3, _)]) rfl ?_
    exact hk n gg lt lgt rfl e38 trg lig kp
  | succ k ih =>
    intro m n gg lt lgt hm h0 e38 trg lig kp hq hk
    have kb := b2i_01 (alI se (fun j => nowI sw nc nm K U I O G L cf ct cd md my mt ((j : Nat) : Int) day m) nd.toNat)
    have e1 : dyI (fun m => alI se (fun j => nowI sw nc nm K U I O G L cf ct cd md my mt ((j : Nat) : Int) day m) nd.toNat) w_ day (k + 1) m n = if alI se (fun j => nowI sw nc nm K U I O G L cf ct cd md my mt ((j : Nat) : Int) day m) nd.toNat = true then (if 0 < w_ then .inl (if w_ = 1 then day else m) else dyI (fun m => alI se (fun j => nowI sw nc nm K U I O G L cf ct cd md my mt ((j : Nat) : Int) day m) nd.toNat) w_ day k (m + 1) (n + 1)) else dyI (fun m => alI se (fun j => nowI sw nc nm K U I O G L cf ct cd md my mt ((j : Nat) : Int) day m) nd.toNat) w_ day k (m + 1) n := rfl
    refine r_iload dX9_days_30 rfl ?_
    refine r_sipush dX9_days_32 rfl ?_
    refine r_icmp_ge (tgt := 76) dX9_days_35 (by decide) ⟨by omega, by omega⟩ ⟨by omega, by omega⟩ (fun g35 => absurd g35 (by omega)) (fun g35 => ?_)
    refine r_aload_n dX9_days_38 rfl rfl ?_
    refine r_iload_n dX9_days_39 rfl rfl ?_
    refine r_iload dX9_days_40 rfl ?_
    refine r_callV 68 [_, _] (s_X9_isSeen (g := gg) (by rfl) (by exact c69) (by exact c70) (by exact c71) (by rfl) (by rfl) (by exact c79) trg pi lig (by exact c83) rse pns e38 (by omega) (by omega)) dX9_days_42 cs_X9_297 im_X9_isSeen (by decide) rfl rfl (by decide) (by decide) (by decide) rfl rfl (Nat.le_of_ble_eq_true rfl) (fun _ _ _ q => q.elim) (fun v n2 h2 q => ?_)
    obtain ⟨rfl, rfl, gn, lt2, lg2, rfl, li2, kp2⟩ := q
    rw [ut_ut]
    refine ⟨rfl, ?_⟩
    dsimp only [Option.toList, List.cons_append, List.nil_append]
    refine r_if_ne (tgt := 51) dX9_days_45 (by decide) ⟨by omega, by omega⟩ (fun g45 => ?_) (fun g45 => ?_)
    · refine r_iload_n dX9_days_51 rfl rfl ?_
      refine r_if_le (tgt := 67) dX9_days_52 (by decide) ⟨by omega, by omega⟩ (fun g52 => ?_) (fun g52 => ?_)
      · refine r_iinc (lv2 := [(0, _), (1, _), (2, _), (3, _), (4, _)]) dX9_days_67 (by decide) rfl rfl rfl ?_
        refine r_iinc (lv2 := [(0, _), (1, _), (2, _), (3, _), (4, _)]) dX9_days_70 (by decide) rfl rfl rfl ?_
        refine r_goto (tgt := 30) dX9_days_73 (by decide) ?_
        first
          | (rw [b2i_0] at g45
             rw [if_neg (by rw [g45]; decide)] at e1
             rw [e1] at hq hk
             exact ih (m + 1) n gn lt2 lg2 (by omega) (by omega) ((kp2 38 (by decide)).trans e38) (tell_kp trg kp2) li2 (fun k hk => (kp2 k hk).trans (kp k hk)) hq hk)
          | (rw [b2i_0, Bool.not_eq_false] at g45
             rw [if_pos g45, if_neg (by omega)] at e1
             rw [e1] at hq hk
             exact ih (m + 1) (n + 1) gn lt2 lg2 (by omega) (by omega) ((kp2 38 (by decide)).trans e38) (tell_kp trg kp2) li2 (fun k hk => (kp2 k hk).trans (kp k hk)) hq hk)
      · refine r_iload_n dX9_days_55 rfl rfl ?_
        refine r_iconst dX9_days_56 ?_
        refine r_icmp_ne (tgt := 64) dX9_days_57 (by decide) ⟨by omega, by omega⟩ ⟨by omega, by omega⟩ (fun g57 => ?_) (fun g57 => ?_)
        · refine r_iload dX9_days_64 rfl ?_
          refine r_iret dX9_days_66 ?_
          rw [b2i_0, Bool.not_eq_false] at g45
          rw [if_pos g45, if_pos (by omega)] at e1
          exact hq _ gn lt2 lg2 (by rw [e1]; first | rw [if_pos (by omega)] | rw [if_neg (by omega)]) (tell_kp trg kp2) li2 (fun k hk => (kp2 k hk).trans (kp k hk))
        · refine r_iload_n dX9_days_60 rfl rfl ?_
          refine r_goto (tgt := 66) dX9_days_61 (by decide) ?_
          refine r_iret dX9_days_66 ?_
          rw [b2i_0, Bool.not_eq_false] at g45
          rw [if_pos g45, if_pos (by omega)] at e1
          exact hq _ gn lt2 lg2 (by rw [e1]; first | rw [if_pos (by omega)] | rw [if_neg (by omega)]) (tell_kp trg kp2) li2 (fun k hk => (kp2 k hk).trans (kp k hk))
    · refine r_goto (tgt := 70) dX9_days_48 (by decide) ?_
      refine r_iinc (lv2 := [(0, _), (1, _), (2, _), (3, _), (4, _)]) dX9_days_70 (by decide) rfl rfl rfl ?_
      refine r_goto (tgt := 30) dX9_days_73 (by decide) ?_
      first
        | (rw [b2i_0] at g45
           rw [if_neg (by rw [g45]; decide)] at e1
           rw [e1] at hq hk
           exact ih (m + 1) n gn lt2 lg2 (by omega) (by omega) ((kp2 38 (by decide)).trans e38) (tell_kp trg kp2) li2 (fun k hk => (kp2 k hk).trans (kp k hk)) hq hk)
        | (rw [b2i_0, Bool.not_eq_false] at g45
           rw [if_pos g45, if_neg (by omega)] at e1
           rw [e1] at hq hk
           exact ih (m + 1) (n + 1) gn lt2 lg2 (by omega) (by omega) ((kp2 38 (by decide)).trans e38) (tell_kp trg kp2) li2 (fun k hk => (kp2 k hk).trans (kp k hk)) hq hk)

theorem l_X9_days {h : aH} {w : Int} {dl cl lm mn : Nat → Int} (c69 : h 69 = .inl (0, 45, dl)) (c70 : h 70 = .inl (0, 60, cl)) (c71 : h 71 = .inl (0, 12, lm)) (c79 : h 79 = .inl (0, 120, mn)) {nd sw nc nm : Int} {K U I O G L cf ct fc nx cd md my mt : Nat → Int} (pi : PInv nd sw nc K U I O G L cf ct fc nx cd) {sea : Nat → Int} (c83 : h 83 = .inl (0, 18, sea)) {ns : Int} {se : Nat → Int} (rse : SeR nd ns sea se) (pns : 0 ≤ ns ∧ ns ≤ 9) {g : Nat → Int} {w_ : Int} (hw : 0 ≤ w_ ∧ w_ ≤ 2) : ∀ (k : Nat) (day n : Int) (gg lt lgt : Nat → Int), day + k = 365 → 0 ≤ day → gg 38 = ns → TellR gg dl cl lm mn nd sw nc nm K U I O G L cf ct cd md my mt → LitR (gg 30) lt lgt sw nc L cf ct cd → (∀ k, k ≠ 30 → gg k = g k) → Ev RX9 "days" cX9_days 5 (some .int) 7 0 0 (RetT (dyO (fun d m => alI se (fun j => nowI sw nc nm K U I O G L cf ct cd md my mt ((j : Nat) : Int) d m) nd.toNat) w_ k day n) h g w sw nc L cf ct cd) noX 97 (UT h gg w lt lgt) 20 [(0, .ref 68), (1, iv w_), (2, iv n), (3, iv day)] [] := by
  obtain ⟨pnd, psw, pnc, pK, pU, pI, pO, pG, pL, pcf, pct, pfc, pnx⟩ := id pi
  intro k
  induction k with
  | zero =>
    intro day n gg lt lgt hm h0 e38 trg lig kp
    refine r_iload_n dX9_days_20 rfl rfl ?_
    refine r_sipush dX9_days_21 rfl ?_
    refine r_icmp_ge (tgt := 82) dX9_days_24 (by decide) ⟨by omega, by omega⟩ ⟨by omega, by omega⟩ (fun g24 => ?_) (fun g24 => absurd g24 (by omega))
    refine r_iload_n dX9_days_82 rfl rfl ?_
    refine r_if_ne (tgt := 90) dX9_days_83 (by decide) ⟨by omega, by omega⟩ (fun g83 => ?_) (fun g83 => ?_)
    · refine r_iconst dX9_days_90 ?_
      refine r_iret dX9_days_91 ?_
      exact ⟨ivE (by unfold dyO; first | rw [if_pos g83] | rw [if_neg g83]), rfl, gg, lt, lgt, rfl, lig, kp⟩
    · refine r_iload_n dX9_days_86 rfl rfl ?_
      refine r_goto (tgt := 91) dX9_days_87 (by decide) ?_
      refine r_iret dX9_days_91 ?_
      exact ⟨ivE (by unfold dyO; first | rw [if_pos g83] | rw [if_neg g83]), rfl, gg, lt, lgt, rfl, lig, kp⟩
  | succ k ih =>
    intro day n gg lt lgt hm h0 e38 trg lig kp
    have e1 : dyO (fun d m => alI se (fun j => nowI sw nc nm K U I O G L cf ct cd md my mt ((j : Nat) : Int) d m) nd.toNat) w_ (k + 1) day n = match dyI (fun m => alI se (fun j => nowI sw nc nm K U I O G L cf ct cd md my mt ((j : Nat) : Int) day m) nd.toNat) w_ day 1440 0 n with | .inl r => r | .inr n2 => dyO (fun d m => alI se (fun j => nowI sw nc nm K U I O G L cf ct cd md my mt ((j : Nat) : Int) d m) nd.toNat) w_ k (day + 1) n2 := rfl
    refine r_iload_n dX9_days_20 rfl rfl ?_
    refine r_sipush dX9_days_21 rfl ?_
    refine r_icmp_ge (tgt := 82) dX9_days_24 (by decide) ⟨by omega, by omega⟩ ⟨by omega, by omega⟩ (fun g24 => absurd g24 (by omega)) (fun g24 => ?_)
    refine r_iconst dX9_days_27 ?_
    refine r_istore (lv2 := [(0, _), (1, _), (2, _), (3, _), (4, _)]) dX9_days_28 (by decide) rfl rfl ?_
    refine l_X9_days2 c69 c70 c71 c79 pi c83 rse pns ⟨h0, by omega⟩ hw 1440 0 n gg lt lgt (by omega) (by omega) e38 trg lig kp (fun r g3 l3 l4 er t3 i3 k3 => ?_) (fun n2 g3 l3 l4 er e3 t3 i3 k3 => ?_)
    · rw [er] at e1
      exact ⟨ivE e1.symm, rfl, g3, l3, l4, rfl, i3, k3⟩
    · rw [er] at e1
      rw [e1]
      exact ih (day + 1) n2 g3 l3 l4 (by omega) (by omega) e3 t3 i3 k3

theorem s_X9_days {h : aH} {th : Int} {t : Nat → Int} {tp : Nat} {fpl hlaw himg : Int} {rf : Nat → Int} {nd sw nc hl hs : Int} {K U I O G L cf ct fc nx cd : Nat → Int} {nr ns nm : Int} {rd ry rm rt se md my mt : Nat → Int} {M : ND} {ls : LSm} (cr : RefC h (t, tp, fpl, rf, hlaw, himg, ((nd, sw, nc), (hl, hs), K, U, I, O, G, L, cf, ct, fc, nx, cd), ((nr, ns, nm), rd, ry, rm, rt, se, md, my, mt), M, ls) th) {w_ : Int} (iw_ : inR w_)  : mSem yX9_days cX9_days 5 (some .int) 7 0 0 [.ref 68, iv w_] 97 h (RefQ (ocL [(whaB w_ 2, 1)]) (dyO (fun d m => alI se (fun j => nowI sw nc nm K U I O G L cf ct cd md my mt ((j : Nat) : Int) d m) nd.toNat) w_ 365 0 0) h (t, tp, fpl, rf, hlaw, himg, ((nd, sw, nc), (hl, hs), K, U, I, O, G, L, cf, ct, fc, nx, cd), ((nr, ns, nm), rd, ry, rm, rt, se, md, my, mt), M, ls)) noX := by
  refine RefC_elim cr (fun g dl cl lm trr rfr nD nC nL lt lgt mn rdg cpl grp sea rts row cod ncod pil opn stg bsd imo imr ims imm w c68 c69 c70 c71 c72 c73 c74 c75 c76 c77 c78 c79 c80 c81 c82 c83 c84 c85 c86 c87 c88 c89 c90 c91 c92 c93 c94 c95 hth rr => ?_)
  refine RR_elim rr (fun e8 e10 e33 e38 e44 e53 tr pi ni li rrf rtp htp rrd rse phl phi rim rco ht nM nsn => ?_)
  obtain ⟨t1, t2, t3, t31, pnm, tdl, tcl, tlm, tmd, pmt, pmd, pmy⟩ := id tr
  obtain ⟨pnd, psw, pnc, pK, pU, pI, pO, pG, pL, pcf, pct, pfc, pnx⟩ := id pi
  obtain ⟨pnr, pns, pnm2, prd, pry, prm, prt, pse, pmd2, pmy2, pmt2⟩ := id ni
  unfold inR at iw_
  refine mSem_of (own := RX9) (name := "days") pn_X9 rfl rfl (Nat.le_of_ble_eq_true rfl) ?_
  refine r_aload_n dX9_days_0 rfl rfl ?_
  refine r_iconst dX9_days_1 ?_
  refine r_putR dX9_days_2 fp_X9_102 (by decide) c68 (nar_int _) (Nat.le_of_ble_eq_true rfl) setR_0 (fun z0 hz0 => ?_)
  refine r_aload_n dX9_days_5 rfl rfl ?_
  refine r_iload_n dX9_days_6 rfl rfl ?_
  refine r_iconst dX9_days_7 ?_
  refine r_callV 68 [_, _] (s_X9_isWhat (by rfl) (by first | rfl | exact hz0) iw_ ⟨by decide, by decide⟩) dX9_days_8 cs_X9_246 im_X9_isWhat (by decide) rfl rfl (by decide) (by decide) (by decide) rfl rfl (Nat.le_of_ble_eq_true rfl) (fun _ _ _ q => q.elim) (fun v n2 h2 q => ?_)
  obtain ⟨rfl, q⟩ := q
  rcases q with ⟨kb1, rfl, hh⟩ | ⟨kb1, rfl, hh⟩
  · obtain rfl := hh.symm
    have bw_ := of_decide_eq_true kb1
    refine ⟨rfl, ?_⟩
    dsimp only [Option.toList, List.cons_append, List.nil_append]
    refine r_if_ne (tgt := 16) dX9_days_11 (by decide) ⟨by omega, by omega⟩ (fun g11 => ?_) (fun g11 => absurd g11 (by omega))
    refine r_iconst dX9_days_16 ?_
    refine r_istore_n (lv2 := [(0, _), (1, _), (2, _)]) dX9_days_17 rfl (by decide) rfl rfl ?_
    refine r_iconst dX9_days_18 ?_
    refine r_istore_n (lv2 := [(0, _), (1, _), (2, _), (3, _)]) dX9_days_19 rfl (by decide) rfl rfl ?_
    refine ev_h (ut_self (h := va_up h 68 (RG (va_up g 0 z0) w)) rfl c77 c78) ?_
    rw [ut_68]
    refine ev_post (l_X9_days c69 c70 c71 c79 pi (by exact c83) rse pns bw_ 365 0 0 (va_up g 0 z0) lt lgt (by omega) (by omega) (by exact e38) (by exact tr) (by exact li) (g := va_up g 0 z0) (fun _ _ => rfl)) (fun v n2 h2 q => ?_) (fun _ _ _ q => q)
    obtain ⟨rfl, rfl, gn, lt2, lg2, rfl, li2, kp2⟩ := q
    exact ⟨rfl, ⟨_, rfl, fun _ => rfl⟩, (RefC_mk (g := gn) rfl (by exact c69) (by exact c70) (by exact c71) (by exact c72) (by exact c73) (by exact c74) (by exact c75) (by exact c76) rfl rfl (by exact c79) (by exact c80) (by exact c81) (by exact c82) (by exact c83) (by exact c84) (by exact c85) (by exact c86) (by exact c87) (by exact c88) (by exact c89) (by exact c90) (by exact c91) (by exact c92) (by exact c93) (by exact c94) (by exact c95) (by first | exact (hz0.trans (congrArg (fun n : Nat => (n : Int)) ((ocT kb1).trans ocE).symm)) | exact (kp2 0 (by decide)).trans (hz0.trans (congrArg (fun n : Nat => (n : Int)) ((ocT kb1).trans ocE).symm))) (RR_mk (by first | exact e8 | exact (kp2 8 (by decide)).trans e8) (by first | exact e10 | exact (kp2 10 (by decide)).trans e10) (by first | exact e33 | exact (kp2 33 (by decide)).trans e33) (by first | exact e38 | exact (kp2 38 (by decide)).trans e38) (by first | exact e44 | exact (kp2 44 (by decide)).trans e44) (by first | exact e53 | exact (kp2 53 (by decide)).trans e53) (by first | exact tr | exact tell_kp (by exact tr) kp2) pi ni (by first | exact li | exact li2) rrf rtp htp rrd rse phl phi rim rco ht nM nsn)), (by repeat (first | exact fun _ _ => rfl | refine frr_up ?_ (by decide)))⟩
  · obtain rfl := hh.symm
    refine ⟨rfl, ?_⟩
    dsimp only [Option.toList, List.cons_append, List.nil_append]
    refine r_if_ne (tgt := 16) dX9_days_11 (by decide) ⟨by omega, by omega⟩ (fun g11 => absurd g11 (by omega)) (fun g11 => ?_)
    refine r_iconst dX9_days_14 ?_
    refine r_iret dX9_days_15 ?_
    first
      | exact ⟨rfl, ⟨0, rfl, fun z => absurd ((ocF kb1).symm.trans z) (by decide)⟩, (RefC_mk (g := (va_up (va_up g 0 z0) 0 1)) rfl (by exact c69) (by exact c70) (by exact c71) (by exact c72) (by exact c73) (by exact c74) (by exact c75) (by exact c76) (by exact c77) (by exact c78) (by exact c79) (by exact c80) (by exact c81) (by exact c82) (by exact c83) (by exact c84) (by exact c85) (by exact c86) (by exact c87) (by exact c88) (by exact c89) (by exact c90) (by exact c91) (by exact c92) (by exact c93) (by exact c94) (by exact c95) (congrArg (fun n : Nat => (n : Int)) (ocF kb1).symm) (RR_mk (by first | exact e8 | exact (kp2 8 (by decide)).trans e8) (by first | exact e10 | exact (kp2 10 (by decide)).trans e10) (by first | exact e33 | exact (kp2 33 (by decide)).trans e33) (by first | exact e38 | exact (kp2 38 (by decide)).trans e38) (by first | exact e44 | exact (kp2 44 (by decide)).trans e44) (by first | exact e53 | exact (kp2 53 (by decide)).trans e53) (by first | exact tr | exact tell_kp (by exact tr) kp2) pi ni (by first | exact li | exact li2) rrf rtp htp rrd rse phl phi rim rco ht nM nsn)), (by repeat (first | exact fun _ _ => rfl | refine frr_up ?_ (by decide)))⟩

