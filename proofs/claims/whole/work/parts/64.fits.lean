/-! ===== the reference: which turns and tilts fit ===== -/
theorem ut_c (h : aH) (a b : aE) (g : Nat → Int) (w : Int) (lt lgt : Nat → Int) {c : Nat} (hc : c ≠ 68 ∧ c ≠ 77 ∧ c ≠ 78) : va_up (UT (va_up h c a) g w lt lgt) c b = UT (va_up h c b) g w lt lgt := by
  obtain ⟨h1, h2, h3⟩ := hc
  funext j
  unfold UT va_up
  by_cases q4 : j = c
  · subst q4; simp [h1, h2, h3]
  · simp [q4]
theorem ut_sc {h : aH} {e : aE} {g : Nat → Int} {w : Int} {lt lgt : Nat → Int} {c : Nat} (c68 : h 68 = RG g w) (c77 : h 77 = .inl (2, 1440, lt)) (c78 : h 78 = .inl (2, 1440, lgt)) (cc : h c = e) : h = UT (va_up h c e) g w lt lgt := by
  have e2 : va_up h c e = h := (up_same cc).symm
  rw [e2]
  exact ut_self c68 c77 c78
theorem ut_putc (h : aH) (e : aE) (g g2 : Nat → Int) (w w2 : Int) (lt lgt : Nat → Int) {c : Nat} : va_up (UT (va_up h c e) g w lt lgt) 68 (RG g2 w2) = UT (va_up h c e) g2 w2 lt lgt := ut_put _ _ _ _ _ _ _
/-- the couples below k that are right, in their order -/
def cpL (ok : Int → Bool) : Nat → List Int
  | 0 => []
  | k + 1 => if ok (k : Nat) = true then cpL ok k ++ [((k : Nat) : Int)] else cpL ok k
theorem cpL_s (ok : Int → Bool) (k : Nat) : cpL ok (k + 1) = if ok (k : Nat) = true then cpL ok k ++ [((k : Nat) : Int)] else cpL ok k := rfl
theorem cpL_len (ok : Int → Bool) : ∀ k, (cpL ok k).length ≤ k := by
  intro k
  induction k with
  | zero => exact Nat.le_refl _
  | succ k ih =>
    rw [cpL_s]
    split
    · rw [List.length_append, List.length_singleton]; omega
    · omega
theorem cpL_B (ok : Int → Bool) : ∀ k, ∀ x ∈ cpL ok k, 0 ≤ x ∧ x < k := by
  intro k
  induction k with
  | zero => intro x hx; exact absurd hx List.not_mem_nil
  | succ k ih =>
    intro x hx
    rw [cpL_s] at hx
    split at hx
    · rcases List.mem_append.mp hx with h | h
      · have := ih x h; omega
      · rcases List.mem_singleton.mp h with rfl; omega
    · have := ih x hx; omega
/-- the row holds the list -/
def agL (r : Nat → Int) (l : List Int) : Prop := ∀ j, j < l.length → r j = l.getD j 0
theorem agL_put {r : Nat → Int} {l : List Int} (h : agL r l) (v : Int) : agL (va_up r l.length v) (l ++ [v]) := by
  intro j hj
  rw [List.length_append, List.length_singleton] at hj
  by_cases q : j = l.length
  · subst q
    have := getD_apr (A := l) (B := [v]) 0
    rw [Nat.add_zero] at this
    rw [this]
    simp [va_up]
  · rw [getD_apl (by omega), ← h j (by omega)]
    simp [va_up, q]
/-- couples by what each tells: how many are in each group, and the most so far -/
def grF (f : Int → Int) : List Int → (Nat → Int) × Int → (Nat → Int) × Int
  | [], s => s
  | x :: r, s => grF f r (va_up s.1 (f x).toNat (s.1 (f x).toNat + 1), if s.2 < s.1 (f x).toNat + 1 then s.1 (f x).toNat + 1 else s.2)
def lmF (s : Int × Int) (x : Int) : Int × Int := (if x % 41 < s.1 then x % 41 else s.1, if s.2 < x % 41 then x % 41 else s.2)
def nxT (gg : Int → Int) : Nat → Int → Int × Int → Int × Int
  | 0, _, s => s
  | k + 1, m, s => nxT gg k (m + 15) (if s.1 = -1 ∨ gg m < s.2 then (m, gg m) else s)
def ftR (l : List Int) (w : Int) : Int := if w = 0 then (l.length : Int) else if w = 1 then l.getD 0 0 / 41 - 60 else if w = 2 then l.getD (l.length - 1) 0 / 41 - 60 else if w = 3 then (l.foldl lmF (40, 0)).1 - 20 else (l.foldl lmF (40, 0)).2 - 20

theorem l_X9_fits {h : aH} {w : Int} {dl cl lm mn : Nat → Int} (c69 : h 69 = .inl (0, 45, dl)) (c70 : h 70 = .inl (0, 60, cl)) (c71 : h 71 = .inl (0, 12, lm)) (c79 : h 79 = .inl (0, 120, mn)) {nd sw nc nm : Int} {K U I O G L cf ct fc nx cd md my mt : Nat → Int} (pi : PInv nd sw nc K U I O G L cf ct fc nx cd) {rdg : Nat → Int} (c80 : h 80 = .inl (0, 48, rdg)) {nr ns : Int} {rd ry rm rt se : Nat → Int} (rrd : RdR nr rdg rd ry rm rt) (ni : NInv nr ns nm rd ry rm rt se md my mt) {g : Nat → Int} {di : Int} (hdi : 0 ≤ di ∧ di < nd) {tu ti : Int} (htu : -200 ≤ tu ∧ tu ≤ 200) (hti : -50 ≤ ti ∧ ti ≤ 50) : ∀ (k j : Nat) (gg lt lgt : Nat → Int), (j : Int) + k = nr → (∀ i : Nat, i < j → rd i = di → tldI sw nc K O G L cf ct cd di (ry i) (rm i) tu ti = rt i) → gg 33 = nr → TellR gg dl cl lm mn nd sw nc nm K U I O G L cf ct cd md my mt → LitR (gg 30) lt lgt sw nc L cf ct cd → (∀ k, k ≠ 30 → gg k = g k) → Ev RX9 "fits" cX9_fits 5 (some .boolean) 4 0 0 (RetT (b2i (allR (fun dy mi => tldI sw nc K O G L cf ct cd di dy mi tu ti) rd ry rm rt di nr.toNat)) h g w sw nc L cf ct cd) noX 97 (UT h gg w lt lgt) 3 [(0, .ref 68), (1, iv di), (2, iv tu), (3, iv ti), (4, iv j)] [] := by
  obtain ⟨pnd, psw, pnc, pK, pU, pI, pO, pG, pL, pcf, pct, pfc, pnx⟩ := id pi
  obtain ⟨pnr, pns, pnm2, prd, pry, prm, prt, pse, pmd2, pmy2, pmt2⟩ := id ni
  intro k
  induction k with
  | zero =>
    intro j gg lt lgt hj hi e33 trg lig kp
    have ha : (allR (fun dy mi => tldI sw nc K O G L cf ct cd di dy mi tu ti) rd ry rm rt di nr.toNat) = true := decide_eq_true (fun r hr => hi r (by omega))
    refine r_iload dX9_fits_3 rfl ?_
    refine r_aload_n dX9_fits_5 rfl rfl ?_
    refine r_getR (z := (gg 33)) dX9_fits_6 fl_X9_224 (by decide) rfl rfl ?_
    refine r_icmp_ge (tgt := 106) dX9_fits_9 (by decide) ⟨by omega, by omega⟩ ⟨by omega, by omega⟩ (fun g9 => ?_) (fun g9 => absurd g9 (by omega))
    refine r_iconst dX9_fits_106 ?_
    refine r_zret dX9_fits_107 (nar_z (by omega)) ?_
    exact ⟨ivE (by rw [ha]; rfl), rfl, gg, lt, lgt, rfl, lig, kp⟩
  | succ k ih =>
    intro j gg lt lgt hj hi e33 trg lig kp
    obtain ⟨t1, t2, t3, t31, pnm, tdl, tcl, tlm, tmd, pmt, pmd, pmy⟩ := id trg
    obtain ⟨k1, k2, k3, k4, k5⟩ := tdl di.toNat (by omega)
    have bK := pK di.toNat
    have bO := pO di.toNat
    have bG := pG di.toNat
    have bU := pU di.toNat
    have bI := pI di.toNat
    have q0 : (5 * di).toNat = 5 * di.toNat := by omega
    have q1 : (5 * di + 1).toNat = 5 * di.toNat + 1 := by omega
    have q2 : (5 * di + 2).toNat = 5 * di.toNat + 2 := by omega
    have q3 : (5 * di + 3).toNat = 5 * di.toNat + 3 := by omega
    have q4 : (5 * di + 4).toNat = 5 * di.toNat + 4 := by omega
    obtain ⟨r1, r2, r3, r4⟩ := rrd j (by omega)
    have b1 := prd j
    have b2 := pry j
    have b3 := prm j
    have b4 := prt j
    have b5 := told_B (K di.toNat) tu ti (O di.toNat) (G di.toNat) (ry j) (rm j) (noonI L (ry j)) (halfI sw (ry j)) (cUp cd cf ct (ry j) (rm j) nc.toNat)
    have n0 : (4 * (j : Int)).toNat = 4 * j := by omega
    have n1 : (4 * (j : Int) + 1).toNat = 4 * j + 1 := by omega
    have n2 : (4 * (j : Int) + 2).toNat = 4 * j + 2 := by omega
    have n3 : (4 * (j : Int) + 3).toNat = 4 * j + 3 := by omega
    refine r_iload dX9_fits_3 rfl ?_
    refine r_aload_n dX9_fits_5 rfl rfl ?_
    refine r_getR (z := (gg 33)) dX9_fits_6 fl_X9_224 (by decide) rfl rfl ?_
    refine r_icmp_ge (tgt := 106) dX9_fits_9 (by decide) ⟨by omega, by omega⟩ ⟨by omega, by omega⟩ (fun g9 => absurd g9 (by omega)) (fun g9 => ?_)
    refine r_aload_n dX9_fits_12 rfl rfl ?_
    refine r_get (fs := RGL _ _) dX9_fits_13 fl_X9_54 (by decide) rfl rfl ?_
    refine r_iconst dX9_fits_16 ?_
    refine r_iload dX9_fits_17 rfl ?_
    refine r_imul dX9_fits_19 ?_
    refine r_ald dX9_fits_20 (by decide) c80 (by omega) (by omega) (by decide) ?_
    rw [n0, r1]
    refine r_iload_n dX9_fits_21 rfl rfl ?_
    refine r_icmp_eq (tgt := 28) dX9_fits_22 (by decide) ⟨by omega, by omega⟩ ⟨by omega, by omega⟩ (fun g22 => ?_) (fun g22 => ?_)
    · refine r_aload_n dX9_fits_28 rfl rfl ?_
      refine r_aload_n dX9_fits_29 rfl rfl ?_
      refine r_get (fs := RGL _ _) dX9_fits_30 fl_X9_13 (by decide) rfl rfl ?_
      refine r_iconst dX9_fits_33 ?_
      refine r_iload_n dX9_fits_34 rfl rfl ?_
      refine r_imul dX9_fits_35 ?_
      refine r_ald dX9_fits_36 (by decide) c69 (by omega) (by omega) (by decide) ?_
      rw [q0, k1]
      refine r_iload_n dX9_fits_37 rfl rfl ?_
      refine r_iload_n dX9_fits_38 rfl rfl ?_
      refine r_aload_n dX9_fits_39 rfl rfl ?_
      refine r_get (fs := RGL _ _) dX9_fits_40 fl_X9_13 (by decide) rfl rfl ?_
      refine r_iconst dX9_fits_43 ?_
      refine r_iload_n dX9_fits_44 rfl rfl ?_
      refine r_imul dX9_fits_45 ?_
      refine r_iconst dX9_fits_46 ?_
      refine r_iadd dX9_fits_47 ?_
      refine r_ald dX9_fits_48 (by decide) c69 (by omega) (by omega) (by decide) ?_
      rw [q3, k4]
      refine r_aload_n dX9_fits_49 rfl rfl ?_
      refine r_get (fs := RGL _ _) dX9_fits_50 fl_X9_13 (by decide) rfl rfl ?_
      refine r_iconst dX9_fits_53 ?_
      refine r_iload_n dX9_fits_54 rfl rfl ?_
      refine r_imul dX9_fits_55 ?_
      refine r_iconst dX9_fits_56 ?_
      refine r_iadd dX9_fits_57 ?_
      refine r_ald dX9_fits_58 (by decide) c69 (by omega) (by omega) (by decide) ?_
      rw [q4, k5]
      refine r_aload_n dX9_fits_59 rfl rfl ?_
      refine r_get (fs := RGL _ _) dX9_fits_60 fl_X9_54 (by decide) rfl rfl ?_
      refine r_iconst dX9_fits_63 ?_
      refine r_iload dX9_fits_64 rfl ?_
      refine r_imul dX9_fits_66 ?_
      refine r_iconst dX9_fits_67 ?_
      refine r_iadd dX9_fits_68 ?_
      refine r_ald dX9_fits_69 (by decide) c80 (by omega) (by omega) (by decide) ?_
      rw [n1, r2]
      refine r_aload_n dX9_fits_70 rfl rfl ?_
      refine r_get (fs := RGL _ _) dX9_fits_71 fl_X9_54 (by decide) rfl rfl ?_
      refine r_iconst dX9_fits_74 ?_
      refine r_iload dX9_fits_75 rfl ?_
      refine r_imul dX9_fits_77 ?_
      refine r_iconst dX9_fits_78 ?_
      refine r_iadd dX9_fits_79 ?_
      refine r_ald dX9_fits_80 (by decide) c80 (by omega) (by omega) (by decide) ?_
      rw [n2, r3]
      refine r_callV 68 [_, _, _, _, _, _, _] (s_X9_tellsBy (g := gg) (by rfl) (by exact c69) (by exact c70) (by exact c71) (by rfl) (by rfl) (by exact c79) trg pi lig (by omega) (by omega) (by omega) (by omega) (by omega) (by omega) (by omega)) dX9_fits_81 cs_X9_271 im_X9_tellsBy (by decide) rfl rfl (by decide) (by decide) (by decide) rfl rfl (Nat.le_of_ble_eq_true rfl) (fun _ _ _ q => q.elim) (fun v n2 h2 q => ?_)
      obtain ⟨rfl, rfl, gn, lt2, lg2, rfl, li2, kp2⟩ := q
      rw [ut_ut]
      have tr2 := tell_kp trg kp2
      refine ⟨rfl, ?_⟩
      dsimp only [Option.toList, List.cons_append, List.nil_append]
      refine r_aload_n dX9_fits_84 rfl rfl ?_
      refine r_get (fs := RGL _ _) dX9_fits_85 fl_X9_54 (by decide) rfl rfl ?_
      refine r_iconst dX9_fits_88 ?_
      refine r_iload dX9_fits_89 rfl ?_
      refine r_imul dX9_fits_91 ?_
      refine r_iconst dX9_fits_92 ?_
      refine r_iadd dX9_fits_93 ?_
      refine r_ald dX9_fits_94 (by decide) c80 (by omega) (by omega) (by decide) ?_
      rw [n3, r4]
      refine r_icmp_eq (tgt := 100) dX9_fits_95 (by decide) ⟨by omega, by omega⟩ ⟨by omega, by omega⟩ (fun g95 => ?_) (fun g95 => ?_)
      · refine r_iinc (lv2 := [(0, _), (1, _), (2, _), (3, _), (4, _)]) dX9_fits_100 (by decide) rfl rfl rfl ?_
        refine r_goto (tgt := 3) dX9_fits_103 (by decide) ?_
        rw [show (j : Int) + 1 = ((j + 1 : Nat) : Int) by omega]
        first
          | exact ih (j + 1) gn lt2 lg2 (by omega) (fun i h hr => by
              by_cases q : i = j
              · subst q; exact g95
              · exact hi i (by omega) hr) ((kp2 33 (by decide)).trans e33) tr2 li2 (fun k hk => (kp2 k hk).trans (kp k hk))
          | exact ih (j + 1) gg lt lgt (by omega) (fun i h hr => by
              by_cases q : i = j
              · subst q; exact absurd hr g22
              · exact hi i (by omega) hr) e33 trg lig kp
      · refine r_iconst dX9_fits_98 ?_
        refine r_zret dX9_fits_99 (nar_z (by omega)) ?_
        have ha : (allR (fun dy mi => tldI sw nc K O G L cf ct cd di dy mi tu ti) rd ry rm rt di nr.toNat) = false := decide_eq_false (fun z => g95 (z j (by omega) (by omega)))
        exact ⟨ivE (by rw [ha]; rfl), rfl, gn, lt2, lg2, rfl, li2, fun k hk => (kp2 k hk).trans (kp k hk)⟩
    · refine r_goto (tgt := 100) dX9_fits_25 (by decide) ?_
      refine r_iinc (lv2 := [(0, _), (1, _), (2, _), (3, _), (4, _)]) dX9_fits_100 (by decide) rfl rfl rfl ?_
      refine r_goto (tgt := 3) dX9_fits_103 (by decide) ?_
      rw [show (j : Int) + 1 = ((j + 1 : Nat) : Int) by omega]
      first
        | exact ih (j + 1) gn lt2 lg2 (by omega) (fun i h hr => by
            by_cases q : i = j
            · subst q; exact g95
            · exact hi i (by omega) hr) ((kp2 33 (by decide)).trans e33) tr2 li2 (fun k hk => (kp2 k hk).trans (kp k hk))
        | exact ih (j + 1) gg lt lgt (by omega) (fun i h hr => by
            by_cases q : i = j
            · subst q; exact absurd hr g22
            · exact hi i (by omega) hr) e33 trg lig kp

theorem s_X9_fits {h : aH} {g : Nat → Int} {w : Int} (c68 : h 68 = RG g w) {dl cl lm lt lgt mn : Nat → Int} (c69 : h 69 = .inl (0, 45, dl)) (c70 : h 70 = .inl (0, 60, cl)) (c71 : h 71 = .inl (0, 12, lm)) (c77 : h 77 = .inl (2, 1440, lt)) (c78 : h 78 = .inl (2, 1440, lgt)) (c79 : h 79 = .inl (0, 120, mn)) {nd sw nc nm : Int} {K U I O G L cf ct fc nx cd md my mt : Nat → Int} (tr : TellR g dl cl lm mn nd sw nc nm K U I O G L cf ct cd md my mt) (pi : PInv nd sw nc K U I O G L cf ct fc nx cd) (li : LitR (g 30) lt lgt sw nc L cf ct cd) {rdg : Nat → Int} (c80 : h 80 = .inl (0, 48, rdg)) {nr ns : Int} {rd ry rm rt se : Nat → Int} (rrd : RdR nr rdg rd ry rm rt) (ni : NInv nr ns nm rd ry rm rt se md my mt) (e33 : g 33 = nr) {di : Int} (hdi : 0 ≤ di ∧ di < nd) {tu ti : Int} (htu : -200 ≤ tu ∧ tu ≤ 200) (hti : -50 ≤ ti ∧ ti ≤ 50)  : mSem yX9_fits cX9_fits 5 (some .boolean) 4 0 0 [.ref 68, iv di, iv tu, iv ti] 97 h (RetT (b2i (allR (fun dy mi => tldI sw nc K O G L cf ct cd di dy mi tu ti) rd ry rm rt di nr.toNat)) h g w sw nc L cf ct cd) noX := by
  obtain ⟨t1, t2, t3, t31, pnm, tdl, tcl, tlm, tmd, pmt, pmd, pmy⟩ := id tr
  obtain ⟨pnd, psw, pnc, pK, pU, pI, pO, pG, pL, pcf, pct, pfc, pnx⟩ := id pi
  obtain ⟨pnr, pns, pnm2, prd, pry, prm, prt, pse, pmd2, pmy2, pmt2⟩ := id ni
  refine mSem_of (own := RX9) (name := "fits") pn_X9 rfl rfl (Nat.le_of_ble_eq_true rfl) ?_
  refine r_iconst dX9_fits_0 ?_
  refine r_istore (lv2 := [(0, _), (1, _), (2, _), (3, _), (4, _)]) dX9_fits_1 (by decide) rfl rfl ?_
  refine ev_h (ut_self c68 c77 c78) ?_
  exact l_X9_fits c69 c70 c71 c79 pi c80 rrd ni hdi htu hti nr.toNat 0 g lt lgt (by omega) (fun i h => absurd h (by omega)) e33 tr li (fun _ _ => rfl)

