/-! ===== the reference reads a law: its loop ===== -/
def LwFr (g gg : Nat → Int) : Prop := ∀ k, ¬ (9 ≤ k ∧ k ≤ 10) → ¬ (13 ≤ k ∧ k ≤ 18) → ¬ (51 ≤ k ∧ k ≤ 52) → gg k = g k
def LwI (t : Nat → Int) (le : Nat) (g : Nat → Int) (e tp o : Nat) (gg : Nat → Int) (ww : Int) : Prop := RS t le e gg ww ∧ gg 9 = 0 ∧ gg 10 = g 10 ∧ gg 51 = (tp : Int) ∧ gg 52 = (o : Int) ∧ LwFr g gg
abbrev LwE (Q : Option Value → Nat → aH → Prop) (h : aH) (x : Int) (gg : Nat → Int) (ww : Int) (NC OP SG BS : Nat → Int) (z : Int) (pc : Nat) : Prop := Ev RX9 "law" cX9_law 3 (some .int) 6 0 0 Q noX 97 (WT h gg ww NC OP SG BS) pc [(0, .ref 68), (1, iv x), (2, iv z)] []
def FKp (Q : Option Value → Nat → aH → Prop) (h : aH) (g : Nat → Int) (x : Int) (r : PRs) : Prop := ∀ (gg : Nat → Int) (ww : Int) (NC OP SG BS : Nat → Int) (z f : Int) (p : Nat), r = .inl (f, p) → (1 ≤ f ∧ f ≤ 4) → gg 9 = f → gg 10 = (p : Int) → LwFr g gg → LwE Q h x gg ww NC OP SG BS z 118
def GKp (Q : Option Value → Nat → aH → Prop) (h : aH) (t : Nat → Int) (le : Nat) (nd : Int) (g : Nat → Int) (x : Int) (r : PRs) (b : Bool) (tp e o : Nat) (NC OP SG BS : Nat → Int) : Prop := ∀ (gg : Nat → Int) (ww : Int) (NC2 OP2 SG2 BS2 : Nat → Int) (s : LSm) (e2 tp2 : Nat), r = .inr (s, e2) → LwI t le g e2 tp2 o gg ww → tp ≤ tp2 → tp2 + e ≤ e2 + tp → (∀ j, j < tp → NC2 j = NC j) → (∀ j, j < o → OP2 j = OP j ∧ SG2 j = SG j ∧ BS2 j = BS j) → CSg nd NC2 tp tp2 b s → LwE Q h x gg ww NC2 OP2 SG2 BS2 1 77
def IBp (Q : Option Value → Nat → aH → Prop) (h : aH) (t : Nat → Int) (le : Nat) (nd : Int) (g : Nat → Int) (x : Int) (k : Nat) : Prop := ∀ (b : Bool) (e : Nat) (gg : Nat → Int) (ww : Int) (NC OP SG BS : Nat → Int) (tp o : Nat), o + k = 12 → 1 ≤ o → LwI t le g e tp o gg ww → tp + 2 * o ≤ e → (0 ≤ OP (o - 1) ∧ OP (o - 1) ≤ 30) → (0 ≤ SG (o - 1) ∧ SG (o - 1) ≤ 1000) → decide (OP (o - 1) = 19 ∨ (OP (o - 1) = 15 ∧ SG (o - 1) = 0)) = !b → GKp Q h t le nd g x (pT t le nd k b e) b tp e o NC OP SG BS → FKp Q h g x (pT t le nd k b e) → LwE Q h x gg ww NC OP SG BS 0 77

theorem lw_bad {Q : Option Value → Nat → aH → Prop} {h : aH} {x : Int} {gg : Nat → Int} {ww : Int} {NC OP SG BS : Nat → Int} {z : Int} (b9 : 1 ≤ gg 9 ∧ gg 9 ≤ 9) (kk : LwE Q h x gg ww NC OP SG BS z 118) : LwE Q h x gg ww NC OP SG BS z 77 := by
  refine r_aload_n dX9_law_77 rfl rfl ?_
  refine r_callV 68 [] (s_X9_good0 (g := gg) (by rfl) b9) dX9_law_78 cs_X9_161 im_X9_isGood (by decide) rfl rfl (by decide) (by decide) (by decide) rfl rfl (Nat.le_of_ble_eq_true rfl) (fun _ _ _ q => q.elim) (fun v n2 h2 q => ?_)
  obtain ⟨rfl, rfl, hh⟩ := q
  obtain rfl := hh.symm
  refine ⟨rfl, ?_⟩
  dsimp only [Option.toList, List.cons_append, List.nil_append]
  refine r_if_eq (tgt := 118) dX9_law_81 (by decide) ⟨by omega, by omega⟩ (fun g81 => ?_) (fun g81 => absurd g81 (by omega))
  exact kk

theorem lw_goes {Q : Option Value → Nat → aH → Prop} {h : aH} {x : Int} {gg : Nat → Int} {ww : Int} {NC OP SG BS : Nat → Int} {t : Nat → Int} {le : Nat} {g : Nat → Int} {e tp o : Nat} {r : GnR} (hs : mSem yX9_goesOn cX9_goesOn 4 (some .boolean) 5 0 0 [.ref 68] 97 (WT h gg ww NC OP SG BS) (GnQ t le r (WT h gg ww NC OP SG BS) gg NC OP SG BS tp o) noX) (I : LwI t le g e tp o gg ww) (ho : 1 ≤ o ∧ o ≤ 12) (kf : ∀ (f : Int) (p : Nat), r = .inl (f, p) → ∀ (g2 : Nat → Int) (w2 : Int) (N2 O2 S2 B2 : Nat → Int) (z : Int), (1 ≤ f ∧ f ≤ 4) → g2 9 = f → g2 10 = (p : Int) → LwFr g g2 → LwE Q h x g2 w2 N2 O2 S2 B2 z 118) (km : ∀ e2, r = .inr (.inl e2) → ∀ (g2 : Nat → Int) (w2 : Int), LwI t le g e2 tp o g2 w2 → LwE Q h x g2 w2 NC OP (va_up SG (o - 1) (SG (o - 1) + 1)) BS 0 77) (kd : ∀ n N2 e2, r = .inr (.inr (n, N2, e2)) → ∀ (g2 : Nat → Int) (w2 : Int) (S2 : Nat → Int), LwI t le g e2 (tp + n) (o - 1) g2 w2 → (∀ j, j < o - 1 → S2 j = SG j) → LwE Q h x g2 w2 N2 OP S2 BS 1 77) : LwE Q h x gg ww NC OP SG BS 1 77 := by
  obtain ⟨rs, n9, n10, n51, n52, fr⟩ := I
  refine r_aload_n dX9_law_77 rfl rfl ?_
  refine r_callV 68 [] (s_X9_good1 (g := gg) (by rfl) n9) dX9_law_78 cs_X9_161 im_X9_isGood (by decide) rfl rfl (by decide) (by decide) (by decide) rfl rfl (Nat.le_of_ble_eq_true rfl) (fun _ _ _ q => q.elim) (fun v n2 h2 q => ?_)
  obtain ⟨rfl, rfl, hh⟩ := q
  obtain rfl := hh.symm
  refine ⟨rfl, ?_⟩
  dsimp only [Option.toList, List.cons_append, List.nil_append]
  refine r_if_eq (tgt := 118) dX9_law_81 (by decide) ⟨by omega, by omega⟩ (fun g81 => absurd g81 (by omega)) (fun g81 => ?_)
  refine r_aload_n dX9_law_84 rfl rfl ?_
  refine r_getR (z := (gg 52)) dX9_law_85 fl_X9_326 (by decide) rfl rfl ?_
  refine r_if_gt (tgt := 95) dX9_law_88 (by decide) ⟨by omega, by omega⟩ (fun g88 => ?_) (fun g88 => absurd g88 (by omega))
  refine r_iload_n dX9_law_95 rfl rfl ?_
  refine r_if_eq (tgt := 106) dX9_law_96 (by decide) ⟨by omega, by omega⟩ (fun g96 => absurd g96 (by omega)) (fun g96 => ?_)
  refine r_aload_n dX9_law_99 rfl rfl ?_
  refine r_callV 68 [] hs dX9_law_100 cs_X9_348 im_X9_goesOn (by decide) rfl rfl (by decide) (by decide) (by decide) rfl rfl (Nat.le_of_ble_eq_true rfl) (fun _ _ _ q => q.elim) (fun v n2 h2 q => ?_)
  obtain ⟨rfl, g2, w2, N2, S2, rfl, hq, fr2⟩ := q
  rw [wt_wt]
  have fr3 : LwFr g g2 := fun k a b c => (fr2 k a b c).trans (fr k a b c)
  rcases hq with ⟨f, p, hr, hf, m9, m10, z, rfl, hz⟩ | ⟨e2, hr, rfl, rs2, m9, m10, m51, m52, rfl, rfl⟩ | ⟨n, N3, e2, hr, rfl, rs2, m9, m10, m51, m52, rfl, hS⟩
  · skip
    refine ⟨rfl, ?_⟩
    dsimp only [Option.toList, List.cons_append, List.nil_append]
    refine r_goto (tgt := 114) dX9_law_103 (by decide) ?_
    refine r_istore_n (lv2 := [(0, _), (1, _), (2, _)]) dX9_law_114 rfl (by decide) rfl rfl ?_
    refine r_goto (tgt := 77) dX9_law_115 (by decide) ?_
    exact lw_bad (by omega) (kf f p hr g2 w2 N2 _ S2 _ z hf m9 m10 fr3)
  · skip
    refine ⟨rfl, ?_⟩
    dsimp only [Option.toList, List.cons_append, List.nil_append]
    refine r_goto (tgt := 114) dX9_law_103 (by decide) ?_
    refine r_istore_n (lv2 := [(0, _), (1, _), (2, _)]) dX9_law_114 rfl (by decide) rfl rfl ?_
    refine r_goto (tgt := 77) dX9_law_115 (by decide) ?_
    exact km e2 hr g2 w2 ⟨rs2, m9, m10.trans n10, m51, m52, fr3⟩
  · skip
    refine ⟨rfl, ?_⟩
    dsimp only [Option.toList, List.cons_append, List.nil_append]
    refine r_goto (tgt := 114) dX9_law_103 (by decide) ?_
    refine r_istore_n (lv2 := [(0, _), (1, _), (2, _)]) dX9_law_114 rfl (by decide) rfl rfl ?_
    refine r_goto (tgt := 77) dX9_law_115 (by decide) ?_
    exact kd n N2 e2 hr g2 w2 S2 ⟨rs2, m9, m10.trans n10, by omega, by omega, fr3⟩ hS

theorem lw_begs {Q : Option Value → Nat → aH → Prop} {h : aH} {x : Int} {gg : Nat → Int} {ww : Int} {NC OP SG BS : Nat → Int} {trr : Nat → Int} (c72 : h 72 = .inl (0, 700, trr)) {t : Nat → Int} (ht : ∀ j, -128 ≤ t j ∧ t j ≤ 127) {le : Nat} (hle : le ≤ 700) (htt : ∀ j, j < le → trr j = t j % 256) {g : Nat → Int} {nd : Int} (e1 : g 1 = nd) (hnd : 0 ≤ nd ∧ nd ≤ 9) {e tp o : Nat} {b : Bool} {r : BgR} (hr0 : bgR t le nd o b e = r) (I : LwI t le g e tp o gg ww) (ho : 1 ≤ o ∧ o ≤ 12) (htp : tp ≤ 1000) (bO : 0 ≤ OP (o - 1) ∧ OP (o - 1) ≤ 30) (bS : 0 ≤ SG (o - 1) ∧ SG (o - 1) ≤ 1000) (hw : decide (OP (o - 1) = 19 ∨ (OP (o - 1) = 15 ∧ SG (o - 1) = 0)) = !b) (kf : ∀ (f : Int) (p : Nat), r = .inl (f, p) → ∀ (g2 : Nat → Int) (w2 : Int) (N2 O2 S2 B2 : Nat → Int) (z : Int), (1 ≤ f ∧ f ≤ 4) → g2 9 = f → g2 10 = (p : Int) → LwFr g g2 → LwE Q h x g2 w2 N2 O2 S2 B2 z 118) (kl : ∀ a c e2, r = .inr (.inl (a, c, e2)) → (a = 2 → 0 ≤ c ∧ c < ((2 ^ nd.toNat : Nat) : Int)) → ∀ (g2 : Nat → Int) (w2 : Int), LwI t le g e2 (tp + 2) o g2 w2 → LwE Q h x g2 w2 (va_up (va_up NC tp a) (tp + 1) c) OP SG BS 1 77) (ko : ∀ a c e2, r = .inr (.inr (a, c, e2)) → ∀ (g2 : Nat → Int) (w2 : Int), LwI t le g e2 tp (o + 1) g2 w2 → LwE Q h x g2 w2 NC (va_up OP o a) (va_up SG o 0) (va_up BS o c) 0 77) : LwE Q h x gg ww NC OP SG BS 0 77 := by
  obtain ⟨rs, n9, n10, n51, n52, fr⟩ := I
  subst hr0
  cases b with
  | true =>
    refine r_aload_n dX9_law_77 rfl rfl ?_
    refine r_callV 68 [] (s_X9_good1 (g := gg) (by rfl) n9) dX9_law_78 cs_X9_161 im_X9_isGood (by decide) rfl rfl (by decide) (by decide) (by decide) rfl rfl (Nat.le_of_ble_eq_true rfl) (fun _ _ _ q => q.elim) (fun v n2 h2 q => ?_)
    obtain ⟨rfl, rfl, hh⟩ := q
    obtain rfl := hh.symm
    refine ⟨rfl, ?_⟩
    dsimp only [Option.toList, List.cons_append, List.nil_append]
    refine r_if_eq (tgt := 118) dX9_law_81 (by decide) ⟨by omega, by omega⟩ (fun g81 => absurd g81 (by omega)) (fun g81 => ?_)
    refine r_aload_n dX9_law_84 rfl rfl ?_
    refine r_getR (z := (gg 52)) dX9_law_85 fl_X9_326 (by decide) rfl rfl ?_
    refine r_if_gt (tgt := 95) dX9_law_88 (by decide) ⟨by omega, by omega⟩ (fun g88 => ?_) (fun g88 => absurd g88 (by omega))
    refine r_iload_n dX9_law_95 rfl rfl ?_
    refine r_if_eq (tgt := 106) dX9_law_96 (by decide) ⟨by omega, by omega⟩ (fun g96 => ?_) (fun g96 => absurd g96 (by omega))
    refine r_aload_n dX9_law_106 rfl rfl ?_
    refine r_aload_n dX9_law_107 rfl rfl ?_
    refine r_callV 68 [] (s_X9_wantsTest (g := gg) (by rfl) (by rfl) (by rfl) (by rfl) n52 (by omega) bO bS) dX9_law_108 cs_X9_351 im_X9_wantsTest (by decide) rfl rfl (by decide) (by decide) (by decide) rfl rfl (Nat.le_of_ble_eq_true rfl) (fun _ _ _ q => q.elim) (fun v n2 h2 q => ?_)
    obtain ⟨rfl, rfl, hh⟩ := q
    obtain rfl := hh.symm
    refine ⟨rfl, ?_⟩
    dsimp only [Option.toList, List.cons_append, List.nil_append]
    rw [hw, show b2i (!true) = 0 from rfl]
    refine r_callV 68 [_] (s_X9_beginsT (g := gg) (by rfl) (by exact c72) (by rfl) (by rfl) (by rfl) (by rfl) ht hle htt rs n9 ((fr 1 (by decide) (by decide) (by decide)).trans e1) hnd n51 (by omega) n52 (by omega)) dX9_law_111 cs_X9_344 im_X9_begins (by decide) rfl rfl (by decide) (by decide) (by decide) rfl rfl (Nat.le_of_ble_eq_true rfl) (fun _ _ _ q => q.elim) (fun v n2 h2 q => ?_)
    obtain ⟨rfl, g2, w2, N2, O2, S2, B2, rfl, hq, fr2⟩ := q
    rw [wt_wt]
    have fr3 : LwFr g g2 := fun k a b c => (fr2 k a b c).trans (fr k a b c)
    rcases hq with ⟨f, p, hr, hf, m9, m10, z, rfl, hz⟩ | ⟨a, c, e2, hr, rfl, rs2, m9, m10, m51, m52, rfl, rfl, rfl, rfl, ha2⟩ | ⟨a, c, e2, hr, rfl, rs2, m9, m10, m51, m52, rfl, rfl, rfl, rfl⟩
    · skip
      refine ⟨rfl, ?_⟩
      dsimp only [Option.toList, List.cons_append, List.nil_append]
      refine r_istore_n (lv2 := [(0, _), (1, _), (2, _)]) dX9_law_114 rfl (by decide) rfl rfl ?_
      refine r_goto (tgt := 77) dX9_law_115 (by decide) ?_
      exact lw_bad (by omega) (kf f p hr g2 w2 N2 O2 S2 B2 z hf m9 m10 fr3)
    · skip
      refine ⟨rfl, ?_⟩
      dsimp only [Option.toList, List.cons_append, List.nil_append]
      refine r_istore_n (lv2 := [(0, _), (1, _), (2, _)]) dX9_law_114 rfl (by decide) rfl rfl ?_
      refine r_goto (tgt := 77) dX9_law_115 (by decide) ?_
      exact kl a c e2 hr ha2 g2 w2 ⟨rs2, m9, m10.trans n10, m51, m52, fr3⟩
    · skip
      refine ⟨rfl, ?_⟩
      dsimp only [Option.toList, List.cons_append, List.nil_append]
      refine r_istore_n (lv2 := [(0, _), (1, _), (2, _)]) dX9_law_114 rfl (by decide) rfl rfl ?_
      refine r_goto (tgt := 77) dX9_law_115 (by decide) ?_
      exact ko a c e2 hr g2 w2 ⟨rs2, m9, m10.trans n10, m51, m52, fr3⟩
  | false =>
    refine r_aload_n dX9_law_77 rfl rfl ?_
    refine r_callV 68 [] (s_X9_good1 (g := gg) (by rfl) n9) dX9_law_78 cs_X9_161 im_X9_isGood (by decide) rfl rfl (by decide) (by decide) (by decide) rfl rfl (Nat.le_of_ble_eq_true rfl) (fun _ _ _ q => q.elim) (fun v n2 h2 q => ?_)
    obtain ⟨rfl, rfl, hh⟩ := q
    obtain rfl := hh.symm
    refine ⟨rfl, ?_⟩
    dsimp only [Option.toList, List.cons_append, List.nil_append]
    refine r_if_eq (tgt := 118) dX9_law_81 (by decide) ⟨by omega, by omega⟩ (fun g81 => absurd g81 (by omega)) (fun g81 => ?_)
    refine r_aload_n dX9_law_84 rfl rfl ?_
    refine r_getR (z := (gg 52)) dX9_law_85 fl_X9_326 (by decide) rfl rfl ?_
    refine r_if_gt (tgt := 95) dX9_law_88 (by decide) ⟨by omega, by omega⟩ (fun g88 => ?_) (fun g88 => absurd g88 (by omega))
    refine r_iload_n dX9_law_95 rfl rfl ?_
    refine r_if_eq (tgt := 106) dX9_law_96 (by decide) ⟨by omega, by omega⟩ (fun g96 => ?_) (fun g96 => absurd g96 (by omega))
    refine r_aload_n dX9_law_106 rfl rfl ?_
    refine r_aload_n dX9_law_107 rfl rfl ?_
    refine r_callV 68 [] (s_X9_wantsTest (g := gg) (by rfl) (by rfl) (by rfl) (by rfl) n52 (by omega) bO bS) dX9_law_108 cs_X9_351 im_X9_wantsTest (by decide) rfl rfl (by decide) (by decide) (by decide) rfl rfl (Nat.le_of_ble_eq_true rfl) (fun _ _ _ q => q.elim) (fun v n2 h2 q => ?_)
    obtain ⟨rfl, rfl, hh⟩ := q
    obtain rfl := hh.symm
    refine ⟨rfl, ?_⟩
    dsimp only [Option.toList, List.cons_append, List.nil_append]
    rw [hw, show b2i (!false) = 1 from rfl]
    refine r_callV 68 [_] (s_X9_beginsE (g := gg) (by rfl) (by exact c72) (by rfl) (by rfl) (by rfl) (by rfl) ht hle htt rs n9 ((fr 1 (by decide) (by decide) (by decide)).trans e1) hnd n51 (by omega) n52 (by omega)) dX9_law_111 cs_X9_344 im_X9_begins (by decide) rfl rfl (by decide) (by decide) (by decide) rfl rfl (Nat.le_of_ble_eq_true rfl) (fun _ _ _ q => q.elim) (fun v n2 h2 q => ?_)
    obtain ⟨rfl, g2, w2, N2, O2, S2, B2, rfl, hq, fr2⟩ := q
    rw [wt_wt]
    have fr3 : LwFr g g2 := fun k a b c => (fr2 k a b c).trans (fr k a b c)
    rcases hq with ⟨f, p, hr, hf, m9, m10, z, rfl, hz⟩ | ⟨a, c, e2, hr, rfl, rs2, m9, m10, m51, m52, rfl, rfl, rfl, rfl, ha2⟩ | ⟨a, c, e2, hr, rfl, rs2, m9, m10, m51, m52, rfl, rfl, rfl, rfl⟩
    · skip
      refine ⟨rfl, ?_⟩
      dsimp only [Option.toList, List.cons_append, List.nil_append]
      refine r_istore_n (lv2 := [(0, _), (1, _), (2, _)]) dX9_law_114 rfl (by decide) rfl rfl ?_
      refine r_goto (tgt := 77) dX9_law_115 (by decide) ?_
      exact lw_bad (by omega) (kf f p hr g2 w2 N2 O2 S2 B2 z hf m9 m10 fr3)
    · skip
      refine ⟨rfl, ?_⟩
      dsimp only [Option.toList, List.cons_append, List.nil_append]
      refine r_istore_n (lv2 := [(0, _), (1, _), (2, _)]) dX9_law_114 rfl (by decide) rfl rfl ?_
      refine r_goto (tgt := 77) dX9_law_115 (by decide) ?_
      exact kl a c e2 hr ha2 g2 w2 ⟨rs2, m9, m10.trans n10, m51, m52, fr3⟩
    · skip
      refine ⟨rfl, ?_⟩
      dsimp only [Option.toList, List.cons_append, List.nil_append]
      refine r_istore_n (lv2 := [(0, _), (1, _), (2, _)]) dX9_law_114 rfl (by decide) rfl rfl ?_
      refine r_goto (tgt := 77) dX9_law_115 (by decide) ?_
      exact ko a c e2 hr g2 w2 ⟨rs2, m9, m10.trans n10, m51, m52, fr3⟩

theorem lw_beg0 {Q : Option Value → Nat → aH → Prop} {h : aH} {x : Int} {gg : Nat → Int} {ww : Int} {NC OP SG BS : Nat → Int} {trr : Nat → Int} (c72 : h 72 = .inl (0, 700, trr)) {t : Nat → Int} (ht : ∀ j, -128 ≤ t j ∧ t j ≤ 127) {le : Nat} (hle : le ≤ 700) (htt : ∀ j, j < le → trr j = t j % 256) {g : Nat → Int} {nd : Int} (e1 : g 1 = nd) (hnd : 0 ≤ nd ∧ nd ≤ 9) {e tp o : Nat} {r : BgR} (hr0 : bgR t le nd o true e = r) (I : LwI t le g e tp o gg ww) (ho : o ≤ 12) (htp : tp ≤ 1000) (kf : ∀ (f : Int) (p : Nat), r = .inl (f, p) → ∀ (g2 : Nat → Int) (w2 : Int) (N2 O2 S2 B2 : Nat → Int) (z : Int), (1 ≤ f ∧ f ≤ 4) → g2 9 = f → g2 10 = (p : Int) → LwFr g g2 → LwE Q h x g2 w2 N2 O2 S2 B2 z 118) (kl : ∀ a c e2, r = .inr (.inl (a, c, e2)) → (a = 2 → 0 ≤ c ∧ c < ((2 ^ nd.toNat : Nat) : Int)) → ∀ (g2 : Nat → Int) (w2 : Int), LwI t le g e2 (tp + 2) o g2 w2 → LwE Q h x g2 w2 (va_up (va_up NC tp a) (tp + 1) c) OP SG BS 1 77) (ko : ∀ a c e2, r = .inr (.inr (a, c, e2)) → ∀ (g2 : Nat → Int) (w2 : Int), LwI t le g e2 tp (o + 1) g2 w2 → LwE Q h x g2 w2 NC (va_up OP o a) (va_up SG o 0) (va_up BS o c) 0 77) : Ev RX9 "law" cX9_law 3 (some .int) 6 0 0 Q noX 97 (WT h gg ww NC OP SG BS) 71 [(0, .ref 68), (1, iv x)] [] := by
  obtain ⟨rs, n9, n10, n51, n52, fr⟩ := I
  subst hr0
  refine r_aload_n dX9_law_71 rfl rfl ?_
  refine r_iconst dX9_law_72 ?_
  refine r_callV 68 [_] (s_X9_beginsT (g := gg) (by rfl) (by exact c72) (by rfl) (by rfl) (by rfl) (by rfl) ht hle htt rs n9 ((fr 1 (by decide) (by decide) (by decide)).trans e1) hnd n51 (by omega) n52 (by omega)) dX9_law_73 cs_X9_344 im_X9_begins (by decide) rfl rfl (by decide) (by decide) (by decide) rfl rfl (Nat.le_of_ble_eq_true rfl) (fun _ _ _ q => q.elim) (fun v n2 h2 q => ?_)
  obtain ⟨rfl, g2, w2, N2, O2, S2, B2, rfl, hq, fr2⟩ := q
  rw [wt_wt]
  have fr3 : LwFr g g2 := fun k a b c => (fr2 k a b c).trans (fr k a b c)
  rcases hq with ⟨f, p, hr, hf, m9, m10, z, rfl, hz⟩ | ⟨a, c, e2, hr, rfl, rs2, m9, m10, m51, m52, rfl, rfl, rfl, rfl, ha2⟩ | ⟨a, c, e2, hr, rfl, rs2, m9, m10, m51, m52, rfl, rfl, rfl, rfl⟩
  · skip
    refine ⟨rfl, ?_⟩
    dsimp only [Option.toList, List.cons_append, List.nil_append]
    refine r_istore_n (lv2 := [(0, _), (1, _), (2, _)]) dX9_law_76 rfl (by decide) rfl rfl ?_
    exact lw_bad (by omega) (kf f p hr g2 w2 N2 O2 S2 B2 z hf m9 m10 fr3)
  · skip
    refine ⟨rfl, ?_⟩
    dsimp only [Option.toList, List.cons_append, List.nil_append]
    refine r_istore_n (lv2 := [(0, _), (1, _), (2, _)]) dX9_law_76 rfl (by decide) rfl rfl ?_
    exact kl a c e2 hr ha2 g2 w2 ⟨rs2, m9, m10.trans n10, m51, m52, fr3⟩
  · skip
    refine ⟨rfl, ?_⟩
    dsimp only [Option.toList, List.cons_append, List.nil_append]
    refine r_istore_n (lv2 := [(0, _), (1, _), (2, _)]) dX9_law_76 rfl (by decide) rfl rfl ?_
    exact ko a c e2 hr g2 w2 ⟨rs2, m9, m10.trans n10, m51, m52, fr3⟩

