theorem lw_o14 {Q : Option Value → Nat → aH → Prop} {h : aH} {x : Int} {trr : Nat → Int} (c72 : h 72 = .inl (0, 700, trr)) {t : Nat → Int} (ht : ∀ j, -128 ≤ t j ∧ t j ≤ 127) {le : Nat} (hle : le ≤ 700) (htt : ∀ j, j < le → trr j = t j % 256) {g : Nat → Int} {nd : Int} (e1 : g 1 = nd) (hnd : 0 ≤ nd ∧ nd ≤ 9) {k : Nat} (ib : IBp Q h t le nd g x k) {c : Int} (hc : -720 ≤ c ∧ c ≤ 720) {e0 e tp o : Nat} {gg : Nat → Int} {ww : Int} {NC OP SG BS OP1 SG1 BS1 : Nat → Int} (hok : o + 1 + k = 12) (he : e0 + 2 ≤ e) (I : LwI t le g e tp (o + 1) gg ww) (hsz : tp + 2 * (o + 1) ≤ e) (hO : OP o = 14) (hS : SG o = 0) (hB : BS o = c) (agr : ∀ j, j < o → OP j = OP1 j ∧ SG j = SG1 j ∧ BS j = BS1 j) (gk : GKp Q h t le nd g x (unR (fun z => laI z c) (pT t le nd k true e)) true tp e0 o NC OP1 SG1 BS1) (fk : FKp Q h g x (unR (fun z => laI z c) (pT t le nd k true e))) : LwE Q h x gg ww NC OP SG BS 0 77 := by
  have hle1 := I.1.1
  refine ib true e gg ww NC OP SG BS tp (o + 1) (by omega) (by omega) I (by omega) (by rw [Nat.add_sub_cancel, hO]; decide) (by rw [Nat.add_sub_cancel, hS]; decide) (by rw [Nat.add_sub_cancel, hO]; simp) ?_ ?_
  · intro g2 w2 N2 O2 S2 B2 s e2 tp2 hr I2 h1 h2 hN hA hC
    have hle2 := I2.1.1
    obtain ⟨a1, a2, a3⟩ := hA o (by omega)
    refine lw_goes (s_X9_goes14 (g := g2) (w := w2) (nd := nd) rfl (by exact c72) rfl rfl rfl rfl ht hle htt I2.1 I2.2.1 ((I2.2.2.2.2.2 1 (by decide) (by decide) (by decide)).trans e1) hnd I2.2.2.2.1 (by omega) I2.2.2.2.2.1 (by omega) (by rw [Nat.add_sub_cancel, a1, hO]) ) I2 (by omega) (fun f p q => absurd q (by simp)) (fun e3 q => absurd q (by simp)) (fun n N3 e3 q g3 w3 S3 I3 hS3 => ?_)
    simp only [Sum.inr.injEq, Prod.mk.injEq] at q
    obtain ⟨rfl, rfl, rfl⟩ := q
    refine gk g3 w3 _ O2 S3 B2 (fun tf mo => laI (s tf mo) c) e2 (tp2 + 2) (by unfold unR; rw [hr]) I3 (by omega) (by omega) (fun j hj => ?_) (fun j hj => ?_) ?_
    · rw [va_up_ne _ _ (by omega), va_up_ne _ _ (by omega)]
      exact hN j hj
    · obtain ⟨b1, b2, b3⟩ := hA j (by omega)
      obtain ⟨d1, d2, d3⟩ := agr j hj
      exact ⟨b1.trans d1, (hS3 j (by omega)).trans (b2.trans d2), b3.trans d3⟩
    · exact csg_late (csg_kp hC (fun j _ hj => by rw [va_up_ne _ _ (by omega), va_up_ne _ _ (by omega)])) (by rw [va_up_ne _ _ (by omega), va_up_self]) (by rw [va_up_self, Nat.add_sub_cancel, a3, hB]) hc
  · intro g9 w9 N9 O9 S9 B9 z9 f9 p9 hr9 hf9 m9 m10 fr9
    exact fk g9 w9 N9 O9 S9 B9 z9 f9 p9 (by unfold unR; rw [hr9]) hf9 m9 m10 fr9

theorem lw_o19 {Q : Option Value → Nat → aH → Prop} {h : aH} {x : Int} {trr : Nat → Int} (c72 : h 72 = .inl (0, 700, trr)) {t : Nat → Int} (ht : ∀ j, -128 ≤ t j ∧ t j ≤ 127) {le : Nat} (hle : le ≤ 700) (htt : ∀ j, j < le → trr j = t j % 256) {g : Nat → Int} {nd : Int} (e1 : g 1 = nd) (hnd : 0 ≤ nd ∧ nd ≤ 9) {k : Nat} (ib : IBp Q h t le nd g x k) {c : Int} {e0 e tp o : Nat} {gg : Nat → Int} {ww : Int} {NC OP SG BS OP1 SG1 BS1 : Nat → Int} (hok : o + 1 + k = 12) (he : e0 + 2 ≤ e) (I : LwI t le g e tp (o + 1) gg ww) (hsz : tp + 2 * (o + 1) ≤ e) (hO : OP o = 19) (hS : SG o = 0) (hB : BS o = c) (agr : ∀ j, j < o → OP j = OP1 j ∧ SG j = SG1 j ∧ BS j = BS1 j) (gk : GKp Q h t le nd g x (unR ntI (pT t le nd k false e)) false tp e0 o NC OP1 SG1 BS1) (fk : FKp Q h g x (unR ntI (pT t le nd k false e))) : LwE Q h x gg ww NC OP SG BS 0 77 := by
  have hle1 := I.1.1
  refine ib false e gg ww NC OP SG BS tp (o + 1) (by omega) (by omega) I (by omega) (by rw [Nat.add_sub_cancel, hO]; decide) (by rw [Nat.add_sub_cancel, hS]; decide) (by rw [Nat.add_sub_cancel, hO]; simp) ?_ ?_
  · intro g2 w2 N2 O2 S2 B2 s e2 tp2 hr I2 h1 h2 hN hA hC
    have hle2 := I2.1.1
    obtain ⟨a1, a2, a3⟩ := hA o (by omega)
    refine lw_goes (s_X9_goes19 (g := g2) (w := w2) (nd := nd) rfl (by exact c72) rfl rfl rfl rfl ht hle htt I2.1 I2.2.1 ((I2.2.2.2.2.2 1 (by decide) (by decide) (by decide)).trans e1) hnd I2.2.2.2.1 (by omega) I2.2.2.2.2.1 (by omega) (by rw [Nat.add_sub_cancel, a1, hO]) ) I2 (by omega) (fun f p q => absurd q (by simp)) (fun e3 q => absurd q (by simp)) (fun n N3 e3 q g3 w3 S3 I3 hS3 => ?_)
    simp only [Sum.inr.injEq, Prod.mk.injEq] at q
    obtain ⟨rfl, rfl, rfl⟩ := q
    refine gk g3 w3 _ O2 S3 B2 (fun tf mo => ntI (s tf mo)) e2 (tp2 + 1) (by unfold unR; rw [hr]) I3 (by omega) (by omega) (fun j hj => ?_) (fun j hj => ?_) ?_
    · rw [va_up_ne _ _ (by omega)]
      exact hN j hj
    · obtain ⟨b1, b2, b3⟩ := hA j (by omega)
      obtain ⟨d1, d2, d3⟩ := agr j hj
      exact ⟨b1.trans d1, (hS3 j (by omega)).trans (b2.trans d2), b3.trans d3⟩
    · exact csg_not (csg_kp hC (fun j _ hj => by rw [va_up_ne _ _ (by omega)])) (va_up_self _ _ _)
  · intro g9 w9 N9 O9 S9 B9 z9 f9 p9 hr9 hf9 m9 m10 fr9
    exact fk g9 w9 N9 O9 S9 B9 z9 f9 p9 (by unfold unR; rw [hr9]) hf9 m9 m10 fr9

theorem lw_o20 {Q : Option Value → Nat → aH → Prop} {h : aH} {x : Int} {trr : Nat → Int} (c72 : h 72 = .inl (0, 700, trr)) {t : Nat → Int} (ht : ∀ j, -128 ≤ t j ∧ t j ≤ 127) {le : Nat} (hle : le ≤ 700) (htt : ∀ j, j < le → trr j = t j % 256) {g : Nat → Int} {nd : Int} (e1 : g 1 = nd) (hnd : 0 ≤ nd ∧ nd ≤ 9) {k : Nat} (ib : IBp Q h t le nd g x k) {c : Int} {e0 e tp o : Nat} {gg : Nat → Int} {ww : Int} {NC OP SG BS OP1 SG1 BS1 : Nat → Int} (hok : o + 1 + k = 12) (he : e0 + 2 ≤ e) (I : LwI t le g e tp (o + 1) gg ww) (hsz : tp + 2 * (o + 1) ≤ e) (hO : OP o = 20) (hS : SG o = 0) (hB : BS o = c) (agr : ∀ j, j < o → OP j = OP1 j ∧ SG j = SG1 j ∧ BS j = BS1 j) (gk : GKp Q h t le nd g x (unR dkI (pT t le nd k true e)) false tp e0 o NC OP1 SG1 BS1) (fk : FKp Q h g x (unR dkI (pT t le nd k true e))) : LwE Q h x gg ww NC OP SG BS 0 77 := by
  have hle1 := I.1.1
  refine ib true e gg ww NC OP SG BS tp (o + 1) (by omega) (by omega) I (by omega) (by rw [Nat.add_sub_cancel, hO]; decide) (by rw [Nat.add_sub_cancel, hS]; decide) (by rw [Nat.add_sub_cancel, hO]; simp) ?_ ?_
  · intro g2 w2 N2 O2 S2 B2 s e2 tp2 hr I2 h1 h2 hN hA hC
    have hle2 := I2.1.1
    obtain ⟨a1, a2, a3⟩ := hA o (by omega)
    refine lw_goes (s_X9_goes20 (g := g2) (w := w2) (nd := nd) rfl (by exact c72) rfl rfl rfl rfl ht hle htt I2.1 I2.2.1 ((I2.2.2.2.2.2 1 (by decide) (by decide) (by decide)).trans e1) hnd I2.2.2.2.1 (by omega) I2.2.2.2.2.1 (by omega) (by rw [Nat.add_sub_cancel, a1, hO]) ) I2 (by omega) (fun f p q => absurd q (by simp)) (fun e3 q => absurd q (by simp)) (fun n N3 e3 q g3 w3 S3 I3 hS3 => ?_)
    simp only [Sum.inr.injEq, Prod.mk.injEq] at q
    obtain ⟨rfl, rfl, rfl⟩ := q
    refine gk g3 w3 _ O2 S3 B2 (fun tf mo => dkI (s tf mo)) e2 (tp2 + 1) (by unfold unR; rw [hr]) I3 (by omega) (by omega) (fun j hj => ?_) (fun j hj => ?_) ?_
    · rw [va_up_ne _ _ (by omega)]
      exact hN j hj
    · obtain ⟨b1, b2, b3⟩ := hA j (by omega)
      obtain ⟨d1, d2, d3⟩ := agr j hj
      exact ⟨b1.trans d1, (hS3 j (by omega)).trans (b2.trans d2), b3.trans d3⟩
    · exact csg_dark (csg_kp hC (fun j _ hj => by rw [va_up_ne _ _ (by omega)])) (va_up_self _ _ _)
  · intro g9 w9 N9 O9 S9 B9 z9 f9 p9 hr9 hf9 m9 m10 fr9
    exact fk g9 w9 N9 O9 S9 B9 z9 f9 p9 (by unfold unR; rw [hr9]) hf9 m9 m10 fr9

theorem lw_o13 {Q : Option Value → Nat → aH → Prop} {h : aH} {x : Int} {trr : Nat → Int} (c72 : h 72 = .inl (0, 700, trr)) {t : Nat → Int} (ht : ∀ j, -128 ≤ t j ∧ t j ≤ 127) {le : Nat} (hle : le ≤ 700) (htt : ∀ j, j < le → trr j = t j % 256) {g : Nat → Int} {nd : Int} (e1 : g 1 = nd) (hnd : 0 ≤ nd ∧ nd ≤ 9) {k : Nat} (ib : IBp Q h t le nd g x k) {c : Int} {e0 e tp o : Nat} {gg : Nat → Int} {ww : Int} {NC OP SG BS OP1 SG1 BS1 : Nat → Int} (hok : o + 1 + k = 12) (he : e0 + 2 ≤ e) (I : LwI t le g e tp (o + 1) gg ww) (hsz : tp + 2 * (o + 1) ≤ e) (hO : OP o = 13) (hS : SG o = 0) (hB : BS o = c) (agr : ∀ j, j < o → OP j = OP1 j ∧ SG j = SG1 j ∧ BS j = BS1 j) (gk : GKp Q h t le nd g x (cpR t le meI (pT t le nd k true) e) true tp e0 o NC OP1 SG1 BS1) (fk : FKp Q h g x (cpR t le meI (pT t le nd k true) e)) : LwE Q h x gg ww NC OP SG BS 0 77 := by
  have hle1 := I.1.1
  refine ib true e gg ww NC OP SG BS tp (o + 1) (by omega) (by omega) I (by omega) (by rw [Nat.add_sub_cancel, hO]; decide) (by rw [Nat.add_sub_cancel, hS]; decide) (by rw [Nat.add_sub_cancel, hO]; simp) ?_ ?_
  · intro g2 w2 N2 O2 S2 B2 s e2 tp2 hr I2 h1 h2 hN hA hC
    have hle2 := I2.1.1
    have hB2 := tk_B t hle2
    obtain ⟨a1, a2, a3⟩ := hA o (by omega)
    refine lw_goes (s_X9_goes13_0 (g := g2) (w := w2) (nd := nd) rfl (by exact c72) rfl rfl rfl rfl ht hle htt I2.1 I2.2.1 ((I2.2.2.2.2.2 1 (by decide) (by decide) (by decide)).trans e1) hnd I2.2.2.2.1 (by omega) I2.2.2.2.2.1 (by omega) (by rw [Nat.add_sub_cancel, a1, hO]) (by rw [Nat.add_sub_cancel, a2, hS])) I2 (by omega) (fun f p q g3 w3 N3 O3 S3 B3 z hf m9 m10 fr3 => ?_) (fun e3 q g3 w3 I3 => ?_) (fun n N3 e3 q g3 w3 S3 I3 hS3 => ?_)
    · by_cases hs : signAt t le e2 44 = true
      · rw [if_pos hs] at q; exact absurd q (by simp)
      · rw [if_neg hs] at q
        exact fk g3 w3 N3 O3 S3 B3 z f p (by unfold cpR; rw [hr]; dsimp only; rw [if_neg hs]; exact congrArg Sum.inl (Sum.inl.inj q)) hf m9 m10 fr3
    · by_cases hs : signAt t le e2 44 = true
      · rw [if_pos hs] at q
        simp only [Sum.inr.injEq, Sum.inl.injEq] at q
        subst q
        rw [Nat.add_sub_cancel] at *
        refine ib true (tkE t le e2) g3 w3 N2 O2 (va_up S2 o (S2 o + 1)) B2 tp2 (o + 1) (by omega) (by omega) I3 (by omega) (by rw [Nat.add_sub_cancel, (a1.trans hO)]; decide) (by rw [Nat.add_sub_cancel, va_up_self, (a2.trans hS)]; decide) (by rw [Nat.add_sub_cancel, (a1.trans hO)]; simp) ?_ ?_
        · intro g4 w4 N4 O4 S4 B4 s2 e4 tp4 hr4 I4 h14 h24 hN4 hA4 hC4
          have hle4 := I4.1.1
          have hB4 := tk_B t hle4
          obtain ⟨c1, c2, c3⟩ := hA4 o (by omega)
          rw [va_up_self, a2, hS] at c2
          refine lw_goes (s_X9_goes13_1 (g := g4) (w := w4) (nd := nd) rfl (by exact c72) rfl rfl rfl rfl ht hle htt I4.1 I4.2.1 ((I4.2.2.2.2.2 1 (by decide) (by decide) (by decide)).trans e1) hnd I4.2.2.2.1 (by omega) I4.2.2.2.2.1 (by omega) (by rw [Nat.add_sub_cancel, c1, a1, hO]) (by rw [Nat.add_sub_cancel, c2]; rfl)) I4 (by omega) (fun f p q g5 w5 N5 O5 S5 B5 z hf m9 m10 fr5 => ?_) (fun e5 q g5 w5 I5 => ?_) (fun n N5 e5 q g5 w5 S5 I5 hS5 => ?_)
          · by_cases hs2 : signAt t le e4 41 = true
            · rw [if_pos hs2] at q; exact absurd q (by simp)
            · rw [if_neg hs2] at q
              exact fk g5 w5 N5 O5 S5 B5 z f p (by unfold cpR; rw [hr]; dsimp only; rw [if_pos hs, hr4]; dsimp only; unfold pCl; rw [if_neg hs2]; exact congrArg Sum.inl (Sum.inl.inj q)) hf m9 m10 fr5
          · by_cases hs2 : signAt t le e4 41 = true
            · rw [if_pos hs2] at q; exact absurd q (by simp)
            · rw [if_neg hs2] at q; exact absurd q (by simp)
          · by_cases hs2 : signAt t le e4 41 = true
            · rw [if_pos hs2] at q
              simp only [Sum.inr.injEq, Prod.mk.injEq] at q
              obtain ⟨rfl, rfl, rfl⟩ := q
              refine gk g5 w5 _ O4 S5 B4 (fun tf mo => meI (s tf mo) (s2 tf mo)) (tkE t le e4) (tp4 + 1) (by unfold cpR; rw [hr]; dsimp only; rw [if_pos hs, hr4]; dsimp only; unfold pCl; rw [if_pos hs2]) I5 (by omega) (by omega) (fun j hj => ?_) (fun j hj => ?_) ?_
              · rw [va_up_ne _ _ (by omega), hN4 j (by omega)]
                exact hN j hj
              · obtain ⟨b1, b2, b3⟩ := hA4 j (by omega)
                obtain ⟨d1, d2, d3⟩ := hA j (by omega)
                obtain ⟨f1, f2, f3⟩ := agr j hj
                rw [va_up_ne _ _ (by omega)] at b2
                exact ⟨b1.trans (d1.trans f1), (hS5 j (by omega)).trans (b2.trans (d2.trans f2)), b3.trans (d3.trans f3)⟩
              · exact csg_mean (csg_kp (csg_kp hC (fun j _ hj => hN4 j (by omega))) (fun j _ hj => by rw [va_up_ne _ _ (by omega)])) (csg_kp hC4 (fun j _ hj => by rw [va_up_ne _ _ (by omega)])) (va_up_self _ _ _)
            · rw [if_neg hs2] at q; exact absurd q (by simp)
        · intro g9 w9 N9 O9 S9 B9 z9 f9 p9 hr9 hf9 m9 m10 fr9
          exact fk g9 w9 N9 O9 S9 B9 z9 f9 p9 (by unfold cpR; rw [hr]; dsimp only; rw [if_pos hs, hr9]) hf9 m9 m10 fr9
      · rw [if_neg hs] at q; exact absurd q (by simp)
    · by_cases hs : signAt t le e2 44 = true
      · rw [if_pos hs] at q; exact absurd q (by simp)
      · rw [if_neg hs] at q; exact absurd q (by simp)
  · intro g9 w9 N9 O9 S9 B9 z9 f9 p9 hr9 hf9 m9 m10 fr9
    exact fk g9 w9 N9 O9 S9 B9 z9 f9 p9 (by unfold cpR; rw [hr9]) hf9 m9 m10 fr9

theorem lw_o22 {Q : Option Value → Nat → aH → Prop} {h : aH} {x : Int} {trr : Nat → Int} (c72 : h 72 = .inl (0, 700, trr)) {t : Nat → Int} (ht : ∀ j, -128 ≤ t j ∧ t j ≤ 127) {le : Nat} (hle : le ≤ 700) (htt : ∀ j, j < le → trr j = t j % 256) {g : Nat → Int} {nd : Int} (e1 : g 1 = nd) (hnd : 0 ≤ nd ∧ nd ≤ 9) {k : Nat} (ib : IBp Q h t le nd g x k) {c : Int} {e0 e tp o : Nat} {gg : Nat → Int} {ww : Int} {NC OP SG BS OP1 SG1 BS1 : Nat → Int} (hok : o + 1 + k = 12) (he : e0 + 2 ≤ e) (I : LwI t le g e tp (o + 1) gg ww) (hsz : tp + 2 * (o + 1) ≤ e) (hO : OP o = 22) (hS : SG o = 0) (hB : BS o = c) (agr : ∀ j, j < o → OP j = OP1 j ∧ SG j = SG1 j ∧ BS j = BS1 j) (gk : GKp Q h t le nd g x (cpR t le beI (pT t le nd k true) e) false tp e0 o NC OP1 SG1 BS1) (fk : FKp Q h g x (cpR t le beI (pT t le nd k true) e)) : LwE Q h x gg ww NC OP SG BS 0 77 := by
  have hle1 := I.1.1
  refine ib true e gg ww NC OP SG BS tp (o + 1) (by omega) (by omega) I (by omega) (by rw [Nat.add_sub_cancel, hO]; decide) (by rw [Nat.add_sub_cancel, hS]; decide) (by rw [Nat.add_sub_cancel, hO]; simp) ?_ ?_
  · intro g2 w2 N2 O2 S2 B2 s e2 tp2 hr I2 h1 h2 hN hA hC
    have hle2 := I2.1.1
    have hB2 := tk_B t hle2
    obtain ⟨a1, a2, a3⟩ := hA o (by omega)
    refine lw_goes (s_X9_goes22_0 (g := g2) (w := w2) (nd := nd) rfl (by exact c72) rfl rfl rfl rfl ht hle htt I2.1 I2.2.1 ((I2.2.2.2.2.2 1 (by decide) (by decide) (by decide)).trans e1) hnd I2.2.2.2.1 (by omega) I2.2.2.2.2.1 (by omega) (by rw [Nat.add_sub_cancel, a1, hO]) (by rw [Nat.add_sub_cancel, a2, hS])) I2 (by omega) (fun f p q g3 w3 N3 O3 S3 B3 z hf m9 m10 fr3 => ?_) (fun e3 q g3 w3 I3 => ?_) (fun n N3 e3 q g3 w3 S3 I3 hS3 => ?_)
    · by_cases hs : signAt t le e2 44 = true
      · rw [if_pos hs] at q; exact absurd q (by simp)
      · rw [if_neg hs] at q
        exact fk g3 w3 N3 O3 S3 B3 z f p (by unfold cpR; rw [hr]; dsimp only; rw [if_neg hs]; exact congrArg Sum.inl (Sum.inl.inj q)) hf m9 m10 fr3
    · by_cases hs : signAt t le e2 44 = true
      · rw [if_pos hs] at q
        simp only [Sum.inr.injEq, Sum.inl.injEq] at q
        subst q
        rw [Nat.add_sub_cancel] at *
        refine ib true (tkE t le e2) g3 w3 N2 O2 (va_up S2 o (S2 o + 1)) B2 tp2 (o + 1) (by omega) (by omega) I3 (by omega) (by rw [Nat.add_sub_cancel, (a1.trans hO)]; decide) (by rw [Nat.add_sub_cancel, va_up_self, (a2.trans hS)]; decide) (by rw [Nat.add_sub_cancel, (a1.trans hO)]; simp) ?_ ?_
        · intro g4 w4 N4 O4 S4 B4 s2 e4 tp4 hr4 I4 h14 h24 hN4 hA4 hC4
          have hle4 := I4.1.1
          have hB4 := tk_B t hle4
          obtain ⟨c1, c2, c3⟩ := hA4 o (by omega)
          rw [va_up_self, a2, hS] at c2
          refine lw_goes (s_X9_goes22_1 (g := g4) (w := w4) (nd := nd) rfl (by exact c72) rfl rfl rfl rfl ht hle htt I4.1 I4.2.1 ((I4.2.2.2.2.2 1 (by decide) (by decide) (by decide)).trans e1) hnd I4.2.2.2.1 (by omega) I4.2.2.2.2.1 (by omega) (by rw [Nat.add_sub_cancel, c1, a1, hO]) (by rw [Nat.add_sub_cancel, c2]; rfl)) I4 (by omega) (fun f p q g5 w5 N5 O5 S5 B5 z hf m9 m10 fr5 => ?_) (fun e5 q g5 w5 I5 => ?_) (fun n N5 e5 q g5 w5 S5 I5 hS5 => ?_)
          · by_cases hs2 : signAt t le e4 41 = true
            · rw [if_pos hs2] at q; exact absurd q (by simp)
            · rw [if_neg hs2] at q
              exact fk g5 w5 N5 O5 S5 B5 z f p (by unfold cpR; rw [hr]; dsimp only; rw [if_pos hs, hr4]; dsimp only; unfold pCl; rw [if_neg hs2]; exact congrArg Sum.inl (Sum.inl.inj q)) hf m9 m10 fr5
          · by_cases hs2 : signAt t le e4 41 = true
            · rw [if_pos hs2] at q; exact absurd q (by simp)
            · rw [if_neg hs2] at q; exact absurd q (by simp)
          · by_cases hs2 : signAt t le e4 41 = true
            · rw [if_pos hs2] at q
              simp only [Sum.inr.injEq, Prod.mk.injEq] at q
              obtain ⟨rfl, rfl, rfl⟩ := q
              refine gk g5 w5 _ O4 S5 B4 (fun tf mo => beI (s tf mo) (s2 tf mo)) (tkE t le e4) (tp4 + 1) (by unfold cpR; rw [hr]; dsimp only; rw [if_pos hs, hr4]; dsimp only; unfold pCl; rw [if_pos hs2]) I5 (by omega) (by omega) (fun j hj => ?_) (fun j hj => ?_) ?_
              · rw [va_up_ne _ _ (by omega), hN4 j (by omega)]
                exact hN j hj
              · obtain ⟨b1, b2, b3⟩ := hA4 j (by omega)
                obtain ⟨d1, d2, d3⟩ := hA j (by omega)
                obtain ⟨f1, f2, f3⟩ := agr j hj
                rw [va_up_ne _ _ (by omega)] at b2
                exact ⟨b1.trans (d1.trans f1), (hS5 j (by omega)).trans (b2.trans (d2.trans f2)), b3.trans (d3.trans f3)⟩
              · exact csg_bef (csg_kp (csg_kp hC (fun j _ hj => hN4 j (by omega))) (fun j _ hj => by rw [va_up_ne _ _ (by omega)])) (csg_kp hC4 (fun j _ hj => by rw [va_up_ne _ _ (by omega)])) (va_up_self _ _ _)
            · rw [if_neg hs2] at q; exact absurd q (by simp)
        · intro g9 w9 N9 O9 S9 B9 z9 f9 p9 hr9 hf9 m9 m10 fr9
          exact fk g9 w9 N9 O9 S9 B9 z9 f9 p9 (by unfold cpR; rw [hr]; dsimp only; rw [if_pos hs, hr9]) hf9 m9 m10 fr9
      · rw [if_neg hs] at q; exact absurd q (by simp)
    · by_cases hs : signAt t le e2 44 = true
      · rw [if_pos hs] at q; exact absurd q (by simp)
      · rw [if_neg hs] at q; exact absurd q (by simp)
  · intro g9 w9 N9 O9 S9 B9 z9 f9 p9 hr9 hf9 m9 m10 fr9
    exact fk g9 w9 N9 O9 S9 B9 z9 f9 p9 (by unfold cpR; rw [hr9]) hf9 m9 m10 fr9

theorem lw_o15 {Q : Option Value → Nat → aH → Prop} {h : aH} {x : Int} {trr : Nat → Int} (c72 : h 72 = .inl (0, 700, trr)) {t : Nat → Int} (ht : ∀ j, -128 ≤ t j ∧ t j ≤ 127) {le : Nat} (hle : le ≤ 700) (htt : ∀ j, j < le → trr j = t j % 256) {g : Nat → Int} {nd : Int} (e1 : g 1 = nd) (hnd : 0 ≤ nd ∧ nd ≤ 9) {k : Nat} (ib : IBp Q h t le nd g x k) {c : Int} {e0 e tp o : Nat} {gg : Nat → Int} {ww : Int} {NC OP SG BS OP1 SG1 BS1 : Nat → Int} (hok : o + 1 + k = 12) (he : e0 + 2 ≤ e) (I : LwI t le g e tp (o + 1) gg ww) (hsz : tp + 2 * (o + 1) ≤ e) (hO : OP o = 15) (hS : SG o = 0) (hB : BS o = c) (agr : ∀ j, j < o → OP j = OP1 j ∧ SG j = SG1 j ∧ BS j = BS1 j) (gk : GKp Q h t le nd g x (ifR t le (pT t le nd k true) (pT t le nd k false) e) true tp e0 o NC OP1 SG1 BS1) (fk : FKp Q h g x (ifR t le (pT t le nd k true) (pT t le nd k false) e)) : LwE Q h x gg ww NC OP SG BS 0 77 := by
  have hle1 := I.1.1
  refine ib false e gg ww NC OP SG BS tp (o + 1) (by omega) (by omega) I (by omega) (by rw [Nat.add_sub_cancel, hO]; decide) (by rw [Nat.add_sub_cancel, hS]; decide) (by rw [Nat.add_sub_cancel, hO, hS]; decide) ?_ ?_
  · intro g2 w2 N2 O2 S2 B2 s e2 tp2 hr I2 h1 h2 hN hA hC
    have hle2 := I2.1.1
    have hB2 := tk_B t hle2
    obtain ⟨a1, a2, a3⟩ := hA o (by omega)
    refine lw_goes (s_X9_goes15_0 (g := g2) (w := w2) (nd := nd) rfl (by exact c72) rfl rfl rfl rfl ht hle htt I2.1 I2.2.1 ((I2.2.2.2.2.2 1 (by decide) (by decide) (by decide)).trans e1) hnd I2.2.2.2.1 (by omega) I2.2.2.2.2.1 (by omega) (by rw [Nat.add_sub_cancel, a1, hO]) (by rw [Nat.add_sub_cancel, a2, hS])) I2 (by omega) (fun f p q g3 w3 N3 O3 S3 B3 z hf m9 m10 fr3 => ?_) (fun e3 q g3 w3 I3 => ?_) (fun n N3 e3 q g3 w3 S3 I3 hS3 => ?_)
    · by_cases hs : wordAt t le e2 20 = true
      · rw [if_pos hs] at q; exact absurd q (by simp)
      · rw [if_neg hs] at q
        exact fk g3 w3 N3 O3 S3 B3 z f p (by unfold ifR; rw [hr]; dsimp only; rw [if_neg hs]; exact congrArg Sum.inl (Sum.inl.inj q)) hf m9 m10 fr3
    · by_cases hs : wordAt t le e2 20 = true
      · rw [if_pos hs] at q
        simp only [Sum.inr.injEq, Sum.inl.injEq] at q
        subst q
        rw [Nat.add_sub_cancel] at *
        refine ib true (tkE t le e2) g3 w3 N2 O2 (va_up S2 o (S2 o + 1)) B2 tp2 (o + 1) (by omega) (by omega) I3 (by omega) (by rw [Nat.add_sub_cancel, (a1.trans hO)]; decide) (by rw [Nat.add_sub_cancel, va_up_self, (a2.trans hS)]; decide) (by rw [Nat.add_sub_cancel, (a1.trans hO), va_up_self, (a2.trans hS)]; decide) ?_ ?_
        · intro g4 w4 N4 O4 S4 B4 s1 e4 tp4 hr4 I4 h14 h24 hN4 hA4 hC4
          have hle4 := I4.1.1
          have hB4 := tk_B t hle4
          obtain ⟨c1, c2, c3⟩ := hA4 o (by omega)
          rw [va_up_self, a2, hS] at c2
          refine lw_goes (s_X9_goes15_1 (g := g4) (w := w4) (nd := nd) rfl (by exact c72) rfl rfl rfl rfl ht hle htt I4.1 I4.2.1 ((I4.2.2.2.2.2 1 (by decide) (by decide) (by decide)).trans e1) hnd I4.2.2.2.1 (by omega) I4.2.2.2.2.1 (by omega) (by rw [Nat.add_sub_cancel, c1, a1, hO]) (by rw [Nat.add_sub_cancel, c2]; rfl)) I4 (by omega) (fun f p q g5 w5 N5 O5 S5 B5 z hf m9 m10 fr5 => ?_) (fun e5 q g5 w5 I5 => ?_) (fun n N5 e5 q g5 w5 S5 I5 hS5 => ?_)
          · by_cases hs2 : wordAt t le e4 21 = true
            · rw [if_pos hs2] at q; exact absurd q (by simp)
            · rw [if_neg hs2] at q
              exact fk g5 w5 N5 O5 S5 B5 z f p (by unfold ifR; rw [hr]; dsimp only; rw [if_pos hs, hr4]; dsimp only; rw [if_neg hs2]; exact congrArg Sum.inl (Sum.inl.inj q)) hf m9 m10 fr5
          · by_cases hs2 : wordAt t le e4 21 = true
            · rw [if_pos hs2] at q
              simp only [Sum.inr.injEq, Sum.inl.injEq] at q
              subst q
              rw [Nat.add_sub_cancel] at *
              refine ib true (tkE t le e4) g5 w5 N4 O4 (va_up S4 o (S4 o + 1)) B4 tp4 (o + 1) (by omega) (by omega) I5 (by omega) (by rw [Nat.add_sub_cancel, (c1.trans (a1.trans hO))]; decide) (by rw [Nat.add_sub_cancel, va_up_self, c2]; decide) (by rw [Nat.add_sub_cancel, (c1.trans (a1.trans hO)), va_up_self, c2]; decide) ?_ ?_
              · intro g6 w6 N6 O6 S6 B6 s2 e6 tp6 hr6 I6 h16 h26 hN6 hA6 hC6
                have hle6 := I6.1.1
                have hB6 := tk_B t hle6
                obtain ⟨u1, u2, u3⟩ := hA6 o (by omega)
                rw [va_up_self, c2] at u2
                refine lw_goes (s_X9_goes15_2 (g := g6) (w := w6) (nd := nd) rfl (by exact c72) rfl rfl rfl rfl ht hle htt I6.1 I6.2.1 ((I6.2.2.2.2.2 1 (by decide) (by decide) (by decide)).trans e1) hnd I6.2.2.2.1 (by omega) I6.2.2.2.2.1 (by omega) (by rw [Nat.add_sub_cancel, u1, c1, a1, hO]) (by rw [Nat.add_sub_cancel, u2]; rfl)) I6 (by omega) (fun f p q g7 w7 N7 O7 S7 B7 z hf m9 m10 fr7 => ?_) (fun e7 q g7 w7 I7 => ?_) (fun n N7 e7 q g7 w7 S7 I7 hS7 => ?_)
                · by_cases hs3 : wordAt t le e6 22 = true
                  · rw [if_pos hs3] at q; exact absurd q (by simp)
                  · rw [if_neg hs3] at q
                    exact fk g7 w7 N7 O7 S7 B7 z f p (by unfold ifR; rw [hr]; dsimp only; rw [if_pos hs, hr4]; dsimp only; rw [if_pos hs2, hr6]; dsimp only; unfold pWd; rw [if_neg hs3]; exact congrArg Sum.inl (Sum.inl.inj q)) hf m9 m10 fr7
                · by_cases hs3 : wordAt t le e6 22 = true
                  · rw [if_pos hs3] at q; exact absurd q (by simp)
                  · rw [if_neg hs3] at q; exact absurd q (by simp)
                · by_cases hs3 : wordAt t le e6 22 = true
                  · rw [if_pos hs3] at q
                    simp only [Sum.inr.injEq, Prod.mk.injEq] at q
                    obtain ⟨rfl, rfl, rfl⟩ := q
                    refine gk g7 w7 _ O6 S7 B6 (fun tf mo => if s tf mo = 0 then s2 tf mo else s1 tf mo) (tkE t le e6) (tp6 + 1) (by unfold ifR; rw [hr]; dsimp only; rw [if_pos hs, hr4]; dsimp only; rw [if_pos hs2, hr6]; dsimp only; unfold pWd; rw [if_pos hs3]) I7 (by omega) (by omega) (fun j hj => ?_) (fun j hj => ?_) ?_
                    · rw [va_up_ne _ _ (by omega), hN6 j (by omega), hN4 j (by omega)]
                      exact hN j hj
                    · obtain ⟨y1, y2, y3⟩ := hA6 j (by omega)
                      obtain ⟨b1, b2, b3⟩ := hA4 j (by omega)
                      obtain ⟨d1, d2, d3⟩ := hA j (by omega)
                      obtain ⟨f1, f2, f3⟩ := agr j hj
                      rw [va_up_ne _ _ (by omega)] at b2 y2
                      exact ⟨y1.trans (b1.trans (d1.trans f1)), (hS7 j (by omega)).trans (y2.trans (b2.trans (d2.trans f2))), y3.trans (b3.trans (d3.trans f3))⟩
                    · exact csg_if (csg_kp (csg_kp (csg_kp hC (fun j _ hj => hN4 j (by omega))) (fun j _ hj => hN6 j (by omega))) (fun j _ hj => by rw [va_up_ne _ _ (by omega)])) (csg_kp (csg_kp hC4 (fun j _ hj => hN6 j (by omega))) (fun j _ hj => by rw [va_up_ne _ _ (by omega)])) (csg_kp hC6 (fun j _ hj => by rw [va_up_ne _ _ (by omega)])) (va_up_self _ _ _)
                  · rw [if_neg hs3] at q; exact absurd q (by simp)
              · intro g9 w9 N9 O9 S9 B9 z9 f9 p9 hr9 hf9 m9 m10 fr9
                exact fk g9 w9 N9 O9 S9 B9 z9 f9 p9 (by unfold ifR; rw [hr]; dsimp only; rw [if_pos hs, hr4]; dsimp only; rw [if_pos hs2, hr9]) hf9 m9 m10 fr9
            · rw [if_neg hs2] at q; exact absurd q (by simp)
          · by_cases hs2 : wordAt t le e4 21 = true
            · rw [if_pos hs2] at q; exact absurd q (by simp)
            · rw [if_neg hs2] at q; exact absurd q (by simp)
        · intro g9 w9 N9 O9 S9 B9 z9 f9 p9 hr9 hf9 m9 m10 fr9
          exact fk g9 w9 N9 O9 S9 B9 z9 f9 p9 (by unfold ifR; rw [hr]; dsimp only; rw [if_pos hs, hr9]) hf9 m9 m10 fr9
      · rw [if_neg hs] at q; exact absurd q (by simp)
    · by_cases hs : wordAt t le e2 20 = true
      · rw [if_pos hs] at q; exact absurd q (by simp)
      · rw [if_neg hs] at q; exact absurd q (by simp)
  · intro g9 w9 N9 O9 S9 B9 z9 f9 p9 hr9 hf9 m9 m10 fr9
    exact fk g9 w9 N9 O9 S9 B9 z9 f9 p9 (by unfold ifR; rw [hr9]) hf9 m9 m10 fr9

theorem pFs_s {t : Nat → Int} {le : Nat} {f : Nat → PRs} {w : Nat} {a : LSm} {e : Nat} : pFs t le f (w + 1) a e = if signAt t le e 44 = true then (match f (tkE t le e) with | .inl x => .inl x | .inr (s, e2) => pFs t le f w (fsO a s) e2) else pCl t le a e := rfl
theorem lw_first {Q : Option Value → Nat → aH → Prop} {h : aH} {x : Int} {trr : Nat → Int} (c72 : h 72 = .inl (0, 700, trr)) {t : Nat → Int} (ht : ∀ j, -128 ≤ t j ∧ t j ≤ 127) {le : Nat} (hle : le ≤ 700) (htt : ∀ j, j < le → trr j = t j % 256) {g : Nat → Int} {nd : Int} (e1 : g 1 = nd) (hnd : 0 ≤ nd ∧ nd ≤ 9) {k : Nat} (ib : IBp Q h t le nd g x k) {e0 e tp o : Nat} (hok : o + 1 + k = 12) (he : e0 + 2 ≤ e) (hsz : tp + 2 * (o + 1) ≤ e) {NC0 OP1 SG1 BS1 : Nat → Int} : ∀ (w n : Nat) (a : LSm) (gg : Nat → Int) (ww : Int) (NC OP SG BS : Nat → Int) (e3 tp3 : Nat), le - e3 < w → LwI t le g e3 tp3 (o + 1) gg ww → tp ≤ tp3 → tp3 + e ≤ e3 + tp → OP o = 12 → SG o + 1 = (n : Int) → 1 ≤ n → (∀ j, j < tp → NC j = NC0 j) → (∀ j, j < o → OP j = OP1 j ∧ SG j = SG1 j ∧ BS j = BS1 j) → CFg nd NC tp tp3 n a → GKp Q h t le nd g x (pFs t le (pT t le nd k true) w a e3) true tp e0 o NC0 OP1 SG1 BS1 → FKp Q h g x (pFs t le (pT t le nd k true) w a e3) → LwE Q h x gg ww NC OP SG BS 1 77 := by
  intro w
  induction w with
  | zero => intro n a gg ww NC OP SG BS e3 tp3 hw; exact absurd hw (Nat.not_lt_zero _)
  | succ w ih =>
    intro n a gg ww NC OP SG BS e3 tp3 hw I ht1 ht2 hO hS hn hN agr hC gk fk
    have hle2 := I.1.1
    have hB2 := tk_B t hle2
    have hC2 := hC.2.1
    rw [pFs_s] at gk fk
    refine lw_goes (s_X9_goes12 (g := gg) (w := ww) (nd := nd) rfl (by exact c72) rfl rfl rfl rfl ht hle htt I.1 I.2.1 ((I.2.2.2.2.2 1 (by decide) (by decide) (by decide)).trans e1) hnd I.2.2.2.1 (by omega) I.2.2.2.2.1 (by omega) (by rw [Nat.add_sub_cancel, hO]) ) I (by omega) (fun f p q g3 w3 N3 O3 S3 B3 z hf m9 m10 fr3 => ?_) (fun e4 q g3 w3 I3 => ?_) (fun n2 N3 e4 q g3 w3 S3 I3 hS3 => ?_)
    · by_cases hs : signAt t le e3 44 = true
      · rw [if_pos hs] at q; exact absurd q (by simp)
      · rw [if_neg hs] at q fk
        by_cases hs2 : signAt t le e3 41 = true
        · rw [if_pos hs2] at q; exact absurd q (by simp)
        · rw [if_neg hs2] at q
          exact fk g3 w3 N3 O3 S3 B3 z f p (by unfold pCl; rw [if_neg hs2]; exact congrArg Sum.inl (Sum.inl.inj q)) hf m9 m10 fr3
    · by_cases hs : signAt t le e3 44 = true
      · rw [if_pos hs] at q gk fk
        simp only [Sum.inr.injEq, Sum.inl.injEq] at q
        subst q
        have hsk : e3 < tkE t le e3 := by
          unfold signAt at hs
          rw [Bool.and_eq_true, decide_eq_true_eq] at hs
          have := hB2.2.2.2.2.2 (by omega)
          omega
        rw [Nat.add_sub_cancel] at *
        refine ib true (tkE t le e3) g3 w3 NC OP (va_up SG o (SG o + 1)) BS tp3 (o + 1) (by omega) (by omega) I3 (by omega) (by rw [Nat.add_sub_cancel, hO]; decide) (by rw [Nat.add_sub_cancel, va_up_self]; omega) (by rw [Nat.add_sub_cancel, hO]; simp) ?_ ?_
        · intro g4 w4 N4 O4 S4 B4 s e4 tp4 hr4 I4 h14 h24 hN4 hA4 hC4
          obtain ⟨c1, c2, c3⟩ := hA4 o (by omega)
          rw [va_up_self] at c2
          rw [hr4] at gk fk
          refine ih (n + 1) (fsO a s) g4 w4 N4 O4 S4 B4 e4 tp4 (by omega) I4 (by omega) (by omega) (c1.trans hO) (by omega) (by omega) (fun j hj => (hN4 j (by omega)).trans (hN j hj)) (fun j hj => ?_) (csf_s (cfg_kp hC (fun j _ hj => hN4 j (by omega))) hC4) gk fk
          obtain ⟨b1, b2, b3⟩ := hA4 j (by omega)
          obtain ⟨d1, d2, d3⟩ := agr j hj
          rw [va_up_ne _ _ (by omega)] at b2
          exact ⟨b1.trans d1, b2.trans d2, b3.trans d3⟩
        · intro g9 w9 N9 O9 S9 B9 z9 f9 p9 hr9 hf9 m9 m10 fr9
          exact fk g9 w9 N9 O9 S9 B9 z9 f9 p9 (by rw [hr9]) hf9 m9 m10 fr9
      · rw [if_neg hs] at q
        by_cases hs2 : signAt t le e3 41 = true
        · rw [if_pos hs2] at q; exact absurd q (by simp)
        · rw [if_neg hs2] at q; exact absurd q (by simp)
    · by_cases hs : signAt t le e3 44 = true
      · rw [if_pos hs] at q; exact absurd q (by simp)
      · rw [if_neg hs] at q gk
        by_cases hs2 : signAt t le e3 41 = true
        · rw [if_pos hs2] at q
          simp only [Sum.inr.injEq, Prod.mk.injEq] at q
          obtain ⟨rfl, rfl, rfl⟩ := q
          refine gk g3 w3 _ OP S3 BS a (tkE t le e3) (tp3 + 2) (by unfold pCl; rw [if_pos hs2]) I3 (by omega) (by omega) (fun j hj => ?_) (fun j hj => ?_) ?_
          · rw [va_up_ne _ _ (by omega), va_up_ne _ _ (by omega)]
            exact hN j hj
          · obtain ⟨d1, d2, d3⟩ := agr j hj
            exact ⟨d1, (hS3 j (by omega)).trans d2, d3⟩
          · exact csf_end (cfg_kp hC (fun j _ hj => by rw [va_up_ne _ _ (by omega), va_up_ne _ _ (by omega)])) hn (by rw [va_up_ne _ _ (by omega), va_up_self]) (by rw [va_up_self, Nat.add_sub_cancel]; exact hS)
        · rw [if_neg hs2] at q; exact absurd q (by simp)

theorem lw_o12 {Q : Option Value → Nat → aH → Prop} {h : aH} {x : Int} {trr : Nat → Int} (c72 : h 72 = .inl (0, 700, trr)) {t : Nat → Int} (ht : ∀ j, -128 ≤ t j ∧ t j ≤ 127) {le : Nat} (hle : le ≤ 700) (htt : ∀ j, j < le → trr j = t j % 256) {g : Nat → Int} {nd : Int} (e1 : g 1 = nd) (hnd : 0 ≤ nd ∧ nd ≤ 9) {k : Nat} (ib : IBp Q h t le nd g x k) {c : Int} {e0 e tp o : Nat} {gg : Nat → Int} {ww : Int} {NC OP SG BS OP1 SG1 BS1 : Nat → Int} (hok : o + 1 + k = 12) (he : e0 + 2 ≤ e) (I : LwI t le g e tp (o + 1) gg ww) (hsz : tp + 2 * (o + 1) ≤ e) (hO : OP o = 12) (hS : SG o = 0) (hB : BS o = c) (agr : ∀ j, j < o → OP j = OP1 j ∧ SG j = SG1 j ∧ BS j = BS1 j) (gk : GKp Q h t le nd g x (fiR t le (pT t le nd k true) e) true tp e0 o NC OP1 SG1 BS1) (fk : FKp Q h g x (fiR t le (pT t le nd k true) e)) : LwE Q h x gg ww NC OP SG BS 0 77 := by
  have hle1 := I.1.1
  refine ib true e gg ww NC OP SG BS tp (o + 1) (by omega) (by omega) I (by omega) (by rw [Nat.add_sub_cancel, hO]; decide) (by rw [Nat.add_sub_cancel, hS]; decide) (by rw [Nat.add_sub_cancel, hO]; simp) ?_ ?_
  · intro g2 w2 N2 O2 S2 B2 s e2 tp2 hr I2 h1 h2 hN hA hC
    have hle2 := I2.1.1
    obtain ⟨a1, a2, a3⟩ := hA o (by omega)
    have er : fiR t le (pT t le nd k true) e = pFs t le (pT t le nd k true) 700 s e2 := by unfold fiR; rw [hr]
    rw [er] at gk fk
    refine lw_first c72 ht hle htt e1 hnd ib hok he hsz 700 1 s g2 w2 N2 O2 S2 B2 e2 tp2 (by omega) I2 h1 h2 (a1.trans hO) (by rw [a2, hS]; rfl) (Nat.le_refl _) hN (fun j hj => ?_) (csf_1 hC) gk fk
    obtain ⟨b1, b2, b3⟩ := hA j (by omega)
    obtain ⟨d1, d2, d3⟩ := agr j hj
    exact ⟨b1.trans d1, b2.trans d2, b3.trans d3⟩
  · intro g9 w9 N9 O9 S9 B9 z9 f9 p9 hr9 hf9 m9 m10 fr9
    exact fk g9 w9 N9 O9 S9 B9 z9 f9 p9 (by unfold fiR; rw [hr9]) hf9 m9 m10 fr9

theorem lw_open {Q : Option Value → Nat → aH → Prop} {h : aH} {x : Int} {trr : Nat → Int} (c72 : h 72 = .inl (0, 700, trr)) {t : Nat → Int} (ht : ∀ j, -128 ≤ t j ∧ t j ≤ 127) {le : Nat} (hle : le ≤ 700) (htt : ∀ j, j < le → trr j = t j % 256) {g : Nat → Int} {nd : Int} (e1 : g 1 = nd) (hnd : 0 ≤ nd ∧ nd ≤ 9) {k : Nat} (ib : IBp Q h t le nd g x k) {a c : Int} {b : Bool} (hab : (b = true ∧ (a = 12 ∨ a = 13 ∨ (a = 14 ∧ -720 ≤ c ∧ c ≤ 720) ∨ a = 15)) ∨ (b = false ∧ (a = 19 ∨ a = 20 ∨ a = 22))) {e0 e tp o : Nat} {gg : Nat → Int} {ww : Int} {NC OP SG BS OP1 SG1 BS1 : Nat → Int} (hok : o + 1 + k = 12) (he : e0 + 2 ≤ e) (I : LwI t le g e tp (o + 1) gg ww) (hsz : tp + 2 * (o + 1) ≤ e) (hO : OP o = a) (hS : SG o = 0) (hB : BS o = c) (agr : ∀ j, j < o → OP j = OP1 j ∧ SG j = SG1 j ∧ BS j = BS1 j) (gk : GKp Q h t le nd g x (opR t le nd k a c e) b tp e0 o NC OP1 SG1 BS1) (fk : FKp Q h g x (opR t le nd k a c e)) : LwE Q h x gg ww NC OP SG BS 0 77 := by
  unfold opR at gk fk
  rcases hab with ⟨rfl, rfl | rfl | ⟨rfl, hc1, hc2⟩ | rfl⟩ | ⟨rfl, rfl | rfl | rfl⟩
  · rw [if_neg (by decide), if_neg (by decide), if_neg (by decide), if_pos rfl] at gk fk
    exact lw_o12 c72 ht hle htt e1 hnd ib hok he I hsz hO hS hB agr gk fk
  · rw [if_neg (by decide), if_neg (by decide), if_neg (by decide), if_neg (by decide), if_pos rfl] at gk fk
    exact lw_o13 c72 ht hle htt e1 hnd ib hok he I hsz hO hS hB agr gk fk
  · rw [if_pos rfl] at gk fk
    exact lw_o14 c72 ht hle htt e1 hnd ib ⟨hc1, hc2⟩ hok he I hsz hO hS hB agr gk fk
  · rw [if_neg (by decide), if_neg (by decide), if_neg (by decide), if_neg (by decide), if_neg (by decide), if_neg (by decide)] at gk fk
    exact lw_o15 c72 ht hle htt e1 hnd ib hok he I hsz hO hS hB agr gk fk
  · rw [if_neg (by decide), if_pos rfl] at gk fk
    exact lw_o19 c72 ht hle htt e1 hnd ib hok he I hsz hO hS hB agr gk fk
  · rw [if_neg (by decide), if_neg (by decide), if_pos rfl] at gk fk
    exact lw_o20 c72 ht hle htt e1 hnd ib hok he I hsz hO hS hB agr gk fk
  · rw [if_neg (by decide), if_neg (by decide), if_neg (by decide), if_neg (by decide), if_neg (by decide), if_pos rfl] at gk fk
    exact lw_o22 c72 ht hle htt e1 hnd ib hok he I hsz hO hS hB agr gk fk
theorem lw_ib {Q : Option Value → Nat → aH → Prop} {h : aH} {x : Int} {trr : Nat → Int} (c72 : h 72 = .inl (0, 700, trr)) {t : Nat → Int} (ht : ∀ j, -128 ≤ t j ∧ t j ≤ 127) {le : Nat} (hle : le ≤ 700) (htt : ∀ j, j < le → trr j = t j % 256) {g : Nat → Int} {nd : Int} (e1 : g 1 = nd) (hnd : 0 ≤ nd ∧ nd ≤ 9) : ∀ k, IBp Q h t le nd g x k := by
  intro k
  induction k with
  | zero =>
    intro b e gg ww NC OP SG BS tp o hok ho I hsz bO bS hw gk fk
    have hle1 := I.1.1
    obtain rfl : o = 12 := by omega
    have hin : ∃ y, bgR t le nd 12 b e = .inl y := by
      unfold bgR
      split
      · exact ⟨_, rfl⟩
      · exact ⟨_, rfl⟩
    obtain ⟨y, hy⟩ := hin
    refine lw_begs c72 ht hle htt e1 hnd rfl I ⟨ho, Nat.le_refl _⟩ (by omega) bO bS hw (fun f p hr g2 w2 N2 O2 S2 B2 z hf m9 m10 fr => ?_) (fun a c e2 hr => absurd (hy.symm.trans hr) (by simp)) (fun a c e2 hr => absurd (hy.symm.trans hr) (by simp))
    exact fk g2 w2 N2 O2 S2 B2 z f p (by rw [pT_b0, hr]; rfl) hf m9 m10 fr
  | succ k ih =>
    intro b e gg ww NC OP SG BS tp o hok ho I hsz bO bS hw gk fk
    have hle1 := I.1.1
    rw [pT_bg (show ¬ o = 12 by omega)] at gk fk
    refine lw_begs c72 ht hle htt e1 hnd rfl I (by omega) (by omega) bO bS hw (fun f p hr g2 w2 N2 O2 S2 B2 z hf m9 m10 fr => ?_) (fun a c e2 hr ha2 g2 w2 I2 => ?_) (fun a c e2 hr g2 w2 I2 => ?_)
    · exact fk g2 w2 N2 O2 S2 B2 z f p (by rw [hr]; rfl) hf m9 m10 fr
    · rcases bg_cases hle1 hr with ⟨y, hy⟩ | ⟨a2, c2, e3, hy, hl, hcs⟩ | ⟨a2, c2, e3, hy, hl, hcs⟩
      · exact absurd hy (by simp)
      · simp only [Sum.inr.injEq, Sum.inl.injEq, Prod.mk.injEq] at hy
        obtain ⟨rfl, rfl, rfl⟩ := hy
        refine gk g2 w2 _ OP SG BS (leafS a c) e2 (tp + 2) (by rw [hr]; rfl) I2 (by omega) (by omega) (fun j hj => by rw [va_up_ne _ _ (by omega), va_up_ne _ _ (by omega)]) (fun j hj => ⟨rfl, rfl, rfl⟩) ?_
        unfold leafS
        rcases hcs with ⟨rfl, rfl, h1, h2⟩ | ⟨rfl, rfl⟩ | ⟨rfl, rfl, h1, h2⟩
        · rw [if_pos rfl]
          exact csg_dial hnd (by rw [va_up_ne _ _ (by omega), va_up_self]) (va_up_self _ _ _) ⟨h1, h2⟩
        · rw [if_neg (by decide), if_pos rfl]
          have hc := ha2 rfl
          exact csg_mid hnd (by rw [va_up_ne _ _ (by omega), va_up_self]) (by rw [va_up_self]; omega) (by omega)
        · rw [if_neg (by decide), if_neg (by decide)]
          exact csg_mon (by rw [va_up_ne _ _ (by omega), va_up_self]) (va_up_self _ _ _) ⟨h1, h2⟩
      · exact absurd hy (by simp)
    · rcases bg_cases hle1 hr with ⟨y, hy⟩ | ⟨a2, c2, e3, hy, hl, hcs⟩ | ⟨a2, c2, e3, hy, hl, hcs⟩
      · exact absurd hy (by simp)
      · exact absurd hy (by simp)
      · simp only [Sum.inr.injEq, Prod.mk.injEq] at hy
        obtain ⟨rfl, rfl, rfl⟩ := hy
        rw [hr] at gk fk
        exact lw_open c72 ht hle htt e1 hnd ih hcs (by omega) hl I2 (by omega) (va_up_self _ _ _) (va_up_self _ _ _) (va_up_self _ _ _) (fun j hj => ⟨va_up_ne _ _ (by omega), va_up_ne _ _ (by omega), va_up_ne _ _ (by omega)⟩) gk fk

