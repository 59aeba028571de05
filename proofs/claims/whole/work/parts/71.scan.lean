/-! ===== the reference's scan: words, numbers, faults ===== -/
theorem eqF_iff (t : Nat → Int) (st i : Nat) : ∀ (k j : Nat), eqF t st i k j = true ↔ ∀ x, j ≤ x → x < j + k → t (st + x) = sCh i x := by
  intro k
  induction k with
  | zero => intro j; exact ⟨fun _ x h1 h2 => absurd h2 (by omega), fun _ => rfl⟩
  | succ k ih =>
    intro j
    unfold eqF
    by_cases q : t (st + j) = sCh i j
    · rw [if_pos q, ih]
      constructor
      · intro h x h1 h2
        by_cases q2 : x = j
        · rw [q2]; exact q
        · exact h x (by omega) (by omega)
      · intro h x h1 h2
        exact h x (by omega) (by omega)
    · rw [if_neg q]
      constructor
      · intro h; exact absurd h (by decide)
      · intro h; exact absurd (h j (Nat.le_refl _) (by omega)) q
theorem RS_wd {t : Nat → Int} {le e : Nat} {g : Nat → Int} {w : Int} (rs : RS t le e g w) {k : Nat} (hk : k < 23) : (g 14 = 1 ∧ g 16 < 8 ∧ w = ltR k) ↔ wordAt t le e (wIx k) = true := by
  obtain ⟨r0, r1, r2, r3, r4, r5, r6, r7, r8⟩ := rs
  have hB := tk_B t r0
  obtain ⟨w1, w2, w3, w4, w5, w6⟩ := wIx_lt k hk
  have hs : g 14 = 1 ↔ tkK t le e = 1 := by
    rw [r3]
    unfold sortI
    by_cases q : tkK t le e = 3
    · rw [if_pos q]
      split <;> omega
    · rw [if_neg q]
  unfold wordAt
  rw [Bool.and_eq_true, Bool.and_eq_true, decide_eq_true_eq, decide_eq_true_eq, eqF_iff, hs]
  constructor
  · intro ⟨h1, h2, h3⟩
    obtain ⟨hw, hl⟩ := r8 h1
    rw [show min (tkE t le e - tkS t le e) 7 = tkE t le e - tkS t le e by omega, h3, ← w5] at hw
    obtain ⟨e1, e2⟩ := pkF_inj _ _ w6 hl hw
    refine ⟨⟨h1, e1.symm⟩, fun x _ hx => (e2 x (by omega)).symm⟩
  · intro ⟨⟨h1, h2⟩, h3⟩
    obtain ⟨hw, hl⟩ := r8 h1
    refine ⟨h1, by omega, ?_⟩
    rw [hw, show min (tkE t le e - tkS t le e) 7 = sLen (wIx k) by omega, ← w5]
    have aux : ∀ n, n ≤ sLen (wIx k) → pkF (fun j => t (tkS t le e + j)) n = pkF (sCh (wIx k)) n := by
      intro n
      induction n with
      | zero => intro _; rfl
      | succ n ih =>
        intro hn
        show 32 * _ + (t (tkS t le e + n) - 96) = 32 * _ + (sCh (wIx k) n - 96)
        rw [ih (by omega), h3 n (by omega) (by omega)]
    exact aux _ (Nat.le_refl _)
theorem sort_B {t : Nat → Int} {le e : Nat} {g : Nat → Int} {w : Int} (rs : RS t le e g w) : (0 ≤ g 14 ∧ g 14 ≤ 4) ∧ (g 14 = 2 ↔ tkK t le e = 2) ∧ (g 14 = 1 ↔ tkK t le e = 1) ∧ (g 14 = 0 ↔ tkK t le e = 0) ∧ 0 ≤ g 16 ∧ g 16 ≤ le ∧ (0 ≤ g 18 ∧ g 18 ≤ 255) := by
  obtain ⟨r0, r1, r2, r3, r4, r5, r6, r7, r8⟩ := rs
  have hB := tk_B t r0
  have h5 : sortI t le e = if tkK t le e = 3 then (if sgS (t (tkS t le e)) = true then 3 else 4) else tkK t le e := rfl
  have hb := bt_B t le (tkS t le e)
  refine ⟨?_, ?_, ?_, ?_, by omega, by omega, by omega⟩ <;> rw [r3, h5] <;> by_cases q : tkK t le e = 3 <;> simp only [q, if_true, if_false] <;> (try split) <;> omega
def NR (t : Nat → Int) (le : Nat) (h : aH) (g : Nat → Int) (r : (Int × Nat) ⊕ (Int × Nat)) : Option Value → Nat → aH → Prop := fun v n' h' => n' = 97 ∧ ∃ (z : Int) (g2 : Nat → Int) (w2 : Int), v = some (iv z) ∧ h' = va_up h 68 (RG g2 w2) ∧ ((∃ e2, r = .inr (z, e2) ∧ RS t le e2 g2 w2 ∧ ∀ k, ¬ (13 ≤ k ∧ k ≤ 18) → g2 k = g k) ∨ (∃ f p, r = .inl (f, p) ∧ (f = 1 ∨ f = 2) ∧ g2 9 = f ∧ g2 10 = (p : Nat) ∧ ∀ k, ¬ (9 ≤ k ∧ k ≤ 10) → ¬ (13 ≤ k ∧ k ≤ 18) → g2 k = g k))
def NdQ (t : Nat → Int) (le e : Nat) (h : aH) (g : Nat → Int) (w : Int) (b : Bool) : Option Value → Nat → aH → Prop := fun v n' h' => v = none ∧ n' = 97 ∧ ((b = true ∧ ∃ g2 w2, h' = va_up h 68 (RG g2 w2) ∧ RS t le (tkE t le e) g2 w2 ∧ ∀ k, ¬ (13 ≤ k ∧ k ≤ 18) → g2 k = g k) ∨ (b = false ∧ h' = va_up h 68 (RG (va_up (va_up g 9 1) 10 (tkS t le e : Int)) w)))

theorem s_X9_good1 {h : aH} {g : Nat → Int} {w : Int} (c68 : h 68 = RG g w) (h9 : g 9 = 0) : mSem yX9_isGood cX9_isGood 1 (some .boolean) 0 0 0 [.ref 68] 97 h (Ret 1 h) noX := by
  refine mSem_of (own := RX9) (name := "isGood") pn_X9 rfl rfl (Nat.le_of_ble_eq_true rfl) ?_
  refine r_aload_n dX9_isGood_0 rfl rfl ?_
  refine r_getR (z := (g 9)) dX9_isGood_1 fl_X9_158 (by decide) c68 rfl ?_
  refine r_if_ne (tgt := 11) dX9_isGood_4 (by decide) ⟨by omega, by omega⟩ (fun g4 => absurd g4 (by omega)) (fun g4 => ?_)
  refine r_iconst dX9_isGood_7 ?_
  refine r_goto (tgt := 12) dX9_isGood_8 (by decide) ?_
  refine r_zret dX9_isGood_12 (nar_z (by omega)) ?_
  exact ⟨rfl, rfl, rfl⟩

theorem s_X9_good0 {h : aH} {g : Nat → Int} {w : Int} (c68 : h 68 = RG g w) (h9 : 1 ≤ g 9 ∧ g 9 ≤ 9) : mSem yX9_isGood cX9_isGood 1 (some .boolean) 0 0 0 [.ref 68] 97 h (Ret 0 h) noX := by
  refine mSem_of (own := RX9) (name := "isGood") pn_X9 rfl rfl (Nat.le_of_ble_eq_true rfl) ?_
  refine r_aload_n dX9_isGood_0 rfl rfl ?_
  refine r_getR (z := (g 9)) dX9_isGood_1 fl_X9_158 (by decide) c68 rfl ?_
  refine r_if_ne (tgt := 11) dX9_isGood_4 (by decide) ⟨by omega, by omega⟩ (fun g4 => ?_) (fun g4 => absurd g4 (by omega))
  refine r_iconst dX9_isGood_11 ?_
  refine r_zret dX9_isGood_12 (nar_z (by omega)) ?_
  exact ⟨rfl, rfl, rfl⟩

theorem s_X9_wrong1 {h : aH} {g : Nat → Int} {w : Int} (c68 : h 68 = RG g w) (h9 : g 9 = 0) {f : Int} : mSem yX9_wrong cX9_wrong 2 none 0 0 0 [.ref 68, iv f] 97 h (RetV (va_up h 68 (RG (va_up (va_up g 9 f) 10 (g 15)) w))) noX := by
  refine mSem_of (own := RX9) (name := "wrong") pn_X9 rfl rfl (Nat.le_of_ble_eq_true rfl) ?_
  refine r_aload_n dX9_wrong_0 rfl rfl ?_
  refine r_getR (z := (g 9)) dX9_wrong_1 fl_X9_158 (by decide) c68 rfl ?_
  refine r_if_eq (tgt := 8) dX9_wrong_4 (by decide) ⟨by omega, by omega⟩ (fun g4 => ?_) (fun g4 => absurd g4 (by omega))
  refine r_aload_n dX9_wrong_8 rfl rfl ?_
  refine r_iload_n dX9_wrong_9 rfl rfl ?_
  refine r_putR dX9_wrong_10 fp_X9_158 (by decide) c68 (nar_int _) (Nat.le_of_ble_eq_true rfl) setR_9 (fun z0 hz0 => ?_)
  refine r_aload_n dX9_wrong_13 rfl rfl ?_
  refine r_aload_n dX9_wrong_14 rfl rfl ?_
  refine r_getR (z := (g 15)) dX9_wrong_15 fl_X9_122 (by decide) rfl rfl ?_
  refine r_putR dX9_wrong_18 fp_X9_26 (by decide) rfl (nar_int _) (Nat.le_of_ble_eq_true rfl) setR_10 (fun z1 hz1 => ?_)
  refine r_vret dX9_wrong_21 ?_
  subst hz1
  subst hz0
  exact ⟨rfl, rfl, by simp only [bx_uu]⟩

theorem s_X9_wrong0 {h : aH} {g : Nat → Int} {w : Int} (c68 : h 68 = RG g w) (h9 : 1 ≤ g 9 ∧ g 9 ≤ 9) {f : Int} : mSem yX9_wrong cX9_wrong 2 none 0 0 0 [.ref 68, iv f] 97 h (RetV h) noX := by
  refine mSem_of (own := RX9) (name := "wrong") pn_X9 rfl rfl (Nat.le_of_ble_eq_true rfl) ?_
  refine r_aload_n dX9_wrong_0 rfl rfl ?_
  refine r_getR (z := (g 9)) dX9_wrong_1 fl_X9_158 (by decide) c68 rfl ?_
  refine r_if_eq (tgt := 8) dX9_wrong_4 (by decide) ⟨by omega, by omega⟩ (fun g4 => absurd g4 (by omega)) (fun g4 => ?_)
  refine r_vret dX9_wrong_7 ?_
  exact ⟨rfl, rfl, rfl⟩

theorem s_X9_is {h : aH} {g : Nat → Int} {w : Int} (c68 : h 68 = RG g w) {trr : Nat → Int} (c72 : h 72 = .inl (0, 700, trr)) {t : Nat → Int} (ht : ∀ j, -128 ≤ t j ∧ t j ≤ 127) {le : Nat} (hle : le ≤ 700) (htt : ∀ j, j < le → trr j = t j % 256) {e : Nat} (rs : RS t le e g w) {k : Nat} (hk : k < 23) {z : Int} (hz : z = (k : Int)) : mSem yX9_is cX9_is 2 (some .boolean) 2 0 0 [.ref 68, iv z] 97 h (Ret (b2i (wordAt t le e (wIx k))) h) noX := by
  have hwd := RS_wd rs hk
  have hsb := sort_B rs
  have hlt := wIx_lt k hk
  have bw : g 14 = 1 → 0 ≤ w ∧ w < 1099511627776 := fun q => by
    obtain ⟨hw, hl⟩ := rs.2.2.2.2.2.2.2.2 (hsb.2.2.1.mp q)
    have := pkF_L (f := fun j => t (tkS t le e + j)) (k := min (tkE t le e - tkS t le e) 7) (fun j hj => hl j (by omega)) (by omega)
    omega
  have hlt1 := hlt.2.2.1
  have hlt2 := hlt.2.2.2.1
  clear hlt
  refine mSem_of (own := RX9) (name := "is") pn_X9 rfl rfl (Nat.le_of_ble_eq_true rfl) ?_
  refine r_aload_n dX9_is_0 rfl rfl ?_
  refine r_getR (z := (g 14)) dX9_is_1 fl_X9_135 (by decide) c68 rfl ?_
  refine r_iconst dX9_is_4 ?_
  refine r_icmp_ne (tgt := 33) dX9_is_5 (by decide) ⟨by omega, by omega⟩ ⟨by omega, by omega⟩ (fun g5 => ?_) (fun g5 => ?_)
  · refine r_iconst dX9_is_33 ?_
    refine r_zret dX9_is_34 (nar_z (by omega)) ?_
    first
      | exact ⟨ivE (by rw [hwd.mp ⟨by omega, by omega, by omega⟩]; rfl), rfl, rfl⟩
      | exact ⟨ivE (by rw [Bool.eq_false_iff.mpr (fun q => absurd (hwd.mpr q) (by omega))]; rfl), rfl, rfl⟩
  · refine r_aload_n dX9_is_8 rfl rfl ?_
    refine r_getR (z := (g 16)) dX9_is_9 fl_X9_145 (by decide) c68 rfl ?_
    refine r_bipush dX9_is_12 rfl ?_
    refine r_icmp_ge (tgt := 33) dX9_is_14 (by decide) ⟨by omega, by omega⟩ ⟨by omega, by omega⟩ (fun g14 => ?_) (fun g14 => ?_)
    · refine r_iconst dX9_is_33 ?_
      refine r_zret dX9_is_34 (nar_z (by omega)) ?_
      first
        | exact ⟨ivE (by rw [hwd.mp ⟨by omega, by omega, by omega⟩]; rfl), rfl, rfl⟩
        | exact ⟨ivE (by rw [Bool.eq_false_iff.mpr (fun q => absurd (hwd.mpr q) (by omega))]; rfl), rfl, rfl⟩
    · refine r_aload_n dX9_is_17 rfl rfl ?_
      refine r_get (fs := RGL _ _) dX9_is_18 fl_X9_125 (by decide) c68 rfl ?_
      refine r_iload_n dX9_is_21 rfl rfl ?_
      subst hz
      refine r_callS [_] (s_X9_letters hk) dX9_is_22 cs_X9_154 sm_X9_letters (by decide) (by decide) (by decide) rfl rfl (Nat.le_of_ble_eq_true rfl) (fun _ _ _ q => q.elim) (fun v n2 h2 q => ?_)
      obtain ⟨rfl, rfl, hh⟩ := q
      obtain rfl := hh.symm
      refine ⟨rfl, ?_⟩
      dsimp only [Option.toList, List.cons_append, List.nil_append]
      refine r_lcmp dX9_is_25 ⟨bw (by omega), by omega⟩ ?_
      refine r_if_ne (tgt := 33) dX9_is_26 (by decide) ⟨by omega, by omega⟩ (fun g26 => ?_) (fun g26 => ?_)
      · refine r_iconst dX9_is_33 ?_
        refine r_zret dX9_is_34 (nar_z (by omega)) ?_
        first
          | exact ⟨ivE (by rw [hwd.mp ⟨by omega, by omega, by omega⟩]; rfl), rfl, rfl⟩
          | exact ⟨ivE (by rw [Bool.eq_false_iff.mpr (fun q => absurd (hwd.mpr q) (by omega))]; rfl), rfl, rfl⟩
      · refine r_iconst dX9_is_29 ?_
        refine r_goto (tgt := 34) dX9_is_30 (by decide) ?_
        refine r_zret dX9_is_34 (nar_z (by omega)) ?_
        first
          | exact ⟨ivE (by rw [hwd.mp ⟨by omega, by omega, by omega⟩]; rfl), rfl, rfl⟩
          | exact ⟨ivE (by rw [Bool.eq_false_iff.mpr (fun q => absurd (hwd.mpr q) (by omega))]; rfl), rfl, rfl⟩

theorem s_X9_need {h : aH} {g : Nat → Int} {w : Int} (c68 : h 68 = RG g w) {trr : Nat → Int} (c72 : h 72 = .inl (0, 700, trr)) {t : Nat → Int} (ht : ∀ j, -128 ≤ t j ∧ t j ≤ 127) {le : Nat} (hle : le ≤ 700) (htt : ∀ j, j < le → trr j = t j % 256) {e : Nat} (rs : RS t le e g w) (h9 : g 9 = 0) {b : Bool} : mSem yX9_need cX9_need 2 none 2 0 0 [.ref 68, iv (b2i b)] 97 h (NdQ t le e h g w b) noX := by
  have hB := tk_B t rs.1
  have q12 := rs.2.1
  have q13 := rs.2.2.1
  have q15 := rs.2.2.2.2.1
  have bb := b2i_01 b
  refine mSem_of (own := RX9) (name := "need") pn_X9 rfl rfl (Nat.le_of_ble_eq_true rfl) ?_
  refine r_aload_n dX9_need_0 rfl rfl ?_
  refine r_callV 68 [] (s_X9_good1 (g := g) c68 (by first | exact h9 | (show _ = (0 : Int); omega))) dX9_need_1 cs_X9_161 im_X9_isGood (by decide) c68 rfl (by decide) (by decide) (by decide) rfl rfl (Nat.le_of_ble_eq_true rfl) (fun _ _ _ q => q.elim) (fun v n2 h2 q => ?_)
  obtain ⟨rfl, rfl, hh⟩ := q
  obtain rfl := hh.symm
  refine ⟨rfl, ?_⟩
  dsimp only [Option.toList, List.cons_append, List.nil_append]
  refine r_if_ne (tgt := 8) dX9_need_4 (by decide) ⟨by omega, by omega⟩ (fun g4 => ?_) (fun g4 => absurd g4 (by omega))
  refine r_iload_n dX9_need_8 rfl rfl ?_
  refine r_if_eq (tgt := 19) dX9_need_9 (by decide) ⟨by omega, by omega⟩ (fun g9 => ?_) (fun g9 => ?_)
  · rw [b2i_0] at g9
    refine r_aload_n dX9_need_19 rfl rfl ?_
    refine r_iconst dX9_need_20 ?_
    refine r_callV 68 [_] (s_X9_wrong1 (g := g) c68 h9) dX9_need_21 cs_X9_168 im_X9_wrong (by decide) c68 rfl (by decide) (by decide) (by decide) rfl rfl (Nat.le_of_ble_eq_true rfl) (fun _ _ _ q => q.elim) (fun v n2 h2 q => ?_)
    obtain ⟨rfl, rfl, hh⟩ := q
    obtain rfl := hh.symm
    refine ⟨rfl, ?_⟩
    dsimp only [Option.toList, List.cons_append, List.nil_append]
    refine r_vret dX9_need_24 ?_
    first
      | exact ⟨rfl, rfl, Or.inl ⟨g9, g4, w4, rfl, rs4, kp4⟩⟩
      | exact ⟨rfl, rfl, Or.inr ⟨g9, by rw [q15]⟩⟩
  · rw [b2i_0, Bool.not_eq_false] at g9
    refine r_aload_n dX9_need_12 rfl rfl ?_
    refine r_callV 68 [] (s_X9_steps (g := g) (e := tkE t le e) c68 c72 ht hle htt hB.2.2.2.1 (by show _ = (le : Int); omega) (by show _ = (tkE t le e : Int); omega)) dX9_need_13 cs_X9_165 im_X9_steps (by decide) c68 rfl (by decide) (by decide) (by decide) rfl rfl (Nat.le_of_ble_eq_true rfl) (fun _ _ _ q => q.elim) (fun v n2 h2 q => ?_)
    obtain ⟨rfl, rfl, g4, w4, rfl, rs4, kp4⟩ := q
    refine ⟨rfl, ?_⟩
    dsimp only [Option.toList, List.cons_append, List.nil_append]
    refine r_goto (tgt := 24) dX9_need_16 (by decide) ?_
    refine r_vret dX9_need_24 ?_
    first
      | exact ⟨rfl, rfl, Or.inl ⟨g9, g4, w4, rfl, rs4, kp4⟩⟩
      | exact ⟨rfl, rfl, Or.inr ⟨g9, by rw [q15]⟩⟩

theorem s_X9_need0 {h : aH} {g : Nat → Int} {w : Int} (c68 : h 68 = RG g w) (h9 : 1 ≤ g 9 ∧ g 9 ≤ 9) {z : Int} : mSem yX9_need cX9_need 2 none 2 0 0 [.ref 68, iv z] 97 h (RetV h) noX := by
  refine mSem_of (own := RX9) (name := "need") pn_X9 rfl rfl (Nat.le_of_ble_eq_true rfl) ?_
  refine r_aload_n dX9_need_0 rfl rfl ?_
  refine r_callV 68 [] (s_X9_good0 (g := g) c68 (by first | exact h9 | exact ⟨by show (1 : Int) ≤ _; omega, by show _ ≤ (9 : Int); omega⟩)) dX9_need_1 cs_X9_161 im_X9_isGood (by decide) c68 rfl (by decide) (by decide) (by decide) rfl rfl (Nat.le_of_ble_eq_true rfl) (fun _ _ _ q => q.elim) (fun v n2 h2 q => ?_)
  obtain ⟨rfl, rfl, hh⟩ := q
  obtain rfl := hh.symm
  refine ⟨rfl, ?_⟩
  dsimp only [Option.toList, List.cons_append, List.nil_append]
  refine r_if_ne (tgt := 8) dX9_need_4 (by decide) ⟨by omega, by omega⟩ (fun g4 => absurd g4 (by omega)) (fun g4 => ?_)
  refine r_vret dX9_need_7 ?_
  exact ⟨rfl, rfl, rfl⟩

theorem s_X9_number {h : aH} {g : Nat → Int} {w : Int} (c68 : h 68 = RG g w) {trr : Nat → Int} (c72 : h 72 = .inl (0, 700, trr)) {t : Nat → Int} (ht : ∀ j, -128 ≤ t j ∧ t j ≤ 127) {le : Nat} (hle : le ≤ 700) (htt : ∀ j, j < le → trr j = t j % 256) {e : Nat} (rs : RS t le e g w) (h9 : g 9 = 0) {lo hi : Int} (hlo : -10000 ≤ lo ∧ lo ≤ 10000) (hhi : -10000 ≤ hi ∧ hi ≤ 10000) : mSem yX9_number cX9_number 4 (some .int) 2 0 0 [.ref 68, iv lo, iv hi] 97 h (NR t le h g (pNum t le lo hi e)) noX := by
  have hB := tk_B t rs.1
  have q12 := rs.2.1
  have q13 := rs.2.2.1
  have q15 := rs.2.2.2.2.1
  have hsb := sort_B rs
  have q16 := rs.2.2.2.2.2.1
  have hF : numF t le e lo hi = if tkK t le e ≠ 2 then 1 else if 4 < tkE t le e - tkS t le e ∨ numAt t le e < lo ∨ hi < numAt t le e then 2 else 0 := rfl
  refine mSem_of (own := RX9) (name := "number") pn_X9 rfl rfl (Nat.le_of_ble_eq_true rfl) ?_
  refine r_aload_n dX9_number_0 rfl rfl ?_
  refine r_callV 68 [] (s_X9_good1 (g := g) c68 (by first | exact h9 | (show _ = (0 : Int); omega))) dX9_number_1 cs_X9_161 im_X9_isGood (by decide) c68 rfl (by decide) (by decide) (by decide) rfl rfl (Nat.le_of_ble_eq_true rfl) (fun _ _ _ q => q.elim) (fun v n2 h2 q => ?_)
  obtain ⟨rfl, rfl, hh⟩ := q
  obtain rfl := hh.symm
  refine ⟨rfl, ?_⟩
  dsimp only [Option.toList, List.cons_append, List.nil_append]
  refine r_if_ne (tgt := 9) dX9_number_4 (by decide) ⟨by omega, by omega⟩ (fun g4 => ?_) (fun g4 => absurd g4 (by omega))
  refine r_aload_n dX9_number_9 rfl rfl ?_
  refine r_getR (z := (g 14)) dX9_number_10 fl_X9_135 (by decide) c68 rfl ?_
  refine r_iconst dX9_number_13 ?_
  refine r_icmp_eq (tgt := 25) dX9_number_14 (by decide) ⟨by omega, by omega⟩ ⟨by omega, by omega⟩ (fun g14 => ?_) (fun g14 => ?_)
  · rw [if_neg (by omega)] at hF
    have q17 := rs.2.2.2.2.2.2.1 (by omega)
    have nB := num_B t ht (min (tkE t le e - tkS t le e) 4) (tkS t le e) (Nat.min_le_right _ _)
    have nE : numAt t le e = digF t (min (tkE t le e - tkS t le e) 4) (tkS t le e) 0 := rfl
    refine r_aload_n dX9_number_25 rfl rfl ?_
    refine r_getR (z := (g 16)) dX9_number_26 fl_X9_145 (by decide) c68 rfl ?_
    refine r_iconst dX9_number_29 ?_
    refine r_icmp_gt (tgt := 49) dX9_number_30 (by decide) ⟨by omega, by omega⟩ ⟨by omega, by omega⟩ (fun g30 => ?_) (fun g30 => ?_)
    · rw [if_pos (by omega)] at hF
      refine r_aload_n dX9_number_49 rfl rfl ?_
      refine r_iconst dX9_number_50 ?_
      refine r_callV 68 [_] (s_X9_wrong1 (g := g) c68 h9) dX9_number_51 cs_X9_168 im_X9_wrong (by decide) c68 rfl (by decide) (by decide) (by decide) rfl rfl (Nat.le_of_ble_eq_true rfl) (fun _ _ _ q => q.elim) (fun v n2 h2 q => ?_)
      obtain ⟨rfl, rfl, hh⟩ := q
      obtain rfl := hh.symm
      refine ⟨rfl, ?_⟩
      dsimp only [Option.toList, List.cons_append, List.nil_append]
      refine r_aload_n dX9_number_54 rfl rfl ?_
      refine r_getR (z := (g 17)) dX9_number_55 fl_X9_129 (by decide) rfl rfl ?_
      refine r_istore_n (lv2 := [(0, _), (1, _), (2, _), (3, _)]) dX9_number_58 rfl (by decide) rfl rfl ?_
      refine r_aload_n dX9_number_59 rfl rfl ?_
      refine r_callV 68 [] (s_X9_good0 (g := (va_up (va_up g 9 2) 10 (g 15))) (by rfl) ⟨by show (1 : Int) ≤ 2; decide, by show (2 : Int) ≤ 9; decide⟩) dX9_number_60 cs_X9_161 im_X9_isGood (by decide) rfl rfl (by decide) (by decide) (by decide) rfl rfl (Nat.le_of_ble_eq_true rfl) (fun _ _ _ q => q.elim) (fun v n2 h2 q => ?_)
      obtain ⟨rfl, rfl, hh⟩ := q
      obtain rfl := hh.symm
      refine ⟨rfl, ?_⟩
      dsimp only [Option.toList, List.cons_append, List.nil_append]
      refine r_if_eq (tgt := 70) dX9_number_63 (by decide) ⟨by omega, by omega⟩ (fun g63 => ?_) (fun g63 => absurd g63 (by omega))
      refine r_iload_n dX9_number_70 rfl rfl ?_
      refine r_iret dX9_number_71 ?_
      exact ⟨rfl, g 17, _, _, rfl, rfl, Or.inr ⟨_, tkS t le e, by unfold pNum; rw [hF]; rfl, Or.inr rfl, rfl, q15, fun k h1 h2 => by rw [va_up_ne _ _ (by omega), va_up_ne _ _ (by omega)]⟩⟩
    · refine r_aload_n dX9_number_33 rfl rfl ?_
      refine r_getR (z := (g 17)) dX9_number_34 fl_X9_129 (by decide) c68 rfl ?_
      refine r_iload_n dX9_number_37 rfl rfl ?_
      refine r_icmp_lt (tgt := 49) dX9_number_38 (by decide) ⟨by omega, by omega⟩ ⟨by omega, by omega⟩ (fun g38 => ?_) (fun g38 => ?_)
      · rw [if_pos (by omega)] at hF
        refine r_aload_n dX9_number_49 rfl rfl ?_
        refine r_iconst dX9_number_50 ?_
        refine r_callV 68 [_] (s_X9_wrong1 (g := g) c68 h9) dX9_number_51 cs_X9_168 im_X9_wrong (by decide) c68 rfl (by decide) (by decide) (by decide) rfl rfl (Nat.le_of_ble_eq_true rfl) (fun _ _ _ q => q.elim) (fun v n2 h2 q => ?_)
        obtain ⟨rfl, rfl, hh⟩ := q
        obtain rfl := hh.symm
        refine ⟨rfl, ?_⟩
        dsimp only [Option.toList, List.cons_append, List.nil_append]
        refine r_aload_n dX9_number_54 rfl rfl ?_
        refine r_getR (z := (g 17)) dX9_number_55 fl_X9_129 (by decide) rfl rfl ?_
        refine r_istore_n (lv2 := [(0, _), (1, _), (2, _), (3, _)]) dX9_number_58 rfl (by decide) rfl rfl ?_
        refine r_aload_n dX9_number_59 rfl rfl ?_
        refine r_callV 68 [] (s_X9_good0 (g := (va_up (va_up g 9 2) 10 (g 15))) (by rfl) ⟨by show (1 : Int) ≤ 2; decide, by show (2 : Int) ≤ 9; decide⟩) dX9_number_60 cs_X9_161 im_X9_isGood (by decide) rfl rfl (by decide) (by decide) (by decide) rfl rfl (Nat.le_of_ble_eq_true rfl) (fun _ _ _ q => q.elim) (fun v n2 h2 q => ?_)
        obtain ⟨rfl, rfl, hh⟩ := q
        obtain rfl := hh.symm
        refine ⟨rfl, ?_⟩
        dsimp only [Option.toList, List.cons_append, List.nil_append]
        refine r_if_eq (tgt := 70) dX9_number_63 (by decide) ⟨by omega, by omega⟩ (fun g63 => ?_) (fun g63 => absurd g63 (by omega))
        refine r_iload_n dX9_number_70 rfl rfl ?_
        refine r_iret dX9_number_71 ?_
        exact ⟨rfl, g 17, _, _, rfl, rfl, Or.inr ⟨_, tkS t le e, by unfold pNum; rw [hF]; rfl, Or.inr rfl, rfl, q15, fun k h1 h2 => by rw [va_up_ne _ _ (by omega), va_up_ne _ _ (by omega)]⟩⟩
      · refine r_aload_n dX9_number_41 rfl rfl ?_
        refine r_getR (z := (g 17)) dX9_number_42 fl_X9_129 (by decide) c68 rfl ?_
        refine r_iload_n dX9_number_45 rfl rfl ?_
        refine r_icmp_le (tgt := 54) dX9_number_46 (by decide) ⟨by omega, by omega⟩ ⟨by omega, by omega⟩ (fun g46 => ?_) (fun g46 => ?_)
        · refine r_aload_n dX9_number_54 rfl rfl ?_
          refine r_getR (z := (g 17)) dX9_number_55 fl_X9_129 (by decide) c68 rfl ?_
          refine r_istore_n (lv2 := [(0, _), (1, _), (2, _), (3, _)]) dX9_number_58 rfl (by decide) rfl rfl ?_
          refine r_aload_n dX9_number_59 rfl rfl ?_
          refine r_callV 68 [] (s_X9_good1 (g := g) c68 (by first | exact h9 | (show _ = (0 : Int); omega))) dX9_number_60 cs_X9_161 im_X9_isGood (by decide) c68 rfl (by decide) (by decide) (by decide) rfl rfl (Nat.le_of_ble_eq_true rfl) (fun _ _ _ q => q.elim) (fun v n2 h2 q => ?_)
          obtain ⟨rfl, rfl, hh⟩ := q
          obtain rfl := hh.symm
          refine ⟨rfl, ?_⟩
          dsimp only [Option.toList, List.cons_append, List.nil_append]
          refine r_if_eq (tgt := 70) dX9_number_63 (by decide) ⟨by omega, by omega⟩ (fun g63 => absurd g63 (by omega)) (fun g63 => ?_)
          refine r_aload_n dX9_number_66 rfl rfl ?_
          rw [if_neg (by omega)] at hF
          refine r_callV 68 [] (s_X9_steps (g := g) (e := tkE t le e) c68 c72 ht hle htt hB.2.2.2.1 (by show _ = (le : Int); omega) (by show _ = (tkE t le e : Int); omega)) dX9_number_67 cs_X9_165 im_X9_steps (by decide) c68 rfl (by decide) (by decide) (by decide) rfl rfl (Nat.le_of_ble_eq_true rfl) (fun _ _ _ q => q.elim) (fun v n2 h2 q => ?_)
          obtain ⟨rfl, rfl, g4, w4, rfl, rs4, kp4⟩ := q
          refine ⟨rfl, ?_⟩
          dsimp only [Option.toList, List.cons_append, List.nil_append]
          refine r_iload_n dX9_number_70 rfl rfl ?_
          refine r_iret dX9_number_71 ?_
          exact ⟨rfl, g 17, g4, w4, rfl, rfl, Or.inl ⟨tkE t le e, by unfold pNum; rw [hF, if_pos rfl, q17], rs4, kp4⟩⟩
        · rw [if_pos (by omega)] at hF
          refine r_aload_n dX9_number_49 rfl rfl ?_
          refine r_iconst dX9_number_50 ?_
          refine r_callV 68 [_] (s_X9_wrong1 (g := g) c68 h9) dX9_number_51 cs_X9_168 im_X9_wrong (by decide) c68 rfl (by decide) (by decide) (by decide) rfl rfl (Nat.le_of_ble_eq_true rfl) (fun _ _ _ q => q.elim) (fun v n2 h2 q => ?_)
          obtain ⟨rfl, rfl, hh⟩ := q
          obtain rfl := hh.symm
          refine ⟨rfl, ?_⟩
          dsimp only [Option.toList, List.cons_append, List.nil_append]
          refine r_aload_n dX9_number_54 rfl rfl ?_
          refine r_getR (z := (g 17)) dX9_number_55 fl_X9_129 (by decide) rfl rfl ?_
          refine r_istore_n (lv2 := [(0, _), (1, _), (2, _), (3, _)]) dX9_number_58 rfl (by decide) rfl rfl ?_
          refine r_aload_n dX9_number_59 rfl rfl ?_
          refine r_callV 68 [] (s_X9_good0 (g := (va_up (va_up g 9 2) 10 (g 15))) (by rfl) ⟨by show (1 : Int) ≤ 2; decide, by show (2 : Int) ≤ 9; decide⟩) dX9_number_60 cs_X9_161 im_X9_isGood (by decide) rfl rfl (by decide) (by decide) (by decide) rfl rfl (Nat.le_of_ble_eq_true rfl) (fun _ _ _ q => q.elim) (fun v n2 h2 q => ?_)
          obtain ⟨rfl, rfl, hh⟩ := q
          obtain rfl := hh.symm
          refine ⟨rfl, ?_⟩
          dsimp only [Option.toList, List.cons_append, List.nil_append]
          refine r_if_eq (tgt := 70) dX9_number_63 (by decide) ⟨by omega, by omega⟩ (fun g63 => ?_) (fun g63 => absurd g63 (by omega))
          refine r_iload_n dX9_number_70 rfl rfl ?_
          refine r_iret dX9_number_71 ?_
          exact ⟨rfl, g 17, _, _, rfl, rfl, Or.inr ⟨_, tkS t le e, by unfold pNum; rw [hF]; rfl, Or.inr rfl, rfl, q15, fun k h1 h2 => by rw [va_up_ne _ _ (by omega), va_up_ne _ _ (by omega)]⟩⟩
  · rw [if_pos (by omega)] at hF
    refine r_aload_n dX9_number_17 rfl rfl ?_
    refine r_iconst dX9_number_18 ?_
    refine r_callV 68 [_] (s_X9_wrong1 (g := g) c68 h9) dX9_number_19 cs_X9_168 im_X9_wrong (by decide) c68 rfl (by decide) (by decide) (by decide) rfl rfl (Nat.le_of_ble_eq_true rfl) (fun _ _ _ q => q.elim) (fun v n2 h2 q => ?_)
    obtain ⟨rfl, rfl, hh⟩ := q
    obtain rfl := hh.symm
    refine ⟨rfl, ?_⟩
    dsimp only [Option.toList, List.cons_append, List.nil_append]
    refine r_goto (tgt := 54) dX9_number_22 (by decide) ?_
    refine r_aload_n dX9_number_54 rfl rfl ?_
    refine r_getR (z := (g 17)) dX9_number_55 fl_X9_129 (by decide) rfl rfl ?_
    refine r_istore_n (lv2 := [(0, _), (1, _), (2, _), (3, _)]) dX9_number_58 rfl (by decide) rfl rfl ?_
    refine r_aload_n dX9_number_59 rfl rfl ?_
    refine r_callV 68 [] (s_X9_good0 (g := (va_up (va_up g 9 1) 10 (g 15))) (by rfl) ⟨by show (1 : Int) ≤ 1; decide, by show (1 : Int) ≤ 9; decide⟩) dX9_number_60 cs_X9_161 im_X9_isGood (by decide) rfl rfl (by decide) (by decide) (by decide) rfl rfl (Nat.le_of_ble_eq_true rfl) (fun _ _ _ q => q.elim) (fun v n2 h2 q => ?_)
    obtain ⟨rfl, rfl, hh⟩ := q
    obtain rfl := hh.symm
    refine ⟨rfl, ?_⟩
    dsimp only [Option.toList, List.cons_append, List.nil_append]
    refine r_if_eq (tgt := 70) dX9_number_63 (by decide) ⟨by omega, by omega⟩ (fun g63 => ?_) (fun g63 => absurd g63 (by omega))
    refine r_iload_n dX9_number_70 rfl rfl ?_
    refine r_iret dX9_number_71 ?_
    exact ⟨rfl, g 17, _, _, rfl, rfl, Or.inr ⟨_, tkS t le e, by unfold pNum; rw [hF]; rfl, Or.inl rfl, rfl, q15, fun k h1 h2 => by rw [va_up_ne _ _ (by omega), va_up_ne _ _ (by omega)]⟩⟩

theorem s_X9_number0 {h : aH} {g : Nat → Int} {w : Int} (c68 : h 68 = RG g w) (h9 : 1 ≤ g 9 ∧ g 9 ≤ 9) {z y : Int} : mSem yX9_number cX9_number 4 (some .int) 2 0 0 [.ref 68, iv z, iv y] 97 h (Ret 0 h) noX := by
  refine mSem_of (own := RX9) (name := "number") pn_X9 rfl rfl (Nat.le_of_ble_eq_true rfl) ?_
  refine r_aload_n dX9_number_0 rfl rfl ?_
  refine r_callV 68 [] (s_X9_good0 (g := g) c68 (by first | exact h9 | exact ⟨by show (1 : Int) ≤ _; omega, by show _ ≤ (9 : Int); omega⟩)) dX9_number_1 cs_X9_161 im_X9_isGood (by decide) c68 rfl (by decide) (by decide) (by decide) rfl rfl (Nat.le_of_ble_eq_true rfl) (fun _ _ _ q => q.elim) (fun v n2 h2 q => ?_)
  obtain ⟨rfl, rfl, hh⟩ := q
  obtain rfl := hh.symm
  refine ⟨rfl, ?_⟩
  dsimp only [Option.toList, List.cons_append, List.nil_append]
  refine r_if_ne (tgt := 9) dX9_number_4 (by decide) ⟨by omega, by omega⟩ (fun g4 => absurd g4 (by omega)) (fun g4 => ?_)
  refine r_iconst dX9_number_7 ?_
  refine r_iret dX9_number_8 ?_
  exact ⟨rfl, rfl, rfl⟩

theorem s_X9_signed {h : aH} {g : Nat → Int} {w : Int} (c68 : h 68 = RG g w) {trr : Nat → Int} (c72 : h 72 = .inl (0, 700, trr)) {t : Nat → Int} (ht : ∀ j, -128 ≤ t j ∧ t j ≤ 127) {le : Nat} (hle : le ≤ 700) (htt : ∀ j, j < le → trr j = t j % 256) {e : Nat} (rs : RS t le e g w) (h9 : g 9 = 0) {hi : Int} (hhi : -10000 ≤ hi ∧ hi ≤ 10000) : mSem yX9_signed cX9_signed 4 (some .int) 3 0 0 [.ref 68, iv hi] 97 h (NR t le h g (pSgn t le hi e)) noX := by
  have hB := tk_B t rs.1
  have q12 := rs.2.1
  have q13 := rs.2.2.1
  have q15 := rs.2.2.2.2.1
  have hsb := sort_B rs
  refine mSem_of (own := RX9) (name := "signed") pn_X9 rfl rfl (Nat.le_of_ble_eq_true rfl) ?_
  refine r_aload_n dX9_signed_0 rfl rfl ?_
  refine r_callV 68 [] (s_X9_good1 (g := g) c68 (by first | exact h9 | (show _ = (0 : Int); omega))) dX9_signed_1 cs_X9_161 im_X9_isGood (by decide) c68 rfl (by decide) (by decide) (by decide) rfl rfl (Nat.le_of_ble_eq_true rfl) (fun _ _ _ q => q.elim) (fun v n2 h2 q => ?_)
  obtain ⟨rfl, rfl, hh⟩ := q
  obtain rfl := hh.symm
  refine ⟨rfl, ?_⟩
  dsimp only [Option.toList, List.cons_append, List.nil_append]
  refine r_if_eq (tgt := 28) dX9_signed_4 (by decide) ⟨by omega, by omega⟩ (fun g4 => absurd g4 (by omega)) (fun g4 => ?_)
  refine r_aload_n dX9_signed_7 rfl rfl ?_
  refine r_getR (z := (g 14)) dX9_signed_8 fl_X9_135 (by decide) c68 rfl ?_
  refine r_iconst dX9_signed_11 ?_
  refine r_icmp_ne (tgt := 28) dX9_signed_12 (by decide) ⟨by omega, by omega⟩ ⟨by omega, by omega⟩ (fun g12 => ?_) (fun g12 => ?_)
  · refine r_iconst dX9_signed_28 ?_
    refine r_istore_n (lv2 := [(0, _), (1, _), (2, _)]) dX9_signed_29 rfl (by decide) rfl rfl ?_
    refine r_iload_n dX9_signed_30 rfl rfl ?_
    refine r_if_eq (tgt := 38) dX9_signed_31 (by decide) ⟨by omega, by omega⟩ (fun g31 => ?_) (fun g31 => absurd g31 (by omega))
    refine r_aload_n dX9_signed_38 rfl rfl ?_
    refine r_iconst dX9_signed_39 ?_
    refine r_iload_n dX9_signed_40 rfl rfl ?_
    refine r_callV 68 [_, _] (s_X9_number (g := g) (e := e) c68 c72 ht hle htt rs h9 ⟨by decide, by decide⟩ hhi) dX9_signed_41 cs_X9_171 im_X9_number (by decide) c68 rfl (by decide) (by decide) (by decide) rfl rfl (Nat.le_of_ble_eq_true rfl) (fun _ _ _ q => q.elim) (fun v n2 h2 q => ?_)
    obtain ⟨rfl, z5, g5, w5, rfl, rfl, hr⟩ := q
    refine ⟨rfl, ?_⟩
    dsimp only [Option.toList, List.cons_append, List.nil_append]
    refine r_istore_n (lv2 := [(0, _), (1, _), (2, _), (3, _)]) dX9_signed_44 rfl (by decide) rfl rfl ?_
    refine r_iload_n dX9_signed_45 rfl rfl ?_
    refine r_if_eq (tgt := 55) dX9_signed_46 (by decide) ⟨by omega, by omega⟩ (fun g46 => ?_) (fun g46 => absurd g46 (by omega))
    refine r_iload_n dX9_signed_55 rfl rfl ?_
    refine r_iret dX9_signed_56 ?_
    have hsg : ¬ signAt t le e 45 = true := fun q => absurd ((RS_sg ht rs (by decide)).mpr q) (by omega)
    have hP : pSgn t le hi e = pNum t le 0 hi e := by unfold pSgn; rw [if_neg hsg]
    refine ⟨rfl, z5, g5, w5, rfl, rfl, ?_⟩
    rw [hP]
    exact hr
  · refine r_aload_n dX9_signed_15 rfl rfl ?_
    refine r_getR (z := (g 18)) dX9_signed_16 fl_X9_132 (by decide) c68 rfl ?_
    refine r_bipush dX9_signed_19 rfl ?_
    refine r_icmp_ne (tgt := 28) dX9_signed_21 (by decide) ⟨by omega, by omega⟩ ⟨by omega, by omega⟩ (fun g21 => ?_) (fun g21 => ?_)
    · refine r_iconst dX9_signed_28 ?_
      refine r_istore_n (lv2 := [(0, _), (1, _), (2, _)]) dX9_signed_29 rfl (by decide) rfl rfl ?_
      refine r_iload_n dX9_signed_30 rfl rfl ?_
      refine r_if_eq (tgt := 38) dX9_signed_31 (by decide) ⟨by omega, by omega⟩ (fun g31 => ?_) (fun g31 => absurd g31 (by omega))
      refine r_aload_n dX9_signed_38 rfl rfl ?_
      refine r_iconst dX9_signed_39 ?_
      refine r_iload_n dX9_signed_40 rfl rfl ?_
      refine r_callV 68 [_, _] (s_X9_number (g := g) (e := e) c68 c72 ht hle htt rs h9 ⟨by decide, by decide⟩ hhi) dX9_signed_41 cs_X9_171 im_X9_number (by decide) c68 rfl (by decide) (by decide) (by decide) rfl rfl (Nat.le_of_ble_eq_true rfl) (fun _ _ _ q => q.elim) (fun v n2 h2 q => ?_)
      obtain ⟨rfl, z5, g5, w5, rfl, rfl, hr⟩ := q
      refine ⟨rfl, ?_⟩
      dsimp only [Option.toList, List.cons_append, List.nil_append]
      refine r_istore_n (lv2 := [(0, _), (1, _), (2, _), (3, _)]) dX9_signed_44 rfl (by decide) rfl rfl ?_
      refine r_iload_n dX9_signed_45 rfl rfl ?_
      refine r_if_eq (tgt := 55) dX9_signed_46 (by decide) ⟨by omega, by omega⟩ (fun g46 => ?_) (fun g46 => absurd g46 (by omega))
      refine r_iload_n dX9_signed_55 rfl rfl ?_
      refine r_iret dX9_signed_56 ?_
      have hsg : ¬ signAt t le e 45 = true := fun q => absurd ((RS_sg ht rs (by decide)).mpr q) (by omega)
      have hP : pSgn t le hi e = pNum t le 0 hi e := by unfold pSgn; rw [if_neg hsg]
      refine ⟨rfl, z5, g5, w5, rfl, rfl, ?_⟩
      rw [hP]
      exact hr
    · refine r_iconst dX9_signed_24 ?_
      refine r_goto (tgt := 29) dX9_signed_25 (by decide) ?_
      refine r_istore_n (lv2 := [(0, _), (1, _), (2, _)]) dX9_signed_29 rfl (by decide) rfl rfl ?_
      refine r_iload_n dX9_signed_30 rfl rfl ?_
      refine r_if_eq (tgt := 38) dX9_signed_31 (by decide) ⟨by omega, by omega⟩ (fun g31 => absurd g31 (by omega)) (fun g31 => ?_)
      refine r_aload_n dX9_signed_34 rfl rfl ?_
      refine r_callV 68 [] (s_X9_steps (g := g) (e := tkE t le e) c68 c72 ht hle htt hB.2.2.2.1 (by show _ = (le : Int); omega) (by show _ = (tkE t le e : Int); omega)) dX9_signed_35 cs_X9_165 im_X9_steps (by decide) c68 rfl (by decide) (by decide) (by decide) rfl rfl (Nat.le_of_ble_eq_true rfl) (fun _ _ _ q => q.elim) (fun v n2 h2 q => ?_)
      obtain ⟨rfl, rfl, g4, w4, rfl, rs4, kp4⟩ := q
      refine ⟨rfl, ?_⟩
      dsimp only [Option.toList, List.cons_append, List.nil_append]
      refine r_aload_n dX9_signed_38 rfl rfl ?_
      refine r_iconst dX9_signed_39 ?_
      refine r_iload_n dX9_signed_40 rfl rfl ?_
      refine r_callV 68 [_, _] (s_X9_number (g := g4) (e := tkE t le e) (by rfl) (by exact c72) ht hle htt rs4 ((kp4 9 (by decide)).trans h9) ⟨by decide, by decide⟩ hhi) dX9_signed_41 cs_X9_171 im_X9_number (by decide) rfl rfl (by decide) (by decide) (by decide) rfl rfl (Nat.le_of_ble_eq_true rfl) (fun _ _ _ q => q.elim) (fun v n2 h2 q => ?_)
      obtain ⟨rfl, z5, g5, w5, rfl, rfl, hr⟩ := q
      refine ⟨rfl, ?_⟩
      dsimp only [Option.toList, List.cons_append, List.nil_append]
      refine r_istore_n (lv2 := [(0, _), (1, _), (2, _), (3, _)]) dX9_signed_44 rfl (by decide) rfl rfl ?_
      refine r_iload_n dX9_signed_45 rfl rfl ?_
      refine r_if_eq (tgt := 55) dX9_signed_46 (by decide) ⟨by omega, by omega⟩ (fun g46 => absurd g46 (by omega)) (fun g46 => ?_)
      refine r_iconst dX9_signed_49 ?_
      refine r_iload_n dX9_signed_50 rfl rfl ?_
      refine r_isub dX9_signed_51 ?_
      refine r_goto (tgt := 56) dX9_signed_52 (by decide) ?_
      refine r_iret dX9_signed_56 ?_
      have hsg : signAt t le e 45 = true := (RS_sg ht rs (by decide)).mp ⟨by omega, by omega⟩
      refine ⟨rfl, 0 - z5, g5, w5, rfl, by simp only [bx_uu], ?_⟩
      rcases hr with ⟨e2, hr, rs5, kp5⟩ | ⟨f, p, hr, hf, f9, f10, kp5⟩
      · exact Or.inl ⟨e2, by unfold pSgn; rw [if_pos hsg, hr, Int.zero_sub], rs5, fun k hk => (kp5 k hk).trans (kp4 k hk)⟩
      · exact Or.inr ⟨f, p, by unfold pSgn; rw [if_pos hsg, hr], hf, f9, f10, fun k h1 h2 => (kp5 k h1 h2).trans (kp4 k h2)⟩

theorem s_X9_signed0 {h : aH} {g : Nat → Int} {w : Int} (c68 : h 68 = RG g w) (h9 : 1 ≤ g 9 ∧ g 9 ≤ 9) {z : Int} : mSem yX9_signed cX9_signed 4 (some .int) 3 0 0 [.ref 68, iv z] 97 h (Ret 0 h) noX := by
  refine mSem_of (own := RX9) (name := "signed") pn_X9 rfl rfl (Nat.le_of_ble_eq_true rfl) ?_
  refine r_aload_n dX9_signed_0 rfl rfl ?_
  refine r_callV 68 [] (s_X9_good0 (g := g) c68 (by first | exact h9 | exact ⟨by show (1 : Int) ≤ _; omega, by show _ ≤ (9 : Int); omega⟩)) dX9_signed_1 cs_X9_161 im_X9_isGood (by decide) c68 rfl (by decide) (by decide) (by decide) rfl rfl (Nat.le_of_ble_eq_true rfl) (fun _ _ _ q => q.elim) (fun v n2 h2 q => ?_)
  obtain ⟨rfl, rfl, hh⟩ := q
  obtain rfl := hh.symm
  refine ⟨rfl, ?_⟩
  dsimp only [Option.toList, List.cons_append, List.nil_append]
  refine r_if_eq (tgt := 28) dX9_signed_4 (by decide) ⟨by omega, by omega⟩ (fun g4 => ?_) (fun g4 => absurd g4 (by omega))
  refine r_iconst dX9_signed_28 ?_
  refine r_istore_n (lv2 := [(0, _), (1, _), (2, _)]) dX9_signed_29 rfl (by decide) rfl rfl ?_
  refine r_iload_n dX9_signed_30 rfl rfl ?_
  refine r_if_eq (tgt := 38) dX9_signed_31 (by decide) ⟨by omega, by omega⟩ (fun g31 => ?_) (fun g31 => absurd g31 (by omega))
  refine r_aload_n dX9_signed_38 rfl rfl ?_
  refine r_iconst dX9_signed_39 ?_
  refine r_iload_n dX9_signed_40 rfl rfl ?_
  refine r_callV 68 [_, _] (s_X9_number0 (g := g) c68 h9) dX9_signed_41 cs_X9_171 im_X9_number (by decide) c68 rfl (by decide) (by decide) (by decide) rfl rfl (Nat.le_of_ble_eq_true rfl) (fun _ _ _ q => q.elim) (fun v n2 h2 q => ?_)
  obtain ⟨rfl, rfl, hh⟩ := q
  obtain rfl := hh.symm
  refine ⟨rfl, ?_⟩
  dsimp only [Option.toList, List.cons_append, List.nil_append]
  refine r_istore_n (lv2 := [(0, _), (1, _), (2, _), (3, _)]) dX9_signed_44 rfl (by decide) rfl rfl ?_
  refine r_iload_n dX9_signed_45 rfl rfl ?_
  refine r_if_eq (tgt := 55) dX9_signed_46 (by decide) ⟨by omega, by omega⟩ (fun g46 => ?_) (fun g46 => absurd g46 (by omega))
  refine r_iload_n dX9_signed_55 rfl rfl ?_
  refine r_iret dX9_signed_56 ?_
  exact ⟨rfl, rfl, rfl⟩

