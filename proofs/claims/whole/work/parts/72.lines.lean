/-! ===== the reference reads a port's lines ===== -/
abbrev VT (h : aH) (g : Nat → Int) (w : Int) (nD nC nL : Nat → Int) : aH := va_up (va_up (va_up (va_up h 68 (RG g w)) 74 (.inl (0, 45, nD))) 75 (.inl (0, 60, nC))) 76 (.inl (0, 12, nL))
theorem vt_mk {h h' : aH} {g : Nat → Int} {w : Int} {nD nC nL : Nat → Int} (c68 : h' 68 = RG g w) (c74 : h' 74 = .inl (0, 45, nD)) (c75 : h' 75 = .inl (0, 60, nC)) (c76 : h' 76 = .inl (0, 12, nL)) (fr : ∀ j, ¬ j = 68 → ¬ j = 74 → ¬ j = 75 → ¬ j = 76 → h' j = h j) : h' = VT h g w nD nC nL := by
  funext j
  unfold VT va_up
  by_cases q1 : j = 76
  · rw [if_pos q1, q1, c76]
  rw [if_neg q1]
  by_cases q2 : j = 75
  · rw [if_pos q2, q2, c75]
  rw [if_neg q2]
  by_cases q3 : j = 74
  · rw [if_pos q3, q3, c74]
  rw [if_neg q3]
  by_cases q4 : j = 68
  · rw [if_pos q4, q4, c68]
  rw [if_neg q4]
  exact fr j q4 q3 q2 q1
def PRel (nD nC nL g : Nat → Int) (d : PD) : Prop := match d with
  | ((nd, sw, nc), (hl, hs), K, U, I, O, G, L, cf, ct, fc, nx, cd) => g 20 = nd ∧ g 21 = nc ∧ g 22 = sw ∧ g 23 = hl ∧ g 24 = hs ∧ (0 ≤ nd ∧ nd ≤ 9) ∧ (0 ≤ nc ∧ nc ≤ 20) ∧ (hl = 0 ∨ hl = 1) ∧ (hs = 0 ∨ hs = 1) ∧ DlR nd nD K U I O G ∧ ClR nc nC cd cf ct ∧ LmR nL L
def LnQ (t : Nat → Int) (le : Nat) (h : aH) (g : Nat → Int) (r : (Int × Nat) ⊕ (PD × Nat)) : Option Value → Nat → aH → Prop := fun v n' h' => v = none ∧ n' = 97 ∧ ∃ (g2 : Nat → Int) (w2 : Int) (nD nC nL : Nat → Int), h' = VT h g2 w2 nD nC nL ∧ ((∃ d2 e2, r = .inr (d2, e2) ∧ RS t le e2 g2 w2 ∧ g2 9 = 0 ∧ g2 10 = g 10 ∧ PRel nD nC nL g2 d2) ∨ (∃ f p, r = .inl (f, p) ∧ (1 ≤ f ∧ f ≤ 3) ∧ g2 9 = f ∧ g2 10 = ((p : Nat) : Int))) ∧ ∀ k, ¬ (9 ≤ k ∧ k ≤ 10) → ¬ (13 ≤ k ∧ k ≤ 18) → ¬ (20 ≤ k ∧ k ≤ 24) → g2 k = g k
theorem dl_up {nd : Int} {nD K U I O G : Nat → Int} (h : DlR nd nD K U I O G) (h0 : 0 ≤ nd) (a b c d e : Int) : DlR (nd + 1) (va_up (va_up (va_up (va_up (va_up nD (5 * nd).toNat a) (5 * nd + 1).toNat b) (5 * nd + 2).toNat c) (5 * nd + 3).toNat d) (5 * nd + 4).toNat e) (va_up K nd.toNat a) (va_up U nd.toNat b) (va_up I nd.toNat c) (va_up O nd.toNat d) (va_up G nd.toNat e) := by
  intro j hj
  obtain ⟨n, rfl⟩ : ∃ k : Nat, nd = k := ⟨nd.toNat, by omega⟩
  rw [show (5 * (n : Int)).toNat = 5 * n by omega, show (5 * (n : Int) + 1).toNat = 5 * n + 1 by omega, show (5 * (n : Int) + 2).toNat = 5 * n + 2 by omega, show (5 * (n : Int) + 3).toNat = 5 * n + 3 by omega, show (5 * (n : Int) + 4).toNat = 5 * n + 4 by omega, Int.toNat_natCast]
  by_cases q : j = n
  · subst q
    simp [va_up]
  · obtain ⟨k1, k2, k3, k4, k5⟩ := h j (by omega)
    refine ⟨?_, ?_, ?_, ?_, ?_⟩
    · rw [va_up_ne _ _ (by omega), va_up_ne _ _ (by omega), va_up_ne _ _ (by omega), va_up_ne _ _ (by omega), va_up_ne _ _ (by omega), va_up_ne _ _ q]; exact k1
    · rw [va_up_ne _ _ (by omega), va_up_ne _ _ (by omega), va_up_ne _ _ (by omega), va_up_ne _ _ (by omega), va_up_ne _ _ (by omega), va_up_ne _ _ q]; exact k2
    · rw [va_up_ne _ _ (by omega), va_up_ne _ _ (by omega), va_up_ne _ _ (by omega), va_up_ne _ _ (by omega), va_up_ne _ _ (by omega), va_up_ne _ _ q]; exact k3
    · rw [va_up_ne _ _ (by omega), va_up_ne _ _ (by omega), va_up_ne _ _ (by omega), va_up_ne _ _ (by omega), va_up_ne _ _ (by omega), va_up_ne _ _ q]; exact k4
    · rw [va_up_ne _ _ (by omega), va_up_ne _ _ (by omega), va_up_ne _ _ (by omega), va_up_ne _ _ (by omega), va_up_ne _ _ (by omega), va_up_ne _ _ q]; exact k5
theorem cl_up {nc : Int} {nC cd cf ct : Nat → Int} (h : ClR nc nC cd cf ct) (h0 : 0 ≤ nc) {a b c : Int} (ha : 0 ≤ a ∧ a < 365) : ClR (nc + 1) (va_up (va_up (va_up nC (3 * nc).toNat a) (3 * nc + 1).toNat b) (3 * nc + 2).toNat c) (va_up cd nc.toNat a) (va_up cf nc.toNat b) (va_up ct nc.toNat c) := by
  intro j hj
  obtain ⟨n, rfl⟩ : ∃ k : Nat, nc = k := ⟨nc.toNat, by omega⟩
  rw [show (3 * (n : Int)).toNat = 3 * n by omega, show (3 * (n : Int) + 1).toNat = 3 * n + 1 by omega, show (3 * (n : Int) + 2).toNat = 3 * n + 2 by omega, Int.toNat_natCast]
  by_cases q : j = n
  · subst q
    rw [va_up_self, va_up_self, va_up_self]
    refine ⟨?_, ?_, ?_, ha.1, ha.2⟩ <;> simp [va_up]
  · obtain ⟨k1, k2, k3, k4⟩ := h j (by omega)
    rw [va_up_ne _ _ q, va_up_ne _ _ q, va_up_ne _ _ q]
    refine ⟨?_, ?_, ?_, k4⟩
    · rw [va_up_ne _ _ (by omega), va_up_ne _ _ (by omega), va_up_ne _ _ (by omega)]; exact k1
    · rw [va_up_ne _ _ (by omega), va_up_ne _ _ (by omega), va_up_ne _ _ (by omega)]; exact k2
    · rw [va_up_ne _ _ (by omega), va_up_ne _ _ (by omega), va_up_ne _ _ (by omega)]; exact k3
theorem word_0 {t : Nat → Int} {le e i : Nat} (h : wordAt t le e i = true) (hi : 0 < sLen i) : t (tkS t le e) = sCh i 0 := by
  unfold wordAt at h
  rw [Bool.and_eq_true, eqF_iff] at h
  exact h.2 0 (Nat.le_refl _) (by omega)
theorem word_ne {t : Nat → Int} {le e i j : Nat} (h : wordAt t le e i = true) (hi : 0 < sLen i ∧ 0 < sLen j ∧ ¬ sCh i 0 = sCh j 0) : wordAt t le e j = false := by
  rw [Bool.eq_false_iff]
  intro q
  exact hi.2.2 ((word_0 h hi.1).symm.trans (word_0 q hi.2.1))
def kdR (t : Nat → Int) (le e : Nat) : Nat → Int
  | 0 => -1
  | k + 1 => if wordAt t le e (k + 1) = true then (k : Int) else kdR t le e k
theorem kd_kind (t : Nat → Int) (le e : Nat) : kdR t le e 6 = kindI t le e := by
  unfold kindI
  by_cases h1 : wordAt t le e 1 = true
  · rw [if_pos h1]; simp only [kdR, word_ne (j := 6) h1 (by decide), word_ne (j := 5) h1 (by decide), word_ne (j := 4) h1 (by decide), word_ne (j := 3) h1 (by decide), word_ne (j := 2) h1 (by decide), h1, if_true, Bool.false_eq_true, if_false]; rfl
  rw [if_neg h1]
  by_cases h2 : wordAt t le e 2 = true
  · rw [if_pos h2]; simp only [kdR, word_ne (j := 6) h2 (by decide), word_ne (j := 5) h2 (by decide), word_ne (j := 4) h2 (by decide), word_ne (j := 3) h2 (by decide), h2, if_true, Bool.false_eq_true, if_false]; rfl
  rw [if_neg h2]
  by_cases h3 : wordAt t le e 3 = true
  · rw [if_pos h3]; simp only [kdR, word_ne (j := 6) h3 (by decide), word_ne (j := 5) h3 (by decide), word_ne (j := 4) h3 (by decide), h3, if_true, Bool.false_eq_true, if_false]; rfl
  rw [if_neg h3]
  by_cases h4 : wordAt t le e 4 = true
  · rw [if_pos h4]; simp only [kdR, word_ne (j := 6) h4 (by decide), word_ne (j := 5) h4 (by decide), h4, if_true, Bool.false_eq_true, if_false]; rfl
  rw [if_neg h4]
  by_cases h5 : wordAt t le e 5 = true
  · rw [if_pos h5]; simp only [kdR, word_ne (j := 6) h5 (by decide), h5, if_true, Bool.false_eq_true, if_false]; rfl
  rw [if_neg h5]
  by_cases h6 : wordAt t le e 6 = true
  · rw [if_pos h6]; simp only [kdR, h6, if_true]; rfl
  rw [if_neg h6]
  simp only [kdR, h1, h2, h3, h4, h5, h6, Bool.false_eq_true, if_false]
theorem kdR_B (t : Nat → Int) (le e : Nat) : ∀ k, k ≤ 6 → -1 ≤ kdR t le e k ∧ kdR t le e k ≤ 5 := by
  intro k
  induction k with
  | zero => intro _; exact ⟨Int.le_refl _, show (-1 : Int) ≤ 5 by decide⟩
  | succ k ih =>
    intro hk
    have := ih (by omega)
    unfold kdR
    split <;> omega

theorem s_X9_needT {h : aH} {g : Nat → Int} {w : Int} (c68 : h 68 = RG g w) {trr : Nat → Int} (c72 : h 72 = .inl (0, 700, trr)) {t : Nat → Int} (ht : ∀ j, -128 ≤ t j ∧ t j ≤ 127) {le : Nat} (hle : le ≤ 700) (htt : ∀ j, j < le → trr j = t j % 256) {e : Nat} (rs : RS t le e g w) (h9 : g 9 = 0) : mSem yX9_need cX9_need 2 none 2 0 0 [.ref 68, iv 1] 97 h (StQ t le (tkE t le e) h g) noX := by
  have hB := tk_B t rs.1
  have q12 := rs.2.1
  have q13 := rs.2.2.1
  have q15 := rs.2.2.2.2.1
  refine mSem_of (own := RX9) (name := "need") pn_X9 rfl rfl (Nat.le_of_ble_eq_true rfl) ?_
  refine r_aload_n dX9_need_0 rfl rfl ?_
  refine r_callV 68 [] (s_X9_good1 (g := g) c68 (by first | exact h9 | (show _ = (0 : Int); omega))) dX9_need_1 cs_X9_161 im_X9_isGood (by decide) c68 rfl (by decide) (by decide) (by decide) rfl rfl (Nat.le_of_ble_eq_true rfl) (fun _ _ _ q => q.elim) (fun v n2 h2 q => ?_)
  obtain ⟨rfl, rfl, hh⟩ := q
  obtain rfl := hh.symm
  refine ⟨rfl, ?_⟩
  dsimp only [Option.toList, List.cons_append, List.nil_append]
  refine r_if_ne (tgt := 8) dX9_need_4 (by decide) ⟨by omega, by omega⟩ (fun g4 => ?_) (fun g4 => absurd g4 (by omega))
  refine r_iload_n dX9_need_8 rfl rfl ?_
  refine r_if_eq (tgt := 19) dX9_need_9 (by decide) ⟨by omega, by omega⟩ (fun g9 => absurd g9 (by omega)) (fun g9 => ?_)
  refine r_aload_n dX9_need_12 rfl rfl ?_
  refine r_callV 68 [] (s_X9_steps (g := g) (e := tkE t le e) c68 c72 ht hle htt hB.2.2.2.1 (by show _ = (le : Int); omega) (by show _ = (tkE t le e : Int); omega)) dX9_need_13 cs_X9_165 im_X9_steps (by decide) c68 rfl (by decide) (by decide) (by decide) rfl rfl (Nat.le_of_ble_eq_true rfl) (fun _ _ _ q => q.elim) (fun v n2 h2 q => ?_)
  obtain ⟨rfl, rfl, g4, w4, rfl, rs4, kp4⟩ := q
  refine ⟨rfl, ?_⟩
  dsimp only [Option.toList, List.cons_append, List.nil_append]
  refine r_goto (tgt := 24) dX9_need_16 (by decide) ?_
  refine r_vret dX9_need_24 ?_
  exact ⟨rfl, rfl, g4, w4, rfl, rs4, kp4⟩

theorem s_X9_needF {h : aH} {g : Nat → Int} {w : Int} (c68 : h 68 = RG g w) {trr : Nat → Int} (c72 : h 72 = .inl (0, 700, trr)) {t : Nat → Int} (ht : ∀ j, -128 ≤ t j ∧ t j ≤ 127) {le : Nat} (hle : le ≤ 700) (htt : ∀ j, j < le → trr j = t j % 256) {e : Nat} (rs : RS t le e g w) (h9 : g 9 = 0) : mSem yX9_need cX9_need 2 none 2 0 0 [.ref 68, iv 0] 97 h (RetV (va_up h 68 (RG (va_up (va_up g 9 1) 10 (tkS t le e : Int)) w))) noX := by
  have hB := tk_B t rs.1
  have q12 := rs.2.1
  have q13 := rs.2.2.1
  have q15 := rs.2.2.2.2.1
  refine mSem_of (own := RX9) (name := "need") pn_X9 rfl rfl (Nat.le_of_ble_eq_true rfl) ?_
  refine r_aload_n dX9_need_0 rfl rfl ?_
  refine r_callV 68 [] (s_X9_good1 (g := g) c68 (by first | exact h9 | (show _ = (0 : Int); omega))) dX9_need_1 cs_X9_161 im_X9_isGood (by decide) c68 rfl (by decide) (by decide) (by decide) rfl rfl (Nat.le_of_ble_eq_true rfl) (fun _ _ _ q => q.elim) (fun v n2 h2 q => ?_)
  obtain ⟨rfl, rfl, hh⟩ := q
  obtain rfl := hh.symm
  refine ⟨rfl, ?_⟩
  dsimp only [Option.toList, List.cons_append, List.nil_append]
  refine r_if_ne (tgt := 8) dX9_need_4 (by decide) ⟨by omega, by omega⟩ (fun g4 => ?_) (fun g4 => absurd g4 (by omega))
  refine r_iload_n dX9_need_8 rfl rfl ?_
  refine r_if_eq (tgt := 19) dX9_need_9 (by decide) ⟨by omega, by omega⟩ (fun g9 => ?_) (fun g9 => absurd g9 (by omega))
  refine r_aload_n dX9_need_19 rfl rfl ?_
  refine r_iconst dX9_need_20 ?_
  refine r_callV 68 [_] (s_X9_wrong1 (g := g) c68 h9) dX9_need_21 cs_X9_168 im_X9_wrong (by decide) c68 rfl (by decide) (by decide) (by decide) rfl rfl (Nat.le_of_ble_eq_true rfl) (fun _ _ _ q => q.elim) (fun v n2 h2 q => ?_)
  obtain ⟨rfl, rfl, hh⟩ := q
  obtain rfl := hh.symm
  refine ⟨rfl, ?_⟩
  dsimp only [Option.toList, List.cons_append, List.nil_append]
  refine r_vret dX9_need_24 ?_
  exact ⟨rfl, rfl, by rw [q15]⟩

theorem l_X9_kind {h : aH} {g : Nat → Int} {w : Int} (c68 : h 68 = RG g w) {trr : Nat → Int} (c72 : h 72 = .inl (0, 700, trr)) {t : Nat → Int} (ht : ∀ j, -128 ≤ t j ∧ t j ≤ 127) {le : Nat} (hle : le ≤ 700) (htt : ∀ j, j < le → trr j = t j % 256) {e : Nat} (rs : RS t le e g w) {Q : Option Value → Nat → aH → Prop} {d : Nat} (hd3 : 3 ≤ d) {a1 : Int} : ∀ (n j : Nat), j + n = 6 → Ev RX9 "readsDial" cX9_readsDial 4 none d 0 0 Q noX 97 h 60 [(0, .ref 68), (1, iv a1), (2, iv (kdR t le e 6)), (3, iv 6)] [] → Ev RX9 "readsDial" cX9_readsDial 4 none d 0 0 Q noX 97 h 37 [(0, .ref 68), (1, iv a1), (2, iv (kdR t le e j)), (3, iv (j : Nat))] [] := by
  intro n
  induction n with
  | zero =>
    intro j hj kk
    obtain rfl : j = 6 := by omega
    refine r_iload_n dX9_readsDial_37 rfl rfl ?_
    refine r_iconst dX9_readsDial_38 ?_
    refine r_icmp_gt (tgt := 60) dX9_readsDial_39 (by decide) ⟨by omega, by omega⟩ ⟨by omega, by omega⟩ (fun g39 => ?_) (fun g39 => absurd g39 (by omega))
    exact kk
  | succ n ih =>
    intro j hj kk
    have b3 := b2i_01 (wordAt t le e (j + 1))
    have hw : wIx j = j + 1 := by
      rcases (show j = 0 ∨ j = 1 ∨ j = 2 ∨ j = 3 ∨ j = 4 ∨ j = 5 by omega) with rfl | rfl | rfl | rfl | rfl | rfl <;> rfl
    have hi := ih (j + 1) (by omega) kk
    unfold kdR at hi
    refine r_iload_n dX9_readsDial_37 rfl rfl ?_
    refine r_iconst dX9_readsDial_38 ?_
    refine r_icmp_gt (tgt := 60) dX9_readsDial_39 (by decide) ⟨by omega, by omega⟩ ⟨by omega, by omega⟩ (fun g39 => absurd g39 (by omega)) (fun g39 => ?_)
    refine r_aload_n dX9_readsDial_42 rfl rfl ?_
    refine r_iconst dX9_readsDial_43 ?_
    refine r_iload_n dX9_readsDial_44 rfl rfl ?_
    refine r_iadd dX9_readsDial_45 ?_
    refine r_callV 68 [_] (s_X9_is (g := g) (k := j) c68 c72 ht hle htt rs (by omega) (by omega)) dX9_readsDial_46 cs_X9_178 im_X9_is (by decide) c68 rfl (by omega) (by decide) (by decide) rfl rfl (Nat.le_of_ble_eq_true rfl) (fun _ _ _ q => q.elim) (fun v n2 h2 q => ?_)
    obtain ⟨rfl, rfl, hh⟩ := q
    obtain rfl := hh.symm
    refine ⟨rfl, ?_⟩
    dsimp only [Option.toList, List.cons_append, List.nil_append]
    rw [hw]
    refine r_if_eq (tgt := 54) dX9_readsDial_49 (by decide) ⟨by omega, by omega⟩ (fun g49 => ?_) (fun g49 => ?_)
    · refine r_iinc (lv2 := [(0, _), (1, _), (2, _), (3, _)]) dX9_readsDial_54 (by decide) rfl rfl rfl ?_
      refine r_goto (tgt := 37) dX9_readsDial_57 (by decide) ?_
      rw [show (j : Int) + 1 = ((j + 1 : Nat) : Int) by omega]
      rw [b2i_0] at g49
      rw [if_neg (by rw [g49]; decide)] at hi
      exact hi
    · refine r_iload_n dX9_readsDial_52 rfl rfl ?_
      refine r_istore_n (lv2 := [(0, _), (1, _), (2, _), (3, _)]) dX9_readsDial_53 rfl (by decide) rfl rfl ?_
      refine r_iinc (lv2 := [(0, _), (1, _), (2, _), (3, _)]) dX9_readsDial_54 (by decide) rfl rfl rfl ?_
      refine r_goto (tgt := 37) dX9_readsDial_57 (by decide) ?_
      rw [show (j : Int) + 1 = ((j + 1 : Nat) : Int) by omega]
      rw [b2i_0, Bool.not_eq_false] at g49
      rw [if_pos g49] at hi
      exact hi

theorem s_X9_readsDial {h : aH} {g : Nat → Int} {w : Int} (c68 : h 68 = RG g w) {trr : Nat → Int} (c72 : h 72 = .inl (0, 700, trr)) {nD nC nL : Nat → Int} (c74 : h 74 = .inl (0, 45, nD)) (c75 : h 75 = .inl (0, 60, nC)) (c76 : h 76 = .inl (0, 12, nL)) {t : Nat → Int} (ht : ∀ j, -128 ≤ t j ∧ t j ≤ 127) {le : Nat} (hle : le ≤ 700) (htt : ∀ j, j < le → trr j = t j % 256) {e : Nat} (rs : RS t le e g w) (h9 : g 9 = 0) {nd sw nc hl hs : Int} {K U I O G L cf ct fc nx cd : Nat → Int} (pr : PRel nD nC nL g ((nd, sw, nc), (hl, hs), K, U, I, O, G, L, cf, ct, fc, nx, cd))  : mSem yX9_readsDial cX9_readsDial 4 none 4 0 0 [.ref 68] 97 h (LnQ t le h g (pDial t le ((nd, sw, nc), (hl, hs), K, U, I, O, G, L, cf, ct, fc, nx, cd) e)) noX := by
  obtain ⟨p20, p21, p22, p23, p24, pnd, pnc, phl, phs, pdl, pcl, plm⟩ := id pr
  have kq : ∀ k, ¬ (13 ≤ k ∧ k ≤ 18) → g k = g k := fun _ _ => rfl
  refine mSem_of (own := RX9) (name := "readsDial") pn_X9 rfl rfl (Nat.le_of_ble_eq_true rfl) ?_
  refine r_aload_n dX9_readsDial_0 rfl rfl ?_
  refine r_getR (z := (g 20)) dX9_readsDial_1 fl_X9_175 (by decide) c68 rfl ?_
  refine r_bipush dX9_readsDial_4 rfl ?_
  refine r_icmp_ne (tgt := 14) dX9_readsDial_6 (by decide) ⟨by omega, by omega⟩ ⟨by omega, by omega⟩ (fun g6 => ?_) (fun g6 => ?_)
  · refine r_aload_n dX9_readsDial_14 rfl rfl ?_
    refine r_callV 68 [] (s_X9_good1 (g := g) c68 ((kq 9 (by decide)).trans h9)) dX9_readsDial_15 cs_X9_161 im_X9_isGood (by decide) c68 rfl (by decide) (by decide) (by decide) rfl rfl (Nat.le_of_ble_eq_true rfl) (fun _ _ _ q => q.elim) (fun v n2 h2 q => ?_)
    obtain ⟨rfl, rfl, hh⟩ := q
    obtain rfl := hh.symm
    refine ⟨rfl, ?_⟩
    dsimp only [Option.toList, List.cons_append, List.nil_append]
    refine r_if_ne (tgt := 22) dX9_readsDial_18 (by decide) ⟨by omega, by omega⟩ (fun g18 => ?_) (fun g18 => absurd g18 (by omega))
    refine r_aload_n dX9_readsDial_22 rfl rfl ?_
    refine r_callV 68 [] (s_X9_steps (g := g) (e := tkE t le e) c68 c72 ht hle htt (tk_B t rs.1).2.2.2.1 rs.2.1 rs.2.2.1) dX9_readsDial_23 cs_X9_165 im_X9_steps (by decide) c68 rfl (by decide) (by decide) (by decide) rfl rfl (Nat.le_of_ble_eq_true rfl) (fun _ _ _ q => q.elim) (fun v n2 h2 q => ?_)
    obtain ⟨rfl, rfl, g23, w23, rfl, rs23, kp23⟩ := q
    have rs := rs23
    have kq := fun k hk => (kp23 k hk).trans (kq k hk)
    refine ⟨rfl, ?_⟩
    dsimp only [Option.toList, List.cons_append, List.nil_append]
    refine r_iconst dX9_readsDial_26 ?_
    refine r_aload_n dX9_readsDial_27 rfl rfl ?_
    refine r_getR (z := (g23 20)) dX9_readsDial_28 fl_X9_175 (by decide) rfl rfl ?_
    refine r_imul dX9_readsDial_31 ?_
    rw [(kq 20 (by decide)).trans p20]
    refine r_istore_n (lv2 := [(0, _), (1, _)]) dX9_readsDial_32 rfl (by decide) rfl rfl ?_
    refine r_iconst dX9_readsDial_33 ?_
    refine r_istore_n (lv2 := [(0, _), (1, _), (2, _)]) dX9_readsDial_34 rfl (by decide) rfl rfl ?_
    refine r_iconst dX9_readsDial_35 ?_
    refine r_istore_n (lv2 := [(0, _), (1, _), (2, _), (3, _)]) dX9_readsDial_36 rfl (by decide) rfl rfl ?_
    refine l_X9_kind (g := g23) (by rfl) (by exact c72) ht hle htt rs (by decide) 6 0 (by decide) ?_
    rw [kd_kind]
    have bk := kind_B t le (tkE t le e)
    refine r_aload_n dX9_readsDial_60 rfl rfl ?_
    refine r_iload_n dX9_readsDial_61 rfl rfl ?_
    refine r_iconst dX9_readsDial_62 ?_
    refine r_icmp_eq (tgt := 70) dX9_readsDial_63 (by decide) ⟨by omega, by omega⟩ ⟨by omega, by omega⟩ (fun g63 => ?_) (fun g63 => ?_)
    · refine r_iconst dX9_readsDial_70 ?_
      refine r_callV 68 [_] (s_X9_needF (g := g23) (by rfl) (by exact c72) ht hle htt rs ((kq 9 (by decide)).trans h9)) dX9_readsDial_71 cs_X9_181 im_X9_need (by decide) rfl rfl (by decide) (by decide) (by decide) rfl rfl (Nat.le_of_ble_eq_true rfl) (fun _ _ _ q => q.elim) (fun v n2 h2 q => ?_)
      obtain ⟨rfl, rfl, hh⟩ := q
      obtain rfl := hh.symm
      have b9 : 1 ≤ (va_up (va_up g23 9 1) 10 (tkS t le (tkE t le e) : Int)) 9 ∧ (va_up (va_up g23 9 1) 10 (tkS t le (tkE t le e) : Int)) 9 ≤ 9 := ⟨by show (1 : Int) ≤ 1; decide, by show (1 : Int) ≤ 9; decide⟩
      have kb : ∀ k, ¬ (9 ≤ k ∧ k ≤ 10) → ¬ (13 ≤ k ∧ k ≤ 18) → (va_up (va_up g23 9 1) 10 (tkS t le (tkE t le e) : Int)) k = g k := fun k h1 h2 => by rw [va_up_ne _ _ (by omega), va_up_ne _ _ (by omega)]; exact kq k h2
      refine ⟨rfl, ?_⟩
      dsimp only [Option.toList, List.cons_append, List.nil_append]
      refine r_aload_n dX9_readsDial_74 rfl rfl ?_
      refine r_get (fs := RGL _ _) dX9_readsDial_75 fl_X9_32 (by decide) rfl rfl ?_
      refine r_iload_n dX9_readsDial_78 rfl rfl ?_
      refine r_iload_n dX9_readsDial_79 rfl rfl ?_
      refine r_ast dX9_readsDial_80 (by decide) c74 (by omega) (by omega) (by decide) ?_
      refine r_aload_n dX9_readsDial_81 rfl rfl ?_
      refine r_get (fs := RGL _ _) dX9_readsDial_82 fl_X9_32 (by decide) rfl rfl ?_
      refine r_iload_n dX9_readsDial_85 rfl rfl ?_
      refine r_iconst dX9_readsDial_86 ?_
      refine r_iadd dX9_readsDial_87 ?_
      refine r_aload_n dX9_readsDial_88 rfl rfl ?_
      refine r_bipush dX9_readsDial_89 rfl ?_
      refine r_callV 68 [_] (s_X9_signed0 (g := (va_up (va_up g23 9 1) 10 (tkS t le (tkE t le e) : Int))) (by rfl) b9) dX9_readsDial_91 cs_X9_185 im_X9_signed (by decide) rfl rfl (by decide) (by decide) (by decide) rfl rfl (Nat.le_of_ble_eq_true rfl) (fun _ _ _ q => q.elim) (fun v n2 h2 q => ?_)
      obtain ⟨rfl, rfl, hh⟩ := q
      obtain rfl := hh.symm
      refine ⟨rfl, ?_⟩
      dsimp only [Option.toList, List.cons_append, List.nil_append]
      refine r_ast dX9_readsDial_94 (by decide) rfl (by omega) (by omega) (by decide) ?_
      refine r_aload_n dX9_readsDial_95 rfl rfl ?_
      refine r_get (fs := RGL _ _) dX9_readsDial_96 fl_X9_32 (by decide) rfl rfl ?_
      refine r_iload_n dX9_readsDial_99 rfl rfl ?_
      refine r_iconst dX9_readsDial_100 ?_
      refine r_iadd dX9_readsDial_101 ?_
      refine r_aload_n dX9_readsDial_102 rfl rfl ?_
      refine r_bipush dX9_readsDial_103 rfl ?_
      refine r_callV 68 [_] (s_X9_signed0 (g := (va_up (va_up g23 9 1) 10 (tkS t le (tkE t le e) : Int))) (by rfl) b9) dX9_readsDial_105 cs_X9_185 im_X9_signed (by decide) rfl rfl (by decide) (by decide) (by decide) rfl rfl (Nat.le_of_ble_eq_true rfl) (fun _ _ _ q => q.elim) (fun v n2 h2 q => ?_)
      obtain ⟨rfl, rfl, hh⟩ := q
      obtain rfl := hh.symm
      refine ⟨rfl, ?_⟩
      dsimp only [Option.toList, List.cons_append, List.nil_append]
      refine r_ast dX9_readsDial_108 (by decide) rfl (by omega) (by omega) (by decide) ?_
      refine r_aload_n dX9_readsDial_109 rfl rfl ?_
      refine r_get (fs := RGL _ _) dX9_readsDial_110 fl_X9_32 (by decide) rfl rfl ?_
      refine r_iload_n dX9_readsDial_113 rfl rfl ?_
      refine r_iconst dX9_readsDial_114 ?_
      refine r_iadd dX9_readsDial_115 ?_
      refine r_aload_n dX9_readsDial_116 rfl rfl ?_
      refine r_bipush dX9_readsDial_117 rfl ?_
      refine r_callV 68 [_] (s_X9_signed0 (g := (va_up (va_up g23 9 1) 10 (tkS t le (tkE t le e) : Int))) (by rfl) b9) dX9_readsDial_119 cs_X9_185 im_X9_signed (by decide) rfl rfl (by decide) (by decide) (by decide) rfl rfl (Nat.le_of_ble_eq_true rfl) (fun _ _ _ q => q.elim) (fun v n2 h2 q => ?_)
      obtain ⟨rfl, rfl, hh⟩ := q
      obtain rfl := hh.symm
      refine ⟨rfl, ?_⟩
      dsimp only [Option.toList, List.cons_append, List.nil_append]
      refine r_ast dX9_readsDial_122 (by decide) rfl (by omega) (by omega) (by decide) ?_
      refine r_aload_n dX9_readsDial_123 rfl rfl ?_
      refine r_get (fs := RGL _ _) dX9_readsDial_124 fl_X9_32 (by decide) rfl rfl ?_
      refine r_iload_n dX9_readsDial_127 rfl rfl ?_
      refine r_iconst dX9_readsDial_128 ?_
      refine r_iadd dX9_readsDial_129 ?_
      refine r_iconst dX9_readsDial_130 ?_
      refine r_ast dX9_readsDial_131 (by decide) rfl (by omega) (by omega) (by decide) ?_
      refine r_aload_n dX9_readsDial_132 rfl rfl ?_
      refine r_callV 68 [] (s_X9_good0 (g := (va_up (va_up g23 9 1) 10 (tkS t le (tkE t le e) : Int))) (by rfl) b9) dX9_readsDial_133 cs_X9_161 im_X9_isGood (by decide) rfl rfl (by decide) (by decide) (by decide) rfl rfl (Nat.le_of_ble_eq_true rfl) (fun _ _ _ q => q.elim) (fun v n2 h2 q => ?_)
      obtain ⟨rfl, rfl, hh⟩ := q
      obtain rfl := hh.symm
      refine ⟨rfl, ?_⟩
      dsimp only [Option.toList, List.cons_append, List.nil_append]
      refine r_if_eq (tgt := 168) dX9_readsDial_136 (by decide) ⟨by omega, by omega⟩ (fun g136 => ?_) (fun g136 => absurd g136 (by omega))
      refine r_aload_n dX9_readsDial_168 rfl rfl ?_
      refine r_callV 68 [] (s_X9_good0 (g := (va_up (va_up g23 9 1) 10 (tkS t le (tkE t le e) : Int))) (by rfl) b9) dX9_readsDial_169 cs_X9_161 im_X9_isGood (by decide) rfl rfl (by decide) (by decide) (by decide) rfl rfl (Nat.le_of_ble_eq_true rfl) (fun _ _ _ q => q.elim) (fun v n2 h2 q => ?_)
      obtain ⟨rfl, rfl, hh⟩ := q
      obtain rfl := hh.symm
      refine ⟨rfl, ?_⟩
      dsimp only [Option.toList, List.cons_append, List.nil_append]
      refine r_if_eq (tgt := 185) dX9_readsDial_172 (by decide) ⟨by omega, by omega⟩ (fun g172 => ?_) (fun g172 => absurd g172 (by omega))
      refine r_vret dX9_readsDial_185 ?_
      exact ⟨rfl, rfl, _, _, _, nC, nL, (vt_mk rfl rfl (by exact c75) (by exact c76) (fun j a b c d => by simp only [va_up, a, b, c, d, if_false])), Or.inr ⟨1, tkS t le (tkE t le e), by show (if 9 ≤ nd then _ else _) = _; rw [if_neg (by omega), if_pos (by omega)], by decide, rfl, rfl⟩, fun k h1 h2 h3 => kb k h1 h2⟩
    · refine r_iconst dX9_readsDial_66 ?_
      refine r_goto (tgt := 71) dX9_readsDial_67 (by decide) ?_
      refine r_callV 68 [_] (s_X9_needT (g := g23) (by rfl) (by exact c72) ht hle htt rs ((kq 9 (by decide)).trans h9)) dX9_readsDial_71 cs_X9_181 im_X9_need (by decide) rfl rfl (by decide) (by decide) (by decide) rfl rfl (Nat.le_of_ble_eq_true rfl) (fun _ _ _ q => q.elim) (fun v n2 h2 q => ?_)
      obtain ⟨rfl, rfl, g71, w71, rfl, rs71, kp71⟩ := q
      have rs := rs71
      have kq := fun k hk => (kp71 k hk).trans (kq k hk)
      refine ⟨rfl, ?_⟩
      dsimp only [Option.toList, List.cons_append, List.nil_append]
      refine r_aload_n dX9_readsDial_74 rfl rfl ?_
      refine r_get (fs := RGL _ _) dX9_readsDial_75 fl_X9_32 (by decide) rfl rfl ?_
      refine r_iload_n dX9_readsDial_78 rfl rfl ?_
      refine r_iload_n dX9_readsDial_79 rfl rfl ?_
      refine r_ast dX9_readsDial_80 (by decide) c74 (by omega) (by omega) (by decide) ?_
      refine r_aload_n dX9_readsDial_81 rfl rfl ?_
      refine r_get (fs := RGL _ _) dX9_readsDial_82 fl_X9_32 (by decide) rfl rfl ?_
      refine r_iload_n dX9_readsDial_85 rfl rfl ?_
      refine r_iconst dX9_readsDial_86 ?_
      refine r_iadd dX9_readsDial_87 ?_
      refine r_aload_n dX9_readsDial_88 rfl rfl ?_
      refine r_bipush dX9_readsDial_89 rfl ?_
      refine r_callV 68 [_] (s_X9_signed (g := g71) (by rfl) (by exact c72) ht hle htt rs ((kq 9 (by decide)).trans h9) ⟨by decide, by decide⟩) dX9_readsDial_91 cs_X9_185 im_X9_signed (by decide) rfl rfl (by decide) (by decide) (by decide) rfl rfl (Nat.le_of_ble_eq_true rfl) (fun _ _ _ q => q.elim) (fun v n2 h2 q => ?_)
      obtain ⟨rfl, z91, g91, w91, rfl, rfl, hr91⟩ := q
      rcases hr91 with ⟨e91, hr91, rs91, kp91⟩ | ⟨f91, p91, hr91, hf91, nf91, np91, kp91⟩
      · have rs := rs91
        have kq := fun k hk => (kp91 k hk).trans (kq k hk)
        refine ⟨rfl, ?_⟩
        dsimp only [Option.toList, List.cons_append, List.nil_append]
        refine r_ast dX9_readsDial_94 (by decide) rfl (by omega) (by omega) (by decide) ?_
        refine r_aload_n dX9_readsDial_95 rfl rfl ?_
        refine r_get (fs := RGL _ _) dX9_readsDial_96 fl_X9_32 (by decide) rfl rfl ?_
        refine r_iload_n dX9_readsDial_99 rfl rfl ?_
        refine r_iconst dX9_readsDial_100 ?_
        refine r_iadd dX9_readsDial_101 ?_
        refine r_aload_n dX9_readsDial_102 rfl rfl ?_
        refine r_bipush dX9_readsDial_103 rfl ?_
        refine r_callV 68 [_] (s_X9_signed (g := g91) (by rfl) (by exact c72) ht hle htt rs ((kq 9 (by decide)).trans h9) ⟨by decide, by decide⟩) dX9_readsDial_105 cs_X9_185 im_X9_signed (by decide) rfl rfl (by decide) (by decide) (by decide) rfl rfl (Nat.le_of_ble_eq_true rfl) (fun _ _ _ q => q.elim) (fun v n2 h2 q => ?_)
        obtain ⟨rfl, z105, g105, w105, rfl, rfl, hr105⟩ := q
        rcases hr105 with ⟨e105, hr105, rs105, kp105⟩ | ⟨f105, p105, hr105, hf105, nf105, np105, kp105⟩
        · have rs := rs105
          have kq := fun k hk => (kp105 k hk).trans (kq k hk)
          refine ⟨rfl, ?_⟩
          dsimp only [Option.toList, List.cons_append, List.nil_append]
          refine r_ast dX9_readsDial_108 (by decide) rfl (by omega) (by omega) (by decide) ?_
          refine r_aload_n dX9_readsDial_109 rfl rfl ?_
          refine r_get (fs := RGL _ _) dX9_readsDial_110 fl_X9_32 (by decide) rfl rfl ?_
          refine r_iload_n dX9_readsDial_113 rfl rfl ?_
          refine r_iconst dX9_readsDial_114 ?_
          refine r_iadd dX9_readsDial_115 ?_
          refine r_aload_n dX9_readsDial_116 rfl rfl ?_
          refine r_bipush dX9_readsDial_117 rfl ?_
          refine r_callV 68 [_] (s_X9_signed (g := g105) (by rfl) (by exact c72) ht hle htt rs ((kq 9 (by decide)).trans h9) ⟨by decide, by decide⟩) dX9_readsDial_119 cs_X9_185 im_X9_signed (by decide) rfl rfl (by decide) (by decide) (by decide) rfl rfl (Nat.le_of_ble_eq_true rfl) (fun _ _ _ q => q.elim) (fun v n2 h2 q => ?_)
          obtain ⟨rfl, z119, g119, w119, rfl, rfl, hr119⟩ := q
          rcases hr119 with ⟨e119, hr119, rs119, kp119⟩ | ⟨f119, p119, hr119, hf119, nf119, np119, kp119⟩
          · have rs := rs119
            have kq := fun k hk => (kp119 k hk).trans (kq k hk)
            refine ⟨rfl, ?_⟩
            dsimp only [Option.toList, List.cons_append, List.nil_append]
            refine r_ast dX9_readsDial_122 (by decide) rfl (by omega) (by omega) (by decide) ?_
            refine r_aload_n dX9_readsDial_123 rfl rfl ?_
            refine r_get (fs := RGL _ _) dX9_readsDial_124 fl_X9_32 (by decide) rfl rfl ?_
            refine r_iload_n dX9_readsDial_127 rfl rfl ?_
            refine r_iconst dX9_readsDial_128 ?_
            refine r_iadd dX9_readsDial_129 ?_
            refine r_iconst dX9_readsDial_130 ?_
            refine r_ast dX9_readsDial_131 (by decide) rfl (by omega) (by omega) (by decide) ?_
            refine r_aload_n dX9_readsDial_132 rfl rfl ?_
            refine r_callV 68 [] (s_X9_good1 (g := g119) (by rfl) ((kq 9 (by decide)).trans h9)) dX9_readsDial_133 cs_X9_161 im_X9_isGood (by decide) rfl rfl (by decide) (by decide) (by decide) rfl rfl (Nat.le_of_ble_eq_true rfl) (fun _ _ _ q => q.elim) (fun v n2 h2 q => ?_)
            obtain ⟨rfl, rfl, hh⟩ := q
            obtain rfl := hh.symm
            refine ⟨rfl, ?_⟩
            dsimp only [Option.toList, List.cons_append, List.nil_append]
            refine r_if_eq (tgt := 168) dX9_readsDial_136 (by decide) ⟨by omega, by omega⟩ (fun g136 => absurd g136 (by omega)) (fun g136 => ?_)
            refine r_aload_n dX9_readsDial_139 rfl rfl ?_
            refine r_bipush dX9_readsDial_140 rfl ?_
            refine r_callV 68 [_] (s_X9_is (g := g119) (k := 7) (by rfl) (by exact c72) ht hle htt rs (by decide) (by decide)) dX9_readsDial_142 cs_X9_178 im_X9_is (by decide) rfl rfl (by decide) (by decide) (by decide) rfl rfl (Nat.le_of_ble_eq_true rfl) (fun _ _ _ q => q.elim) (fun v n2 h2 q => ?_)
            obtain ⟨rfl, rfl, hh⟩ := q
            obtain rfl := hh.symm
            refine ⟨rfl, ?_⟩
            dsimp only [Option.toList, List.cons_append, List.nil_append]
            rw [show wIx 7 = 7 from rfl]
            have b7 := b2i_01 (wordAt t le e119 7)
            refine r_if_eq (tgt := 168) dX9_readsDial_145 (by decide) ⟨by omega, by omega⟩ (fun g145 => ?_) (fun g145 => ?_)
            · rw [b2i_0] at g145
              refine r_aload_n dX9_readsDial_168 rfl rfl ?_
              refine r_callV 68 [] (s_X9_good1 (g := g119) (by rfl) ((kq 9 (by decide)).trans h9)) dX9_readsDial_169 cs_X9_161 im_X9_isGood (by decide) rfl rfl (by decide) (by decide) (by decide) rfl rfl (Nat.le_of_ble_eq_true rfl) (fun _ _ _ q => q.elim) (fun v n2 h2 q => ?_)
              obtain ⟨rfl, rfl, hh⟩ := q
              obtain rfl := hh.symm
              refine ⟨rfl, ?_⟩
              dsimp only [Option.toList, List.cons_append, List.nil_append]
              refine r_if_eq (tgt := 185) dX9_readsDial_172 (by decide) ⟨by omega, by omega⟩ (fun g172 => absurd g172 (by omega)) (fun g172 => ?_)
              have q20 := (kq 20 (by decide)).trans p20
              refine r_aload_n dX9_readsDial_175 rfl rfl ?_
              refine r_dup dX9_readsDial_176 rfl ?_
              refine r_getR (z := (g119 20)) dX9_readsDial_177 fl_X9_175 (by decide) rfl rfl ?_
              refine r_iconst dX9_readsDial_180 ?_
              refine r_iadd dX9_readsDial_181 ?_
              refine r_putR dX9_readsDial_182 fp_X9_175 (by decide) rfl (nar_int _) (Nat.le_of_ble_eq_true rfl) setR_20 (fun z0 hz0 => ?_)
              refine r_vret dX9_readsDial_185 ?_
              have hdl : DlR (nd + 1) _ _ _ _ _ _ := dl_up pdl pnd.1 (kindI t le (tkE t le e)) z91 z105 z119 (-1)
              exact ⟨rfl, rfl, _, _, _, nC, nL, (vt_mk rfl rfl (by exact c75) (by exact c76) (fun j a b c d => by simp only [va_up, a, b, c, d, if_false])), Or.inl ⟨((nd + 1, sw, nc), (hl, hs), va_up K nd.toNat (kindI t le (tkE t le e)), va_up U nd.toNat z91, va_up I nd.toNat z105, va_up O nd.toNat z119, va_up G nd.toNat (-1), L, cf, ct, fc, nx, cd), e119, by show (if 9 ≤ nd then _ else _) = _; rw [if_neg (by omega), if_neg (by omega), hr91]; dsimp only; rw [hr105]; dsimp only; rw [hr119]; dsimp only [pGrown]; rw [if_neg (by rw [g145]; decide)], RS_kp rs (fun k hk => va_up_ne _ _ (by omega)), ((kq 9 (by decide)).trans h9), kq 10 (by decide), ⟨by show z0 = nd + 1; omega, (kq 21 (by decide)).trans p21, (kq 22 (by decide)).trans p22, (kq 23 (by decide)).trans p23, (kq 24 (by decide)).trans p24, ⟨by omega, by omega⟩, pnc, phl, phs, (by first | exact hdl | (simp only [bx_uu]; exact hdl)), pcl, plm⟩⟩, fun k h1 h2 h3 => by rw [va_up_ne _ _ (by omega)]; exact kq k h2⟩
            · rw [b2i_0, Bool.not_eq_false] at g145
              refine r_aload_n dX9_readsDial_148 rfl rfl ?_
              refine r_callV 68 [] (s_X9_steps (g := g119) (e := tkE t le e119) (by rfl) (by exact c72) ht hle htt (tk_B t rs.1).2.2.2.1 rs.2.1 rs.2.2.1) dX9_readsDial_149 cs_X9_165 im_X9_steps (by decide) rfl rfl (by decide) (by decide) (by decide) rfl rfl (Nat.le_of_ble_eq_true rfl) (fun _ _ _ q => q.elim) (fun v n2 h2 q => ?_)
              obtain ⟨rfl, rfl, g149, w149, rfl, rs149, kp149⟩ := q
              have rs := rs149
              have kq := fun k hk => (kp149 k hk).trans (kq k hk)
              refine ⟨rfl, ?_⟩
              dsimp only [Option.toList, List.cons_append, List.nil_append]
              refine r_aload_n dX9_readsDial_152 rfl rfl ?_
              refine r_get (fs := RGL _ _) dX9_readsDial_153 fl_X9_32 (by decide) rfl rfl ?_
              refine r_iload_n dX9_readsDial_156 rfl rfl ?_
              refine r_iconst dX9_readsDial_157 ?_
              refine r_iadd dX9_readsDial_158 ?_
              refine r_aload_n dX9_readsDial_159 rfl rfl ?_
              refine r_iconst dX9_readsDial_160 ?_
              refine r_sipush dX9_readsDial_161 rfl ?_
              refine r_callV 68 [_, _] (s_X9_number (g := g149) (by rfl) (by exact c72) ht hle htt rs ((kq 9 (by decide)).trans h9) ⟨by decide, by decide⟩ ⟨by decide, by decide⟩) dX9_readsDial_164 cs_X9_171 im_X9_number (by decide) rfl rfl (by decide) (by decide) (by decide) rfl rfl (Nat.le_of_ble_eq_true rfl) (fun _ _ _ q => q.elim) (fun v n2 h2 q => ?_)
              obtain ⟨rfl, z164, g164, w164, rfl, rfl, hr164⟩ := q
              rcases hr164 with ⟨e164, hr164, rs164, kp164⟩ | ⟨f164, p164, hr164, hf164, nf164, np164, kp164⟩
              · have rs := rs164
                have kq := fun k hk => (kp164 k hk).trans (kq k hk)
                refine ⟨rfl, ?_⟩
                dsimp only [Option.toList, List.cons_append, List.nil_append]
                refine r_ast dX9_readsDial_167 (by decide) rfl (by omega) (by omega) (by decide) ?_
                refine r_aload_n dX9_readsDial_168 rfl rfl ?_
                refine r_callV 68 [] (s_X9_good1 (g := g164) (by rfl) ((kq 9 (by decide)).trans h9)) dX9_readsDial_169 cs_X9_161 im_X9_isGood (by decide) rfl rfl (by decide) (by decide) (by decide) rfl rfl (Nat.le_of_ble_eq_true rfl) (fun _ _ _ q => q.elim) (fun v n2 h2 q => ?_)
                obtain ⟨rfl, rfl, hh⟩ := q
                obtain rfl := hh.symm
                refine ⟨rfl, ?_⟩
                dsimp only [Option.toList, List.cons_append, List.nil_append]
                refine r_if_eq (tgt := 185) dX9_readsDial_172 (by decide) ⟨by omega, by omega⟩ (fun g172 => absurd g172 (by omega)) (fun g172 => ?_)
                have q20 := (kq 20 (by decide)).trans p20
                refine r_aload_n dX9_readsDial_175 rfl rfl ?_
                refine r_dup dX9_readsDial_176 rfl ?_
                refine r_getR (z := (g164 20)) dX9_readsDial_177 fl_X9_175 (by decide) rfl rfl ?_
                refine r_iconst dX9_readsDial_180 ?_
                refine r_iadd dX9_readsDial_181 ?_
                refine r_putR dX9_readsDial_182 fp_X9_175 (by decide) rfl (nar_int _) (Nat.le_of_ble_eq_true rfl) setR_20 (fun z0 hz0 => ?_)
                refine r_vret dX9_readsDial_185 ?_
                have hdl : DlR (nd + 1) _ _ _ _ _ _ := dl_up pdl pnd.1 (kindI t le (tkE t le e)) z91 z105 z119 z164
                exact ⟨rfl, rfl, _, _, _, nC, nL, (vt_mk rfl rfl (by exact c75) (by exact c76) (fun j a b c d => by simp only [va_up, a, b, c, d, if_false])), Or.inl ⟨((nd + 1, sw, nc), (hl, hs), va_up K nd.toNat (kindI t le (tkE t le e)), va_up U nd.toNat z91, va_up I nd.toNat z105, va_up O nd.toNat z119, va_up G nd.toNat z164, L, cf, ct, fc, nx, cd), e164, by show (if 9 ≤ nd then _ else _) = _; rw [if_neg (by omega), if_neg (by omega), hr91]; dsimp only; rw [hr105]; dsimp only; rw [hr119]; dsimp only [pGrown]; rw [if_pos g145, hr164], RS_kp rs (fun k hk => va_up_ne _ _ (by omega)), ((kq 9 (by decide)).trans h9), kq 10 (by decide), ⟨by show z0 = nd + 1; omega, (kq 21 (by decide)).trans p21, (kq 22 (by decide)).trans p22, (kq 23 (by decide)).trans p23, (kq 24 (by decide)).trans p24, ⟨by omega, by omega⟩, pnc, phl, phs, (by first | exact hdl | (simp only [bx_uu]; exact hdl)), pcl, plm⟩⟩, fun k h1 h2 h3 => by rw [va_up_ne _ _ (by omega)]; exact kq k h2⟩
              · have kb : ∀ k, ¬ (9 ≤ k ∧ k ≤ 10) → ¬ (13 ≤ k ∧ k ≤ 18) → g164 k = g k := fun k h1 h2 => (kp164 k h1 h2).trans (kq k h2)
                have b9 : 1 ≤ g164 9 ∧ g164 9 ≤ 9 := by omega
                have bp : g164 10 = (p164 : Int) := np164
                refine ⟨rfl, ?_⟩
                dsimp only [Option.toList, List.cons_append, List.nil_append]
                refine r_ast dX9_readsDial_167 (by decide) rfl (by omega) (by omega) (by decide) ?_
                refine r_aload_n dX9_readsDial_168 rfl rfl ?_
                refine r_callV 68 [] (s_X9_good0 (g := g164) (by rfl) b9) dX9_readsDial_169 cs_X9_161 im_X9_isGood (by decide) rfl rfl (by decide) (by decide) (by decide) rfl rfl (Nat.le_of_ble_eq_true rfl) (fun _ _ _ q => q.elim) (fun v n2 h2 q => ?_)
                obtain ⟨rfl, rfl, hh⟩ := q
                obtain rfl := hh.symm
                refine ⟨rfl, ?_⟩
                dsimp only [Option.toList, List.cons_append, List.nil_append]
                refine r_if_eq (tgt := 185) dX9_readsDial_172 (by decide) ⟨by omega, by omega⟩ (fun g172 => ?_) (fun g172 => absurd g172 (by omega))
                refine r_vret dX9_readsDial_185 ?_
                exact ⟨rfl, rfl, _, _, _, nC, nL, (vt_mk rfl rfl (by exact c75) (by exact c76) (fun j a b c d => by simp only [va_up, a, b, c, d, if_false])), Or.inr ⟨f164, p164, by show (if 9 ≤ nd then _ else _) = _; rw [if_neg (by omega), if_neg (by omega), hr91]; dsimp only; rw [hr105]; dsimp only; rw [hr119]; dsimp only [pGrown]; rw [if_pos g145, hr164], by omega, nf164, bp⟩, fun k h1 h2 h3 => kb k h1 h2⟩
          · have kb : ∀ k, ¬ (9 ≤ k ∧ k ≤ 10) → ¬ (13 ≤ k ∧ k ≤ 18) → g119 k = g k := fun k h1 h2 => (kp119 k h1 h2).trans (kq k h2)
            have b9 : 1 ≤ g119 9 ∧ g119 9 ≤ 9 := by omega
            have bp : g119 10 = (p119 : Int) := np119
            refine ⟨rfl, ?_⟩
            dsimp only [Option.toList, List.cons_append, List.nil_append]
            refine r_ast dX9_readsDial_122 (by decide) rfl (by omega) (by omega) (by decide) ?_
            refine r_aload_n dX9_readsDial_123 rfl rfl ?_
            refine r_get (fs := RGL _ _) dX9_readsDial_124 fl_X9_32 (by decide) rfl rfl ?_
            refine r_iload_n dX9_readsDial_127 rfl rfl ?_
            refine r_iconst dX9_readsDial_128 ?_
            refine r_iadd dX9_readsDial_129 ?_
            refine r_iconst dX9_readsDial_130 ?_
            refine r_ast dX9_readsDial_131 (by decide) rfl (by omega) (by omega) (by decide) ?_
            refine r_aload_n dX9_readsDial_132 rfl rfl ?_
            refine r_callV 68 [] (s_X9_good0 (g := g119) (by rfl) b9) dX9_readsDial_133 cs_X9_161 im_X9_isGood (by decide) rfl rfl (by decide) (by decide) (by decide) rfl rfl (Nat.le_of_ble_eq_true rfl) (fun _ _ _ q => q.elim) (fun v n2 h2 q => ?_)
            obtain ⟨rfl, rfl, hh⟩ := q
            obtain rfl := hh.symm
            refine ⟨rfl, ?_⟩
            dsimp only [Option.toList, List.cons_append, List.nil_append]
            refine r_if_eq (tgt := 168) dX9_readsDial_136 (by decide) ⟨by omega, by omega⟩ (fun g136 => ?_) (fun g136 => absurd g136 (by omega))
            refine r_aload_n dX9_readsDial_168 rfl rfl ?_
            refine r_callV 68 [] (s_X9_good0 (g := g119) (by rfl) b9) dX9_readsDial_169 cs_X9_161 im_X9_isGood (by decide) rfl rfl (by decide) (by decide) (by decide) rfl rfl (Nat.le_of_ble_eq_true rfl) (fun _ _ _ q => q.elim) (fun v n2 h2 q => ?_)
            obtain ⟨rfl, rfl, hh⟩ := q
            obtain rfl := hh.symm
            refine ⟨rfl, ?_⟩
            dsimp only [Option.toList, List.cons_append, List.nil_append]
            refine r_if_eq (tgt := 185) dX9_readsDial_172 (by decide) ⟨by omega, by omega⟩ (fun g172 => ?_) (fun g172 => absurd g172 (by omega))
            refine r_vret dX9_readsDial_185 ?_
            exact ⟨rfl, rfl, _, _, _, nC, nL, (vt_mk rfl rfl (by exact c75) (by exact c76) (fun j a b c d => by simp only [va_up, a, b, c, d, if_false])), Or.inr ⟨f119, p119, by show (if 9 ≤ nd then _ else _) = _; rw [if_neg (by omega), if_neg (by omega), hr91]; dsimp only; rw [hr105]; dsimp only; rw [hr119], by omega, nf119, bp⟩, fun k h1 h2 h3 => kb k h1 h2⟩
        · have kb : ∀ k, ¬ (9 ≤ k ∧ k ≤ 10) → ¬ (13 ≤ k ∧ k ≤ 18) → g105 k = g k := fun k h1 h2 => (kp105 k h1 h2).trans (kq k h2)
          have b9 : 1 ≤ g105 9 ∧ g105 9 ≤ 9 := by omega
          have bp : g105 10 = (p105 : Int) := np105
          refine ⟨rfl, ?_⟩
          dsimp only [Option.toList, List.cons_append, List.nil_append]
          refine r_ast dX9_readsDial_108 (by decide) rfl (by omega) (by omega) (by decide) ?_
          refine r_aload_n dX9_readsDial_109 rfl rfl ?_
          refine r_get (fs := RGL _ _) dX9_readsDial_110 fl_X9_32 (by decide) rfl rfl ?_
          refine r_iload_n dX9_readsDial_113 rfl rfl ?_
          refine r_iconst dX9_readsDial_114 ?_
          refine r_iadd dX9_readsDial_115 ?_
          refine r_aload_n dX9_readsDial_116 rfl rfl ?_
          refine r_bipush dX9_readsDial_117 rfl ?_
          refine r_callV 68 [_] (s_X9_signed0 (g := g105) (by rfl) b9) dX9_readsDial_119 cs_X9_185 im_X9_signed (by decide) rfl rfl (by decide) (by decide) (by decide) rfl rfl (Nat.le_of_ble_eq_true rfl) (fun _ _ _ q => q.elim) (fun v n2 h2 q => ?_)
          obtain ⟨rfl, rfl, hh⟩ := q
          obtain rfl := hh.symm
          refine ⟨rfl, ?_⟩
          dsimp only [Option.toList, List.cons_append, List.nil_append]
          refine r_ast dX9_readsDial_122 (by decide) rfl (by omega) (by omega) (by decide) ?_
          refine r_aload_n dX9_readsDial_123 rfl rfl ?_
          refine r_get (fs := RGL _ _) dX9_readsDial_124 fl_X9_32 (by decide) rfl rfl ?_
          refine r_iload_n dX9_readsDial_127 rfl rfl ?_
          refine r_iconst dX9_readsDial_128 ?_
          refine r_iadd dX9_readsDial_129 ?_
          refine r_iconst dX9_readsDial_130 ?_
          refine r_ast dX9_readsDial_131 (by decide) rfl (by omega) (by omega) (by decide) ?_
          refine r_aload_n dX9_readsDial_132 rfl rfl ?_
          refine r_callV 68 [] (s_X9_good0 (g := g105) (by rfl) b9) dX9_readsDial_133 cs_X9_161 im_X9_isGood (by decide) rfl rfl (by decide) (by decide) (by decide) rfl rfl (Nat.le_of_ble_eq_true rfl) (fun _ _ _ q => q.elim) (fun v n2 h2 q => ?_)
          obtain ⟨rfl, rfl, hh⟩ := q
          obtain rfl := hh.symm
          refine ⟨rfl, ?_⟩
          dsimp only [Option.toList, List.cons_append, List.nil_append]
          refine r_if_eq (tgt := 168) dX9_readsDial_136 (by decide) ⟨by omega, by omega⟩ (fun g136 => ?_) (fun g136 => absurd g136 (by omega))
          refine r_aload_n dX9_readsDial_168 rfl rfl ?_
          refine r_callV 68 [] (s_X9_good0 (g := g105) (by rfl) b9) dX9_readsDial_169 cs_X9_161 im_X9_isGood (by decide) rfl rfl (by decide) (by decide) (by decide) rfl rfl (Nat.le_of_ble_eq_true rfl) (fun _ _ _ q => q.elim) (fun v n2 h2 q => ?_)
          obtain ⟨rfl, rfl, hh⟩ := q
          obtain rfl := hh.symm
          refine ⟨rfl, ?_⟩
          dsimp only [Option.toList, List.cons_append, List.nil_append]
          refine r_if_eq (tgt := 185) dX9_readsDial_172 (by decide) ⟨by omega, by omega⟩ (fun g172 => ?_) (fun g172 => absurd g172 (by omega))
          refine r_vret dX9_readsDial_185 ?_
          exact ⟨rfl, rfl, _, _, _, nC, nL, (vt_mk rfl rfl (by exact c75) (by exact c76) (fun j a b c d => by simp only [va_up, a, b, c, d, if_false])), Or.inr ⟨f105, p105, by show (if 9 ≤ nd then _ else _) = _; rw [if_neg (by omega), if_neg (by omega), hr91]; dsimp only; rw [hr105], by omega, nf105, bp⟩, fun k h1 h2 h3 => kb k h1 h2⟩
      · have kb : ∀ k, ¬ (9 ≤ k ∧ k ≤ 10) → ¬ (13 ≤ k ∧ k ≤ 18) → g91 k = g k := fun k h1 h2 => (kp91 k h1 h2).trans (kq k h2)
        have b9 : 1 ≤ g91 9 ∧ g91 9 ≤ 9 := by omega
        have bp : g91 10 = (p91 : Int) := np91
        refine ⟨rfl, ?_⟩
        dsimp only [Option.toList, List.cons_append, List.nil_append]
        refine r_ast dX9_readsDial_94 (by decide) rfl (by omega) (by omega) (by decide) ?_
        refine r_aload_n dX9_readsDial_95 rfl rfl ?_
        refine r_get (fs := RGL _ _) dX9_readsDial_96 fl_X9_32 (by decide) rfl rfl ?_
        refine r_iload_n dX9_readsDial_99 rfl rfl ?_
        refine r_iconst dX9_readsDial_100 ?_
        refine r_iadd dX9_readsDial_101 ?_
        refine r_aload_n dX9_readsDial_102 rfl rfl ?_
        refine r_bipush dX9_readsDial_103 rfl ?_
        refine r_callV 68 [_] (s_X9_signed0 (g := g91) (by rfl) b9) dX9_readsDial_105 cs_X9_185 im_X9_signed (by decide) rfl rfl (by decide) (by decide) (by decide) rfl rfl (Nat.le_of_ble_eq_true rfl) (fun _ _ _ q => q.elim) (fun v n2 h2 q => ?_)
        obtain ⟨rfl, rfl, hh⟩ := q
        obtain rfl := hh.symm
        refine ⟨rfl, ?_⟩
        dsimp only [Option.toList, List.cons_append, List.nil_append]
        refine r_ast dX9_readsDial_108 (by decide) rfl (by omega) (by omega) (by decide) ?_
        refine r_aload_n dX9_readsDial_109 rfl rfl ?_
        refine r_get (fs := RGL _ _) dX9_readsDial_110 fl_X9_32 (by decide) rfl rfl ?_
        refine r_iload_n dX9_readsDial_113 rfl rfl ?_
        refine r_iconst dX9_readsDial_114 ?_
        refine r_iadd dX9_readsDial_115 ?_
        refine r_aload_n dX9_readsDial_116 rfl rfl ?_
        refine r_bipush dX9_readsDial_117 rfl ?_
        refine r_callV 68 [_] (s_X9_signed0 (g := g91) (by rfl) b9) dX9_readsDial_119 cs_X9_185 im_X9_signed (by decide) rfl rfl (by decide) (by decide) (by decide) rfl rfl (Nat.le_of_ble_eq_true rfl) (fun _ _ _ q => q.elim) (fun v n2 h2 q => ?_)
        obtain ⟨rfl, rfl, hh⟩ := q
        obtain rfl := hh.symm
        refine ⟨rfl, ?_⟩
        dsimp only [Option.toList, List.cons_append, List.nil_append]
        refine r_ast dX9_readsDial_122 (by decide) rfl (by omega) (by omega) (by decide) ?_
        refine r_aload_n dX9_readsDial_123 rfl rfl ?_
        refine r_get (fs := RGL _ _) dX9_readsDial_124 fl_X9_32 (by decide) rfl rfl ?_
        refine r_iload_n dX9_readsDial_127 rfl rfl ?_
        refine r_iconst dX9_readsDial_128 ?_
        refine r_iadd dX9_readsDial_129 ?_
        refine r_iconst dX9_readsDial_130 ?_
        refine r_ast dX9_readsDial_131 (by decide) rfl (by omega) (by omega) (by decide) ?_
        refine r_aload_n dX9_readsDial_132 rfl rfl ?_
        refine r_callV 68 [] (s_X9_good0 (g := g91) (by rfl) b9) dX9_readsDial_133 cs_X9_161 im_X9_isGood (by decide) rfl rfl (by decide) (by decide) (by decide) rfl rfl (Nat.le_of_ble_eq_true rfl) (fun _ _ _ q => q.elim) (fun v n2 h2 q => ?_)
        obtain ⟨rfl, rfl, hh⟩ := q
        obtain rfl := hh.symm
        refine ⟨rfl, ?_⟩
        dsimp only [Option.toList, List.cons_append, List.nil_append]
        refine r_if_eq (tgt := 168) dX9_readsDial_136 (by decide) ⟨by omega, by omega⟩ (fun g136 => ?_) (fun g136 => absurd g136 (by omega))
        refine r_aload_n dX9_readsDial_168 rfl rfl ?_
        refine r_callV 68 [] (s_X9_good0 (g := g91) (by rfl) b9) dX9_readsDial_169 cs_X9_161 im_X9_isGood (by decide) rfl rfl (by decide) (by decide) (by decide) rfl rfl (Nat.le_of_ble_eq_true rfl) (fun _ _ _ q => q.elim) (fun v n2 h2 q => ?_)
        obtain ⟨rfl, rfl, hh⟩ := q
        obtain rfl := hh.symm
        refine ⟨rfl, ?_⟩
        dsimp only [Option.toList, List.cons_append, List.nil_append]
        refine r_if_eq (tgt := 185) dX9_readsDial_172 (by decide) ⟨by omega, by omega⟩ (fun g172 => ?_) (fun g172 => absurd g172 (by omega))
        refine r_vret dX9_readsDial_185 ?_
        exact ⟨rfl, rfl, _, _, _, nC, nL, (vt_mk rfl rfl (by exact c75) (by exact c76) (fun j a b c d => by simp only [va_up, a, b, c, d, if_false])), Or.inr ⟨f91, p91, by show (if 9 ≤ nd then _ else _) = _; rw [if_neg (by omega), if_neg (by omega), hr91], by omega, nf91, bp⟩, fun k h1 h2 h3 => kb k h1 h2⟩
  · refine r_aload_n dX9_readsDial_9 rfl rfl ?_
    refine r_iconst dX9_readsDial_10 ?_
    refine r_callV 68 [_] (s_X9_wrong1 (g := g) c68 ((kq 9 (by decide)).trans h9)) dX9_readsDial_11 cs_X9_168 im_X9_wrong (by decide) c68 rfl (by decide) (by decide) (by decide) rfl rfl (Nat.le_of_ble_eq_true rfl) (fun _ _ _ q => q.elim) (fun v n2 h2 q => ?_)
    obtain ⟨rfl, rfl, hh⟩ := q
    obtain rfl := hh.symm
    refine ⟨rfl, ?_⟩
    dsimp only [Option.toList, List.cons_append, List.nil_append]
    refine r_aload_n dX9_readsDial_14 rfl rfl ?_
    refine r_callV 68 [] (s_X9_good0 (g := (va_up (va_up g 9 2) 10 (g 15))) (by rfl) ⟨by show (1 : Int) ≤ 2; decide, by show (2 : Int) ≤ 9; decide⟩) dX9_readsDial_15 cs_X9_161 im_X9_isGood (by decide) rfl rfl (by decide) (by decide) (by decide) rfl rfl (Nat.le_of_ble_eq_true rfl) (fun _ _ _ q => q.elim) (fun v n2 h2 q => ?_)
    obtain ⟨rfl, rfl, hh⟩ := q
    obtain rfl := hh.symm
    refine ⟨rfl, ?_⟩
    dsimp only [Option.toList, List.cons_append, List.nil_append]
    refine r_if_ne (tgt := 22) dX9_readsDial_18 (by decide) ⟨by omega, by omega⟩ (fun g18 => absurd g18 (by omega)) (fun g18 => ?_)
    refine r_vret dX9_readsDial_21 ?_
    exact ⟨rfl, rfl, _, _, nD, nC, nL, (vt_mk rfl (by exact c74) (by exact c75) (by exact c76) (fun j a b c d => by simp only [va_up, a, b, c, d, if_false])), Or.inr ⟨2, tkS t le e, by show (if 9 ≤ nd then _ else _) = _; rw [if_pos (by omega)], by decide, rfl, rs.2.2.2.2.1⟩, fun k h1 h2 h3 => by rw [va_up_ne _ _ (by omega), va_up_ne _ _ (by omega)]⟩

theorem s_X9_readsCloud {h : aH} {g : Nat → Int} {w : Int} (c68 : h 68 = RG g w) {trr : Nat → Int} (c72 : h 72 = .inl (0, 700, trr)) {nD nC nL : Nat → Int} (c74 : h 74 = .inl (0, 45, nD)) (c75 : h 75 = .inl (0, 60, nC)) (c76 : h 76 = .inl (0, 12, nL)) {t : Nat → Int} (ht : ∀ j, -128 ≤ t j ∧ t j ≤ 127) {le : Nat} (hle : le ≤ 700) (htt : ∀ j, j < le → trr j = t j % 256) {e : Nat} (rs : RS t le e g w) (h9 : g 9 = 0) {nd sw nc hl hs : Int} {K U I O G L cf ct fc nx cd : Nat → Int} (pr : PRel nD nC nL g ((nd, sw, nc), (hl, hs), K, U, I, O, G, L, cf, ct, fc, nx, cd))  : mSem yX9_readsCloud cX9_readsCloud 2 none 4 0 0 [.ref 68] 97 h (LnQ t le h g (pCloud t le ((nd, sw, nc), (hl, hs), K, U, I, O, G, L, cf, ct, fc, nx, cd) e)) noX := by
  obtain ⟨p20, p21, p22, p23, p24, pnd, pnc, phl, phs, pdl, pcl, plm⟩ := id pr
  have kq : ∀ k, ¬ (13 ≤ k ∧ k ≤ 18) → g k = g k := fun _ _ => rfl
  refine mSem_of (own := RX9) (name := "readsCloud") pn_X9 rfl rfl (Nat.le_of_ble_eq_true rfl) ?_
  refine r_aload_n dX9_readsCloud_0 rfl rfl ?_
  refine r_getR (z := (g 21)) dX9_readsCloud_1 fl_X9_188 (by decide) c68 rfl ?_
  refine r_bipush dX9_readsCloud_4 rfl ?_
  refine r_icmp_ne (tgt := 14) dX9_readsCloud_6 (by decide) ⟨by omega, by omega⟩ ⟨by omega, by omega⟩ (fun g6 => ?_) (fun g6 => ?_)
  · refine r_aload_n dX9_readsCloud_14 rfl rfl ?_
    refine r_callV 68 [] (s_X9_good1 (g := g) c68 ((kq 9 (by decide)).trans h9)) dX9_readsCloud_15 cs_X9_161 im_X9_isGood (by decide) c68 rfl (by decide) (by decide) (by decide) rfl rfl (Nat.le_of_ble_eq_true rfl) (fun _ _ _ q => q.elim) (fun v n2 h2 q => ?_)
    obtain ⟨rfl, rfl, hh⟩ := q
    obtain rfl := hh.symm
    refine ⟨rfl, ?_⟩
    dsimp only [Option.toList, List.cons_append, List.nil_append]
    refine r_if_ne (tgt := 22) dX9_readsCloud_18 (by decide) ⟨by omega, by omega⟩ (fun g18 => ?_) (fun g18 => absurd g18 (by omega))
    refine r_aload_n dX9_readsCloud_22 rfl rfl ?_
    refine r_callV 68 [] (s_X9_steps (g := g) (e := tkE t le e) c68 c72 ht hle htt (tk_B t rs.1).2.2.2.1 rs.2.1 rs.2.2.1) dX9_readsCloud_23 cs_X9_165 im_X9_steps (by decide) c68 rfl (by decide) (by decide) (by decide) rfl rfl (Nat.le_of_ble_eq_true rfl) (fun _ _ _ q => q.elim) (fun v n2 h2 q => ?_)
    obtain ⟨rfl, rfl, g23, w23, rfl, rs23, kp23⟩ := q
    have rs := rs23
    have kq := fun k hk => (kp23 k hk).trans (kq k hk)
    refine ⟨rfl, ?_⟩
    dsimp only [Option.toList, List.cons_append, List.nil_append]
    refine r_iconst dX9_readsCloud_26 ?_
    refine r_aload_n dX9_readsCloud_27 rfl rfl ?_
    refine r_getR (z := (g23 21)) dX9_readsCloud_28 fl_X9_188 (by decide) rfl rfl ?_
    refine r_imul dX9_readsCloud_31 ?_
    rw [(kq 21 (by decide)).trans p21]
    refine r_istore_n (lv2 := [(0, _), (1, _)]) dX9_readsCloud_32 rfl (by decide) rfl rfl ?_
    refine r_aload_n dX9_readsCloud_33 rfl rfl ?_
    refine r_get (fs := RGL _ _) dX9_readsCloud_34 fl_X9_35 (by decide) rfl rfl ?_
    refine r_iload_n dX9_readsCloud_37 rfl rfl ?_
    refine r_aload_n dX9_readsCloud_38 rfl rfl ?_
    refine r_iconst dX9_readsCloud_39 ?_
    refine r_sipush dX9_readsCloud_40 rfl ?_
    refine r_callV 68 [_, _] (s_X9_number (g := g23) (by rfl) (by exact c72) ht hle htt rs ((kq 9 (by decide)).trans h9) ⟨by decide, by decide⟩ ⟨by decide, by decide⟩) dX9_readsCloud_43 cs_X9_171 im_X9_number (by decide) rfl rfl (by decide) (by decide) (by decide) rfl rfl (Nat.le_of_ble_eq_true rfl) (fun _ _ _ q => q.elim) (fun v n2 h2 q => ?_)
    obtain ⟨rfl, z43, g43, w43, rfl, rfl, hr43⟩ := q
    rcases hr43 with ⟨e43, hr43, rs43, kp43⟩ | ⟨f43, p43, hr43, hf43, nf43, np43, kp43⟩
    · have rs := rs43
      have kq := fun k hk => (kp43 k hk).trans (kq k hk)
      refine ⟨rfl, ?_⟩
      dsimp only [Option.toList, List.cons_append, List.nil_append]
      refine r_ast dX9_readsCloud_46 (by decide) c75 (by omega) (by omega) (by decide) ?_
      refine r_aload_n dX9_readsCloud_47 rfl rfl ?_
      refine r_get (fs := RGL _ _) dX9_readsCloud_48 fl_X9_35 (by decide) rfl rfl ?_
      refine r_iload_n dX9_readsCloud_51 rfl rfl ?_
      refine r_iconst dX9_readsCloud_52 ?_
      refine r_iadd dX9_readsCloud_53 ?_
      refine r_aload_n dX9_readsCloud_54 rfl rfl ?_
      refine r_iconst dX9_readsCloud_55 ?_
      refine r_sipush dX9_readsCloud_56 rfl ?_
      refine r_callV 68 [_, _] (s_X9_number (g := g43) (by rfl) (by exact c72) ht hle htt rs ((kq 9 (by decide)).trans h9) ⟨by decide, by decide⟩ ⟨by decide, by decide⟩) dX9_readsCloud_59 cs_X9_171 im_X9_number (by decide) rfl rfl (by decide) (by decide) (by decide) rfl rfl (Nat.le_of_ble_eq_true rfl) (fun _ _ _ q => q.elim) (fun v n2 h2 q => ?_)
      obtain ⟨rfl, z59, g59, w59, rfl, rfl, hr59⟩ := q
      rcases hr59 with ⟨e59, hr59, rs59, kp59⟩ | ⟨f59, p59, hr59, hf59, nf59, np59, kp59⟩
      · have rs := rs59
        have kq := fun k hk => (kp59 k hk).trans (kq k hk)
        refine ⟨rfl, ?_⟩
        dsimp only [Option.toList, List.cons_append, List.nil_append]
        refine r_ast dX9_readsCloud_62 (by decide) rfl (by omega) (by omega) (by decide) ?_
        refine r_aload_n dX9_readsCloud_63 rfl rfl ?_
        refine r_get (fs := RGL _ _) dX9_readsCloud_64 fl_X9_35 (by decide) rfl rfl ?_
        refine r_iload_n dX9_readsCloud_67 rfl rfl ?_
        refine r_iconst dX9_readsCloud_68 ?_
        refine r_iadd dX9_readsCloud_69 ?_
        refine r_aload_n dX9_readsCloud_70 rfl rfl ?_
        refine r_aload_n dX9_readsCloud_71 rfl rfl ?_
        refine r_get (fs := RGL _ _) dX9_readsCloud_72 fl_X9_35 (by decide) rfl rfl ?_
        refine r_iload_n dX9_readsCloud_75 rfl rfl ?_
        refine r_iconst dX9_readsCloud_76 ?_
        refine r_iadd dX9_readsCloud_77 ?_
        refine r_ald dX9_readsCloud_78 (by decide) rfl (by omega) (by omega) (by decide) ?_
        rw [va_up_self]
        refine r_sipush dX9_readsCloud_79 rfl ?_
        refine r_callV 68 [_, _] (s_X9_number (g := g59) (by rfl) (by exact c72) ht hle htt rs ((kq 9 (by decide)).trans h9) (by have := pNum_ok hr59; omega) ⟨by decide, by decide⟩) dX9_readsCloud_82 cs_X9_171 im_X9_number (by decide) rfl rfl (by decide) (by decide) (by decide) rfl rfl (Nat.le_of_ble_eq_true rfl) (fun _ _ _ q => q.elim) (fun v n2 h2 q => ?_)
        obtain ⟨rfl, z82, g82, w82, rfl, rfl, hr82⟩ := q
        rcases hr82 with ⟨e82, hr82, rs82, kp82⟩ | ⟨f82, p82, hr82, hf82, nf82, np82, kp82⟩
        · have rs := rs82
          have kq := fun k hk => (kp82 k hk).trans (kq k hk)
          refine ⟨rfl, ?_⟩
          dsimp only [Option.toList, List.cons_append, List.nil_append]
          refine r_ast dX9_readsCloud_85 (by decide) rfl (by omega) (by omega) (by decide) ?_
          refine r_aload_n dX9_readsCloud_86 rfl rfl ?_
          refine r_callV 68 [] (s_X9_good1 (g := g82) (by rfl) ((kq 9 (by decide)).trans h9)) dX9_readsCloud_87 cs_X9_161 im_X9_isGood (by decide) rfl rfl (by decide) (by decide) (by decide) rfl rfl (Nat.le_of_ble_eq_true rfl) (fun _ _ _ q => q.elim) (fun v n2 h2 q => ?_)
          obtain ⟨rfl, rfl, hh⟩ := q
          obtain rfl := hh.symm
          refine ⟨rfl, ?_⟩
          dsimp only [Option.toList, List.cons_append, List.nil_append]
          refine r_if_eq (tgt := 103) dX9_readsCloud_90 (by decide) ⟨by omega, by omega⟩ (fun g90 => absurd g90 (by omega)) (fun g90 => ?_)
          have q21 := (kq 21 (by decide)).trans p21
          refine r_aload_n dX9_readsCloud_93 rfl rfl ?_
          refine r_dup dX9_readsCloud_94 rfl ?_
          refine r_getR (z := (g82 21)) dX9_readsCloud_95 fl_X9_188 (by decide) rfl rfl ?_
          refine r_iconst dX9_readsCloud_98 ?_
          refine r_iadd dX9_readsCloud_99 ?_
          refine r_putR dX9_readsCloud_100 fp_X9_188 (by decide) rfl (nar_int _) (Nat.le_of_ble_eq_true rfl) setR_21 (fun z0 hz0 => ?_)
          refine r_vret dX9_readsCloud_103 ?_
          exact ⟨rfl, rfl, _, _, nD, _, nL, (vt_mk rfl (by exact c74) rfl (by exact c76) (fun j a b c d => by simp only [va_up, a, b, c, d, if_false])), Or.inl ⟨((nd, sw, nc + 1), (hl, hs), K, U, I, O, G, L, va_up cf nc.toNat z59, va_up ct nc.toNat z82, va_up fc z43.toNat (nc + 1), va_up nx nc.toNat (fc z43.toNat), va_up cd nc.toNat z43), e82, by show (if 20 ≤ nc then _ else _) = _; rw [if_neg (by omega), hr43]; dsimp only; rw [hr59]; dsimp only; rw [hr82], RS_kp rs (fun k hk => va_up_ne _ _ (by omega)), ((kq 9 (by decide)).trans h9), kq 10 (by decide), ⟨(kq 20 (by decide)).trans p20, by show z0 = nc + 1; omega, (kq 22 (by decide)).trans p22, (kq 23 (by decide)).trans p23, (kq 24 (by decide)).trans p24, pnd, ⟨by omega, by omega⟩, phl, phs, pdl, cl_up pcl pnc.1 (by have := pNum_ok hr43; omega), plm⟩⟩, fun k h1 h2 h3 => by rw [va_up_ne _ _ (by omega)]; exact kq k h2⟩
        · have kb : ∀ k, ¬ (9 ≤ k ∧ k ≤ 10) → ¬ (13 ≤ k ∧ k ≤ 18) → g82 k = g k := fun k h1 h2 => (kp82 k h1 h2).trans (kq k h2)
          have b9 : 1 ≤ g82 9 ∧ g82 9 ≤ 9 := by omega
          have bp : g82 10 = (p82 : Int) := np82
          refine ⟨rfl, ?_⟩
          dsimp only [Option.toList, List.cons_append, List.nil_append]
          refine r_ast dX9_readsCloud_85 (by decide) rfl (by omega) (by omega) (by decide) ?_
          refine r_aload_n dX9_readsCloud_86 rfl rfl ?_
          refine r_callV 68 [] (s_X9_good0 (g := g82) (by rfl) b9) dX9_readsCloud_87 cs_X9_161 im_X9_isGood (by decide) rfl rfl (by decide) (by decide) (by decide) rfl rfl (Nat.le_of_ble_eq_true rfl) (fun _ _ _ q => q.elim) (fun v n2 h2 q => ?_)
          obtain ⟨rfl, rfl, hh⟩ := q
          obtain rfl := hh.symm
          refine ⟨rfl, ?_⟩
          dsimp only [Option.toList, List.cons_append, List.nil_append]
          refine r_if_eq (tgt := 103) dX9_readsCloud_90 (by decide) ⟨by omega, by omega⟩ (fun g90 => ?_) (fun g90 => absurd g90 (by omega))
          refine r_vret dX9_readsCloud_103 ?_
          exact ⟨rfl, rfl, _, _, nD, _, nL, (vt_mk rfl (by exact c74) rfl (by exact c76) (fun j a b c d => by simp only [va_up, a, b, c, d, if_false])), Or.inr ⟨f82, p82, by show (if 20 ≤ nc then _ else _) = _; rw [if_neg (by omega), hr43]; dsimp only; rw [hr59]; dsimp only; rw [hr82], by omega, nf82, bp⟩, fun k h1 h2 h3 => kb k h1 h2⟩
      · have kb : ∀ k, ¬ (9 ≤ k ∧ k ≤ 10) → ¬ (13 ≤ k ∧ k ≤ 18) → g59 k = g k := fun k h1 h2 => (kp59 k h1 h2).trans (kq k h2)
        have b9 : 1 ≤ g59 9 ∧ g59 9 ≤ 9 := by omega
        have bp : g59 10 = (p59 : Int) := np59
        refine ⟨rfl, ?_⟩
        dsimp only [Option.toList, List.cons_append, List.nil_append]
        refine r_ast dX9_readsCloud_62 (by decide) rfl (by omega) (by omega) (by decide) ?_
        refine r_aload_n dX9_readsCloud_63 rfl rfl ?_
        refine r_get (fs := RGL _ _) dX9_readsCloud_64 fl_X9_35 (by decide) rfl rfl ?_
        refine r_iload_n dX9_readsCloud_67 rfl rfl ?_
        refine r_iconst dX9_readsCloud_68 ?_
        refine r_iadd dX9_readsCloud_69 ?_
        refine r_aload_n dX9_readsCloud_70 rfl rfl ?_
        refine r_aload_n dX9_readsCloud_71 rfl rfl ?_
        refine r_get (fs := RGL _ _) dX9_readsCloud_72 fl_X9_35 (by decide) rfl rfl ?_
        refine r_iload_n dX9_readsCloud_75 rfl rfl ?_
        refine r_iconst dX9_readsCloud_76 ?_
        refine r_iadd dX9_readsCloud_77 ?_
        refine r_ald dX9_readsCloud_78 (by decide) rfl (by omega) (by omega) (by decide) ?_
        rw [va_up_self]
        refine r_sipush dX9_readsCloud_79 rfl ?_
        refine r_callV 68 [_, _] (s_X9_number0 (g := g59) (by rfl) b9) dX9_readsCloud_82 cs_X9_171 im_X9_number (by decide) rfl rfl (by decide) (by decide) (by decide) rfl rfl (Nat.le_of_ble_eq_true rfl) (fun _ _ _ q => q.elim) (fun v n2 h2 q => ?_)
        obtain ⟨rfl, rfl, hh⟩ := q
        obtain rfl := hh.symm
        refine ⟨rfl, ?_⟩
        dsimp only [Option.toList, List.cons_append, List.nil_append]
        refine r_ast dX9_readsCloud_85 (by decide) rfl (by omega) (by omega) (by decide) ?_
        refine r_aload_n dX9_readsCloud_86 rfl rfl ?_
        refine r_callV 68 [] (s_X9_good0 (g := g59) (by rfl) b9) dX9_readsCloud_87 cs_X9_161 im_X9_isGood (by decide) rfl rfl (by decide) (by decide) (by decide) rfl rfl (Nat.le_of_ble_eq_true rfl) (fun _ _ _ q => q.elim) (fun v n2 h2 q => ?_)
        obtain ⟨rfl, rfl, hh⟩ := q
        obtain rfl := hh.symm
        refine ⟨rfl, ?_⟩
        dsimp only [Option.toList, List.cons_append, List.nil_append]
        refine r_if_eq (tgt := 103) dX9_readsCloud_90 (by decide) ⟨by omega, by omega⟩ (fun g90 => ?_) (fun g90 => absurd g90 (by omega))
        refine r_vret dX9_readsCloud_103 ?_
        exact ⟨rfl, rfl, _, _, nD, _, nL, (vt_mk rfl (by exact c74) rfl (by exact c76) (fun j a b c d => by simp only [va_up, a, b, c, d, if_false])), Or.inr ⟨f59, p59, by show (if 20 ≤ nc then _ else _) = _; rw [if_neg (by omega), hr43]; dsimp only; rw [hr59], by omega, nf59, bp⟩, fun k h1 h2 h3 => kb k h1 h2⟩
    · have kb : ∀ k, ¬ (9 ≤ k ∧ k ≤ 10) → ¬ (13 ≤ k ∧ k ≤ 18) → g43 k = g k := fun k h1 h2 => (kp43 k h1 h2).trans (kq k h2)
      have b9 : 1 ≤ g43 9 ∧ g43 9 ≤ 9 := by omega
      have bp : g43 10 = (p43 : Int) := np43
      refine ⟨rfl, ?_⟩
      dsimp only [Option.toList, List.cons_append, List.nil_append]
      refine r_ast dX9_readsCloud_46 (by decide) c75 (by omega) (by omega) (by decide) ?_
      refine r_aload_n dX9_readsCloud_47 rfl rfl ?_
      refine r_get (fs := RGL _ _) dX9_readsCloud_48 fl_X9_35 (by decide) rfl rfl ?_
      refine r_iload_n dX9_readsCloud_51 rfl rfl ?_
      refine r_iconst dX9_readsCloud_52 ?_
      refine r_iadd dX9_readsCloud_53 ?_
      refine r_aload_n dX9_readsCloud_54 rfl rfl ?_
      refine r_iconst dX9_readsCloud_55 ?_
      refine r_sipush dX9_readsCloud_56 rfl ?_
      refine r_callV 68 [_, _] (s_X9_number0 (g := g43) (by rfl) b9) dX9_readsCloud_59 cs_X9_171 im_X9_number (by decide) rfl rfl (by decide) (by decide) (by decide) rfl rfl (Nat.le_of_ble_eq_true rfl) (fun _ _ _ q => q.elim) (fun v n2 h2 q => ?_)
      obtain ⟨rfl, rfl, hh⟩ := q
      obtain rfl := hh.symm
      refine ⟨rfl, ?_⟩
      dsimp only [Option.toList, List.cons_append, List.nil_append]
      refine r_ast dX9_readsCloud_62 (by decide) rfl (by omega) (by omega) (by decide) ?_
      refine r_aload_n dX9_readsCloud_63 rfl rfl ?_
      refine r_get (fs := RGL _ _) dX9_readsCloud_64 fl_X9_35 (by decide) rfl rfl ?_
      refine r_iload_n dX9_readsCloud_67 rfl rfl ?_
      refine r_iconst dX9_readsCloud_68 ?_
      refine r_iadd dX9_readsCloud_69 ?_
      refine r_aload_n dX9_readsCloud_70 rfl rfl ?_
      refine r_aload_n dX9_readsCloud_71 rfl rfl ?_
      refine r_get (fs := RGL _ _) dX9_readsCloud_72 fl_X9_35 (by decide) rfl rfl ?_
      refine r_iload_n dX9_readsCloud_75 rfl rfl ?_
      refine r_iconst dX9_readsCloud_76 ?_
      refine r_iadd dX9_readsCloud_77 ?_
      refine r_ald dX9_readsCloud_78 (by decide) rfl (by omega) (by omega) (by decide) ?_
      rw [va_up_self]
      refine r_sipush dX9_readsCloud_79 rfl ?_
      refine r_callV 68 [_, _] (s_X9_number0 (g := g43) (by rfl) b9) dX9_readsCloud_82 cs_X9_171 im_X9_number (by decide) rfl rfl (by decide) (by decide) (by decide) rfl rfl (Nat.le_of_ble_eq_true rfl) (fun _ _ _ q => q.elim) (fun v n2 h2 q => ?_)
      obtain ⟨rfl, rfl, hh⟩ := q
      obtain rfl := hh.symm
      refine ⟨rfl, ?_⟩
      dsimp only [Option.toList, List.cons_append, List.nil_append]
      refine r_ast dX9_readsCloud_85 (by decide) rfl (by omega) (by omega) (by decide) ?_
      refine r_aload_n dX9_readsCloud_86 rfl rfl ?_
      refine r_callV 68 [] (s_X9_good0 (g := g43) (by rfl) b9) dX9_readsCloud_87 cs_X9_161 im_X9_isGood (by decide) rfl rfl (by decide) (by decide) (by decide) rfl rfl (Nat.le_of_ble_eq_true rfl) (fun _ _ _ q => q.elim) (fun v n2 h2 q => ?_)
      obtain ⟨rfl, rfl, hh⟩ := q
      obtain rfl := hh.symm
      refine ⟨rfl, ?_⟩
      dsimp only [Option.toList, List.cons_append, List.nil_append]
      refine r_if_eq (tgt := 103) dX9_readsCloud_90 (by decide) ⟨by omega, by omega⟩ (fun g90 => ?_) (fun g90 => absurd g90 (by omega))
      refine r_vret dX9_readsCloud_103 ?_
      exact ⟨rfl, rfl, _, _, nD, _, nL, (vt_mk rfl (by exact c74) rfl (by exact c76) (fun j a b c d => by simp only [va_up, a, b, c, d, if_false])), Or.inr ⟨f43, p43, by show (if 20 ≤ nc then _ else _) = _; rw [if_neg (by omega), hr43], by omega, nf43, bp⟩, fun k h1 h2 h3 => kb k h1 h2⟩
  · refine r_aload_n dX9_readsCloud_9 rfl rfl ?_
    refine r_iconst dX9_readsCloud_10 ?_
    refine r_callV 68 [_] (s_X9_wrong1 (g := g) c68 ((kq 9 (by decide)).trans h9)) dX9_readsCloud_11 cs_X9_168 im_X9_wrong (by decide) c68 rfl (by decide) (by decide) (by decide) rfl rfl (Nat.le_of_ble_eq_true rfl) (fun _ _ _ q => q.elim) (fun v n2 h2 q => ?_)
    obtain ⟨rfl, rfl, hh⟩ := q
    obtain rfl := hh.symm
    refine ⟨rfl, ?_⟩
    dsimp only [Option.toList, List.cons_append, List.nil_append]
    refine r_aload_n dX9_readsCloud_14 rfl rfl ?_
    refine r_callV 68 [] (s_X9_good0 (g := (va_up (va_up g 9 2) 10 (g 15))) (by rfl) ⟨by show (1 : Int) ≤ 2; decide, by show (2 : Int) ≤ 9; decide⟩) dX9_readsCloud_15 cs_X9_161 im_X9_isGood (by decide) rfl rfl (by decide) (by decide) (by decide) rfl rfl (Nat.le_of_ble_eq_true rfl) (fun _ _ _ q => q.elim) (fun v n2 h2 q => ?_)
    obtain ⟨rfl, rfl, hh⟩ := q
    obtain rfl := hh.symm
    refine ⟨rfl, ?_⟩
    dsimp only [Option.toList, List.cons_append, List.nil_append]
    refine r_if_ne (tgt := 22) dX9_readsCloud_18 (by decide) ⟨by omega, by omega⟩ (fun g18 => absurd g18 (by omega)) (fun g18 => ?_)
    refine r_vret dX9_readsCloud_21 ?_
    exact ⟨rfl, rfl, _, _, nD, nC, nL, (vt_mk rfl (by exact c74) (by exact c75) (by exact c76) (fun j a b c d => by simp only [va_up, a, b, c, d, if_false])), Or.inr ⟨2, tkS t le e, by show (if 20 ≤ nc then _ else _) = _; rw [if_pos (by omega)], by decide, rfl, rs.2.2.2.2.1⟩, fun k h1 h2 h3 => by rw [va_up_ne _ _ (by omega), va_up_ne _ _ (by omega)]⟩

