/-! ===== the reference reads a port ===== -/
theorem pNum_m {t : Nat → Int} {le e : Nat} {lo hi x : Int} {e2 : Nat} (he : e ≤ le) (h : pNum t le lo hi e = .inr (x, e2)) : e ≤ e2 ∧ e2 ≤ le := by
  have hB := tk_B t he
  unfold pNum at h
  split at h
  · simp only [Sum.inr.injEq, Prod.mk.injEq] at h
    omega
  · exact absurd h (by simp)
theorem pSgn_m {t : Nat → Int} {le e : Nat} {hi x : Int} {e2 : Nat} (he : e ≤ le) (h : pSgn t le hi e = .inr (x, e2)) : e ≤ e2 ∧ e2 ≤ le := by
  have hB := tk_B t he
  unfold pSgn at h
  split at h
  · cases hq : pNum t le 0 hi (tkE t le e) with
    | inl y => rw [hq] at h; exact absurd h (by simp)
    | inr y =>
      rw [hq] at h
      simp only [Sum.inr.injEq, Prod.mk.injEq] at h
      have := pNum_m (x := y.1) (e2 := y.2) hB.2.2.2.1 hq
      omega
  · exact pNum_m he h
theorem limpL_m {t : Nat → Int} {le : Nat} : ∀ (k i : Nat) (L : Nat → Int) (e : Nat) {L2 : Nat → Int} {e2 : Nat}, e ≤ le → limpL t le k i L e = .inr (L2, e2) → e ≤ e2 ∧ e2 ≤ le := by
  intro k
  induction k with
  | zero => intro i L e L2 e2 he h; unfold limpL at h; simp only [Sum.inr.injEq, Prod.mk.injEq] at h; omega
  | succ k ih =>
    intro i L e L2 e2 he h
    unfold limpL at h
    cases hq : pSgn t le 30 e with
    | inl y => rw [hq] at h; exact absurd h (by simp)
    | inr y =>
      rw [hq] at h
      have h1 := pSgn_m (x := y.1) (e2 := y.2) he hq
      have h2 := ih (i + 1) _ _ h1.2 h
      omega
theorem pGrown_m {t : Nat → Int} {le e di : Nat} {d d2 : PD} {e2 : Nat} (he : e ≤ le) (h : pGrown t le d di e = .inr (d2, e2)) : e ≤ e2 ∧ e2 ≤ le := by
  obtain ⟨a, b, K, U, I, O, G, L, cf, ct, fc, nx, cd⟩ := d
  have hB := tk_B t he
  unfold pGrown at h
  dsimp only at h
  split at h
  · cases hq : pNum t le 0 364 (tkE t le e) with
    | inl y => rw [hq] at h; exact absurd h (by simp)
    | inr y =>
      rw [hq] at h
      have h1 := pNum_m (x := y.1) (e2 := y.2) hB.2.2.2.1 hq
      simp only [Sum.inr.injEq, Prod.mk.injEq] at h
      omega
  · simp only [Sum.inr.injEq, Prod.mk.injEq] at h
    omega
theorem pDial_m {t : Nat → Int} {le e : Nat} {d d2 : PD} {e2 : Nat} (he : e ≤ le) (h : pDial t le d e = .inr (d2, e2)) : e ≤ e2 ∧ e2 ≤ le := by
  obtain ⟨⟨nd, sw, nc⟩, b, K, U, I, O, G, L, cf, ct, fc, nx, cd⟩ := d
  have hB := tk_B t he
  have hB2 := tk_B t hB.2.2.2.1
  unfold pDial at h
  dsimp only at h
  split at h
  · exact absurd h (by simp)
  split at h
  · exact absurd h (by simp)
  cases hq : pSgn t le 120 (tkE t le (tkE t le e)) with
  | inl y => rw [hq] at h; exact absurd h (by simp)
  | inr y =>
    rw [hq] at h
    dsimp only at h
    have h1 := pSgn_m (x := y.1) (e2 := y.2) hB2.2.2.2.1 hq
    cases hq2 : pSgn t le 50 y.2 with
    | inl z => rw [hq2] at h; exact absurd h (by simp)
    | inr z =>
      rw [hq2] at h
      dsimp only at h
      have h2 := pSgn_m (x := z.1) (e2 := z.2) h1.2 hq2
      cases hq3 : pSgn t le 120 z.2 with
      | inl u => rw [hq3] at h; exact absurd h (by simp)
      | inr u =>
        rw [hq3] at h
        dsimp only at h
        have h3 := pSgn_m (x := u.1) (e2 := u.2) h2.2 hq3
        have h4 := pGrown_m h3.2 h
        omega
theorem pSwing_m {t : Nat → Int} {le e : Nat} {d d2 : PD} {e2 : Nat} (he : e ≤ le) (h : pSwing t le d e = .inr (d2, e2)) : e ≤ e2 ∧ e2 ≤ le := by
  obtain ⟨⟨nd, sw, nc⟩, ⟨hl, hs⟩, r⟩ := d
  have hB := tk_B t he
  unfold pSwing at h
  dsimp only at h
  split at h
  · exact absurd h (by simp)
  cases hq : pNum t le 0 240 (tkE t le e) with
  | inl y => rw [hq] at h; exact absurd h (by simp)
  | inr y =>
    rw [hq] at h
    have h1 := pNum_m (x := y.1) (e2 := y.2) hB.2.2.2.1 hq
    simp only [Sum.inr.injEq, Prod.mk.injEq] at h
    omega
theorem pLimps_m {t : Nat → Int} {le e : Nat} {d d2 : PD} {e2 : Nat} (he : e ≤ le) (h : pLimps t le d e = .inr (d2, e2)) : e ≤ e2 ∧ e2 ≤ le := by
  obtain ⟨a, ⟨hl, hs⟩, K, U, I, O, G, L, r⟩ := d
  have hB := tk_B t he
  unfold pLimps at h
  dsimp only at h
  split at h
  · exact absurd h (by simp)
  cases hq : limpL t le 12 0 L (tkE t le e) with
  | inl y => rw [hq] at h; exact absurd h (by simp)
  | inr y =>
    rw [hq] at h
    have h1 := limpL_m 12 0 L (tkE t le e) (L2 := y.1) (e2 := y.2) hB.2.2.2.1 hq
    simp only [Sum.inr.injEq, Prod.mk.injEq] at h
    omega
theorem pCloud_m {t : Nat → Int} {le e : Nat} {d d2 : PD} {e2 : Nat} (he : e ≤ le) (h : pCloud t le d e = .inr (d2, e2)) : e ≤ e2 ∧ e2 ≤ le := by
  obtain ⟨⟨nd, sw, nc⟩, b, K, U, I, O, G, L, cf, ct, fc, nx, cd⟩ := d
  have hB := tk_B t he
  unfold pCloud at h
  dsimp only at h
  split at h
  · exact absurd h (by simp)
  cases hq : pNum t le 0 364 (tkE t le e) with
  | inl y => rw [hq] at h; exact absurd h (by simp)
  | inr y =>
    rw [hq] at h
    dsimp only at h
    have h1 := pNum_m (x := y.1) (e2 := y.2) hB.2.2.2.1 hq
    cases hq2 : pNum t le 0 1439 y.2 with
    | inl z => rw [hq2] at h; exact absurd h (by simp)
    | inr z =>
      rw [hq2] at h
      dsimp only at h
      have h2 := pNum_m (x := z.1) (e2 := z.2) h1.2 hq2
      cases hq3 : pNum t le z.1 1439 z.2 with
      | inl u => rw [hq3] at h; exact absurd h (by simp)
      | inr u =>
        rw [hq3] at h
        have h3 := pNum_m (x := u.1) (e2 := u.2) h2.2 hq3
        simp only [Sum.inr.injEq, Prod.mk.injEq] at h
        omega
theorem pLine_m {t : Nat → Int} {le e : Nat} {d d2 : PD} {e2 : Nat} (he : e ≤ le) (h : pLine t le d e = .inr (d2, e2)) : e ≤ e2 ∧ e2 ≤ le := by
  unfold pLine at h
  split at h
  · exact pDial_m he h
  split at h
  · exact pLimps_m he h
  split at h
  · exact pSwing_m he h
  split at h
  · exact pCloud_m he h
  · exact absurd h (by simp)
theorem lineR_m {t : Nat → Int} {le e : Nat} {d d2 : PD} {e2 : Nat} (he : e ≤ le) (h : lineR t le d e = .inr (d2, e2)) : e < e2 ∧ e2 ≤ le := by
  unfold lineR at h
  cases hq : pLine t le d e with
  | inl y => rw [hq] at h; exact absurd h (by simp)
  | inr y =>
    rw [hq] at h
    dsimp only at h
    have h1 := pLine_m (d2 := y.1) (e2 := y.2) he hq
    have hB := tk_B t h1.2
    split at h
    · next hs =>
      unfold signAt at hs
      rw [Bool.and_eq_true, decide_eq_true_eq] at hs
      have h2 := hB.2.2.2.2.2 (by omega)
      simp only [Sum.inr.injEq, Prod.mk.injEq] at h
      omega
    · exact absurd h (by simp)
theorem pLines_s {t : Nat → Int} {le k e : Nat} {d : PD} (hk : ¬ tkK t le e = 0) : pLines t le (k + 1) d e = (match lineR t le d e with | .inl x => .inl x | .inr (d2, e2) => pLines t le k d2 e2) := by
  show (if tkK t le e = 0 then _ else _) = _
  rw [if_neg hk]
  unfold lineR
  cases pLine t le d e with
  | inl y => rfl
  | inr y =>
    dsimp only
    split <;> rfl
theorem pLines_0 {t : Nat → Int} {le e : Nat} {d : PD} (hk : tkK t le e = 0) : ∀ k, pLines t le k d e = .inr d := by
  intro k
  cases k with
  | zero => rfl
  | succ k =>
    show (if tkK t le e = 0 then _ else _) = _
    rw [if_pos hk]
def PInvP (P : PD) : Prop := match P with
  | ((nd, sw, nc), (hl, hs), K, U, I, O, G, L, cf, ct, fc, nx, cd) => PInv nd sw nc K U I O G L cf ct fc nx cd
theorem dlr_cpy {nd : Int} {nD dl K U I O G : Nat → Int} (h : DlR nd nD K U I O G) (hn : nd ≤ 9) : DlR nd (cpyF nD dl 45) K U I O G := by
  intro j hj
  unfold cpyF
  rw [if_pos (by omega), if_pos (by omega), if_pos (by omega), if_pos (by omega), if_pos (by omega)]
  exact h j hj
theorem clr_cpy {nc : Int} {nC cl cd cf ct : Nat → Int} (h : ClR nc nC cd cf ct) (hn : nc ≤ 20) : ClR nc (cpyF nC cl 60) cd cf ct := by
  intro j hj
  unfold cpyF
  rw [if_pos (by omega), if_pos (by omega), if_pos (by omega)]
  exact h j hj
theorem lmr_cpy {nL lm L : Nat → Int} (h : LmR nL L) : LmR (cpyF nL lm 12) L := by
  intro j hj
  unfold cpyF
  rw [if_pos hj]
  exact h j hj
def PortR (c : Nat) (h0 : aH) (S : CSt) (n : Nat) (base : PD) : Option Value → Nat → aH → Prop := fun v n' h' => n' = 97 ∧ FrR h0 h' ∧ (match S with
  | (t, _, _, rf, hlaw, himg, P, N, M, ls) => (¬ c = 0 ∧ (∃ z, v = some (iv z)) ∧ RefC h' S (c : Int)) ∨ (c = 0 ∧ ((∃ f p, pLines t n 700 base 0 = .inl (f, p) ∧ v = some (iv f) ∧ RefC h' (t, 0, (p : Nat), va_up rf 0 (rf 0 + 1), hlaw, himg, P, N, M, ls) 0) ∨ (∃ P2, pLines t n 700 base 0 = .inr P2 ∧ v = some (iv 0) ∧ RefC h' (t, 0, -1, rf, 0, 0, P2, clrN N, M, ls) 0))))

theorem l_X9_portB {h : aH} {g : Nat → Int} {w : Int} (c68 : h 68 = RG g w) {Q : Option Value → Nat → aH → Prop} {d : Nat} (hd6 : 6 ≤ d) {x : Int} (b9 : 1 ≤ g 9 ∧ g 9 ≤ 9) (kk : Ev RX9 "port" cX9_port 3 (some .int) d 0 0 Q noX 97 h 129 [(0, .ref 68), (1, iv x), (2, iv 12)] []) : Ev RX9 "port" cX9_port 3 (some .int) d 0 0 Q noX 97 h 108 [(0, .ref 68), (1, iv x), (2, iv 12)] [] := by
  refine r_aload_n dX9_port_108 rfl rfl ?_
  refine r_callV 68 [] (s_X9_good0 (g := g) c68 b9) dX9_port_109 cs_X9_161 im_X9_isGood (by decide) c68 rfl (by omega) (by decide) (by decide) rfl rfl (Nat.le_of_ble_eq_true rfl) (fun _ _ _ q => q.elim) (fun v n2 h2 q => ?_)
  obtain ⟨rfl, rfl, hh⟩ := q
  obtain rfl := hh.symm
  refine ⟨rfl, ?_⟩
  dsimp only [Option.toList, List.cons_append, List.nil_append]
  refine r_if_eq (tgt := 129) dX9_port_112 (by decide) ⟨by omega, by omega⟩ (fun g112 => ?_) (fun g112 => absurd g112 (by omega))
  exact kk

theorem vt_vt (h : aH) (g g2 : Nat → Int) (w w2 : Int) (a b c a2 b2 c2 : Nat → Int) : VT (VT h g w a b c) g2 w2 a2 b2 c2 = VT h g2 w2 a2 b2 c2 := vt_mk rfl rfl rfl rfl (fun j q1 q2 q3 q4 => by simp only [va_up, q1, q2, q3, q4, if_false])
theorem l_X9_port {h : aH} {trr : Nat → Int} (c72 : h 72 = .inl (0, 700, trr)) {t : Nat → Int} (ht : ∀ j, -128 ≤ t j ∧ t j ≤ 127) {le : Nat} (hle : le ≤ 700) (htt : ∀ j, j < le → trr j = t j % 256) {g : Nat → Int} {Q : Option Value → Nat → aH → Prop} {d : Nat} (hd6 : 6 ≤ d) {x : Int} {r : (Int × Nat) ⊕ PD} (kg : ∀ (gg : Nat → Int) (ww : Int) (nD nC nL : Nat → Int) (P2 : PD), r = .inr P2 → gg 9 = 0 → gg 10 = g 10 → PRel nD nC nL gg P2 → (∀ k, ¬ (9 ≤ k ∧ k ≤ 10) → ¬ (13 ≤ k ∧ k ≤ 18) → ¬ (20 ≤ k ∧ k ≤ 24) → gg k = g k) → Ev RX9 "port" cX9_port 3 (some .int) d 0 0 Q noX 97 (VT h gg ww nD nC nL) 129 [(0, .ref 68), (1, iv x), (2, iv 12)] []) (kf : ∀ (gg : Nat → Int) (ww : Int) (nD nC nL : Nat → Int) (f : Int) (p : Nat), r = .inl (f, p) → (1 ≤ f ∧ f ≤ 3) → gg 9 = f → gg 10 = (p : Int) → (∀ k, ¬ (9 ≤ k ∧ k ≤ 10) → ¬ (13 ≤ k ∧ k ≤ 18) → ¬ (20 ≤ k ∧ k ≤ 24) → gg k = g k) → Ev RX9 "port" cX9_port 3 (some .int) d 0 0 Q noX 97 (VT h gg ww nD nC nL) 129 [(0, .ref 68), (1, iv x), (2, iv 12)] []) : ∀ (k : Nat) (gg : Nat → Int) (ww : Int) (nD nC nL : Nat → Int) (P1 : PD) (e : Nat), le - e ≤ k → pLines t le k P1 e = r → RS t le e gg ww → gg 9 = 0 → gg 10 = g 10 → PRel nD nC nL gg P1 → (∀ k, ¬ (9 ≤ k ∧ k ≤ 10) → ¬ (13 ≤ k ∧ k ≤ 18) → ¬ (20 ≤ k ∧ k ≤ 24) → gg k = g k) → Ev RX9 "port" cX9_port 3 (some .int) d 0 0 Q noX 97 (VT h gg ww nD nC nL) 108 [(0, .ref 68), (1, iv x), (2, iv 12)] [] := by
  intro k
  induction k with
  | zero =>
    intro gg ww nD nC nL P1 e hk hr rs h9 h10 pr fr
    have hsb := sort_B rs
    have hB := tk_B t rs.1
    have hK : tkK t le e = 0 := by
      have := hB.2.2.2.2.2
      omega
    refine r_aload_n dX9_port_108 rfl rfl ?_
    refine r_callV 68 [] (s_X9_good1 (g := gg) (by rfl) h9) dX9_port_109 cs_X9_161 im_X9_isGood (by decide) rfl rfl (by omega) (by decide) (by decide) rfl rfl (Nat.le_of_ble_eq_true rfl) (fun _ _ _ q => q.elim) (fun v n2 h2 q => ?_)
    obtain ⟨rfl, rfl, hh⟩ := q
    obtain rfl := hh.symm
    refine ⟨rfl, ?_⟩
    dsimp only [Option.toList, List.cons_append, List.nil_append]
    refine r_if_eq (tgt := 129) dX9_port_112 (by decide) ⟨by omega, by omega⟩ (fun g112 => absurd g112 (by omega)) (fun g112 => ?_)
    refine r_aload_n dX9_port_115 rfl rfl ?_
    refine r_getR (z := (gg 14)) dX9_port_116 fl_X9_135 (by decide) rfl rfl ?_
    refine r_if_eq (tgt := 129) dX9_port_119 (by decide) ⟨by omega, by omega⟩ (fun g119 => ?_) (fun g119 => absurd g119 (by omega))
    exact kg gg ww nD nC nL P1 hr.symm h9 h10 pr fr
  | succ k ih =>
    intro gg ww nD nC nL P1 e hk hr rs h9 h10 pr fr
    have hsb := sort_B rs
    have hB := tk_B t rs.1
    obtain ⟨⟨nd, sw, nc⟩, ⟨hl, hs⟩, K, U, I, O, G, L, cf, ct, fc, nx, cd⟩ := P1
    refine r_aload_n dX9_port_108 rfl rfl ?_
    refine r_callV 68 [] (s_X9_good1 (g := gg) (by rfl) h9) dX9_port_109 cs_X9_161 im_X9_isGood (by decide) rfl rfl (by omega) (by decide) (by decide) rfl rfl (Nat.le_of_ble_eq_true rfl) (fun _ _ _ q => q.elim) (fun v n2 h2 q => ?_)
    obtain ⟨rfl, rfl, hh⟩ := q
    obtain rfl := hh.symm
    refine ⟨rfl, ?_⟩
    dsimp only [Option.toList, List.cons_append, List.nil_append]
    refine r_if_eq (tgt := 129) dX9_port_112 (by decide) ⟨by omega, by omega⟩ (fun g112 => absurd g112 (by omega)) (fun g112 => ?_)
    refine r_aload_n dX9_port_115 rfl rfl ?_
    refine r_getR (z := (gg 14)) dX9_port_116 fl_X9_135 (by decide) rfl rfl ?_
    refine r_if_eq (tgt := 129) dX9_port_119 (by decide) ⟨by omega, by omega⟩ (fun g119 => ?_) (fun g119 => ?_)
    · rw [pLines_0 (by omega)] at hr
      exact kg gg ww nD nC nL _ hr.symm h9 h10 pr fr
    · refine r_aload_n dX9_port_122 rfl rfl ?_
      refine r_callV 68 [] (s_X9_line (g := gg) (hl := hl) (hs := hs) (fc := fc) (nx := nx) (by rfl) (by exact c72) (by rfl) (by rfl) (by rfl) ht hle htt rs h9 pr) dX9_port_123 cs_X9_211 im_X9_line (by decide) rfl rfl (by omega) (by decide) (by decide) rfl rfl (Nat.le_of_ble_eq_true rfl) (fun _ _ _ q => q.elim) (fun v n2 h2 q => ?_)
      obtain ⟨rfl, rfl, g2, w2, nD2, nC2, nL2, rfl, hq, fr2⟩ := q
      rw [vt_vt]
      have fr3 : ∀ k, ¬ (9 ≤ k ∧ k ≤ 10) → ¬ (13 ≤ k ∧ k ≤ 18) → ¬ (20 ≤ k ∧ k ≤ 24) → g2 k = g k := fun k a b c => (fr2 k a b c).trans (fr k a b c)
      rcases hq with ⟨d2, e2, hr2, rs2, n9, n10, pr2⟩ | ⟨f2, p2, hr2, hf2, nf2, np2⟩
      · skip
        refine ⟨rfl, ?_⟩
        dsimp only [Option.toList, List.cons_append, List.nil_append]
        refine r_goto (tgt := 108) dX9_port_126 (by decide) ?_
        rw [pLines_s (by omega), hr2] at hr
        have hm := lineR_m rs.1 hr2
        exact ih g2 w2 nD2 nC2 nL2 d2 e2 (by omega) hr rs2 n9 (n10.trans h10) pr2 fr3
      · skip
        refine ⟨rfl, ?_⟩
        dsimp only [Option.toList, List.cons_append, List.nil_append]
        refine r_goto (tgt := 108) dX9_port_126 (by decide) ?_
        rw [pLines_s (by omega), hr2] at hr
        exact l_X9_portB (g := g2) (w := w2) rfl hd6 (by omega) (kf g2 w2 nD2 nC2 nL2 f2 p2 hr.symm hf2 nf2 np2 fr3)

theorem l_X9_port0 {h : aH} {g : Nat → Int} {w : Int} {Q : Option Value → Nat → aH → Prop} {d : Nat} {x : Int} (kk : ∀ LL : Nat → Int, (∀ j, j < 12 → LL j = 0) → Ev RX9 "port" cX9_port 3 (some .int) d 0 0 Q noX 97 (va_up (va_up h 68 (RG g w)) 76 (.inl (0, 12, LL))) 104 [(0, .ref 68), (1, iv x), (2, iv 12)] []) : ∀ (n i : Nat) (LL : Nat → Int), i + n = 12 → (∀ j, j < i → LL j = 0) → Ev RX9 "port" cX9_port 3 (some .int) d 0 0 Q noX 97 (va_up (va_up h 68 (RG g w)) 76 (.inl (0, 12, LL))) 85 [(0, .ref 68), (1, iv x), (2, iv (i : Nat))] [] := by
  intro n
  induction n with
  | zero =>
    intro i LL hi hl
    obtain rfl : i = 12 := by omega
    refine r_iload_n dX9_port_85 rfl rfl ?_
    refine r_bipush dX9_port_86 rfl ?_
    refine r_icmp_ge (tgt := 104) dX9_port_88 (by decide) ⟨by omega, by omega⟩ ⟨by omega, by omega⟩ (fun g88 => ?_) (fun g88 => absurd g88 (by omega))
    exact kk LL hl
  | succ n ih =>
    intro i LL hi hl
    refine r_iload_n dX9_port_85 rfl rfl ?_
    refine r_bipush dX9_port_86 rfl ?_
    refine r_icmp_ge (tgt := 104) dX9_port_88 (by decide) ⟨by omega, by omega⟩ ⟨by omega, by omega⟩ (fun g88 => absurd g88 (by omega)) (fun g88 => ?_)
    refine r_aload_n dX9_port_91 rfl rfl ?_
    refine r_get (fs := RGL _ _) dX9_port_92 fl_X9_38 (by decide) rfl rfl ?_
    refine r_iload_n dX9_port_95 rfl rfl ?_
    refine r_iconst dX9_port_96 ?_
    refine r_ast dX9_port_97 (by decide) rfl (by omega) (by omega) (by decide) ?_
    refine r_iinc (lv2 := [(0, _), (1, _), (2, _)]) dX9_port_98 (by decide) rfl rfl rfl ?_
    refine r_goto (tgt := 85) dX9_port_101 (by decide) ?_
    rw [show (i : Int) + 1 = ((i + 1 : Nat) : Int) by omega, bx_uu, Int.toNat_natCast]
    exact ih (i + 1) _ (by omega) (fun j hj => by unfold va_up; split; (next => rfl); (next => exact hl j (by omega)))

theorem s_X9_port {h : aH} {th : Int} {t : Nat → Int} {tp : Nat} {fpl hlaw himg : Int} {rf : Nat → Int} {nd sw nc hl hs : Int} {K U I O G L cf ct fc nx cd : Nat → Int} {nr ns nm : Int} {rd ry rm rt se md my mt : Nat → Int} {M : ND} {ls : LSm} (cr : RefC h (t, tp, fpl, rf, hlaw, himg, ((nd, sw, nc), (hl, hs), K, U, I, O, G, L, cf, ct, fc, nx, cd), ((nr, ns, nm), rd, ry, rm, rt, se, md, my, mt), M, ls) th) {x : Int} (ix : inR x) {base : PD} (fb : FreshP base) (hpi : ∀ P2, pLines t x.toNat 700 base 0 = .inr P2 → PInvP P2) : mSem yX9_port cX9_port 3 (some .int) 7 0 0 [.ref 68, iv x] 97 h (PortR (ocL [(whaB x tp, 1)]) h (t, tp, fpl, rf, hlaw, himg, ((nd, sw, nc), (hl, hs), K, U, I, O, G, L, cf, ct, fc, nx, cd), ((nr, ns, nm), rd, ry, rm, rt, se, md, my, mt), M, ls) x.toNat base) noX := by
  refine RefC_elim cr (fun g dl cl lm trr rfr nD nC nL lt lgt mn rdg cpl grp sea rts row cod ncod pil opn stg bsd imo imr ims imm w c68 c69 c70 c71 c72 c73 c74 c75 c76 c77 c78 c79 c80 c81 c82 c83 c84 c85 c86 c87 c88 c89 c90 c91 c92 c93 c94 c95 hth rr => ?_)
  refine RR_elim rr (fun e8 e10 e33 e38 e44 e53 tr pi ni li rrf rtp htp rrd rse phl phi rim rco ht nM nsn => ?_)
  obtain ⟨t1, t2, t3, t31, pnm, tdl, tcl, tlm, tmd, pmt, pmd, pmy⟩ := id tr
  obtain ⟨pnd, psw, pnc, pK, pU, pI, pO, pG, pL, pcf, pct, pfc, pnx⟩ := id pi
  obtain ⟨pnr, pns, pnm2, prd, pry, prm, prt, pse, pmd2, pmy2, pmt2⟩ := id ni
  unfold inR at ix
  refine mSem_of (own := RX9) (name := "port") pn_X9 rfl rfl (Nat.le_of_ble_eq_true rfl) ?_
  refine r_aload_n dX9_port_0 rfl rfl ?_
  refine r_iconst dX9_port_1 ?_
  refine r_putR dX9_port_2 fp_X9_102 (by decide) c68 (nar_int _) (Nat.le_of_ble_eq_true rfl) setR_0 (fun z0 hz0 => ?_)
  refine r_aload_n dX9_port_5 rfl rfl ?_
  refine r_iload_n dX9_port_6 rfl rfl ?_
  refine r_if_lt (tgt := 22) dX9_port_7 (by decide) ⟨by omega, by omega⟩ (fun g7 => ?_) (fun g7 => ?_)
  · have hwf : whaB x tp = false := decide_eq_false (by omega)
    refine r_iconst dX9_port_22 ?_
    refine r_iconst dX9_port_23 ?_
    refine r_callV 68 [_, _] (s_X9_right (b := false) (g := (va_up g 0 z0)) (by rfl) (by exact hz0) (by decide)) dX9_port_24 cs_X9_207 im_X9_right (by decide) rfl rfl (by decide) (by decide) (by decide) rfl rfl (Nat.le_of_ble_eq_true rfl) (fun _ _ _ q => q.elim) (fun v n2 h2 q => ?_)
    obtain ⟨rfl, q⟩ := q
    rcases q with ⟨kb0, rfl, hh⟩ | ⟨kb0, rfl, hh⟩
    · exact absurd kb0 (by decide)
    · obtain rfl := hh.symm
      refine ⟨rfl, ?_⟩
      dsimp only [Option.toList, List.cons_append, List.nil_append]
      refine r_if_ne (tgt := 32) dX9_port_27 (by decide) ⟨by omega, by omega⟩ (fun g27 => absurd g27 (by omega)) (fun g27 => ?_)
      refine r_iconst dX9_port_30 ?_
      refine r_iret dX9_port_31 ?_
      exact ⟨rfl, (by repeat (first | exact fun _ _ => rfl | refine frr_up ?_ (by decide))), Or.inl ⟨by rw [ocF hwf]; decide, ⟨0, rfl⟩, (RefC_mk (g := (va_up (va_up g 0 z0) 0 1)) rfl (by exact c69) (by exact c70) (by exact c71) (by exact c72) (by exact c73) (by exact c74) (by exact c75) (by exact c76) (by exact c77) (by exact c78) (by exact c79) (by exact c80) (by exact c81) (by exact c82) (by exact c83) (by exact c84) (by exact c85) (by exact c86) (by exact c87) (by exact c88) (by exact c89) (by exact c90) (by exact c91) (by exact c92) (by exact c93) (by exact c94) (by exact c95) (congrArg (fun n : Nat => (n : Int)) (ocF hwf).symm) (RR_mk (by first | exact e8 | exact (kp2 8 (by decide)).trans e8) (by first | exact e10 | exact (kp2 10 (by decide)).trans e10) (by first | exact e33 | exact (kp2 33 (by decide)).trans e33) (by first | exact e38 | exact (kp2 38 (by decide)).trans e38) (by first | exact e44 | exact (kp2 44 (by decide)).trans e44) (by first | exact e53 | exact (kp2 53 (by decide)).trans e53) (by first | exact tr | exact tell_kp (by exact tr) kp2) pi ni (by first | exact li | exact li2) rrf rtp htp rrd rse phl phi rim rco ht nM nsn))⟩⟩
  · refine r_iload_n dX9_port_10 rfl rfl ?_
    refine r_aload_n dX9_port_11 rfl rfl ?_
    refine r_getR (z := (g 8)) dX9_port_12 fl_X9_105 (by decide) rfl rfl ?_
    rw [e8]
    refine r_icmp_gt (tgt := 22) dX9_port_15 (by decide) ⟨by omega, by omega⟩ ⟨by omega, by omega⟩ (fun g15 => ?_) (fun g15 => ?_)
    · have hwf : whaB x tp = false := decide_eq_false (by omega)
      refine r_iconst dX9_port_22 ?_
      refine r_iconst dX9_port_23 ?_
      refine r_callV 68 [_, _] (s_X9_right (b := false) (g := (va_up g 0 z0)) (by rfl) (by exact hz0) (by decide)) dX9_port_24 cs_X9_207 im_X9_right (by decide) rfl rfl (by decide) (by decide) (by decide) rfl rfl (Nat.le_of_ble_eq_true rfl) (fun _ _ _ q => q.elim) (fun v n2 h2 q => ?_)
      obtain ⟨rfl, q⟩ := q
      rcases q with ⟨kb0, rfl, hh⟩ | ⟨kb0, rfl, hh⟩
      · exact absurd kb0 (by decide)
      · obtain rfl := hh.symm
        refine ⟨rfl, ?_⟩
        dsimp only [Option.toList, List.cons_append, List.nil_append]
        refine r_if_ne (tgt := 32) dX9_port_27 (by decide) ⟨by omega, by omega⟩ (fun g27 => absurd g27 (by omega)) (fun g27 => ?_)
        refine r_iconst dX9_port_30 ?_
        refine r_iret dX9_port_31 ?_
        exact ⟨rfl, (by repeat (first | exact fun _ _ => rfl | refine frr_up ?_ (by decide))), Or.inl ⟨by rw [ocF hwf]; decide, ⟨0, rfl⟩, (RefC_mk (g := (va_up (va_up g 0 z0) 0 1)) rfl (by exact c69) (by exact c70) (by exact c71) (by exact c72) (by exact c73) (by exact c74) (by exact c75) (by exact c76) (by exact c77) (by exact c78) (by exact c79) (by exact c80) (by exact c81) (by exact c82) (by exact c83) (by exact c84) (by exact c85) (by exact c86) (by exact c87) (by exact c88) (by exact c89) (by exact c90) (by exact c91) (by exact c92) (by exact c93) (by exact c94) (by exact c95) (congrArg (fun n : Nat => (n : Int)) (ocF hwf).symm) (RR_mk (by first | exact e8 | exact (kp2 8 (by decide)).trans e8) (by first | exact e10 | exact (kp2 10 (by decide)).trans e10) (by first | exact e33 | exact (kp2 33 (by decide)).trans e33) (by first | exact e38 | exact (kp2 38 (by decide)).trans e38) (by first | exact e44 | exact (kp2 44 (by decide)).trans e44) (by first | exact e53 | exact (kp2 53 (by decide)).trans e53) (by first | exact tr | exact tell_kp (by exact tr) kp2) pi ni (by first | exact li | exact li2) rrf rtp htp rrd rse phl phi rim rco ht nM nsn))⟩⟩
    · refine r_iconst dX9_port_18 ?_
      refine r_goto (tgt := 23) dX9_port_19 (by decide) ?_
      refine r_iconst dX9_port_23 ?_
      refine r_callV 68 [_, _] (s_X9_right (b := true) (g := (va_up g 0 z0)) (by rfl) (by exact hz0) (by decide)) dX9_port_24 cs_X9_207 im_X9_right (by decide) rfl rfl (by decide) (by decide) (by decide) rfl rfl (Nat.le_of_ble_eq_true rfl) (fun _ _ _ q => q.elim) (fun v n2 h2 q => ?_)
      obtain ⟨rfl, q⟩ := q
      rcases q with ⟨kb0, rfl, hh⟩ | ⟨kb0, rfl, hh⟩
      · obtain rfl := hh.symm
        refine ⟨rfl, ?_⟩
        dsimp only [Option.toList, List.cons_append, List.nil_append]
        refine r_if_ne (tgt := 32) dX9_port_27 (by decide) ⟨by omega, by omega⟩ (fun g27 => ?_) (fun g27 => absurd g27 (by omega))
        refine r_aload_n dX9_port_32 rfl rfl ?_
        refine r_iconst dX9_port_33 ?_
        refine r_putR dX9_port_34 fp_X9_105 (by decide) rfl (nar_int _) (Nat.le_of_ble_eq_true rfl) setR_8 (fun z1 hz1 => ?_)
        refine r_aload_n dX9_port_37 rfl rfl ?_
        refine r_iconst dX9_port_38 ?_
        refine r_putR dX9_port_39 fp_X9_26 (by decide) rfl (nar_int _) (Nat.le_of_ble_eq_true rfl) setR_10 (fun z2 hz2 => ?_)
        refine r_aload_n dX9_port_42 rfl rfl ?_
        refine r_iconst dX9_port_43 ?_
        refine r_putR dX9_port_44 fp_X9_158 (by decide) rfl (nar_int _) (Nat.le_of_ble_eq_true rfl) setR_9 (fun z3 hz3 => ?_)
        refine r_aload_n dX9_port_47 rfl rfl ?_
        refine r_iload_n dX9_port_48 rfl rfl ?_
        refine r_putR dX9_port_49 fp_X9_112 (by decide) rfl (nar_int _) (Nat.le_of_ble_eq_true rfl) setR_12 (fun z4 hz4 => ?_)
        refine r_aload_n dX9_port_52 rfl rfl ?_
        refine r_iconst dX9_port_53 ?_
        refine r_putR dX9_port_54 fp_X9_115 (by decide) rfl (nar_int _) (Nat.le_of_ble_eq_true rfl) setR_13 (fun z5 hz5 => ?_)
        refine r_aload_n dX9_port_57 rfl rfl ?_
        refine r_iconst dX9_port_58 ?_
        refine r_putR dX9_port_59 fp_X9_175 (by decide) rfl (nar_int _) (Nat.le_of_ble_eq_true rfl) setR_20 (fun z6 hz6 => ?_)
        refine r_aload_n dX9_port_62 rfl rfl ?_
        refine r_iconst dX9_port_63 ?_
        refine r_putR dX9_port_64 fp_X9_188 (by decide) rfl (nar_int _) (Nat.le_of_ble_eq_true rfl) setR_21 (fun z7 hz7 => ?_)
        refine r_aload_n dX9_port_67 rfl rfl ?_
        refine r_bipush dX9_port_68 rfl ?_
        refine r_putR dX9_port_70 fp_X9_204 (by decide) rfl (nar_int _) (Nat.le_of_ble_eq_true rfl) setR_22 (fun z8 hz8 => ?_)
        refine r_aload_n dX9_port_73 rfl rfl ?_
        refine r_iconst dX9_port_74 ?_
        refine r_putR dX9_port_75 fp_X9_197 (by decide) rfl (nar_bool (by omega)) (Nat.le_of_ble_eq_true rfl) setR_23 (fun z9 hz9 => ?_)
        refine r_aload_n dX9_port_78 rfl rfl ?_
        refine r_iconst dX9_port_79 ?_
        refine r_putR dX9_port_80 fp_X9_201 (by decide) rfl (nar_bool (by omega)) (Nat.le_of_ble_eq_true rfl) setR_24 (fun z10 hz10 => ?_)
        refine r_iconst dX9_port_83 ?_
        refine r_istore_n (lv2 := [(0, _), (1, _), (2, _)]) dX9_port_84 rfl (by decide) rfl rfl ?_
        have hwt : whaB x tp = true := decide_eq_true (by omega)
        obtain ⟨le, hle0⟩ : ∃ q : Nat, x = q := ⟨x.toNat, by omega⟩
        rw [hle0, Int.toNat_natCast] at hpi
        rw [show x.toNat = le by omega]
        have hle : le ≤ 700 := by omega
        have htt : ∀ j, j < le → trr j = t j % 256 := fun j hj => rtp j (by omega)
        simp only [bx_uu]
        refine ev_h (up_same (k := 76) (e := .inl (0, 12, nL)) (by exact c76)) ?_
        refine l_X9_port0 (fun LL hLL => ?_) 12 0 nL (by decide) (fun j hj => absurd hj (Nat.not_lt_zero j))
        refine r_aload_n dX9_port_104 rfl rfl ?_
        refine r_callV 68 [] (s_X9_steps (g := (va_up (va_up (va_up (va_up (va_up (va_up (va_up (va_up (va_up (va_up (va_up g 0 z0) 8 z1) 10 z2) 9 z3) 12 z4) 13 z5) 20 z6) 21 z7) 22 z8) 23 z9) 24 z10)) (e := 0) (by rfl) (by exact c72) ht hle htt (Nat.zero_le _) (by show z4 = (le : Int); omega) (by show z5 = ((0 : Nat) : Int); omega)) dX9_port_105 cs_X9_165 im_X9_steps (by decide) rfl rfl (by decide) (by decide) (by decide) rfl rfl (Nat.le_of_ble_eq_true rfl) (fun _ _ _ q => q.elim) (fun v n2 h2 q => ?_)
        obtain ⟨rfl, rfl, g104, w104, rfl, rs104, kp104⟩ := q
        refine ⟨rfl, ?_⟩
        dsimp only [Option.toList, List.cons_append, List.nil_append]
        have q104 : ∀ k, ¬ (13 ≤ k ∧ k ≤ 18) → g104 k = (va_up (va_up (va_up (va_up (va_up (va_up (va_up (va_up (va_up (va_up (va_up g 0 z0) 8 z1) 10 z2) 9 z3) 12 z4) 13 z5) 20 z6) 21 z7) 22 z8) 23 z9) 24 z10) k := kp104
        refine ev_h (vt_mk (h := h) (g := g104) (w := w104) (nD := nD) (nC := nC) (nL := LL) rfl (by exact c74) (by exact c75) rfl (fun j a b c d => by simp only [va_up, a, b, c, d, if_false])) ?_
        obtain ⟨Kb, Ub, Ib, Ob, Gb, Lb, cfb, ctb, fcb, nxb, rfl⟩ := id fb
        refine l_X9_port c72 ht hle htt (g := g104) (by decide) (r := pLines t le 700 ((0, 120, 0), (0, 0), Kb, Ub, Ib, Ob, Gb, fillF Lb 0 12, cfb, ctb, fillF fcb 0 365, nxb, (fun _ => 0)) 0) (fun gg ww nD nC nL P2 hr g9 g10 pr fr => ?_) (fun gg ww nD nC nL f p hr hf g9 g10 fr => ?_) 700 g104 w104 nD nC LL _ 0 (by omega) rfl rs104 ((q104 9 (by decide)).trans (by show z3 = (0 : Int); omega)) rfl ⟨(q104 20 (by decide)).trans (by show z6 = (0 : Int); omega), (q104 21 (by decide)).trans (by show z7 = (0 : Int); omega), (q104 22 (by decide)).trans (by show z8 = (120 : Int); omega), (q104 23 (by decide)).trans (by show z9 = (0 : Int); omega), (q104 24 (by decide)).trans (by show z10 = (0 : Int); omega), ⟨Int.le_refl _, show (0 : Int) ≤ 9 by decide⟩, ⟨Int.le_refl _, show (0 : Int) ≤ 20 by decide⟩, Or.inl rfl, Or.inl rfl, fun j hj => absurd hj (by omega), fun j hj => absurd hj (by omega), fun j hj => by rw [hLL j hj]; unfold fillF; rw [if_pos hj]⟩ (fun _ _ _ _ => rfl)
        · have f10 : g104 10 = -1 := (q104 10 (by decide)).trans (by show z2 = (-1 : Int); omega)
          have f0 : gg 0 = 0 := (fr 0 (by decide) (by decide) (by decide)).trans ((q104 0 (by decide)).trans (by show z0 = (0 : Int); omega))
          have f8 : gg 8 = 0 := (fr 8 (by decide) (by decide) (by decide)).trans ((q104 8 (by decide)).trans (by show z1 = (0 : Int); omega))
          have fk : ∀ k, ¬ k = 0 → ¬ (8 ≤ k ∧ k ≤ 24) → gg k = g k := fun k a b => (fr k (by omega) (by omega) (by omega)).trans ((q104 k (by omega)).trans (by (repeat rw [va_up_ne _ _ (by omega)])))
          obtain ⟨⟨nd2, sw2, nc2⟩, ⟨hl2, hs2⟩, K2, U2, I2, O2, G2, L2, cf2, ct2, fc2, nx2, cd2⟩ := P2
          obtain ⟨p20, p21, p22, p23, p24, pnd3, pnc3, phl3, phs3, pdl, pcl, plm⟩ := pr
          refine r_aload_n dX9_port_129 rfl rfl ?_
          refine r_callV 68 [] (s_X9_good1 (g := gg) (by rfl) g9) dX9_port_130 cs_X9_161 im_X9_isGood (by decide) rfl rfl (by decide) (by decide) (by decide) rfl rfl (Nat.le_of_ble_eq_true rfl) (fun _ _ _ q => q.elim) (fun v n2 h2 q => ?_)
          obtain ⟨rfl, rfl, hh⟩ := q
          obtain rfl := hh.symm
          refine ⟨rfl, ?_⟩
          dsimp only [Option.toList, List.cons_append, List.nil_append]
          refine r_if_ne (tgt := 151) dX9_port_133 (by decide) ⟨by omega, by omega⟩ (fun g133 => ?_) (fun g133 => absurd g133 (by omega))
          refine r_aload_n dX9_port_151 rfl rfl ?_
          refine r_aload_n dX9_port_152 rfl rfl ?_
          refine r_getR (z := (gg 20)) dX9_port_153 fl_X9_175 (by decide) rfl rfl ?_
          refine r_putR dX9_port_156 fp_X9_214 (by decide) rfl (nar_int _) (Nat.le_of_ble_eq_true rfl) setR_1 (fun z0 hz0 => ?_)
          refine r_aload_n dX9_port_159 rfl rfl ?_
          refine r_aload_n dX9_port_160 rfl rfl ?_
          refine r_getR (z := (gg 21)) dX9_port_161 fl_X9_188 (by decide) rfl rfl ?_
          refine r_putR dX9_port_164 fp_X9_217 (by decide) rfl (nar_int _) (Nat.le_of_ble_eq_true rfl) setR_2 (fun z1 hz1 => ?_)
          refine r_aload_n dX9_port_167 rfl rfl ?_
          refine r_aload_n dX9_port_168 rfl rfl ?_
          refine r_getR (z := (gg 22)) dX9_port_169 fl_X9_204 (by decide) rfl rfl ?_
          refine r_putR dX9_port_172 fp_X9_7 (by decide) rfl (nar_int _) (Nat.le_of_ble_eq_true rfl) setR_3 (fun z2 hz2 => ?_)
          refine r_aload_n dX9_port_175 rfl rfl ?_
          refine r_aload_n dX9_port_176 rfl rfl ?_
          refine r_get (fs := RGL _ _) dX9_port_177 fl_X9_32 (by decide) rfl rfl ?_
          refine r_aload_n dX9_port_180 rfl rfl ?_
          refine r_get (fs := RGL _ _) dX9_port_181 fl_X9_13 (by decide) rfl rfl ?_
          refine r_callV 68 [.ref 74, .ref 69] (s_X9_copies_74 (by rfl) (by exact c69)) dX9_port_184 cs_X9_220 im_X9_copies (by decide) rfl rfl (by decide) (by decide) (by decide) rfl rfl (Nat.le_of_ble_eq_true rfl) (fun _ _ _ q => q.elim) (fun v n2 h2 q => ?_)
          obtain ⟨rfl, rfl, hh⟩ := q
          obtain rfl := hh.symm
          refine ⟨rfl, ?_⟩
          dsimp only [Option.toList, List.cons_append, List.nil_append]
          refine r_aload_n dX9_port_187 rfl rfl ?_
          refine r_aload_n dX9_port_188 rfl rfl ?_
          refine r_get (fs := RGL _ _) dX9_port_189 fl_X9_35 (by decide) rfl rfl ?_
          refine r_aload_n dX9_port_192 rfl rfl ?_
          refine r_get (fs := RGL _ _) dX9_port_193 fl_X9_17 (by decide) rfl rfl ?_
          refine r_callV 68 [.ref 75, .ref 70] (s_X9_copies_75 (by rfl) (by exact c70)) dX9_port_196 cs_X9_220 im_X9_copies (by decide) rfl rfl (by decide) (by decide) (by decide) rfl rfl (Nat.le_of_ble_eq_true rfl) (fun _ _ _ q => q.elim) (fun v n2 h2 q => ?_)
          obtain ⟨rfl, rfl, hh⟩ := q
          obtain rfl := hh.symm
          refine ⟨rfl, ?_⟩
          dsimp only [Option.toList, List.cons_append, List.nil_append]
          refine r_aload_n dX9_port_199 rfl rfl ?_
          refine r_aload_n dX9_port_200 rfl rfl ?_
          refine r_get (fs := RGL _ _) dX9_port_201 fl_X9_38 (by decide) rfl rfl ?_
          refine r_aload_n dX9_port_204 rfl rfl ?_
          refine r_get (fs := RGL _ _) dX9_port_205 fl_X9_20 (by decide) rfl rfl ?_
          refine r_callV 68 [.ref 76, .ref 71] (s_X9_copies_76 (by rfl) (by exact c71)) dX9_port_208 cs_X9_220 im_X9_copies (by decide) rfl rfl (by decide) (by decide) (by decide) rfl rfl (Nat.le_of_ble_eq_true rfl) (fun _ _ _ q => q.elim) (fun v n2 h2 q => ?_)
          obtain ⟨rfl, rfl, hh⟩ := q
          obtain rfl := hh.symm
          refine ⟨rfl, ?_⟩
          dsimp only [Option.toList, List.cons_append, List.nil_append]
          refine r_aload_n dX9_port_211 rfl rfl ?_
          refine r_iconst dX9_port_212 ?_
          refine r_putR dX9_port_213 fp_X9_224 (by decide) rfl (nar_int _) (Nat.le_of_ble_eq_true rfl) setR_33 (fun z3 hz3 => ?_)
          refine r_aload_n dX9_port_216 rfl rfl ?_
          refine r_iconst dX9_port_217 ?_
          refine r_putR dX9_port_218 fp_X9_227 (by decide) rfl (nar_int _) (Nat.le_of_ble_eq_true rfl) setR_38 (fun z4 hz4 => ?_)
          refine r_aload_n dX9_port_221 rfl rfl ?_
          refine r_iconst dX9_port_222 ?_
          refine r_putR dX9_port_223 fp_X9_230 (by decide) rfl (nar_int _) (Nat.le_of_ble_eq_true rfl) setR_31 (fun z5 hz5 => ?_)
          refine r_aload_n dX9_port_226 rfl rfl ?_
          refine r_iconst dX9_port_227 ?_
          refine r_putR dX9_port_228 fp_X9_48 (by decide) rfl (nar_int _) (Nat.le_of_ble_eq_true rfl) setR_30 (fun z6 hz6 => ?_)
          refine r_aload_n dX9_port_231 rfl rfl ?_
          refine r_iconst dX9_port_232 ?_
          refine r_putR dX9_port_233 fp_X9_233 (by decide) rfl (nar_bool (by omega)) (Nat.le_of_ble_eq_true rfl) setR_44 (fun z7 hz7 => ?_)
          refine r_aload_n dX9_port_236 rfl rfl ?_
          refine r_iconst dX9_port_237 ?_
          refine r_putR dX9_port_238 fp_X9_236 (by decide) rfl (nar_bool (by omega)) (Nat.le_of_ble_eq_true rfl) setR_53 (fun z8 hz8 => ?_)
          refine r_iconst dX9_port_241 ?_
          refine r_iret dX9_port_242 ?_
          exact ⟨rfl, (by repeat (first | exact fun _ _ => rfl | refine frr_up ?_ (by decide))), Or.inr ⟨(ocT hwt).trans ocE, Or.inr ⟨_, hr, rfl, (RefC_mk (g := (va_up (va_up (va_up (va_up (va_up (va_up (va_up (va_up (va_up gg 1 z0) 2 z1) 3 z2) 33 z3) 38 z4) 31 z5) 30 z6) 44 z7) 53 z8)) rfl rfl rfl rfl (by exact c72) (by exact c73) rfl rfl rfl (by exact c77) (by exact c78) (by exact c79) (by exact c80) (by exact c81) (by exact c82) (by exact c83) (by exact c84) (by exact c85) (by exact c86) (by exact c87) (by exact c88) (by exact c89) (by exact c90) (by exact c91) (by exact c92) (by exact c93) (by exact c94) (by exact c95) f0 (RR_mk f8 (g10.trans f10) (by show z3 = (0 : Int); omega) (by show z4 = (0 : Int); omega) (by show z7 = (0 : Int); omega) (by show z8 = (0 : Int); omega) ⟨by show z0 = nd2; omega, by show z1 = nc2; omega, by show z2 = sw2; omega, by show z5 = (0 : Int); omega, ⟨Int.le_refl _, show (0 : Int) ≤ 40 by decide⟩, dlr_cpy pdl pnd3.2, clr_cpy pcl pnc3.2, lmr_cpy plm, fun j hj => absurd hj (by omega), pmt, pmd, pmy⟩ (hpi _ hr) ⟨⟨Int.le_refl _, show (0 : Int) ≤ 12 by decide⟩, ⟨Int.le_refl _, show (0 : Int) ≤ 9 by decide⟩, ⟨Int.le_refl _, show (0 : Int) ≤ 40 by decide⟩, prd, pry, prm, prt, (fill_L pse (by decide)), pmd2, pmy2, pmt2⟩ (Or.inl (by show z6 = (-1 : Int); omega)) rrf (fun j hj => absurd hj (Nat.not_lt_zero j)) (Nat.zero_le _) (fun j hj => absurd hj (by omega)) ⟨fun k hk => absurd hk (by omega), fun d hd hs => absurd (by show fillF se (-1) 9 d = -1; unfold fillF; rw [if_pos hd]) hs, fun i j _ hj => absurd hj (by omega)⟩ (Or.inl rfl) (Or.inl rfl) (fun q => absurd q (by decide)) (fun q => absurd q (by decide)) ht nM (snc_fill se 9 (Nat.le_refl _)).symm))⟩⟩⟩
        · have f10 : g104 10 = -1 := (q104 10 (by decide)).trans (by show z2 = (-1 : Int); omega)
          have f0 : gg 0 = 0 := (fr 0 (by decide) (by decide) (by decide)).trans ((q104 0 (by decide)).trans (by show z0 = (0 : Int); omega))
          have f8 : gg 8 = 0 := (fr 8 (by decide) (by decide) (by decide)).trans ((q104 8 (by decide)).trans (by show z1 = (0 : Int); omega))
          have fk : ∀ k, ¬ k = 0 → ¬ (8 ≤ k ∧ k ≤ 24) → gg k = g k := fun k a b => (fr k (by omega) (by omega) (by omega)).trans ((q104 k (by omega)).trans (by (repeat rw [va_up_ne _ _ (by omega)])))
          refine r_aload_n dX9_port_129 rfl rfl ?_
          refine r_callV 68 [] (s_X9_good0 (g := gg) (by rfl) ⟨by omega, by omega⟩) dX9_port_130 cs_X9_161 im_X9_isGood (by decide) rfl rfl (by decide) (by decide) (by decide) rfl rfl (Nat.le_of_ble_eq_true rfl) (fun _ _ _ q => q.elim) (fun v n2 h2 q => ?_)
          obtain ⟨rfl, rfl, hh⟩ := q
          obtain rfl := hh.symm
          refine ⟨rfl, ?_⟩
          dsimp only [Option.toList, List.cons_append, List.nil_append]
          refine r_if_ne (tgt := 151) dX9_port_133 (by decide) ⟨by omega, by omega⟩ (fun g133 => absurd g133 (by omega)) (fun g133 => ?_)
          refine r_aload_n dX9_port_136 rfl rfl ?_
          refine r_get (fs := RGL _ _) dX9_port_137 fl_X9_29 (by decide) rfl rfl ?_
          refine r_iconst dX9_port_140 ?_
          refine r_dup2 dX9_port_141 rfl rfl ?_
          refine r_ald dX9_port_142 (by decide) c73 (by omega) (by omega) (by decide) ?_
          refine r_iconst dX9_port_143 ?_
          refine r_iadd dX9_port_144 ?_
          refine r_ast dX9_port_145 (by decide) c73 (by omega) (by omega) (by decide) ?_
          refine r_aload_n dX9_port_146 rfl rfl ?_
          refine r_getR (z := (gg 9)) dX9_port_147 fl_X9_158 (by decide) rfl rfl ?_
          refine r_iret dX9_port_150 ?_
          exact ⟨rfl, (by repeat (first | exact fun _ _ => rfl | refine frr_up ?_ (by decide))), Or.inr ⟨(ocT hwt).trans ocE, Or.inl ⟨f, p, hr, by rw [g9], (RefC_mk (g := gg) rfl (by exact c69) (by exact c70) (by exact c71) (by exact c72) rfl rfl rfl rfl (by exact c77) (by exact c78) (by exact c79) (by exact c80) (by exact c81) (by exact c82) (by exact c83) (by exact c84) (by exact c85) (by exact c86) (by exact c87) (by exact c88) (by exact c89) (by exact c90) (by exact c91) (by exact c92) (by exact c93) (by exact c94) (by exact c95) f0 (RR_mk f8 g10 ((fk 33 (by decide) (by decide)).trans e33) ((fk 38 (by decide) (by decide)).trans e38) ((fk 44 (by decide) (by decide)).trans e44) ((fk 53 (by decide) (by decide)).trans e53) (tell_k4 tr (fk 1 (by decide) (by decide)) (fk 2 (by decide) (by decide)) (fk 3 (by decide) (by decide)) (fk 31 (by decide) (by decide))) pi ni (by rw [fk 30 (by decide) (by decide)]; exact li) (fun j hj => by show va_up rfr 0 (rfr 0 + 1) j = va_up rf 0 (rf 0 + 1) j; by_cases q : j = 0; (subst q; rw [va_up_self, va_up_self, rrf _ (by decide)]); (rw [va_up_ne _ _ q, va_up_ne _ _ q]; exact rrf j hj)) (fun j hj => absurd hj (Nat.not_lt_zero j)) (Nat.zero_le _) rrd rse phl phi rim rco ht nM nsn))⟩⟩⟩
      · exact absurd kb0 (by decide)

