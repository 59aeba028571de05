/-! ===== the reference reads a line, a port ===== -/
theorem PRel_kp {nD nC nL g g2 : Nat → Int} {d : PD} (h : PRel nD nC nL g d) (k : ∀ k, (20 ≤ k ∧ k ≤ 24) → g2 k = g k) : PRel nD nC nL g2 d := by
  obtain ⟨⟨nd, sw, nc⟩, ⟨hl, hs⟩, K, U, I, O, G, L, cf, ct, fc, nx, cd⟩ := d
  obtain ⟨p20, p21, p22, p23, p24, r⟩ := h
  exact ⟨(k 20 (by decide)).trans p20, (k 21 (by decide)).trans p21, (k 22 (by decide)).trans p22, (k 23 (by decide)).trans p23, (k 24 (by decide)).trans p24, r⟩
def lineR (t : Nat → Int) (le : Nat) (d : PD) (e : Nat) : (Int × Nat) ⊕ (PD × Nat) := match pLine t le d e with
  | .inl x => .inl x
  | .inr (d2, e2) => if signAt t le e2 59 = true then .inr (d2, tkE t le e2) else .inl (1, tkS t le e2)
theorem lmr_up {nL L : Nat → Int} (h : LmR nL L) (i : Nat) (v : Int) : LmR (va_up nL i v) (va_up L i v) := by
  intro j hj
  unfold va_up
  split
  · rfl
  · exact h j hj

theorem r_icmpA_ne {own name : String} {cc : ByteArray} {mL : Nat} {rt : Option FieldType} {d mc ms : Nat} {Q : Option Value → Nat → aH → Prop} {X : String → Nat → aH → Prop} {n : Nat} {h : aH} {pc : Nat} {lv : List (Nat × Value)} {st : List Value} {x y : Int} {o : Int} {tgt : Nat} (hd : decode cc pc = .ok (.if_icmp .ne o, 3)) (ht : (pc : Int) + o = tgt) (k1 : Ev own name cc mL rt d mc ms Q X n h tgt lv st) (k2 : Ev own name cc mL rt d mc ms Q X n h (pc + 3) lv st) : Ev own name cc mL rt d mc ms Q X n h pc lv (iv y :: iv x :: st) := by
  have e1 : ∀ z : Int, iv z = iv (Int32.ofInt z).toInt := fun z => congrArg Value.int (Int32.ofInt_toInt _).symm
  rw [e1 x, e1 y]
  have b : ∀ z : Int, inR (Int32.ofInt z).toInt := fun z => ⟨Int32.le_toInt _, Int.le_of_lt_add_one (Int32.toInt_lt _)⟩
  exact r_icmp_ne hd ht (b _) (b _) (fun _ => k1) (fun _ => k2)

theorem l_X9_lineB2 {h : aH} {g : Nat → Int} {w : Int} (c68 : h 68 = RG g w) {Q : Option Value → Nat → aH → Prop} {d : Nat} (hd3 : 3 ≤ d) (b9 : 1 ≤ g 9 ∧ g 9 ≤ 9) (kk : Q none 97 h) : Ev RX9 "line" cX9_line 2 none d 0 0 Q noX 97 h 157 [(0, .ref 68)] [] := by
  refine r_aload_n dX9_line_157 rfl rfl ?_
  refine r_aload_n dX9_line_158 rfl rfl ?_
  refine r_getR (z := (g 14)) dX9_line_159 fl_X9_135 (by decide) c68 rfl ?_
  refine r_iconst dX9_line_162 ?_
  refine r_icmpA_ne (tgt := 179) dX9_line_163 (by decide) ?_ ?_
  · refine r_iconst dX9_line_179 ?_
    refine r_callV 68 [_] (s_X9_need0 (g := g) c68 b9) dX9_line_180 cs_X9_181 im_X9_need (by decide) c68 rfl (by omega) (by decide) (by decide) rfl rfl (Nat.le_of_ble_eq_true rfl) (fun _ _ _ q => q.elim) (fun v n2 h2 q => ?_)
    obtain ⟨rfl, rfl, hh⟩ := q
    obtain rfl := hh.symm
    refine ⟨rfl, ?_⟩
    dsimp only [Option.toList, List.cons_append, List.nil_append]
    refine r_vret dX9_line_183 ?_
    exact kk
  · refine r_aload_n dX9_line_166 rfl rfl ?_
    refine r_getR (z := (g 18)) dX9_line_167 fl_X9_132 (by decide) c68 rfl ?_
    refine r_bipush dX9_line_170 rfl ?_
    refine r_icmpA_ne (tgt := 179) dX9_line_172 (by decide) ?_ ?_
    · refine r_iconst dX9_line_179 ?_
      refine r_callV 68 [_] (s_X9_need0 (g := g) c68 b9) dX9_line_180 cs_X9_181 im_X9_need (by decide) c68 rfl (by omega) (by decide) (by decide) rfl rfl (Nat.le_of_ble_eq_true rfl) (fun _ _ _ q => q.elim) (fun v n2 h2 q => ?_)
      obtain ⟨rfl, rfl, hh⟩ := q
      obtain rfl := hh.symm
      refine ⟨rfl, ?_⟩
      dsimp only [Option.toList, List.cons_append, List.nil_append]
      refine r_vret dX9_line_183 ?_
      exact kk
    · refine r_iconst dX9_line_175 ?_
      refine r_goto (tgt := 180) dX9_line_176 (by decide) ?_
      refine r_callV 68 [_] (s_X9_need0 (g := g) c68 b9) dX9_line_180 cs_X9_181 im_X9_need (by decide) c68 rfl (by omega) (by decide) (by decide) rfl rfl (Nat.le_of_ble_eq_true rfl) (fun _ _ _ q => q.elim) (fun v n2 h2 q => ?_)
      obtain ⟨rfl, rfl, hh⟩ := q
      obtain rfl := hh.symm
      refine ⟨rfl, ?_⟩
      dsimp only [Option.toList, List.cons_append, List.nil_append]
      refine r_vret dX9_line_183 ?_
      exact kk

theorem l_X9_lineG {h : aH} {g : Nat → Int} {w : Int} (c68 : h 68 = RG g w) {trr : Nat → Int} (c72 : h 72 = .inl (0, 700, trr)) {t : Nat → Int} (ht : ∀ j, -128 ≤ t j ∧ t j ≤ 127) {le : Nat} (hle : le ≤ 700) (htt : ∀ j, j < le → trr j = t j % 256) {e : Nat} (rs : RS t le e g w) (h9 : g 9 = 0) {Q : Option Value → Nat → aH → Prop} {d : Nat} (hd3 : 3 ≤ d) (k1 : signAt t le e 59 = true → ∀ g2 w2, RS t le (tkE t le e) g2 w2 → (∀ k, ¬ (13 ≤ k ∧ k ≤ 18) → g2 k = g k) → Q none 97 (va_up h 68 (RG g2 w2))) (k0 : ¬ signAt t le e 59 = true → Q none 97 (va_up h 68 (RG (va_up (va_up g 9 1) 10 (tkS t le e : Int)) w))) : Ev RX9 "line" cX9_line 2 none d 0 0 Q noX 97 h 157 [(0, .ref 68)] [] := by
  have hsb := sort_B rs
  have hsg := RS_sg ht rs (c := 59) (by decide)
  refine r_aload_n dX9_line_157 rfl rfl ?_
  refine r_aload_n dX9_line_158 rfl rfl ?_
  refine r_getR (z := (g 14)) dX9_line_159 fl_X9_135 (by decide) c68 rfl ?_
  refine r_iconst dX9_line_162 ?_
  refine r_icmp_ne (tgt := 179) dX9_line_163 (by decide) ⟨by omega, by omega⟩ ⟨by omega, by omega⟩ (fun g163 => ?_) (fun g163 => ?_)
  · refine r_iconst dX9_line_179 ?_
    refine r_callV 68 [_] (s_X9_needF (g := g) c68 c72 ht hle htt rs h9) dX9_line_180 cs_X9_181 im_X9_need (by decide) c68 rfl (by omega) (by decide) (by decide) rfl rfl (Nat.le_of_ble_eq_true rfl) (fun _ _ _ q => q.elim) (fun v n2 h2 q => ?_)
    obtain ⟨rfl, rfl, hh⟩ := q
    obtain rfl := hh.symm
    refine ⟨rfl, ?_⟩
    dsimp only [Option.toList, List.cons_append, List.nil_append]
    refine r_vret dX9_line_183 ?_
    exact k0 (fun q => absurd (hsg.mpr q) (by omega))
  · refine r_aload_n dX9_line_166 rfl rfl ?_
    refine r_getR (z := (g 18)) dX9_line_167 fl_X9_132 (by decide) c68 rfl ?_
    refine r_bipush dX9_line_170 rfl ?_
    refine r_icmp_ne (tgt := 179) dX9_line_172 (by decide) ⟨by omega, by omega⟩ ⟨by omega, by omega⟩ (fun g172 => ?_) (fun g172 => ?_)
    · refine r_iconst dX9_line_179 ?_
      refine r_callV 68 [_] (s_X9_needF (g := g) c68 c72 ht hle htt rs h9) dX9_line_180 cs_X9_181 im_X9_need (by decide) c68 rfl (by omega) (by decide) (by decide) rfl rfl (Nat.le_of_ble_eq_true rfl) (fun _ _ _ q => q.elim) (fun v n2 h2 q => ?_)
      obtain ⟨rfl, rfl, hh⟩ := q
      obtain rfl := hh.symm
      refine ⟨rfl, ?_⟩
      dsimp only [Option.toList, List.cons_append, List.nil_append]
      refine r_vret dX9_line_183 ?_
      exact k0 (fun q => absurd (hsg.mpr q) (by omega))
    · refine r_iconst dX9_line_175 ?_
      refine r_goto (tgt := 180) dX9_line_176 (by decide) ?_
      refine r_callV 68 [_] (s_X9_needT (g := g) c68 c72 ht hle htt rs h9) dX9_line_180 cs_X9_181 im_X9_need (by decide) c68 rfl (by omega) (by decide) (by decide) rfl rfl (Nat.le_of_ble_eq_true rfl) (fun _ _ _ q => q.elim) (fun v n2 h2 q => ?_)
      obtain ⟨rfl, rfl, g4, w4, rfl, rs4, kp4⟩ := q
      refine ⟨rfl, ?_⟩
      dsimp only [Option.toList, List.cons_append, List.nil_append]
      refine r_vret dX9_line_183 ?_
      exact k1 (hsg.mp ⟨by omega, by omega⟩) g4 w4 rs4 kp4

theorem l_X9_limpB {h : aH} {g : Nat → Int} {w : Int} (c68 : h 68 = RG g w) {Q : Option Value → Nat → aH → Prop} {d : Nat} (hd3 : 4 ≤ d) (b9 : 1 ≤ g 9 ∧ g 9 ≤ 9) : ∀ (n i : Nat) (LL : Nat → Int), i + n = 12 → (∀ LL, Ev RX9 "line" cX9_line 2 none d 0 0 Q noX 97 (va_up (va_up h 68 (RG g w)) 76 (.inl (0, 12, LL))) 96 [(0, .ref 68), (1, iv 12)] []) → Ev RX9 "line" cX9_line 2 none d 0 0 Q noX 97 (va_up (va_up h 68 (RG g w)) 76 (.inl (0, 12, LL))) 72 [(0, .ref 68), (1, iv (i : Nat))] [] := by
  intro n
  induction n with
  | zero =>
    intro i LL hi kk
    obtain rfl : i = 12 := by omega
    refine r_iload_n dX9_line_72 rfl rfl ?_
    refine r_bipush dX9_line_73 rfl ?_
    refine r_icmp_ge (tgt := 96) dX9_line_75 (by decide) ⟨by omega, by omega⟩ ⟨by omega, by omega⟩ (fun g75 => ?_) (fun g75 => absurd g75 (by omega))
    exact kk LL
  | succ n ih =>
    intro i LL hi kk
    refine r_iload_n dX9_line_72 rfl rfl ?_
    refine r_bipush dX9_line_73 rfl ?_
    refine r_icmp_ge (tgt := 96) dX9_line_75 (by decide) ⟨by omega, by omega⟩ ⟨by omega, by omega⟩ (fun g75 => absurd g75 (by omega)) (fun g75 => ?_)
    refine r_aload_n dX9_line_78 rfl rfl ?_
    refine r_get (fs := RGL _ _) dX9_line_79 fl_X9_38 (by decide) rfl rfl ?_
    refine r_iload_n dX9_line_82 rfl rfl ?_
    refine r_aload_n dX9_line_83 rfl rfl ?_
    refine r_bipush dX9_line_84 rfl ?_
    refine r_callV 68 [_] (s_X9_signed0 (g := g) (by rfl) b9) dX9_line_86 cs_X9_185 im_X9_signed (by decide) rfl rfl (by omega) (by decide) (by decide) rfl rfl (Nat.le_of_ble_eq_true rfl) (fun _ _ _ q => q.elim) (fun v n2 h2 q => ?_)
    obtain ⟨rfl, rfl, hh⟩ := q
    obtain rfl := hh.symm
    refine ⟨rfl, ?_⟩
    dsimp only [Option.toList, List.cons_append, List.nil_append]
    refine r_ast dX9_line_89 (by decide) rfl (by omega) (by omega) (by decide) ?_
    refine r_iinc (lv2 := [(0, _), (1, _)]) dX9_line_90 (by decide) rfl rfl rfl ?_
    refine r_goto (tgt := 72) dX9_line_93 (by decide) ?_
    rw [show (i : Int) + 1 = ((i + 1 : Nat) : Int) by omega, bx_uu]
    exact ih (i + 1) _ (by omega) kk

theorem l_X9_limpC {h : aH} {g : Nat → Int} {w : Int} {Q : Option Value → Nat → aH → Prop} {d : Nat} (hd3 : 4 ≤ d) (b9 : 1 ≤ g 9 ∧ g 9 ≤ 9) (n i : Nat) (LL : Nat → Int) (hi : i + n = 12) (kk : ∀ LL, Ev RX9 "line" cX9_line 2 none d 0 0 Q noX 97 (va_up (va_up h 68 (RG g w)) 76 (.inl (0, 12, LL))) 96 [(0, .ref 68), (1, iv 12)] []) : Ev RX9 "line" cX9_line 2 none d 0 0 Q noX 97 (va_up (va_up h 68 (RG g w)) 76 (.inl (0, 12, LL))) 72 [(0, .ref 68), (1, iv (i : Nat))] [] := by
  have e1 : ∀ LL : Nat → Int, va_up (va_up (va_up h 68 (RG g w)) 68 (RG g w)) 76 (.inl (0, 12, LL)) = (va_up (va_up h 68 (RG g w)) 76 (.inl (0, 12, LL))) := fun LL => by rw [bx_uu]
  have h1 := l_X9_limpB (h := va_up h 68 (RG g w)) (g := g) (w := w) (Q := Q) rfl hd3 b9 n i LL hi (fun L2 => by rw [e1]; exact kk L2)
  rw [e1] at h1
  exact h1

theorem vt_76 (h : aH) (g g2 : Nat → Int) (w w2 : Int) (L L2 : Nat → Int) : va_up (va_up (va_up (va_up h 68 (RG g w)) 76 (.inl (0, 12, L))) 68 (RG g2 w2)) 76 (.inl (0, 12, L2)) = (va_up (va_up h 68 (RG g2 w2)) 76 (.inl (0, 12, L2))) := by
  funext j
  unfold va_up
  by_cases q1 : j = 76
  · simp [q1]
  · by_cases q2 : j = 68
    · simp [q2]
    · simp [q1, q2]
theorem l_X9_limpG {h : aH} {trr : Nat → Int} (c72 : h 72 = .inl (0, 700, trr)) {t : Nat → Int} (ht : ∀ j, -128 ≤ t j ∧ t j ≤ 127) {le : Nat} (hle : le ≤ 700) (htt : ∀ j, j < le → trr j = t j % 256) {g : Nat → Int} (h9 : g 9 = 0) {Q : Option Value → Nat → aH → Prop} {d : Nat} (hd3 : 4 ≤ d) {r : (Int × Nat) ⊕ ((Nat → Int) × Nat)} (kg : ∀ (gg : Nat → Int) (ww : Int) (LL L2 : Nat → Int) (e2 : Nat), r = .inr (L2, e2) → RS t le e2 gg ww → (∀ k, ¬ (13 ≤ k ∧ k ≤ 18) → gg k = g k) → LmR LL L2 → Ev RX9 "line" cX9_line 2 none d 0 0 Q noX 97 (va_up (va_up h 68 (RG gg ww)) 76 (.inl (0, 12, LL))) 96 [(0, .ref 68), (1, iv 12)] []) (kf : ∀ (gg : Nat → Int) (ww : Int) (LL : Nat → Int) (f : Int) (p : Nat), r = .inl (f, p) → (f = 1 ∨ f = 2) → gg 9 = f → gg 10 = (p : Int) → (∀ k, ¬ (9 ≤ k ∧ k ≤ 10) → ¬ (13 ≤ k ∧ k ≤ 18) → gg k = g k) → Ev RX9 "line" cX9_line 2 none d 0 0 Q noX 97 (va_up (va_up h 68 (RG gg ww)) 76 (.inl (0, 12, LL))) 96 [(0, .ref 68), (1, iv 12)] []) : ∀ (n i : Nat) (gg : Nat → Int) (ww : Int) (LL L1 : Nat → Int) (e1 : Nat), i + n = 12 → limpL t le n i L1 e1 = r → RS t le e1 gg ww → (∀ k, ¬ (13 ≤ k ∧ k ≤ 18) → gg k = g k) → LmR LL L1 → Ev RX9 "line" cX9_line 2 none d 0 0 Q noX 97 (va_up (va_up h 68 (RG gg ww)) 76 (.inl (0, 12, LL))) 72 [(0, .ref 68), (1, iv (i : Nat))] [] := by
  intro n
  induction n with
  | zero =>
    intro i gg ww LL L1 e1 hi hr rs kq lm
    obtain rfl : i = 12 := by omega
    refine r_iload_n dX9_line_72 rfl rfl ?_
    refine r_bipush dX9_line_73 rfl ?_
    refine r_icmp_ge (tgt := 96) dX9_line_75 (by decide) ⟨by omega, by omega⟩ ⟨by omega, by omega⟩ (fun g75 => ?_) (fun g75 => absurd g75 (by omega))
    exact kg gg ww LL L1 e1 hr.symm rs kq lm
  | succ n ih =>
    intro i gg ww LL L1 e1 hi hr rs kq lm
    unfold limpL at hr
    refine r_iload_n dX9_line_72 rfl rfl ?_
    refine r_bipush dX9_line_73 rfl ?_
    refine r_icmp_ge (tgt := 96) dX9_line_75 (by decide) ⟨by omega, by omega⟩ ⟨by omega, by omega⟩ (fun g75 => absurd g75 (by omega)) (fun g75 => ?_)
    refine r_aload_n dX9_line_78 rfl rfl ?_
    refine r_get (fs := RGL _ _) dX9_line_79 fl_X9_38 (by decide) rfl rfl ?_
    refine r_iload_n dX9_line_82 rfl rfl ?_
    refine r_aload_n dX9_line_83 rfl rfl ?_
    refine r_bipush dX9_line_84 rfl ?_
    refine r_callV 68 [_] (s_X9_signed (g := gg) (by rfl) (by exact c72) ht hle htt rs ((kq 9 (by decide)).trans h9) ⟨by decide, by decide⟩) dX9_line_86 cs_X9_185 im_X9_signed (by decide) rfl rfl (by omega) (by decide) (by decide) rfl rfl (Nat.le_of_ble_eq_true rfl) (fun _ _ _ q => q.elim) (fun v n2 h2 q => ?_)
    obtain ⟨rfl, z86, g86, w86, rfl, rfl, hr86⟩ := q
    rcases hr86 with ⟨e86, hr86, rs86, kp86⟩ | ⟨f86, p86, hr86, hf86, nf86, np86, kp86⟩
    · have rs := rs86
      have kq := fun k hk => (kp86 k hk).trans (kq k hk)
      refine ⟨rfl, ?_⟩
      dsimp only [Option.toList, List.cons_append, List.nil_append]
      refine r_ast dX9_line_89 (by decide) rfl (by omega) (by omega) (by decide) ?_
      refine r_iinc (lv2 := [(0, _), (1, _)]) dX9_line_90 (by decide) rfl rfl rfl ?_
      refine r_goto (tgt := 72) dX9_line_93 (by decide) ?_
      rw [show (i : Int) + 1 = ((i + 1 : Nat) : Int) by omega, vt_76]
      rw [hr86] at hr
      exact ih (i + 1) g86 w86 _ (va_up L1 i z86) e86 (by omega) hr rs kq (by rw [Int.toNat_natCast]; exact lmr_up lm i z86)
    · have kb : ∀ k, ¬ (9 ≤ k ∧ k ≤ 10) → ¬ (13 ≤ k ∧ k ≤ 18) → g86 k = g k := fun k h1 h2 => (kp86 k h1 h2).trans (kq k h2)
      have b9 : 1 ≤ g86 9 ∧ g86 9 ≤ 9 := by omega
      have bp : g86 10 = (p86 : Int) := np86
      refine ⟨rfl, ?_⟩
      dsimp only [Option.toList, List.cons_append, List.nil_append]
      refine r_ast dX9_line_89 (by decide) rfl (by omega) (by omega) (by decide) ?_
      refine r_iinc (lv2 := [(0, _), (1, _)]) dX9_line_90 (by decide) rfl rfl rfl ?_
      refine r_goto (tgt := 72) dX9_line_93 (by decide) ?_
      rw [show (i : Int) + 1 = ((i + 1 : Nat) : Int) by omega, vt_76]
      rw [hr86] at hr
      exact l_X9_limpC hd3 b9 n (i + 1) _ (by omega) (fun LL2 => kf g86 w86 LL2 f86 p86 hr.symm hf86 nf86 np86 kb)

theorem s_X9_line {h : aH} {g : Nat → Int} {w : Int} (c68 : h 68 = RG g w) {trr : Nat → Int} (c72 : h 72 = .inl (0, 700, trr)) {nD nC nL : Nat → Int} (c74 : h 74 = .inl (0, 45, nD)) (c75 : h 75 = .inl (0, 60, nC)) (c76 : h 76 = .inl (0, 12, nL)) {t : Nat → Int} (ht : ∀ j, -128 ≤ t j ∧ t j ≤ 127) {le : Nat} (hle : le ≤ 700) (htt : ∀ j, j < le → trr j = t j % 256) {e : Nat} (rs : RS t le e g w) (h9 : g 9 = 0) {nd sw nc hl hs : Int} {K U I O G L cf ct fc nx cd : Nat → Int} (pr : PRel nD nC nL g ((nd, sw, nc), (hl, hs), K, U, I, O, G, L, cf, ct, fc, nx, cd))  : mSem yX9_line cX9_line 2 none 5 0 0 [.ref 68] 97 h (LnQ t le h g (lineR t le ((nd, sw, nc), (hl, hs), K, U, I, O, G, L, cf, ct, fc, nx, cd) e)) noX := by
  obtain ⟨p20, p21, p22, p23, p24, pnd, pnc, phl, phs, pdl, pcl, plm⟩ := id pr
  have kq : ∀ k, ¬ (13 ≤ k ∧ k ≤ 18) → g k = g k := fun _ _ => rfl
  refine mSem_of (own := RX9) (name := "line") pn_X9 rfl rfl (Nat.le_of_ble_eq_true rfl) ?_
  refine r_aload_n dX9_line_0 rfl rfl ?_
  refine r_bipush dX9_line_1 rfl ?_
  refine r_callV 68 [_] (s_X9_is (g := g) (k := 6) c68 c72 ht hle htt rs (by decide) (by decide)) dX9_line_3 cs_X9_178 im_X9_is (by decide) c68 rfl (by decide) (by decide) (by decide) rfl rfl (Nat.le_of_ble_eq_true rfl) (fun _ _ _ q => q.elim) (fun v n2 h2 q => ?_)
  obtain ⟨rfl, rfl, hh⟩ := q
  obtain rfl := hh.symm
  refine ⟨rfl, ?_⟩
  dsimp only [Option.toList, List.cons_append, List.nil_append]
  rw [show wIx 6 = 0 from rfl]
  have b6 := b2i_01 (wordAt t le e 0)
  refine r_if_eq (tgt := 16) dX9_line_6 (by decide) ⟨by omega, by omega⟩ (fun g6 => ?_) (fun g6 => ?_)
  · have w0 : ¬ wordAt t le e 0 = true := by rw [b2i_0] at g6; rw [g6]; decide
    refine r_aload_n dX9_line_16 rfl rfl ?_
    refine r_bipush dX9_line_17 rfl ?_
    refine r_callV 68 [_] (s_X9_is (g := g) (k := 10) c68 c72 ht hle htt rs (by decide) (by decide)) dX9_line_19 cs_X9_178 im_X9_is (by decide) c68 rfl (by decide) (by decide) (by decide) rfl rfl (Nat.le_of_ble_eq_true rfl) (fun _ _ _ q => q.elim) (fun v n2 h2 q => ?_)
    obtain ⟨rfl, rfl, hh⟩ := q
    obtain rfl := hh.symm
    refine ⟨rfl, ?_⟩
    dsimp only [Option.toList, List.cons_append, List.nil_append]
    rw [show wIx 10 = 10 from rfl]
    have b22 := b2i_01 (wordAt t le e 10)
    refine r_if_eq (tgt := 32) dX9_line_22 (by decide) ⟨by omega, by omega⟩ (fun g22 => ?_) (fun g22 => ?_)
    · have w10 : ¬ wordAt t le e 10 = true := by rw [b2i_0] at g22; rw [g22]; decide
      refine r_aload_n dX9_line_32 rfl rfl ?_
      refine r_bipush dX9_line_33 rfl ?_
      refine r_callV 68 [_] (s_X9_is (g := g) (k := 8) c68 c72 ht hle htt rs (by decide) (by decide)) dX9_line_35 cs_X9_178 im_X9_is (by decide) c68 rfl (by decide) (by decide) (by decide) rfl rfl (Nat.le_of_ble_eq_true rfl) (fun _ _ _ q => q.elim) (fun v n2 h2 q => ?_)
      obtain ⟨rfl, rfl, hh⟩ := q
      obtain rfl := hh.symm
      refine ⟨rfl, ?_⟩
      dsimp only [Option.toList, List.cons_append, List.nil_append]
      rw [show wIx 8 = 8 from rfl]
      have b38 := b2i_01 (wordAt t le e 8)
      refine r_if_eq (tgt := 99) dX9_line_38 (by decide) ⟨by omega, by omega⟩ (fun g38 => ?_) (fun g38 => ?_)
      · have w8 : ¬ wordAt t le e 8 = true := by rw [b2i_0] at g38; rw [g38]; decide
        refine r_aload_n dX9_line_99 rfl rfl ?_
        refine r_bipush dX9_line_100 rfl ?_
        refine r_callV 68 [_] (s_X9_is (g := g) (k := 9) c68 c72 ht hle htt rs (by decide) (by decide)) dX9_line_102 cs_X9_178 im_X9_is (by decide) c68 rfl (by decide) (by decide) (by decide) rfl rfl (Nat.le_of_ble_eq_true rfl) (fun _ _ _ q => q.elim) (fun v n2 h2 q => ?_)
        obtain ⟨rfl, rfl, hh⟩ := q
        obtain rfl := hh.symm
        refine ⟨rfl, ?_⟩
        dsimp only [Option.toList, List.cons_append, List.nil_append]
        rw [show wIx 9 = 9 from rfl]
        have b105 := b2i_01 (wordAt t le e 9)
        refine r_if_eq (tgt := 152) dX9_line_105 (by decide) ⟨by omega, by omega⟩ (fun g105 => ?_) (fun g105 => ?_)
        · have w9 : ¬ wordAt t le e 9 = true := by rw [b2i_0] at g105; rw [g105]; decide
          refine r_aload_n dX9_line_152 rfl rfl ?_
          refine r_iconst dX9_line_153 ?_
          refine r_callV 68 [_] (s_X9_wrong1 (g := g) c68 ((kq 9 (by decide)).trans h9)) dX9_line_154 cs_X9_168 im_X9_wrong (by decide) c68 rfl (by decide) (by decide) (by decide) rfl rfl (Nat.le_of_ble_eq_true rfl) (fun _ _ _ q => q.elim) (fun v n2 h2 q => ?_)
          obtain ⟨rfl, rfl, hh⟩ := q
          obtain rfl := hh.symm
          refine ⟨rfl, ?_⟩
          dsimp only [Option.toList, List.cons_append, List.nil_append]
          have hln : pLine t le ((nd, sw, nc), (hl, hs), K, U, I, O, G, L, cf, ct, fc, nx, cd) e = .inl (1, tkS t le e) := by unfold pLine; rw [if_neg w0, if_neg w8, if_neg w9, if_neg w10]
          exact l_X9_lineB2 (g := (va_up (va_up g 9 1) 10 (g 15))) (by rfl) (by decide) ⟨by show (1 : Int) ≤ 1; decide, by show (1 : Int) ≤ 9; decide⟩ ⟨rfl, rfl, _, _, nD, nC, nL, (vt_mk (by first | rfl | exact c68) (by first | rfl | exact c74) (by first | rfl | exact c75) (by first | rfl | exact c76) (fun j a b c d => by simp only [va_up, a, b, c, d, if_false])), Or.inr ⟨1, tkS t le e, by unfold lineR; rw [hln], by decide, rfl, rs.2.2.2.2.1⟩, fun k h1 h2 h3 => by rw [va_up_ne _ _ (by omega), va_up_ne _ _ (by omega)]⟩
        · have w9 : wordAt t le e 9 = true := by rw [b2i_0, Bool.not_eq_false] at g105; exact g105
          refine r_aload_n dX9_line_108 rfl rfl ?_
          refine r_getR (z := (g 24)) dX9_line_109 fl_X9_201 (by decide) c68 rfl ?_
          refine r_if_eq (tgt := 120) dX9_line_112 (by decide) ⟨by omega, by omega⟩ (fun g112 => ?_) (fun g112 => ?_)
          · refine r_aload_n dX9_line_120 rfl rfl ?_
            refine r_callV 68 [] (s_X9_good1 (g := g) c68 h9) dX9_line_121 cs_X9_161 im_X9_isGood (by decide) c68 rfl (by decide) (by decide) (by decide) rfl rfl (Nat.le_of_ble_eq_true rfl) (fun _ _ _ q => q.elim) (fun v n2 h2 q => ?_)
            obtain ⟨rfl, rfl, hh⟩ := q
            obtain rfl := hh.symm
            refine ⟨rfl, ?_⟩
            dsimp only [Option.toList, List.cons_append, List.nil_append]
            refine r_if_ne (tgt := 128) dX9_line_124 (by decide) ⟨by omega, by omega⟩ (fun g124 => ?_) (fun g124 => absurd g124 (by omega))
            refine r_aload_n dX9_line_128 rfl rfl ?_
            refine r_iconst dX9_line_129 ?_
            refine r_putR dX9_line_130 fp_X9_201 (by decide) c68 (nar_bool (by omega)) (Nat.le_of_ble_eq_true rfl) setR_24 (fun z0 hz0 => ?_)
            have rs : RS t le e (va_up g 24 z0) w := RS_kp rs (fun k hk => va_up_ne _ _ (by omega))
            refine r_aload_n dX9_line_133 rfl rfl ?_
            refine r_callV 68 [] (s_X9_steps (g := (va_up g 24 z0)) (e := tkE t le e) (by rfl) (by exact c72) ht hle htt (tk_B t rs.1).2.2.2.1 rs.2.1 rs.2.2.1) dX9_line_134 cs_X9_165 im_X9_steps (by decide) rfl rfl (by decide) (by decide) (by decide) rfl rfl (Nat.le_of_ble_eq_true rfl) (fun _ _ _ q => q.elim) (fun v n2 h2 q => ?_)
            obtain ⟨rfl, rfl, g134, w134, rfl, rs134, kp134⟩ := q
            have rs := rs134
            refine ⟨rfl, ?_⟩
            dsimp only [Option.toList, List.cons_append, List.nil_append]
            refine r_aload_n dX9_line_137 rfl rfl ?_
            refine r_aload_n dX9_line_138 rfl rfl ?_
            refine r_iconst dX9_line_139 ?_
            refine r_sipush dX9_line_140 rfl ?_
            refine r_callV 68 [_, _] (s_X9_number (g := g134) (by rfl) (by exact c72) ht hle htt rs ((kp134 9 (by decide)).trans h9) ⟨by decide, by decide⟩ ⟨by decide, by decide⟩) dX9_line_143 cs_X9_171 im_X9_number (by decide) rfl rfl (by decide) (by decide) (by decide) rfl rfl (Nat.le_of_ble_eq_true rfl) (fun _ _ _ q => q.elim) (fun v n2 h2 q => ?_)
            obtain ⟨rfl, z143, g143, w143, rfl, rfl, hr143⟩ := q
            rcases hr143 with ⟨e143, hr143, rs143, kp143⟩ | ⟨f143, p143, hr143, hf143, nf143, np143, kp143⟩
            · skip
              refine ⟨rfl, ?_⟩
              dsimp only [Option.toList, List.cons_append, List.nil_append]
              refine r_putR dX9_line_146 fp_X9_204 (by decide) rfl (nar_int _) (Nat.le_of_ble_eq_true rfl) setR_22 (fun z1 hz1 => ?_)
              refine r_goto (tgt := 157) dX9_line_149 (by decide) ?_
              have n9 : (va_up g143 22 z1) 9 = 0 := (kp143 9 (by decide)).trans ((kp134 9 (by decide)).trans h9)
              have rs : RS t le e143 (va_up g143 22 z1) w143 := RS_kp rs143 (fun k hk => va_up_ne _ _ (by omega))
              have k43 : ∀ k, ¬ (13 ≤ k ∧ k ≤ 18) → g143 k = va_up g 24 z0 k := fun k hk => (kp143 k hk).trans (kp134 k hk)
              have pr2 : PRel nD nC nL (va_up g143 22 z1) ((nd, z143, nc), (hl, 1), K, U, I, O, G, L, cf, ct, fc, nx, cd) := ⟨(k43 20 (by decide)).trans p20, (k43 21 (by decide)).trans p21, by show z1 = z143; omega, (k43 23 (by decide)).trans p23, (k43 24 (by decide)).trans (by show z0 = 1; omega), pnd, pnc, phl, Or.inr rfl, pdl, pcl, plm⟩
              have hln : pLine t le ((nd, sw, nc), (hl, hs), K, U, I, O, G, L, cf, ct, fc, nx, cd) e = .inr (((nd, z143, nc), (hl, 1), K, U, I, O, G, L, cf, ct, fc, nx, cd), e143) := by unfold pLine; rw [if_neg w0, if_neg w8, if_pos w9]; show (if ¬ hs = 0 then _ else _) = _; rw [if_neg (by omega), hr143]
              have fr3 : ∀ k, ¬ (9 ≤ k ∧ k ≤ 10) → ¬ (13 ≤ k ∧ k ≤ 18) → ¬ (20 ≤ k ∧ k ≤ 24) → (va_up g143 22 z1) k = g k := fun k h1 h2 h3 => by rw [va_up_ne _ _ (by omega), k43 k h2, va_up_ne _ _ (by omega)]
              refine l_X9_lineG (g := (va_up g143 22 z1)) (by rfl) (by exact c72) ht hle htt rs n9 (by decide) (fun hs1 g7 w7 rs7 kp7 => ?_) (fun hs0 => ?_)
              · exact ⟨rfl, rfl, g7, w7, nD, nC, nL, (vt_mk (by first | rfl | exact c68) (by first | rfl | exact c74) (by first | rfl | exact c75) (by first | rfl | exact c76) (fun j a b c d => by simp only [va_up, a, b, c, d, if_false])), Or.inl ⟨((nd, z143, nc), (hl, 1), K, U, I, O, G, L, cf, ct, fc, nx, cd), tkE t le e143, by unfold lineR; rw [hln]; dsimp only; rw [if_pos hs1], rs7, (kp7 9 (by decide)).trans n9, (kp7 10 (by decide)).trans (k43 10 (by decide)), PRel_kp pr2 (fun k hk => kp7 k (by omega))⟩, fun k h1 h2 h3 => (kp7 k h2).trans (fr3 k h1 h2 h3)⟩
              · exact ⟨rfl, rfl, _, _, nD, nC, nL, (vt_mk (by first | rfl | exact c68) (by first | rfl | exact c74) (by first | rfl | exact c75) (by first | rfl | exact c76) (fun j a b c d => by simp only [va_up, a, b, c, d, if_false])), Or.inr ⟨1, tkS t le e143, by unfold lineR; rw [hln]; dsimp only; rw [if_neg hs0], by decide, rfl, rfl⟩, fun k h1 h2 h3 => by rw [va_up_ne _ _ (by omega), va_up_ne _ _ (by omega)]; exact fr3 k h1 h2 h3⟩
            · skip
              refine ⟨rfl, ?_⟩
              dsimp only [Option.toList, List.cons_append, List.nil_append]
              refine r_putR dX9_line_146 fp_X9_204 (by decide) rfl (nar_int _) (Nat.le_of_ble_eq_true rfl) setR_22 (fun z1 hz1 => ?_)
              refine r_goto (tgt := 157) dX9_line_149 (by decide) ?_
              have hln : pLine t le ((nd, sw, nc), (hl, hs), K, U, I, O, G, L, cf, ct, fc, nx, cd) e = .inl (f143, p143) := by unfold pLine; rw [if_neg w0, if_neg w8, if_pos w9]; show (if ¬ hs = 0 then _ else _) = _; rw [if_neg (by omega), hr143]
              exact l_X9_lineB2 (g := va_up g143 22 z1) (by rfl) (by decide) ⟨by show (1 : Int) ≤ g143 9; omega, by show g143 9 ≤ (9 : Int); omega⟩ ⟨rfl, rfl, va_up g143 22 z1, _, nD, nC, nL, (vt_mk (by first | rfl | exact c68) (by first | rfl | exact c74) (by first | rfl | exact c75) (by first | rfl | exact c76) (fun j a b c d => by simp only [va_up, a, b, c, d, if_false])), Or.inr ⟨f143, p143, by unfold lineR; rw [hln], by omega, nf143, np143⟩, fun k h1 h2 h3 => by rw [va_up_ne _ _ (by omega), kp143 k h1 h2, kp134 k h2, va_up_ne _ _ (by omega)]⟩
          · refine r_aload_n dX9_line_115 rfl rfl ?_
            refine r_iconst dX9_line_116 ?_
            refine r_callV 68 [_] (s_X9_wrong1 (g := g) c68 ((kq 9 (by decide)).trans h9)) dX9_line_117 cs_X9_168 im_X9_wrong (by decide) c68 rfl (by decide) (by decide) (by decide) rfl rfl (Nat.le_of_ble_eq_true rfl) (fun _ _ _ q => q.elim) (fun v n2 h2 q => ?_)
            obtain ⟨rfl, rfl, hh⟩ := q
            obtain rfl := hh.symm
            refine ⟨rfl, ?_⟩
            dsimp only [Option.toList, List.cons_append, List.nil_append]
            refine r_aload_n dX9_line_120 rfl rfl ?_
            refine r_callV 68 [] (s_X9_good0 (g := (va_up (va_up g 9 3) 10 (g 15))) (by rfl) ⟨by show (1 : Int) ≤ 3; decide, by show (3 : Int) ≤ 9; decide⟩) dX9_line_121 cs_X9_161 im_X9_isGood (by decide) rfl rfl (by decide) (by decide) (by decide) rfl rfl (Nat.le_of_ble_eq_true rfl) (fun _ _ _ q => q.elim) (fun v n2 h2 q => ?_)
            obtain ⟨rfl, rfl, hh⟩ := q
            obtain rfl := hh.symm
            refine ⟨rfl, ?_⟩
            dsimp only [Option.toList, List.cons_append, List.nil_append]
            refine r_if_ne (tgt := 128) dX9_line_124 (by decide) ⟨by omega, by omega⟩ (fun g124 => absurd g124 (by omega)) (fun g124 => ?_)
            refine r_vret dX9_line_127 ?_
            have hln : pLine t le ((nd, sw, nc), (hl, hs), K, U, I, O, G, L, cf, ct, fc, nx, cd) e = .inl (3, tkS t le e) := by unfold pLine; rw [if_neg w0, if_neg w8, if_pos w9]; show (if ¬ hs = 0 then _ else _) = _; rw [if_pos (by omega)]
            exact ⟨rfl, rfl, _, _, nD, nC, nL, (vt_mk (by first | rfl | exact c68) (by first | rfl | exact c74) (by first | rfl | exact c75) (by first | rfl | exact c76) (fun j a b c d => by simp only [va_up, a, b, c, d, if_false])), Or.inr ⟨3, tkS t le e, by unfold lineR; rw [hln], by decide, rfl, rs.2.2.2.2.1⟩, fun k h1 h2 h3 => by rw [va_up_ne _ _ (by omega), va_up_ne _ _ (by omega)]⟩
      · have w8 : wordAt t le e 8 = true := by rw [b2i_0, Bool.not_eq_false] at g38; exact g38
        refine r_aload_n dX9_line_41 rfl rfl ?_
        refine r_getR (z := (g 23)) dX9_line_42 fl_X9_197 (by decide) c68 rfl ?_
        refine r_if_eq (tgt := 53) dX9_line_45 (by decide) ⟨by omega, by omega⟩ (fun g45 => ?_) (fun g45 => ?_)
        · refine r_aload_n dX9_line_53 rfl rfl ?_
          refine r_callV 68 [] (s_X9_good1 (g := g) c68 h9) dX9_line_54 cs_X9_161 im_X9_isGood (by decide) c68 rfl (by decide) (by decide) (by decide) rfl rfl (Nat.le_of_ble_eq_true rfl) (fun _ _ _ q => q.elim) (fun v n2 h2 q => ?_)
          obtain ⟨rfl, rfl, hh⟩ := q
          obtain rfl := hh.symm
          refine ⟨rfl, ?_⟩
          dsimp only [Option.toList, List.cons_append, List.nil_append]
          refine r_if_ne (tgt := 61) dX9_line_57 (by decide) ⟨by omega, by omega⟩ (fun g57 => ?_) (fun g57 => absurd g57 (by omega))
          refine r_aload_n dX9_line_61 rfl rfl ?_
          refine r_iconst dX9_line_62 ?_
          refine r_putR dX9_line_63 fp_X9_197 (by decide) c68 (nar_bool (by omega)) (Nat.le_of_ble_eq_true rfl) setR_23 (fun z0 hz0 => ?_)
          have rs : RS t le e (va_up g 23 z0) w := RS_kp rs (fun k hk => va_up_ne _ _ (by omega))
          refine r_aload_n dX9_line_66 rfl rfl ?_
          refine r_callV 68 [] (s_X9_steps (g := (va_up g 23 z0)) (e := tkE t le e) (by rfl) (by exact c72) ht hle htt (tk_B t rs.1).2.2.2.1 rs.2.1 rs.2.2.1) dX9_line_67 cs_X9_165 im_X9_steps (by decide) rfl rfl (by decide) (by decide) (by decide) rfl rfl (Nat.le_of_ble_eq_true rfl) (fun _ _ _ q => q.elim) (fun v n2 h2 q => ?_)
          obtain ⟨rfl, rfl, g67, w67, rfl, rs67, kp67⟩ := q
          refine ⟨rfl, ?_⟩
          dsimp only [Option.toList, List.cons_append, List.nil_append]
          refine r_iconst dX9_line_70 ?_
          refine r_istore_n (lv2 := [(0, _), (1, _)]) dX9_line_71 rfl (by decide) rfl rfl ?_
          have k67 : ∀ k, ¬ (13 ≤ k ∧ k ≤ 18) → g67 k = va_up g 23 z0 k := kp67
          refine ev_h (up_same (k := 76) (e := .inl (0, 12, nL)) (by exact c76)) ?_
          simp only [bx_uu]
          refine l_X9_limpG c72 ht hle htt (g := g67) ((k67 9 (by decide)).trans h9) (by decide) (r := limpL t le 12 0 L (tkE t le e)) (fun gg ww LL L2 e3 hr3 rs kq3 lm3 => ?_) (fun gg ww LL f3 p3 hr3 hf3 nf3 np3 kb3 => ?_) 12 0 g67 w67 nL L (tkE t le e) (by decide) rfl rs67 (fun _ _ => rfl) plm
          · refine r_goto (tgt := 157) dX9_line_96 (by decide) ?_
            refine r_lv (lv2 := [(0, _)]) rfl ?_
            have k3 : ∀ k, ¬ (13 ≤ k ∧ k ≤ 18) → gg k = va_up g 23 z0 k := fun k hk => (kq3 k hk).trans (k67 k hk)
            have n9 : gg 9 = 0 := (k3 9 (by decide)).trans h9
            have pr2 : PRel nD nC LL gg ((nd, sw, nc), (1, hs), K, U, I, O, G, L2, cf, ct, fc, nx, cd) := ⟨(k3 20 (by decide)).trans p20, (k3 21 (by decide)).trans p21, (k3 22 (by decide)).trans p22, (k3 23 (by decide)).trans (by show z0 = 1; omega), (k3 24 (by decide)).trans p24, pnd, pnc, Or.inr rfl, phs, pdl, pcl, lm3⟩
            have hln : pLine t le ((nd, sw, nc), (hl, hs), K, U, I, O, G, L, cf, ct, fc, nx, cd) e = .inr (((nd, sw, nc), (1, hs), K, U, I, O, G, L2, cf, ct, fc, nx, cd), e3) := by unfold pLine; rw [if_neg w0, if_pos w8]; show (if ¬ hl = 0 then _ else _) = _; rw [if_neg (by omega), hr3]
            have fr3 : ∀ k, ¬ (9 ≤ k ∧ k ≤ 10) → ¬ (13 ≤ k ∧ k ≤ 18) → ¬ (20 ≤ k ∧ k ≤ 24) → gg k = g k := fun k h1 h2 h3 => by rw [k3 k h2, va_up_ne _ _ (by omega)]
            refine l_X9_lineG (g := gg) (by rfl) (by exact c72) ht hle htt rs n9 (by decide) (fun hs1 g7 w7 rs7 kp7 => ?_) (fun hs0 => ?_)
            · exact ⟨rfl, rfl, g7, w7, nD, nC, LL, (vt_mk (by first | rfl | exact c68) (by first | rfl | exact c74) (by first | rfl | exact c75) (by first | rfl | exact c76) (fun j a b c d => by simp only [va_up, a, b, c, d, if_false])), Or.inl ⟨((nd, sw, nc), (1, hs), K, U, I, O, G, L2, cf, ct, fc, nx, cd), tkE t le e3, by unfold lineR; rw [hln]; dsimp only; rw [if_pos hs1], rs7, (kp7 9 (by decide)).trans n9, (kp7 10 (by decide)).trans (k3 10 (by decide)), PRel_kp pr2 (fun k hk => kp7 k (by omega))⟩, fun k h1 h2 h3 => (kp7 k h2).trans (fr3 k h1 h2 h3)⟩
            · exact ⟨rfl, rfl, _, _, nD, nC, LL, (vt_mk (by first | rfl | exact c68) (by first | rfl | exact c74) (by first | rfl | exact c75) (by first | rfl | exact c76) (fun j a b c d => by simp only [va_up, a, b, c, d, if_false])), Or.inr ⟨1, tkS t le e3, by unfold lineR; rw [hln]; dsimp only; rw [if_neg hs0], by decide, rfl, rfl⟩, fun k h1 h2 h3 => by rw [va_up_ne _ _ (by omega), va_up_ne _ _ (by omega)]; exact fr3 k h1 h2 h3⟩
          · refine r_goto (tgt := 157) dX9_line_96 (by decide) ?_
            refine r_lv (lv2 := [(0, _)]) rfl ?_
            have hln : pLine t le ((nd, sw, nc), (hl, hs), K, U, I, O, G, L, cf, ct, fc, nx, cd) e = .inl (f3, p3) := by unfold pLine; rw [if_neg w0, if_pos w8]; show (if ¬ hl = 0 then _ else _) = _; rw [if_neg (by omega), hr3]
            exact l_X9_lineB2 (g := gg) (by rfl) (by decide) (by omega) ⟨rfl, rfl, gg, ww, nD, nC, LL, (vt_mk (by first | rfl | exact c68) (by first | rfl | exact c74) (by first | rfl | exact c75) (by first | rfl | exact c76) (fun j a b c d => by simp only [va_up, a, b, c, d, if_false])), Or.inr ⟨f3, p3, by unfold lineR; rw [hln], by omega, nf3, np3⟩, fun k h1 h2 h3 => by rw [kb3 k h1 h2, k67 k h2, va_up_ne _ _ (by omega)]⟩
        · refine r_aload_n dX9_line_48 rfl rfl ?_
          refine r_iconst dX9_line_49 ?_
          refine r_callV 68 [_] (s_X9_wrong1 (g := g) c68 ((kq 9 (by decide)).trans h9)) dX9_line_50 cs_X9_168 im_X9_wrong (by decide) c68 rfl (by decide) (by decide) (by decide) rfl rfl (Nat.le_of_ble_eq_true rfl) (fun _ _ _ q => q.elim) (fun v n2 h2 q => ?_)
          obtain ⟨rfl, rfl, hh⟩ := q
          obtain rfl := hh.symm
          refine ⟨rfl, ?_⟩
          dsimp only [Option.toList, List.cons_append, List.nil_append]
          refine r_aload_n dX9_line_53 rfl rfl ?_
          refine r_callV 68 [] (s_X9_good0 (g := (va_up (va_up g 9 3) 10 (g 15))) (by rfl) ⟨by show (1 : Int) ≤ 3; decide, by show (3 : Int) ≤ 9; decide⟩) dX9_line_54 cs_X9_161 im_X9_isGood (by decide) rfl rfl (by decide) (by decide) (by decide) rfl rfl (Nat.le_of_ble_eq_true rfl) (fun _ _ _ q => q.elim) (fun v n2 h2 q => ?_)
          obtain ⟨rfl, rfl, hh⟩ := q
          obtain rfl := hh.symm
          refine ⟨rfl, ?_⟩
          dsimp only [Option.toList, List.cons_append, List.nil_append]
          refine r_if_ne (tgt := 61) dX9_line_57 (by decide) ⟨by omega, by omega⟩ (fun g57 => absurd g57 (by omega)) (fun g57 => ?_)
          refine r_vret dX9_line_60 ?_
          have hln : pLine t le ((nd, sw, nc), (hl, hs), K, U, I, O, G, L, cf, ct, fc, nx, cd) e = .inl (3, tkS t le e) := by unfold pLine; rw [if_neg w0, if_pos w8]; show (if ¬ hl = 0 then _ else _) = _; rw [if_pos (by omega)]
          exact ⟨rfl, rfl, _, _, nD, nC, nL, (vt_mk (by first | rfl | exact c68) (by first | rfl | exact c74) (by first | rfl | exact c75) (by first | rfl | exact c76) (fun j a b c d => by simp only [va_up, a, b, c, d, if_false])), Or.inr ⟨3, tkS t le e, by unfold lineR; rw [hln], by decide, rfl, rs.2.2.2.2.1⟩, fun k h1 h2 h3 => by rw [va_up_ne _ _ (by omega), va_up_ne _ _ (by omega)]⟩
    · have w10 : wordAt t le e 10 = true := by rw [b2i_0, Bool.not_eq_false] at g22; exact g22
      refine r_aload_n dX9_line_25 rfl rfl ?_
      refine r_callV 68 [] (s_X9_readsCloud (g := g) (hl := hl) (hs := hs) (fc := fc) (nx := nx) c68 c72 c74 c75 c76 ht hle htt rs h9 pr) dX9_line_26 cs_X9_194 im_X9_readsCloud (by decide) c68 rfl (by decide) (by decide) (by decide) rfl rfl (Nat.le_of_ble_eq_true rfl) (fun _ _ _ q => q.elim) (fun v n2 h2 q => ?_)
      obtain ⟨rfl, rfl, g26, w26, nD2, nC2, nL2, rfl, hq, fr2⟩ := q
      rcases hq with ⟨d2, e2, hr2, rs2, n9, n10, pr2⟩ | ⟨f2, p2, hr2, hf2, nf2, np2⟩
      · have rs := rs2
        refine ⟨rfl, ?_⟩
        dsimp only [Option.toList, List.cons_append, List.nil_append]
        refine r_goto (tgt := 157) dX9_line_29 (by decide) ?_
        have hln : pLine t le ((nd, sw, nc), (hl, hs), K, U, I, O, G, L, cf, ct, fc, nx, cd) e = .inr (d2, e2) := by unfold pLine; rw [if_neg w0, if_neg (by rw [word_ne (j := 8) w10 (by decide)]; decide), if_neg (by rw [word_ne (j := 9) w10 (by decide)]; decide), if_pos w10, hr2]
        refine l_X9_lineG (g := g26) (by rfl) (by exact c72) ht hle htt rs n9 (by decide) (fun hs1 g7 w7 rs7 kp7 => ?_) (fun hs0 => ?_)
        · exact ⟨rfl, rfl, g7, w7, nD2, nC2, nL2, (vt_mk (by first | rfl | exact c68) (by first | rfl | exact c74) (by first | rfl | exact c75) (by first | rfl | exact c76) (fun j a b c d => by simp only [va_up, a, b, c, d, if_false])), Or.inl ⟨d2, tkE t le e2, by unfold lineR; rw [hln]; dsimp only; rw [if_pos hs1], rs7, (kp7 9 (by decide)).trans n9, (kp7 10 (by decide)).trans n10, PRel_kp pr2 (fun k hk => kp7 k (by omega))⟩, fun k h1 h2 h3 => (kp7 k h2).trans (fr2 k h1 h2 h3)⟩
        · exact ⟨rfl, rfl, _, _, nD2, nC2, nL2, (vt_mk (by first | rfl | exact c68) (by first | rfl | exact c74) (by first | rfl | exact c75) (by first | rfl | exact c76) (fun j a b c d => by simp only [va_up, a, b, c, d, if_false])), Or.inr ⟨1, tkS t le e2, by unfold lineR; rw [hln]; dsimp only; rw [if_neg hs0], by decide, rfl, rfl⟩, fun k h1 h2 h3 => by rw [va_up_ne _ _ (by omega), va_up_ne _ _ (by omega)]; exact fr2 k h1 h2 h3⟩
      · skip
        refine ⟨rfl, ?_⟩
        dsimp only [Option.toList, List.cons_append, List.nil_append]
        refine r_goto (tgt := 157) dX9_line_29 (by decide) ?_
        have hln : pLine t le ((nd, sw, nc), (hl, hs), K, U, I, O, G, L, cf, ct, fc, nx, cd) e = .inl (f2, p2) := by unfold pLine; rw [if_neg w0, if_neg (by rw [word_ne (j := 8) w10 (by decide)]; decide), if_neg (by rw [word_ne (j := 9) w10 (by decide)]; decide), if_pos w10, hr2]
        exact l_X9_lineB2 (g := g26) (by rfl) (by decide) (by omega) ⟨rfl, rfl, g26, _, nD2, nC2, nL2, (vt_mk (by first | rfl | exact c68) (by first | rfl | exact c74) (by first | rfl | exact c75) (by first | rfl | exact c76) (fun j a b c d => by simp only [va_up, a, b, c, d, if_false])), Or.inr ⟨f2, p2, by unfold lineR; rw [hln], hf2, nf2, np2⟩, fr2⟩
  · have w0 : wordAt t le e 0 = true := by rw [b2i_0, Bool.not_eq_false] at g6; exact g6
    refine r_aload_n dX9_line_9 rfl rfl ?_
    refine r_callV 68 [] (s_X9_readsDial (g := g) (hl := hl) (hs := hs) (fc := fc) (nx := nx) c68 c72 c74 c75 c76 ht hle htt rs h9 pr) dX9_line_10 cs_X9_191 im_X9_readsDial (by decide) c68 rfl (by decide) (by decide) (by decide) rfl rfl (Nat.le_of_ble_eq_true rfl) (fun _ _ _ q => q.elim) (fun v n2 h2 q => ?_)
    obtain ⟨rfl, rfl, g10, w10, nD2, nC2, nL2, rfl, hq, fr2⟩ := q
    rcases hq with ⟨d2, e2, hr2, rs2, n9, n10, pr2⟩ | ⟨f2, p2, hr2, hf2, nf2, np2⟩
    · have rs := rs2
      refine ⟨rfl, ?_⟩
      dsimp only [Option.toList, List.cons_append, List.nil_append]
      refine r_goto (tgt := 157) dX9_line_13 (by decide) ?_
      have hln : pLine t le ((nd, sw, nc), (hl, hs), K, U, I, O, G, L, cf, ct, fc, nx, cd) e = .inr (d2, e2) := by unfold pLine; rw [if_pos w0, hr2]
      refine l_X9_lineG (g := g10) (by rfl) (by exact c72) ht hle htt rs n9 (by decide) (fun hs1 g7 w7 rs7 kp7 => ?_) (fun hs0 => ?_)
      · exact ⟨rfl, rfl, g7, w7, nD2, nC2, nL2, (vt_mk (by first | rfl | exact c68) (by first | rfl | exact c74) (by first | rfl | exact c75) (by first | rfl | exact c76) (fun j a b c d => by simp only [va_up, a, b, c, d, if_false])), Or.inl ⟨d2, tkE t le e2, by unfold lineR; rw [hln]; dsimp only; rw [if_pos hs1], rs7, (kp7 9 (by decide)).trans n9, (kp7 10 (by decide)).trans n10, PRel_kp pr2 (fun k hk => kp7 k (by omega))⟩, fun k h1 h2 h3 => (kp7 k h2).trans (fr2 k h1 h2 h3)⟩
      · exact ⟨rfl, rfl, _, _, nD2, nC2, nL2, (vt_mk (by first | rfl | exact c68) (by first | rfl | exact c74) (by first | rfl | exact c75) (by first | rfl | exact c76) (fun j a b c d => by simp only [va_up, a, b, c, d, if_false])), Or.inr ⟨1, tkS t le e2, by unfold lineR; rw [hln]; dsimp only; rw [if_neg hs0], by decide, rfl, rfl⟩, fun k h1 h2 h3 => by rw [va_up_ne _ _ (by omega), va_up_ne _ _ (by omega)]; exact fr2 k h1 h2 h3⟩
    · skip
      refine ⟨rfl, ?_⟩
      dsimp only [Option.toList, List.cons_append, List.nil_append]
      refine r_goto (tgt := 157) dX9_line_13 (by decide) ?_
      have hln : pLine t le ((nd, sw, nc), (hl, hs), K, U, I, O, G, L, cf, ct, fc, nx, cd) e = .inl (f2, p2) := by unfold pLine; rw [if_pos w0, hr2]
      exact l_X9_lineB2 (g := g10) (by rfl) (by decide) (by omega) ⟨rfl, rfl, g10, _, nD2, nC2, nL2, (vt_mk (by first | rfl | exact c68) (by first | rfl | exact c74) (by first | rfl | exact c75) (by first | rfl | exact c76) (fun j a b c d => by simp only [va_up, a, b, c, d, if_false])), Or.inr ⟨f2, p2, by unfold lineR; rw [hln], hf2, nf2, np2⟩, fr2⟩

