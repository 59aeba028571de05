/-! ===== the scan: tokens ===== -/
def isLt (b : Int) : Bool := decide (97 ≤ b) && decide (b ≤ 122)
def isDg (b : Int) : Bool := decide (48 ≤ b) && decide (b ≤ 57)
def isBl (b : Int) : Bool := decide (b = 32) || decide (b = 10)
def skp (p : Int → Bool) (t : Nat → Int) : Nat → Nat → Nat
  | 0, i => i
  | k + 1, i => if p (t i) then skp p t k (i + 1) else i
theorem skp_B (p : Int → Bool) (t : Nat → Int) : ∀ (k i : Nat), i ≤ skp p t k i ∧ skp p t k i ≤ i + k := by
  intro k
  induction k with
  | zero => intro i; exact ⟨Nat.le_refl _, Nat.le_refl _⟩
  | succ k ih =>
    intro i
    have := ih (i + 1)
    unfold skp
    split <;> omega
def tkS (t : Nat → Int) (le e : Nat) : Nat := skp isBl t (le - e) e
def tkK (t : Nat → Int) (le e : Nat) : Int := if le ≤ tkS t le e then 0 else if isLt (t (tkS t le e)) then 1 else if isDg (t (tkS t le e)) then 2 else 3
def tkE (t : Nat → Int) (le e : Nat) : Nat := if le ≤ tkS t le e then tkS t le e else if isLt (t (tkS t le e)) then skp isLt t (le - tkS t le e) (tkS t le e) else if isDg (t (tkS t le e)) then skp isDg t (le - tkS t le e) (tkS t le e) else tkS t le e + 1
theorem tk_B (t : Nat → Int) {le e : Nat} (he : e ≤ le) : e ≤ tkS t le e ∧ tkS t le e ≤ le ∧ tkS t le e ≤ tkE t le e ∧ tkE t le e ≤ le ∧ (tkK t le e = 0 ∨ tkK t le e = 1 ∨ tkK t le e = 2 ∨ tkK t le e = 3) ∧ (tkK t le e ≠ 0 → tkS t le e < le ∧ tkS t le e < tkE t le e) := by
  have h1 := skp_B isBl t (le - e) e
  have h2 := skp_B isLt t (le - tkS t le e) (tkS t le e)
  have h3 := skp_B isDg t (le - tkS t le e) (tkS t le e)
  have hs : tkS t le e = skp isBl t (le - e) e := rfl
  have h4 : ∀ p : Int → Bool, p (t (tkS t le e)) = true → tkS t le e < le → tkS t le e < skp p t (le - tkS t le e) (tkS t le e) := by
    intro p hp hl
    obtain ⟨k, hk⟩ : ∃ k, le - tkS t le e = k + 1 := ⟨le - tkS t le e - 1, by omega⟩
    rw [hk]
    unfold skp
    rw [if_pos hp]
    have := skp_B p t k (tkS t le e + 1)
    omega
  unfold tkE tkK
  by_cases c1 : le ≤ tkS t le e
  · simp only [c1, if_true]
    exact ⟨by omega, by omega, by omega, by omega, Or.inl trivial, fun h => absurd rfl h⟩
  · simp only [c1, if_false]
    by_cases c2 : isLt (t (tkS t le e)) = true
    · simp only [c2, if_true]
      have := h4 isLt c2 (by omega)
      exact ⟨by omega, by omega, by omega, by omega, by simp, fun _ => ⟨by omega, by omega⟩⟩
    · simp only [c2, if_false]
      by_cases c3 : isDg (t (tkS t le e)) = true
      · simp only [c3, if_true]
        have := h4 isDg c3 (by omega)
        simp only [Bool.false_eq_true, if_false]
        exact ⟨by omega, by omega, by omega, by omega, by simp, fun _ => ⟨by omega, by omega⟩⟩
      · simp only [c3, Bool.false_eq_true, if_false]
        exact ⟨by omega, by omega, by omega, by omega, by simp, fun _ => ⟨by omega, by omega⟩⟩
abbrev SCN (fa pl tk : Int) (le : Nat) (ki : Int) (st en : Nat) : aE := .inr (6, [iv fa, iv pl, iv tk, .ref 1, iv le, iv ki, iv st, iv en])
abbrev SC (t : Nat → Int) (fa pl tk : Int) (le e : Nat) : aE := SCN fa pl tk le (tkK t le e) (tkS t le e) (tkE t le e)

theorem s_X6_isLetter {h : aH} {b : Int} (hb : -128 ≤ b ∧ b ≤ 127) : mSem yX6_isLetter cX6_isLetter 1 (some .boolean) 0 0 0 [iv b] 97 h (Ret (b2i (isLt b)) h) noX := by
  refine mSem_of (own := RX6) (name := "isLetter") pn_X6 rfl rfl (Nat.le_of_ble_eq_true rfl) ?_
  refine r_iload_n dX6_isLetter_0 rfl rfl ?_
  refine r_bipush dX6_isLetter_1 rfl ?_
  refine r_icmp_lt (tgt := 16) dX6_isLetter_3 (by decide) ⟨by omega, by omega⟩ ⟨by omega, by omega⟩ (fun g3 => ?_) (fun g3 => ?_)
  · refine r_iconst dX6_isLetter_16 ?_
    refine r_zret dX6_isLetter_17 (nar_z (by omega)) ?_
    exact ⟨ivE (by simp only [isLt, b2i]; simp; omega), rfl, rfl⟩
  · refine r_iload_n dX6_isLetter_6 rfl rfl ?_
    refine r_bipush dX6_isLetter_7 rfl ?_
    refine r_icmp_gt (tgt := 16) dX6_isLetter_9 (by decide) ⟨by omega, by omega⟩ ⟨by omega, by omega⟩ (fun g9 => ?_) (fun g9 => ?_)
    · refine r_iconst dX6_isLetter_16 ?_
      refine r_zret dX6_isLetter_17 (nar_z (by omega)) ?_
      exact ⟨ivE (by simp only [isLt, b2i]; simp; omega), rfl, rfl⟩
    · refine r_iconst dX6_isLetter_12 ?_
      refine r_goto (tgt := 17) dX6_isLetter_13 (by decide) ?_
      refine r_zret dX6_isLetter_17 (nar_z (by omega)) ?_
      exact ⟨ivE (by simp only [isLt, b2i]; simp; omega), rfl, rfl⟩

theorem s_X6_isDigit {h : aH} {b : Int} (hb : -128 ≤ b ∧ b ≤ 127) : mSem yX6_isDigit cX6_isDigit 1 (some .boolean) 0 0 0 [iv b] 97 h (Ret (b2i (isDg b)) h) noX := by
  refine mSem_of (own := RX6) (name := "isDigit") pn_X6 rfl rfl (Nat.le_of_ble_eq_true rfl) ?_
  refine r_iload_n dX6_isDigit_0 rfl rfl ?_
  refine r_bipush dX6_isDigit_1 rfl ?_
  refine r_icmp_lt (tgt := 16) dX6_isDigit_3 (by decide) ⟨by omega, by omega⟩ ⟨by omega, by omega⟩ (fun g3 => ?_) (fun g3 => ?_)
  · refine r_iconst dX6_isDigit_16 ?_
    refine r_zret dX6_isDigit_17 (nar_z (by omega)) ?_
    exact ⟨ivE (by simp only [isDg, b2i]; simp; omega), rfl, rfl⟩
  · refine r_iload_n dX6_isDigit_6 rfl rfl ?_
    refine r_bipush dX6_isDigit_7 rfl ?_
    refine r_icmp_gt (tgt := 16) dX6_isDigit_9 (by decide) ⟨by omega, by omega⟩ ⟨by omega, by omega⟩ (fun g9 => ?_) (fun g9 => ?_)
    · refine r_iconst dX6_isDigit_16 ?_
      refine r_zret dX6_isDigit_17 (nar_z (by omega)) ?_
      exact ⟨ivE (by simp only [isDg, b2i]; simp; omega), rfl, rfl⟩
    · refine r_iconst dX6_isDigit_12 ?_
      refine r_goto (tgt := 17) dX6_isDigit_13 (by decide) ?_
      refine r_zret dX6_isDigit_17 (nar_z (by omega)) ?_
      exact ⟨ivE (by simp only [isDg, b2i]; simp; omega), rfl, rfl⟩

theorem l_X6_adv1 {h : aH} {t : Nat → Int} (c1 : h 1 = .inl (1, 700, t)) (ht : ∀ j, -128 ≤ t j ∧ t j ≤ 127) {fa pl tk ki : Int} {le st en : Nat} (hle : le ≤ 700) {d : Nat} {Q : Option Value → Nat → aH → Prop} : ∀ (k s : Nat), s + k = le → Ev RX6 "advance" cX6_advance 1 none d 0 0 Q noX 97 (va_up h 3 (SCN fa pl tk le ki (skp isBl t k s) en)) 60 [(0, .ref 3)] [] → Ev RX6 "advance" cX6_advance 1 none d 0 0 Q noX 97 (va_up h 3 (SCN fa pl tk le ki s en)) 8 [(0, .ref 3)] [] := by
  intro k
  induction k with
  | zero =>
    intro s hs hk
    refine r_aload_n dX6_advance_8 rfl rfl ?_
    refine r_get (fs := [_, _, _, _, _, _, _, _]) dX6_advance_9 fl_X6_31 (by decide) rfl rfl ?_
    refine r_aload_n dX6_advance_12 rfl rfl ?_
    refine r_get (fs := [_, _, _, _, _, _, _, _]) dX6_advance_13 fl_X6_25 (by decide) rfl rfl ?_
    refine r_icmp_ge (tgt := 60) dX6_advance_16 (by decide) ⟨by omega, by omega⟩ ⟨by omega, by omega⟩ (fun g16 => ?_) (fun g16 => absurd g16 (by omega))
    exact hk
  | succ k ih =>
    intro s hs hk
    have bt := ht s
    unfold skp at hk
    refine r_aload_n dX6_advance_8 rfl rfl ?_
    refine r_get (fs := [_, _, _, _, _, _, _, _]) dX6_advance_9 fl_X6_31 (by decide) rfl rfl ?_
    refine r_aload_n dX6_advance_12 rfl rfl ?_
    refine r_get (fs := [_, _, _, _, _, _, _, _]) dX6_advance_13 fl_X6_25 (by decide) rfl rfl ?_
    refine r_icmp_ge (tgt := 60) dX6_advance_16 (by decide) ⟨by omega, by omega⟩ ⟨by omega, by omega⟩ (fun g16 => absurd g16 (by omega)) (fun g16 => ?_)
    refine r_aload_n dX6_advance_19 rfl rfl ?_
    refine r_get (fs := [_, _, _, _, _, _, _, _]) dX6_advance_20 fl_X6_21 (by decide) rfl rfl ?_
    refine r_aload_n dX6_advance_23 rfl rfl ?_
    refine r_get (fs := [_, _, _, _, _, _, _, _]) dX6_advance_24 fl_X6_31 (by decide) rfl rfl ?_
    refine r_bald dX6_advance_27 (by decide) c1 (by omega) (by omega) (by decide) ?_
    rw [Int.toNat_natCast]
    refine r_bipush dX6_advance_28 rfl ?_
    refine r_icmp_eq (tgt := 47) dX6_advance_30 (by decide) ⟨by omega, by omega⟩ ⟨by omega, by omega⟩ (fun g30 => ?_) (fun g30 => ?_)
    · refine r_aload_n dX6_advance_47 rfl rfl ?_
      refine r_dup dX6_advance_48 rfl ?_
      refine r_get (fs := [_, _, _, _, _, _, _, _]) dX6_advance_49 fl_X6_31 (by decide) rfl rfl ?_
      refine r_iconst dX6_advance_52 ?_
      refine r_iadd dX6_advance_53 ?_
      refine r_put (fs := [_, _, _, _, _, _, _, _]) (fs2 := [_, _, _, _, _, _, _, _]) dX6_advance_54 fp_X6_31 (by decide) rfl (nar_int _) (Nat.le_of_ble_eq_true rfl) rfl ?_
      refine r_goto (tgt := 8) dX6_advance_57 (by decide) ?_
      rw [if_pos (by simp only [isBl]; simp; omega)] at hk
      rw [bx_uu, show (s : Int) + 1 = ((s + 1 : Nat) : Int) by omega]
      exact ih (s + 1) (by omega) hk
    · refine r_aload_n dX6_advance_33 rfl rfl ?_
      refine r_get (fs := [_, _, _, _, _, _, _, _]) dX6_advance_34 fl_X6_21 (by decide) rfl rfl ?_
      refine r_aload_n dX6_advance_37 rfl rfl ?_
      refine r_get (fs := [_, _, _, _, _, _, _, _]) dX6_advance_38 fl_X6_31 (by decide) rfl rfl ?_
      refine r_bald dX6_advance_41 (by decide) c1 (by omega) (by omega) (by decide) ?_
      rw [Int.toNat_natCast]
      refine r_bipush dX6_advance_42 rfl ?_
      refine r_icmp_ne (tgt := 60) dX6_advance_44 (by decide) ⟨by omega, by omega⟩ ⟨by omega, by omega⟩ (fun g44 => ?_) (fun g44 => ?_)
      · rw [if_neg (by simp only [isBl]; simp; omega)] at hk
        exact hk
      · refine r_aload_n dX6_advance_47 rfl rfl ?_
        refine r_dup dX6_advance_48 rfl ?_
        refine r_get (fs := [_, _, _, _, _, _, _, _]) dX6_advance_49 fl_X6_31 (by decide) rfl rfl ?_
        refine r_iconst dX6_advance_52 ?_
        refine r_iadd dX6_advance_53 ?_
        refine r_put (fs := [_, _, _, _, _, _, _, _]) (fs2 := [_, _, _, _, _, _, _, _]) dX6_advance_54 fp_X6_31 (by decide) rfl (nar_int _) (Nat.le_of_ble_eq_true rfl) rfl ?_
        refine r_goto (tgt := 8) dX6_advance_57 (by decide) ?_
        rw [if_pos (by simp only [isBl]; simp; omega)] at hk
        rw [bx_uu, show (s : Int) + 1 = ((s + 1 : Nat) : Int) by omega]
        exact ih (s + 1) (by omega) hk

theorem l_X6_adv2 {h : aH} {t : Nat → Int} (c1 : h 1 = .inl (1, 700, t)) (ht : ∀ j, -128 ≤ t j ∧ t j ≤ 127) {fa pl tk ki : Int} {le st en : Nat} (hle : le ≤ 700) {d : Nat} (hd1 : 1 ≤ d) : ∀ (k s : Nat), s + k = le → Ev RX6 "advance" cX6_advance 1 none d 0 0 (RetV (va_up h 3 (SCN fa pl tk le 1 st (skp isLt t k s)))) noX 97 (va_up h 3 (SCN fa pl tk le 1 st s)) 107 [(0, .ref 3)] [] := by
  intro k
  induction k with
  | zero =>
    intro s hs
    refine r_aload_n dX6_advance_107 rfl rfl ?_
    refine r_get (fs := [_, _, _, _, _, _, _, _]) dX6_advance_108 fl_X6_34 (by decide) rfl rfl ?_
    refine r_aload_n dX6_advance_111 rfl rfl ?_
    refine r_get (fs := [_, _, _, _, _, _, _, _]) dX6_advance_112 fl_X6_25 (by decide) rfl rfl ?_
    refine r_icmp_ge (tgt := 220) dX6_advance_115 (by decide) ⟨by omega, by omega⟩ ⟨by omega, by omega⟩ (fun g115 => ?_) (fun g115 => absurd g115 (by omega))
    refine r_vret dX6_advance_220 ?_
    exact ⟨rfl, rfl, rfl⟩
  | succ k ih =>
    intro s hs
    have bt := ht s
    have b9 := b2i_01 (isLt (t s))
    unfold skp
    refine r_aload_n dX6_advance_107 rfl rfl ?_
    refine r_get (fs := [_, _, _, _, _, _, _, _]) dX6_advance_108 fl_X6_34 (by decide) rfl rfl ?_
    refine r_aload_n dX6_advance_111 rfl rfl ?_
    refine r_get (fs := [_, _, _, _, _, _, _, _]) dX6_advance_112 fl_X6_25 (by decide) rfl rfl ?_
    refine r_icmp_ge (tgt := 220) dX6_advance_115 (by decide) ⟨by omega, by omega⟩ ⟨by omega, by omega⟩ (fun g115 => absurd g115 (by omega)) (fun g115 => ?_)
    refine r_aload_n dX6_advance_118 rfl rfl ?_
    refine r_get (fs := [_, _, _, _, _, _, _, _]) dX6_advance_119 fl_X6_21 (by decide) rfl rfl ?_
    refine r_aload_n dX6_advance_122 rfl rfl ?_
    refine r_get (fs := [_, _, _, _, _, _, _, _]) dX6_advance_123 fl_X6_34 (by decide) rfl rfl ?_
    refine r_bald dX6_advance_126 (by decide) c1 (by omega) (by omega) (by decide) ?_
    rw [Int.toNat_natCast]
    refine r_callS [_] (s_X6_isLetter (by omega)) dX6_advance_127 cs_X6_49 sm_X6_isLetter (by omega) (by decide) (by decide) rfl rfl (Nat.le_of_ble_eq_true rfl) (fun _ _ _ q => q.elim) (fun v n2 h2 q => ?_)
    obtain ⟨rfl, rfl, hh⟩ := q
    obtain rfl := hh.symm
    refine ⟨rfl, ?_⟩
    dsimp only [Option.toList, List.cons_append, List.nil_append]
    refine r_if_eq (tgt := 220) dX6_advance_130 (by decide) ⟨by omega, by omega⟩ (fun g130 => ?_) (fun g130 => ?_)
    · refine r_vret dX6_advance_220 ?_
      rw [b2i_0] at g130
      exact ⟨rfl, rfl, by rw [if_neg (by rw [g130]; decide)]⟩
    · refine r_aload_n dX6_advance_133 rfl rfl ?_
      refine r_dup dX6_advance_134 rfl ?_
      refine r_get (fs := [_, _, _, _, _, _, _, _]) dX6_advance_135 fl_X6_34 (by decide) rfl rfl ?_
      refine r_iconst dX6_advance_138 ?_
      refine r_iadd dX6_advance_139 ?_
      refine r_put (fs := [_, _, _, _, _, _, _, _]) (fs2 := [_, _, _, _, _, _, _, _]) dX6_advance_140 fp_X6_34 (by decide) rfl (nar_int _) (Nat.le_of_ble_eq_true rfl) rfl ?_
      refine r_goto (tgt := 107) dX6_advance_143 (by decide) ?_
      rw [b2i_0, Bool.not_eq_false] at g130
      rw [if_pos g130, bx_uu, show (s : Int) + 1 = ((s + 1 : Nat) : Int) by omega]
      exact ih (s + 1) (by omega)

theorem l_X6_adv3 {h : aH} {t : Nat → Int} (c1 : h 1 = .inl (1, 700, t)) (ht : ∀ j, -128 ≤ t j ∧ t j ≤ 127) {fa pl tk ki : Int} {le st en : Nat} (hle : le ≤ 700) {d : Nat} (hd1 : 1 ≤ d) : ∀ (k s : Nat), s + k = le → Ev RX6 "advance" cX6_advance 1 none d 0 0 (RetV (va_up h 3 (SCN fa pl tk le 2 st (skp isDg t k s)))) noX 97 (va_up h 3 (SCN fa pl tk le 2 st s)) 166 [(0, .ref 3)] [] := by
  intro k
  induction k with
  | zero =>
    intro s hs
    refine r_aload_n dX6_advance_166 rfl rfl ?_
    refine r_get (fs := [_, _, _, _, _, _, _, _]) dX6_advance_167 fl_X6_34 (by decide) rfl rfl ?_
    refine r_aload_n dX6_advance_170 rfl rfl ?_
    refine r_get (fs := [_, _, _, _, _, _, _, _]) dX6_advance_171 fl_X6_25 (by decide) rfl rfl ?_
    refine r_icmp_ge (tgt := 220) dX6_advance_174 (by decide) ⟨by omega, by omega⟩ ⟨by omega, by omega⟩ (fun g174 => ?_) (fun g174 => absurd g174 (by omega))
    refine r_vret dX6_advance_220 ?_
    exact ⟨rfl, rfl, rfl⟩
  | succ k ih =>
    intro s hs
    have bt := ht s
    have b9 := b2i_01 (isDg (t s))
    unfold skp
    refine r_aload_n dX6_advance_166 rfl rfl ?_
    refine r_get (fs := [_, _, _, _, _, _, _, _]) dX6_advance_167 fl_X6_34 (by decide) rfl rfl ?_
    refine r_aload_n dX6_advance_170 rfl rfl ?_
    refine r_get (fs := [_, _, _, _, _, _, _, _]) dX6_advance_171 fl_X6_25 (by decide) rfl rfl ?_
    refine r_icmp_ge (tgt := 220) dX6_advance_174 (by decide) ⟨by omega, by omega⟩ ⟨by omega, by omega⟩ (fun g174 => absurd g174 (by omega)) (fun g174 => ?_)
    refine r_aload_n dX6_advance_177 rfl rfl ?_
    refine r_get (fs := [_, _, _, _, _, _, _, _]) dX6_advance_178 fl_X6_21 (by decide) rfl rfl ?_
    refine r_aload_n dX6_advance_181 rfl rfl ?_
    refine r_get (fs := [_, _, _, _, _, _, _, _]) dX6_advance_182 fl_X6_34 (by decide) rfl rfl ?_
    refine r_bald dX6_advance_185 (by decide) c1 (by omega) (by omega) (by decide) ?_
    rw [Int.toNat_natCast]
    refine r_callS [_] (s_X6_isDigit (by omega)) dX6_advance_186 cs_X6_53 sm_X6_isDigit (by omega) (by decide) (by decide) rfl rfl (Nat.le_of_ble_eq_true rfl) (fun _ _ _ q => q.elim) (fun v n2 h2 q => ?_)
    obtain ⟨rfl, rfl, hh⟩ := q
    obtain rfl := hh.symm
    refine ⟨rfl, ?_⟩
    dsimp only [Option.toList, List.cons_append, List.nil_append]
    refine r_if_eq (tgt := 220) dX6_advance_189 (by decide) ⟨by omega, by omega⟩ (fun g189 => ?_) (fun g189 => ?_)
    · refine r_vret dX6_advance_220 ?_
      rw [b2i_0] at g189
      exact ⟨rfl, rfl, by rw [if_neg (by rw [g189]; decide)]⟩
    · refine r_aload_n dX6_advance_192 rfl rfl ?_
      refine r_dup dX6_advance_193 rfl ?_
      refine r_get (fs := [_, _, _, _, _, _, _, _]) dX6_advance_194 fl_X6_34 (by decide) rfl rfl ?_
      refine r_iconst dX6_advance_197 ?_
      refine r_iadd dX6_advance_198 ?_
      refine r_put (fs := [_, _, _, _, _, _, _, _]) (fs2 := [_, _, _, _, _, _, _, _]) dX6_advance_199 fp_X6_34 (by decide) rfl (nar_int _) (Nat.le_of_ble_eq_true rfl) rfl ?_
      refine r_goto (tgt := 166) dX6_advance_202 (by decide) ?_
      rw [b2i_0, Bool.not_eq_false] at g189
      rw [if_pos g189, bx_uu, show (s : Int) + 1 = ((s + 1 : Nat) : Int) by omega]
      exact ih (s + 1) (by omega)

theorem s_X6_advance {h : aH} {t : Nat → Int} (c1 : h 1 = .inl (1, 700, t)) (ht : ∀ j, -128 ≤ t j ∧ t j ≤ 127) {fa pl tk ki : Int} {le st en : Nat} (c3 : h 3 = SCN fa pl tk le ki st en) (hle : le ≤ 700) (hen : en ≤ le) : mSem yX6_advance cX6_advance 1 none 1 0 0 [.ref 3] 97 h (RetV (va_up h 3 (SC t fa pl tk le en))) noX := by
  refine mSem_of (own := RX6) (name := "advance") pn_X6 rfl rfl (Nat.le_of_ble_eq_true rfl) ?_
  have hB := tk_B t hen
  have eS : tkS t le en = skp isBl t (le - en) en := rfl
  have hK : tkK t le en = if le ≤ tkS t le en then 0 else if isLt (t (tkS t le en)) then 1 else if isDg (t (tkS t le en)) then 2 else 3 := rfl
  have hE : tkE t le en = if le ≤ tkS t le en then tkS t le en else if isLt (t (tkS t le en)) then skp isLt t (le - tkS t le en) (tkS t le en) else if isDg (t (tkS t le en)) then skp isDg t (le - tkS t le en) (tkS t le en) else tkS t le en + 1 := rfl
  have bt := ht (tkS t le en)
  have b8 := b2i_01 (isLt (t (tkS t le en)))
  have b9 := b2i_01 (isDg (t (tkS t le en)))
  refine r_aload_n dX6_advance_0 rfl rfl ?_
  refine r_aload_n dX6_advance_1 rfl rfl ?_
  refine r_get (fs := [_, _, _, _, _, _, _, _]) dX6_advance_2 fl_X6_34 (by decide) c3 rfl ?_
  refine r_put (fs := [_, _, _, _, _, _, _, _]) (fs2 := [_, _, _, _, _, _, _, _]) dX6_advance_5 fp_X6_31 (by decide) c3 (nar_int _) (Nat.le_of_ble_eq_true rfl) rfl ?_
  refine l_X6_adv1 (st := 0) c1 ht hle (le - en) en (by omega) ?_
  rw [← eS]
  refine r_aload_n dX6_advance_60 rfl rfl ?_
  refine r_aload_n dX6_advance_61 rfl rfl ?_
  refine r_get (fs := [_, _, _, _, _, _, _, _]) dX6_advance_62 fl_X6_31 (by decide) rfl rfl ?_
  refine r_put (fs := [_, _, _, _, _, _, _, _]) (fs2 := [_, _, _, _, _, _, _, _]) dX6_advance_65 fp_X6_34 (by decide) rfl (nar_int _) (Nat.le_of_ble_eq_true rfl) rfl ?_
  refine r_aload_n dX6_advance_68 rfl rfl ?_
  refine r_get (fs := [_, _, _, _, _, _, _, _]) dX6_advance_69 fl_X6_31 (by decide) rfl rfl ?_
  refine r_aload_n dX6_advance_72 rfl rfl ?_
  refine r_get (fs := [_, _, _, _, _, _, _, _]) dX6_advance_73 fl_X6_25 (by decide) rfl rfl ?_
  refine r_icmp_lt (tgt := 87) dX6_advance_76 (by decide) ⟨by omega, by omega⟩ ⟨by omega, by omega⟩ (fun g76 => ?_) (fun g76 => ?_)
  · rw [if_neg (by omega)] at hK hE
    refine r_aload_n dX6_advance_87 rfl rfl ?_
    refine r_get (fs := [_, _, _, _, _, _, _, _]) dX6_advance_88 fl_X6_21 (by decide) rfl rfl ?_
    refine r_aload_n dX6_advance_91 rfl rfl ?_
    refine r_get (fs := [_, _, _, _, _, _, _, _]) dX6_advance_92 fl_X6_31 (by decide) rfl rfl ?_
    refine r_bald dX6_advance_95 (by decide) c1 (by omega) (by omega) (by decide) ?_
    rw [Int.toNat_natCast]
    refine r_callS [_] (s_X6_isLetter (by omega)) dX6_advance_96 cs_X6_49 sm_X6_isLetter (by decide) (by decide) (by decide) rfl rfl (Nat.le_of_ble_eq_true rfl) (fun _ _ _ q => q.elim) (fun v n2 h2 q => ?_)
    obtain ⟨rfl, rfl, hh⟩ := q
    obtain rfl := hh.symm
    refine ⟨rfl, ?_⟩
    dsimp only [Option.toList, List.cons_append, List.nil_append]
    refine r_if_eq (tgt := 146) dX6_advance_99 (by decide) ⟨by omega, by omega⟩ (fun g99 => ?_) (fun g99 => ?_)
    · rw [b2i_0] at g99
      rw [if_neg (by rw [g99]; decide)] at hK hE
      refine r_aload_n dX6_advance_146 rfl rfl ?_
      refine r_get (fs := [_, _, _, _, _, _, _, _]) dX6_advance_147 fl_X6_21 (by decide) rfl rfl ?_
      refine r_aload_n dX6_advance_150 rfl rfl ?_
      refine r_get (fs := [_, _, _, _, _, _, _, _]) dX6_advance_151 fl_X6_31 (by decide) rfl rfl ?_
      refine r_bald dX6_advance_154 (by decide) c1 (by omega) (by omega) (by decide) ?_
      rw [Int.toNat_natCast]
      refine r_callS [_] (s_X6_isDigit (by omega)) dX6_advance_155 cs_X6_53 sm_X6_isDigit (by decide) (by decide) (by decide) rfl rfl (Nat.le_of_ble_eq_true rfl) (fun _ _ _ q => q.elim) (fun v n2 h2 q => ?_)
      obtain ⟨rfl, rfl, hh⟩ := q
      obtain rfl := hh.symm
      refine ⟨rfl, ?_⟩
      dsimp only [Option.toList, List.cons_append, List.nil_append]
      refine r_if_eq (tgt := 205) dX6_advance_158 (by decide) ⟨by omega, by omega⟩ (fun g158 => ?_) (fun g158 => ?_)
      · rw [b2i_0] at g158
        rw [if_neg (by rw [g158]; decide)] at hK hE
        refine r_aload_n dX6_advance_205 rfl rfl ?_
        refine r_iconst dX6_advance_206 ?_
        refine r_put (fs := [_, _, _, _, _, _, _, _]) (fs2 := [_, _, _, _, _, _, _, _]) dX6_advance_207 fp_X6_28 (by decide) rfl (nar_int _) (Nat.le_of_ble_eq_true rfl) rfl ?_
        refine r_aload_n dX6_advance_210 rfl rfl ?_
        refine r_dup dX6_advance_211 rfl ?_
        refine r_get (fs := [_, _, _, _, _, _, _, _]) dX6_advance_212 fl_X6_34 (by decide) rfl rfl ?_
        refine r_iconst dX6_advance_215 ?_
        refine r_iadd dX6_advance_216 ?_
        refine r_put (fs := [_, _, _, _, _, _, _, _]) (fs2 := [_, _, _, _, _, _, _, _]) dX6_advance_217 fp_X6_34 (by decide) rfl (nar_int _) (Nat.le_of_ble_eq_true rfl) rfl ?_
        refine r_vret dX6_advance_220 ?_
        exact ⟨rfl, rfl, by simp only [bx_uu]; unfold SC; rw [hK, hE]; try rfl⟩
      · rw [b2i_0, Bool.not_eq_false] at g158
        rw [if_pos g158] at hK hE
        refine r_aload_n dX6_advance_161 rfl rfl ?_
        refine r_iconst dX6_advance_162 ?_
        refine r_put (fs := [_, _, _, _, _, _, _, _]) (fs2 := [_, _, _, _, _, _, _, _]) dX6_advance_163 fp_X6_28 (by decide) rfl (nar_int _) (Nat.le_of_ble_eq_true rfl) rfl ?_
        simp only [bx_uu]
        unfold SC
        rw [hK, hE]
        exact l_X6_adv3 (ki := 0) (en := 0) c1 ht hle (by decide) (le - tkS t le en) (tkS t le en) (by omega)
    · rw [b2i_0, Bool.not_eq_false] at g99
      rw [if_pos g99] at hK hE
      refine r_aload_n dX6_advance_102 rfl rfl ?_
      refine r_iconst dX6_advance_103 ?_
      refine r_put (fs := [_, _, _, _, _, _, _, _]) (fs2 := [_, _, _, _, _, _, _, _]) dX6_advance_104 fp_X6_28 (by decide) rfl (nar_int _) (Nat.le_of_ble_eq_true rfl) rfl ?_
      simp only [bx_uu]
      unfold SC
      rw [hK, hE]
      exact l_X6_adv2 (ki := 0) (en := 0) c1 ht hle (by decide) (le - tkS t le en) (tkS t le en) (by omega)
  · rw [if_pos (by omega)] at hK hE
    refine r_aload_n dX6_advance_79 rfl rfl ?_
    refine r_iconst dX6_advance_80 ?_
    refine r_put (fs := [_, _, _, _, _, _, _, _]) (fs2 := [_, _, _, _, _, _, _, _]) dX6_advance_81 fp_X6_28 (by decide) rfl (nar_int _) (Nat.le_of_ble_eq_true rfl) rfl ?_
    refine r_goto (tgt := 220) dX6_advance_84 (by decide) ?_
    refine r_vret dX6_advance_220 ?_
    exact ⟨rfl, rfl, by simp only [bx_uu]; unfold SC; rw [hK, hE]; try rfl⟩

/-! the words, signs and numbers at a place -/
def eqF (t : Nat → Int) (st i : Nat) : Nat → Nat → Bool
  | 0, _ => true
  | k + 1, j => if t (st + j) = sCh i j then eqF t st i k (j + 1) else false
def wordAt (t : Nat → Int) (le e i : Nat) : Bool := decide (tkK t le e = 1) && decide (tkE t le e - tkS t le e = sLen i) && eqF t (tkS t le e) i (sLen i) 0
def signAt (t : Nat → Int) (le e : Nat) (c : Int) : Bool := decide (tkK t le e = 3) && decide (t (tkS t le e) = c)
def digF (t : Nat → Int) : Nat → Nat → Int → Int
  | 0, _, acc => acc
  | k + 1, j, acc => digF t k (j + 1) (10 * acc + t j - 48)
def numAt (t : Nat → Int) (le e : Nat) : Int := digF t (min (tkE t le e - tkS t le e) 4) (tkS t le e) 0
/-- the fault of a number that isn't as told; 0: it is -/
def numF (t : Nat → Int) (le e : Nat) (lo hi : Int) : Int := if tkK t le e ≠ 2 then 1 else if 4 < tkE t le e - tkS t le e ∨ numAt t le e < lo ∨ hi < numAt t le e then 2 else 0
theorem num_B (t : Nat → Int) (ht : ∀ j, -128 ≤ t j ∧ t j ≤ 127) (k j : Nat) (hk : k ≤ 4) : -200000 ≤ digF t k j 0 ∧ digF t k j 0 ≤ 200000 := by
  have b0 := ht j
  have b1 := ht (j + 1)
  have b2 := ht (j + 1 + 1)
  have b3 := ht (j + 1 + 1 + 1)
  rcases (show k = 0 ∨ k = 1 ∨ k = 2 ∨ k = 3 ∨ k = 4 by omega) with rfl | rfl | rfl | rfl | rfl <;> simp only [digF] <;> omega
abbrev Fk (ok : Bool) (h1 h0 : aH) : Option Value → Nat → aH → Prop := fun v n' h' => n' = 97 ∧ ((ok = true ∧ v = some (iv 1) ∧ h' = h1) ∨ (ok = false ∧ v = some (iv 0) ∧ h' = h0))
theorem s_X6_isEnd {h : aH} {t : Nat → Int} (c1 : h 1 = .inl (1, 700, t)) (ht : ∀ j, -128 ≤ t j ∧ t j ≤ 127) {fa pl tk : Int} {le e : Nat} (c3 : h 3 = SC t fa pl tk le e) (hle : le ≤ 700) (hee : e ≤ le)  : mSem yX6_isEnd cX6_isEnd 1 (some .boolean) 0 0 0 [.ref 3] 97 h (Ret (b2i (decide (tkK t le e = 0))) h) noX := by
  have hB := tk_B t hee
  refine mSem_of (own := RX6) (name := "isEnd") pn_X6 rfl rfl (Nat.le_of_ble_eq_true rfl) ?_
  refine r_aload_n dX6_isEnd_0 rfl rfl ?_
  refine r_get (fs := [_, _, _, _, _, _, _, _]) dX6_isEnd_1 fl_X6_28 (by decide) c3 rfl ?_
  refine r_if_ne (tgt := 11) dX6_isEnd_4 (by decide) ⟨by omega, by omega⟩ (fun g4 => ?_) (fun g4 => ?_)
  · refine r_iconst dX6_isEnd_11 ?_
    refine r_zret dX6_isEnd_12 (nar_z (by omega)) ?_
    exact ⟨ivE (by simp only [b2i]; simp; omega), rfl, rfl⟩
  · refine r_iconst dX6_isEnd_7 ?_
    refine r_goto (tgt := 12) dX6_isEnd_8 (by decide) ?_
    refine r_zret dX6_isEnd_12 (nar_z (by omega)) ?_
    exact ⟨ivE (by simp only [b2i]; simp; omega), rfl, rfl⟩

theorem s_X6_isAnyWord {h : aH} {t : Nat → Int} (c1 : h 1 = .inl (1, 700, t)) (ht : ∀ j, -128 ≤ t j ∧ t j ≤ 127) {fa pl tk : Int} {le e : Nat} (c3 : h 3 = SC t fa pl tk le e) (hle : le ≤ 700) (hee : e ≤ le)  : mSem yX6_isAnyWord cX6_isAnyWord 1 (some .boolean) 0 0 0 [.ref 3] 97 h (Ret (b2i (decide (tkK t le e = 1))) h) noX := by
  have hB := tk_B t hee
  refine mSem_of (own := RX6) (name := "isAnyWord") pn_X6 rfl rfl (Nat.le_of_ble_eq_true rfl) ?_
  refine r_aload_n dX6_isAnyWord_0 rfl rfl ?_
  refine r_get (fs := [_, _, _, _, _, _, _, _]) dX6_isAnyWord_1 fl_X6_28 (by decide) c3 rfl ?_
  refine r_iconst dX6_isAnyWord_4 ?_
  refine r_icmp_ne (tgt := 12) dX6_isAnyWord_5 (by decide) ⟨by omega, by omega⟩ ⟨by omega, by omega⟩ (fun g5 => ?_) (fun g5 => ?_)
  · refine r_iconst dX6_isAnyWord_12 ?_
    refine r_zret dX6_isAnyWord_13 (nar_z (by omega)) ?_
    exact ⟨ivE (by simp only [b2i]; simp; omega), rfl, rfl⟩
  · refine r_iconst dX6_isAnyWord_8 ?_
    refine r_goto (tgt := 13) dX6_isAnyWord_9 (by decide) ?_
    refine r_zret dX6_isAnyWord_13 (nar_z (by omega)) ?_
    exact ⟨ivE (by simp only [b2i]; simp; omega), rfl, rfl⟩

theorem s_X6_isSign {h : aH} {t : Nat → Int} (c1 : h 1 = .inl (1, 700, t)) (ht : ∀ j, -128 ≤ t j ∧ t j ≤ 127) {fa pl tk : Int} {le e : Nat} (c3 : h 3 = SC t fa pl tk le e) (hle : le ≤ 700) (hee : e ≤ le) {ch : Int} (hch : 0 ≤ ch ∧ ch ≤ 255) : mSem yX6_isSign cX6_isSign 2 (some .boolean) 0 0 0 [.ref 3, iv ch] 97 h (Ret (b2i (signAt t le e ch)) h) noX := by
  have hB := tk_B t hee
  refine mSem_of (own := RX6) (name := "isSign") pn_X6 rfl rfl (Nat.le_of_ble_eq_true rfl) ?_
  refine r_aload_n dX6_isSign_0 rfl rfl ?_
  refine r_get (fs := [_, _, _, _, _, _, _, _]) dX6_isSign_1 fl_X6_28 (by decide) c3 rfl ?_
  refine r_iconst dX6_isSign_4 ?_
  refine r_icmp_ne (tgt := 25) dX6_isSign_5 (by decide) ⟨by omega, by omega⟩ ⟨by omega, by omega⟩ (fun g5 => ?_) (fun g5 => ?_)
  · refine r_iconst dX6_isSign_25 ?_
    refine r_zret dX6_isSign_26 (nar_z (by omega)) ?_
    exact ⟨ivE (by simp only [b2i, signAt]; simp; omega), rfl, rfl⟩
  · refine r_aload_n dX6_isSign_8 rfl rfl ?_
    refine r_get (fs := [_, _, _, _, _, _, _, _]) dX6_isSign_9 fl_X6_21 (by decide) c3 rfl ?_
    refine r_aload_n dX6_isSign_12 rfl rfl ?_
    refine r_get (fs := [_, _, _, _, _, _, _, _]) dX6_isSign_13 fl_X6_31 (by decide) c3 rfl ?_
    refine r_bald dX6_isSign_16 (by decide) c1 (by omega) (by omega) (by decide) ?_
    rw [Int.toNat_natCast]
    have bt := ht (tkS t le e)
    refine r_iload_n dX6_isSign_17 rfl rfl ?_
    refine r_icmp_ne (tgt := 25) dX6_isSign_18 (by decide) ⟨by omega, by omega⟩ ⟨by omega, by omega⟩ (fun g18 => ?_) (fun g18 => ?_)
    · refine r_iconst dX6_isSign_25 ?_
      refine r_zret dX6_isSign_26 (nar_z (by omega)) ?_
      exact ⟨ivE (by simp only [b2i, signAt]; simp; omega), rfl, rfl⟩
    · refine r_iconst dX6_isSign_21 ?_
      refine r_goto (tgt := 26) dX6_isSign_22 (by decide) ?_
      refine r_zret dX6_isSign_26 (nar_z (by omega)) ?_
      exact ⟨ivE (by simp only [b2i, signAt]; simp; omega), rfl, rfl⟩

theorem s_X6_refuse {h : aH} {fa pl tk ki w : Int} {le st en : Nat} (c3 : h 3 = SCN fa pl tk le ki st en) : mSem yX6_refuse cX6_refuse 2 (some .boolean) 0 0 0 [.ref 3, iv w] 97 h (Ret 0 (va_up h 3 (SCN w st tk le ki st en))) noX := by
  refine mSem_of (own := RX6) (name := "refuse") pn_X6 rfl rfl (Nat.le_of_ble_eq_true rfl) ?_
  refine r_aload_n dX6_refuse_0 rfl rfl ?_
  refine r_iload_n dX6_refuse_1 rfl rfl ?_
  refine r_put (fs := [_, _, _, _, _, _, _, _]) (fs2 := [_, _, _, _, _, _, _, _]) dX6_refuse_2 fp_X6_9 (by decide) c3 (nar_int _) (Nat.le_of_ble_eq_true rfl) rfl ?_
  refine r_aload_n dX6_refuse_5 rfl rfl ?_
  refine r_aload_n dX6_refuse_6 rfl rfl ?_
  refine r_get (fs := [_, _, _, _, _, _, _, _]) dX6_refuse_7 fl_X6_31 (by decide) rfl rfl ?_
  refine r_put (fs := [_, _, _, _, _, _, _, _]) (fs2 := [_, _, _, _, _, _, _, _]) dX6_refuse_10 fp_X6_15 (by decide) rfl (nar_int _) (Nat.le_of_ble_eq_true rfl) rfl ?_
  refine r_iconst dX6_refuse_13 ?_
  refine r_zret dX6_refuse_14 (nar_z (by omega)) ?_
  exact ⟨rfl, rfl, by simp only [bx_uu]⟩

theorem l_X6_isWord {h : aH} {t : Nat → Int} (c1 : h 1 = .inl (1, 700, t)) (ht : ∀ j, -128 ≤ t j ∧ t j ≤ 127) {fa pl tk : Int} {le e : Nat} (c3 : h 3 = SC t fa pl tk le e) (hle : le ≤ 700) (hee : e ≤ le) {i : Nat} (hi : i < 23) {d : Nat} (hd4 : 4 ≤ d) (hl : tkE t le e - tkS t le e = sLen i) : ∀ (k j : Nat), j + k = sLen i → Ev RX6 "isWord" cX6_isWord 3 (some .boolean) d 0 0 (Ret (b2i (eqF t (tkS t le e) i k j)) h) noX 97 h 28 [(0, .ref 3), (1, .ref (1000 + i)), (2, iv j)] [] := by
  have hB := tk_B t hee
  have hb := sLen_B i hi
  intro k
  induction k with
  | zero =>
    intro j hj
    refine r_iload_n dX6_isWord_28 rfl rfl ?_
    refine r_aload_n dX6_isWord_29 rfl rfl ?_
    refine r_callVS i [] (s_J0_length hi) dX6_isWord_30 cs_X6_56 im_J0_length_8abf5 hi rfl (by omega) (by decide) (by decide) rfl rfl (Nat.le_of_ble_eq_true rfl) (fun _ _ _ q => q.elim) (fun v n2 h2 q => ?_)
    obtain ⟨rfl, rfl, hh⟩ := q
    obtain rfl := hh.symm
    refine ⟨rfl, ?_⟩
    dsimp only [Option.toList, List.cons_append, List.nil_append]
    refine r_icmp_ge (tgt := 63) dX6_isWord_33 (by decide) ⟨by omega, by omega⟩ ⟨by omega, by omega⟩ (fun g33 => ?_) (fun g33 => absurd g33 (by omega))
    refine r_iconst dX6_isWord_63 ?_
    refine r_zret dX6_isWord_64 (nar_z (by omega)) ?_
    exact ⟨rfl, rfl, rfl⟩
  | succ k ih =>
    intro j hj
    have bt := ht (tkS t le e + j)
    have bs := sCh_B (i := i) (k := j) hi (by omega)
    have ej : ((tkS t le e : Int) + (j : Int)).toNat = tkS t le e + j := by omega
    refine r_iload_n dX6_isWord_28 rfl rfl ?_
    refine r_aload_n dX6_isWord_29 rfl rfl ?_
    refine r_callVS i [] (s_J0_length hi) dX6_isWord_30 cs_X6_56 im_J0_length_8abf5 hi rfl (by omega) (by decide) (by decide) rfl rfl (Nat.le_of_ble_eq_true rfl) (fun _ _ _ q => q.elim) (fun v n2 h2 q => ?_)
    obtain ⟨rfl, rfl, hh⟩ := q
    obtain rfl := hh.symm
    refine ⟨rfl, ?_⟩
    dsimp only [Option.toList, List.cons_append, List.nil_append]
    refine r_icmp_ge (tgt := 63) dX6_isWord_33 (by decide) ⟨by omega, by omega⟩ ⟨by omega, by omega⟩ (fun g33 => absurd g33 (by omega)) (fun g33 => ?_)
    refine r_aload_n dX6_isWord_36 rfl rfl ?_
    refine r_get (fs := [_, _, _, _, _, _, _, _]) dX6_isWord_37 fl_X6_21 (by decide) c3 rfl ?_
    refine r_aload_n dX6_isWord_40 rfl rfl ?_
    refine r_get (fs := [_, _, _, _, _, _, _, _]) dX6_isWord_41 fl_X6_31 (by decide) c3 rfl ?_
    refine r_iload_n dX6_isWord_44 rfl rfl ?_
    refine r_iadd dX6_isWord_45 ?_
    refine r_bald dX6_isWord_46 (by decide) c1 (by omega) (by omega) (by decide) ?_
    rw [ej]
    refine r_aload_n dX6_isWord_47 rfl rfl ?_
    refine r_iload_n dX6_isWord_48 rfl rfl ?_
    refine r_callVS i [_] (s_J0_charAt hi (by omega)) dX6_isWord_49 cs_X6_61 im_J0_charAt_5068e hi rfl (by omega) (by decide) (by decide) rfl rfl (Nat.le_of_ble_eq_true rfl) (fun _ _ _ q => q.elim) (fun v n2 h2 q => ?_)
    obtain ⟨rfl, rfl, hh⟩ := q
    obtain rfl := hh.symm
    refine ⟨rfl, ?_⟩
    dsimp only [Option.toList, List.cons_append, List.nil_append]
    rw [Int.toNat_natCast]
    refine r_icmp_eq (tgt := 57) dX6_isWord_52 (by decide) ⟨by omega, by omega⟩ ⟨by omega, by omega⟩ (fun g52 => ?_) (fun g52 => ?_)
    · refine r_iinc (lv2 := [(0, _), (1, _), (2, _)]) dX6_isWord_57 (by decide) rfl rfl rfl ?_
      refine r_goto (tgt := 28) dX6_isWord_60 (by decide) ?_
      have hk := ih (j + 1) (by omega)
      unfold eqF
      rw [if_pos g52, show (j : Int) + 1 = ((j + 1 : Nat) : Int) by omega]
      exact hk
    · refine r_iconst dX6_isWord_55 ?_
      refine r_zret dX6_isWord_56 (nar_z (by omega)) ?_
      exact ⟨ivE (by unfold eqF; rw [if_neg g52]; rfl), rfl, rfl⟩

theorem s_X6_isWord {h : aH} {t : Nat → Int} (c1 : h 1 = .inl (1, 700, t)) (ht : ∀ j, -128 ≤ t j ∧ t j ≤ 127) {fa pl tk : Int} {le e : Nat} (c3 : h 3 = SC t fa pl tk le e) (hle : le ≤ 700) (hee : e ≤ le) {i : Nat} (hi : i < 23) : mSem yX6_isWord cX6_isWord 3 (some .boolean) 4 0 0 [.ref 3, .ref (1000 + i)] 97 h (Ret (b2i (wordAt t le e i)) h) noX := by
  have hB := tk_B t hee
  have hb := sLen_B i hi
  refine mSem_of (own := RX6) (name := "isWord") pn_X6 rfl rfl (Nat.le_of_ble_eq_true rfl) ?_
  refine r_aload_n dX6_isWord_0 rfl rfl ?_
  refine r_get (fs := [_, _, _, _, _, _, _, _]) dX6_isWord_1 fl_X6_28 (by decide) c3 rfl ?_
  refine r_iconst dX6_isWord_4 ?_
  refine r_icmp_ne (tgt := 24) dX6_isWord_5 (by decide) ⟨by omega, by omega⟩ ⟨by omega, by omega⟩ (fun g5 => ?_) (fun g5 => ?_)
  · refine r_iconst dX6_isWord_24 ?_
    refine r_zret dX6_isWord_25 (nar_z (by omega)) ?_
    exact ⟨ivE (by unfold wordAt; first | (rw [decide_eq_false (p := tkK t le e = 1) g5]; simp [b2i]; done) | (rw [decide_eq_false (p := tkE t le e - tkS t le e = sLen i) (by omega)]; simp [b2i]; done)), rfl, rfl⟩
  · refine r_aload_n dX6_isWord_8 rfl rfl ?_
    refine r_get (fs := [_, _, _, _, _, _, _, _]) dX6_isWord_9 fl_X6_34 (by decide) c3 rfl ?_
    refine r_aload_n dX6_isWord_12 rfl rfl ?_
    refine r_get (fs := [_, _, _, _, _, _, _, _]) dX6_isWord_13 fl_X6_31 (by decide) c3 rfl ?_
    refine r_isub dX6_isWord_16 ?_
    refine r_aload_n dX6_isWord_17 rfl rfl ?_
    refine r_callVS i [] (s_J0_length hi) dX6_isWord_18 cs_X6_56 im_J0_length_8abf5 hi rfl (by decide) (by decide) (by decide) rfl rfl (Nat.le_of_ble_eq_true rfl) (fun _ _ _ q => q.elim) (fun v n2 h2 q => ?_)
    obtain ⟨rfl, rfl, hh⟩ := q
    obtain rfl := hh.symm
    refine ⟨rfl, ?_⟩
    dsimp only [Option.toList, List.cons_append, List.nil_append]
    refine r_icmp_eq (tgt := 26) dX6_isWord_21 (by decide) ⟨by omega, by omega⟩ ⟨by omega, by omega⟩ (fun g21 => ?_) (fun g21 => ?_)
    · refine r_iconst dX6_isWord_26 ?_
      refine r_istore_n (lv2 := [(0, _), (1, _), (2, _)]) dX6_isWord_27 rfl (by decide) rfl rfl ?_
      have hw : wordAt t le e i = eqF t (tkS t le e) i (sLen i) 0 := by
        unfold wordAt
        rw [decide_eq_true (p := tkK t le e = 1) g5, decide_eq_true (p := tkE t le e - tkS t le e = sLen i) (by omega)]
        rfl
      rw [hw]
      exact l_X6_isWord c1 ht c3 hle hee hi (by decide) (by omega) (sLen i) 0 (by omega)
    · refine r_iconst dX6_isWord_24 ?_
      refine r_zret dX6_isWord_25 (nar_z (by omega)) ?_
      exact ⟨ivE (by unfold wordAt; first | (rw [decide_eq_false (p := tkK t le e = 1) g5]; simp [b2i]; done) | (rw [decide_eq_false (p := tkE t le e - tkS t le e = sLen i) (by omega)]; simp [b2i]; done)), rfl, rfl⟩

theorem s_X6_takeSign {h : aH} {t : Nat → Int} (c1 : h 1 = .inl (1, 700, t)) (ht : ∀ j, -128 ≤ t j ∧ t j ≤ 127) {fa pl tk : Int} {le e : Nat} (c3 : h 3 = SC t fa pl tk le e) (hle : le ≤ 700) (hee : e ≤ le) {ch : Int} (hch : 0 ≤ ch ∧ ch ≤ 255) : mSem yX6_takeSign cX6_takeSign 2 (some .boolean) 2 0 0 [.ref 3, iv ch] 97 h (Fk (signAt t le e ch) (va_up h 3 (SC t fa pl tk le (tkE t le e))) (va_up h 3 (SCN 1 (tkS t le e) tk le (tkK t le e) (tkS t le e) (tkE t le e)))) noX := by
  have hB := tk_B t hee
  refine mSem_of (own := RX6) (name := "takeSign") pn_X6 rfl rfl (Nat.le_of_ble_eq_true rfl) ?_
  refine r_aload_n dX6_takeSign_0 rfl rfl ?_
  refine r_iload_n dX6_takeSign_1 rfl rfl ?_
  refine r_callV 3 [_] (s_X6_isSign c1 ht (by first | rfl | exact c3) hle (by omega) (by omega)) dX6_takeSign_2 cs_X6_73 im_X6_isSign (by decide) c3 rfl (by decide) (by decide) (by decide) rfl rfl (Nat.le_of_ble_eq_true rfl) (fun _ _ _ q => q.elim) (fun v n2 h2 q => ?_)
  obtain ⟨rfl, rfl, hh⟩ := q
  obtain rfl := hh.symm
  refine ⟨rfl, ?_⟩
  dsimp only [Option.toList, List.cons_append, List.nil_append]
  have bb := b2i_01 (signAt t le e ch)
  refine r_if_ne (tgt := 14) dX6_takeSign_5 (by decide) ⟨by omega, by omega⟩ (fun g5 => ?_) (fun g5 => ?_)
  · rw [b2i_0, Bool.not_eq_false] at g5
    refine r_aload_n dX6_takeSign_14 rfl rfl ?_
    refine r_callV 3 [] (s_X6_advance c1 ht (by first | rfl | exact c3) hle (by omega)) dX6_takeSign_15 cs_X6_46 im_X6_advance (by decide) c3 rfl (by decide) (by decide) (by decide) rfl rfl (Nat.le_of_ble_eq_true rfl) (fun _ _ _ q => q.elim) (fun v n2 h2 q => ?_)
    obtain ⟨rfl, rfl, hh⟩ := q
    obtain rfl := hh.symm
    refine ⟨rfl, ?_⟩
    dsimp only [Option.toList, List.cons_append, List.nil_append]
    refine r_iconst dX6_takeSign_18 ?_
    refine r_zret dX6_takeSign_19 (nar_z (by omega)) ?_
    exact ⟨rfl, Or.inl ⟨g5, rfl, rfl⟩⟩
  · rw [b2i_0] at g5
    refine r_aload_n dX6_takeSign_8 rfl rfl ?_
    refine r_iconst dX6_takeSign_9 ?_
    refine r_callV 3 [_] (s_X6_refuse c3) dX6_takeSign_10 cs_X6_69 im_X6_refuse (by decide) c3 rfl (by decide) (by decide) (by decide) rfl rfl (Nat.le_of_ble_eq_true rfl) (fun _ _ _ q => q.elim) (fun v n2 h2 q => ?_)
    obtain ⟨rfl, rfl, hh⟩ := q
    obtain rfl := hh.symm
    refine ⟨rfl, ?_⟩
    dsimp only [Option.toList, List.cons_append, List.nil_append]
    refine r_zret dX6_takeSign_13 (nar_z (by omega)) ?_
    exact ⟨rfl, Or.inr ⟨g5, rfl, rfl⟩⟩

theorem s_X6_takeWord {h : aH} {t : Nat → Int} (c1 : h 1 = .inl (1, 700, t)) (ht : ∀ j, -128 ≤ t j ∧ t j ≤ 127) {fa pl tk : Int} {le e : Nat} (c3 : h 3 = SC t fa pl tk le e) (hle : le ≤ 700) (hee : e ≤ le) {i : Nat} (hi : i < 23) : mSem yX6_takeWord cX6_takeWord 2 (some .boolean) 5 0 0 [.ref 3, .ref (1000 + i)] 97 h (Fk (wordAt t le e i) (va_up h 3 (SC t fa pl tk le (tkE t le e))) (va_up h 3 (SCN 1 (tkS t le e) tk le (tkK t le e) (tkS t le e) (tkE t le e)))) noX := by
  have hB := tk_B t hee
  refine mSem_of (own := RX6) (name := "takeWord") pn_X6 rfl rfl (Nat.le_of_ble_eq_true rfl) ?_
  refine r_aload_n dX6_takeWord_0 rfl rfl ?_
  refine r_aload_n dX6_takeWord_1 rfl rfl ?_
  refine r_callV 3 [.ref (1000 + i)] (s_X6_isWord c1 ht (by first | rfl | exact c3) hle (by omega) (by first | exact hi | decide)) dX6_takeWord_2 cs_X6_65 im_X6_isWord (by decide) c3 rfl (by decide) (by decide) (by decide) rfl rfl (Nat.le_of_ble_eq_true rfl) (fun _ _ _ q => q.elim) (fun v n2 h2 q => ?_)
  obtain ⟨rfl, rfl, hh⟩ := q
  obtain rfl := hh.symm
  refine ⟨rfl, ?_⟩
  dsimp only [Option.toList, List.cons_append, List.nil_append]
  have bb := b2i_01 (wordAt t le e i)
  refine r_if_ne (tgt := 14) dX6_takeWord_5 (by decide) ⟨by omega, by omega⟩ (fun g5 => ?_) (fun g5 => ?_)
  · rw [b2i_0, Bool.not_eq_false] at g5
    refine r_aload_n dX6_takeWord_14 rfl rfl ?_
    refine r_callV 3 [] (s_X6_advance c1 ht (by first | rfl | exact c3) hle (by omega)) dX6_takeWord_15 cs_X6_46 im_X6_advance (by decide) c3 rfl (by decide) (by decide) (by decide) rfl rfl (Nat.le_of_ble_eq_true rfl) (fun _ _ _ q => q.elim) (fun v n2 h2 q => ?_)
    obtain ⟨rfl, rfl, hh⟩ := q
    obtain rfl := hh.symm
    refine ⟨rfl, ?_⟩
    dsimp only [Option.toList, List.cons_append, List.nil_append]
    refine r_iconst dX6_takeWord_18 ?_
    refine r_zret dX6_takeWord_19 (nar_z (by omega)) ?_
    exact ⟨rfl, Or.inl ⟨g5, rfl, rfl⟩⟩
  · rw [b2i_0] at g5
    refine r_aload_n dX6_takeWord_8 rfl rfl ?_
    refine r_iconst dX6_takeWord_9 ?_
    refine r_callV 3 [_] (s_X6_refuse c3) dX6_takeWord_10 cs_X6_69 im_X6_refuse (by decide) c3 rfl (by decide) (by decide) (by decide) rfl rfl (Nat.le_of_ble_eq_true rfl) (fun _ _ _ q => q.elim) (fun v n2 h2 q => ?_)
    obtain ⟨rfl, rfl, hh⟩ := q
    obtain rfl := hh.symm
    refine ⟨rfl, ?_⟩
    dsimp only [Option.toList, List.cons_append, List.nil_append]
    refine r_zret dX6_takeWord_13 (nar_z (by omega)) ?_
    exact ⟨rfl, Or.inr ⟨g5, rfl, rfl⟩⟩

theorem l_X6_holds {h : aH} {t : Nat → Int} (c1 : h 1 = .inl (1, 700, t)) (ht : ∀ j, -128 ≤ t j ∧ t j ≤ 127) {fa pl tk : Int} {le e : Nat} (c3 : h 3 = SC t fa pl tk le e) (hle : le ≤ 700) (hee : e ≤ le) {lo hi : Int} (hlo : -10000 ≤ lo ∧ lo ≤ 10000) (hhi : -10000 ≤ hi ∧ hi ≤ 10000) {d : Nat} {Q : Option Value → Nat → aH → Prop} : ∀ (k j : Nat) (acc : Int), j + k = tkS t le e + min (tkE t le e - tkS t le e) 4 → tkS t le e ≤ j → Ev RX6 "holdsNumber" cX6_holdsNumber 5 (some .boolean) d 0 0 Q noX 97 h 64 [(0, .ref 3), (1, iv lo), (2, iv hi), (3, iv (digF t k j acc)), (4, iv (j + k : Nat))] [] → Ev RX6 "holdsNumber" cX6_holdsNumber 5 (some .boolean) d 0 0 Q noX 97 h 22 [(0, .ref 3), (1, iv lo), (2, iv hi), (3, iv acc), (4, iv j)] [] := by
  have hB := tk_B t hee
  intro k
  induction k with
  | zero =>
    intro j acc hj hs hk
    refine r_iload dX6_holdsNumber_22 rfl ?_
    refine r_aload_n dX6_holdsNumber_24 rfl rfl ?_
    refine r_get (fs := [_, _, _, _, _, _, _, _]) dX6_holdsNumber_25 fl_X6_34 (by decide) c3 rfl ?_
    refine r_icmp_ge (tgt := 64) dX6_holdsNumber_28 (by decide) ⟨by omega, by omega⟩ ⟨by omega, by omega⟩ (fun g28 => ?_) (fun g28 => ?_)
    · exact hk
    · refine r_iload dX6_holdsNumber_31 rfl ?_
      refine r_aload_n dX6_holdsNumber_33 rfl rfl ?_
      refine r_get (fs := [_, _, _, _, _, _, _, _]) dX6_holdsNumber_34 fl_X6_31 (by decide) c3 rfl ?_
      refine r_iconst dX6_holdsNumber_37 ?_
      refine r_iadd dX6_holdsNumber_38 ?_
      refine r_icmp_ge (tgt := 64) dX6_holdsNumber_39 (by decide) ⟨by omega, by omega⟩ ⟨by omega, by omega⟩ (fun g39 => ?_) (fun g39 => ?_)
      · exact hk
      · exact absurd g39 (by omega)
  | succ k ih =>
    intro j acc hj hs hk
    have bt := ht j
    unfold digF at hk
    refine r_iload dX6_holdsNumber_22 rfl ?_
    refine r_aload_n dX6_holdsNumber_24 rfl rfl ?_
    refine r_get (fs := [_, _, _, _, _, _, _, _]) dX6_holdsNumber_25 fl_X6_34 (by decide) c3 rfl ?_
    refine r_icmp_ge (tgt := 64) dX6_holdsNumber_28 (by decide) ⟨by omega, by omega⟩ ⟨by omega, by omega⟩ (fun g28 => absurd g28 (by omega)) (fun g28 => ?_)
    refine r_iload dX6_holdsNumber_31 rfl ?_
    refine r_aload_n dX6_holdsNumber_33 rfl rfl ?_
    refine r_get (fs := [_, _, _, _, _, _, _, _]) dX6_holdsNumber_34 fl_X6_31 (by decide) c3 rfl ?_
    refine r_iconst dX6_holdsNumber_37 ?_
    refine r_iadd dX6_holdsNumber_38 ?_
    refine r_icmp_ge (tgt := 64) dX6_holdsNumber_39 (by decide) ⟨by omega, by omega⟩ ⟨by omega, by omega⟩ (fun g39 => absurd g39 (by omega)) (fun g39 => ?_)
    refine r_bipush dX6_holdsNumber_42 rfl ?_
    refine r_iload_n dX6_holdsNumber_44 rfl rfl ?_
    refine r_imul dX6_holdsNumber_45 ?_
    refine r_aload_n dX6_holdsNumber_46 rfl rfl ?_
    refine r_get (fs := [_, _, _, _, _, _, _, _]) dX6_holdsNumber_47 fl_X6_21 (by decide) c3 rfl ?_
    refine r_iload dX6_holdsNumber_50 rfl ?_
    refine r_bald dX6_holdsNumber_52 (by decide) c1 (by omega) (by omega) (by decide) ?_
    rw [Int.toNat_natCast]
    refine r_iadd dX6_holdsNumber_53 ?_
    refine r_bipush dX6_holdsNumber_54 rfl ?_
    refine r_isub dX6_holdsNumber_56 ?_
    refine r_istore_n (lv2 := [(0, _), (1, _), (2, _), (3, _), (4, _)]) dX6_holdsNumber_57 rfl (by decide) rfl rfl ?_
    refine r_iinc (lv2 := [(0, _), (1, _), (2, _), (3, _), (4, _)]) dX6_holdsNumber_58 (by decide) rfl rfl rfl ?_
    refine r_goto (tgt := 22) dX6_holdsNumber_61 (by decide) ?_
    rw [show j + (k + 1) = j + 1 + k by omega] at hk
    rw [show (j : Int) + 1 = ((j + 1 : Nat) : Int) by omega]
    exact ih (j + 1) _ (by omega) (by omega) hk

theorem s_X6_holdsNumber {h : aH} {t : Nat → Int} (c1 : h 1 = .inl (1, 700, t)) (ht : ∀ j, -128 ≤ t j ∧ t j ≤ 127) {fa pl tk : Int} {le e : Nat} (c3 : h 3 = SC t fa pl tk le e) (hle : le ≤ 700) (hee : e ≤ le) {lo hi : Int} (hlo : -10000 ≤ lo ∧ lo ≤ 10000) (hhi : -10000 ≤ hi ∧ hi ≤ 10000) : mSem yX6_holdsNumber cX6_holdsNumber 5 (some .boolean) 1 0 0 [.ref 3, iv lo, iv hi] 97 h (Fk (decide (numF t le e lo hi = 0)) (va_up h 3 (SC t fa pl (numAt t le e) le e)) (va_up h 3 (SCN (numF t le e lo hi) (tkS t le e) tk le (tkK t le e) (tkS t le e) (tkE t le e)))) noX := by
  have hB := tk_B t hee
  refine mSem_of (own := RX6) (name := "holdsNumber") pn_X6 rfl rfl (Nat.le_of_ble_eq_true rfl) ?_
  have hn := num_B t ht (min (tkE t le e - tkS t le e) 4) (tkS t le e) (by omega)
  have en : numAt t le e = digF t (min (tkE t le e - tkS t le e) 4) (tkS t le e) 0 := rfl
  rw [← en] at hn
  have eF : numF t le e lo hi = if tkK t le e ≠ 2 then 1 else if 4 < tkE t le e - tkS t le e ∨ numAt t le e < lo ∨ hi < numAt t le e then 2 else 0 := rfl
  refine r_aload_n dX6_holdsNumber_0 rfl rfl ?_
  refine r_get (fs := [_, _, _, _, _, _, _, _]) dX6_holdsNumber_1 fl_X6_28 (by decide) c3 rfl ?_
  refine r_iconst dX6_holdsNumber_4 ?_
  refine r_icmp_eq (tgt := 14) dX6_holdsNumber_5 (by decide) ⟨by omega, by omega⟩ ⟨by omega, by omega⟩ (fun g5 => ?_) (fun g5 => ?_)
  · rw [if_neg (fun q => q g5)] at eF
    refine r_iconst dX6_holdsNumber_14 ?_
    refine r_istore_n (lv2 := [(0, _), (1, _), (2, _), (3, _)]) dX6_holdsNumber_15 rfl (by decide) rfl rfl ?_
    refine r_aload_n dX6_holdsNumber_16 rfl rfl ?_
    refine r_get (fs := [_, _, _, _, _, _, _, _]) dX6_holdsNumber_17 fl_X6_31 (by decide) c3 rfl ?_
    refine r_istore (lv2 := [(0, _), (1, _), (2, _), (3, _), (4, _)]) dX6_holdsNumber_20 (by decide) rfl rfl ?_
    refine l_X6_holds c1 ht c3 hle hee hlo hhi (min (tkE t le e - tkS t le e) 4) (tkS t le e) 0 rfl (by omega) ?_
    rw [← en]
    refine r_aload_n dX6_holdsNumber_64 rfl rfl ?_
    refine r_get (fs := [_, _, _, _, _, _, _, _]) dX6_holdsNumber_65 fl_X6_34 (by decide) c3 rfl ?_
    refine r_aload_n dX6_holdsNumber_68 rfl rfl ?_
    refine r_get (fs := [_, _, _, _, _, _, _, _]) dX6_holdsNumber_69 fl_X6_31 (by decide) c3 rfl ?_
    refine r_isub dX6_holdsNumber_72 ?_
    refine r_iconst dX6_holdsNumber_73 ?_
    refine r_icmp_gt (tgt := 87) dX6_holdsNumber_74 (by decide) ⟨by omega, by omega⟩ ⟨by omega, by omega⟩ (fun g74 => ?_) (fun g74 => ?_)
    · rw [if_pos (by omega)] at eF
      refine r_aload_n dX6_holdsNumber_87 rfl rfl ?_
      refine r_iconst dX6_holdsNumber_88 ?_
      refine r_callV 3 [_] (s_X6_refuse c3) dX6_holdsNumber_89 cs_X6_69 im_X6_refuse (by decide) c3 rfl (by decide) (by decide) (by decide) rfl rfl (Nat.le_of_ble_eq_true rfl) (fun _ _ _ q => q.elim) (fun v n2 h2 q => ?_)
      obtain ⟨rfl, rfl, hh⟩ := q
      obtain rfl := hh.symm
      refine ⟨rfl, ?_⟩
      dsimp only [Option.toList, List.cons_append, List.nil_append]
      refine r_zret dX6_holdsNumber_92 (nar_z (by omega)) ?_
      rw [eF]
      exact ⟨rfl, Or.inr ⟨rfl, rfl, rfl⟩⟩
    · refine r_iload_n dX6_holdsNumber_77 rfl rfl ?_
      refine r_iload_n dX6_holdsNumber_78 rfl rfl ?_
      refine r_icmp_lt (tgt := 87) dX6_holdsNumber_79 (by decide) ⟨by omega, by omega⟩ ⟨by omega, by omega⟩ (fun g79 => ?_) (fun g79 => ?_)
      · rw [if_pos (by omega)] at eF
        refine r_aload_n dX6_holdsNumber_87 rfl rfl ?_
        refine r_iconst dX6_holdsNumber_88 ?_
        refine r_callV 3 [_] (s_X6_refuse c3) dX6_holdsNumber_89 cs_X6_69 im_X6_refuse (by decide) c3 rfl (by decide) (by decide) (by decide) rfl rfl (Nat.le_of_ble_eq_true rfl) (fun _ _ _ q => q.elim) (fun v n2 h2 q => ?_)
        obtain ⟨rfl, rfl, hh⟩ := q
        obtain rfl := hh.symm
        refine ⟨rfl, ?_⟩
        dsimp only [Option.toList, List.cons_append, List.nil_append]
        refine r_zret dX6_holdsNumber_92 (nar_z (by omega)) ?_
        rw [eF]
        exact ⟨rfl, Or.inr ⟨rfl, rfl, rfl⟩⟩
      · refine r_iload_n dX6_holdsNumber_82 rfl rfl ?_
        refine r_iload_n dX6_holdsNumber_83 rfl rfl ?_
        refine r_icmp_le (tgt := 93) dX6_holdsNumber_84 (by decide) ⟨by omega, by omega⟩ ⟨by omega, by omega⟩ (fun g84 => ?_) (fun g84 => ?_)
        · rw [if_neg (by omega)] at eF
          refine r_aload_n dX6_holdsNumber_93 rfl rfl ?_
          refine r_iload_n dX6_holdsNumber_94 rfl rfl ?_
          refine r_put (fs := [_, _, _, _, _, _, _, _]) (fs2 := [_, _, _, _, _, _, _, _]) dX6_holdsNumber_95 fp_X6_18 (by decide) c3 (nar_int _) (Nat.le_of_ble_eq_true rfl) rfl ?_
          refine r_iconst dX6_holdsNumber_98 ?_
          refine r_zret dX6_holdsNumber_99 (nar_z (by omega)) ?_
          rw [eF]
          exact ⟨rfl, Or.inl ⟨rfl, rfl, rfl⟩⟩
        · rw [if_pos (by omega)] at eF
          refine r_aload_n dX6_holdsNumber_87 rfl rfl ?_
          refine r_iconst dX6_holdsNumber_88 ?_
          refine r_callV 3 [_] (s_X6_refuse c3) dX6_holdsNumber_89 cs_X6_69 im_X6_refuse (by decide) c3 rfl (by decide) (by decide) (by decide) rfl rfl (Nat.le_of_ble_eq_true rfl) (fun _ _ _ q => q.elim) (fun v n2 h2 q => ?_)
          obtain ⟨rfl, rfl, hh⟩ := q
          obtain rfl := hh.symm
          refine ⟨rfl, ?_⟩
          dsimp only [Option.toList, List.cons_append, List.nil_append]
          refine r_zret dX6_holdsNumber_92 (nar_z (by omega)) ?_
          rw [eF]
          exact ⟨rfl, Or.inr ⟨rfl, rfl, rfl⟩⟩
  · rw [if_pos g5] at eF
    refine r_aload_n dX6_holdsNumber_8 rfl rfl ?_
    refine r_iconst dX6_holdsNumber_9 ?_
    refine r_callV 3 [_] (s_X6_refuse c3) dX6_holdsNumber_10 cs_X6_69 im_X6_refuse (by decide) c3 rfl (by decide) (by decide) (by decide) rfl rfl (Nat.le_of_ble_eq_true rfl) (fun _ _ _ q => q.elim) (fun v n2 h2 q => ?_)
    obtain ⟨rfl, rfl, hh⟩ := q
    obtain rfl := hh.symm
    refine ⟨rfl, ?_⟩
    dsimp only [Option.toList, List.cons_append, List.nil_append]
    refine r_zret dX6_holdsNumber_13 (nar_z (by omega)) ?_
    rw [eF]
    exact ⟨rfl, Or.inr ⟨rfl, rfl, rfl⟩⟩

theorem s_X6_takeNumber {h : aH} {t : Nat → Int} (c1 : h 1 = .inl (1, 700, t)) (ht : ∀ j, -128 ≤ t j ∧ t j ≤ 127) {fa pl tk : Int} {le e : Nat} (c3 : h 3 = SC t fa pl tk le e) (hle : le ≤ 700) (hee : e ≤ le) {lo hi : Int} (hlo : -10000 ≤ lo ∧ lo ≤ 10000) (hhi : -10000 ≤ hi ∧ hi ≤ 10000) : mSem yX6_takeNumber cX6_takeNumber 3 (some .boolean) 2 0 0 [.ref 3, iv lo, iv hi] 97 h (Fk (decide (numF t le e lo hi = 0)) (va_up h 3 (SC t fa pl (numAt t le e) le (tkE t le e))) (va_up h 3 (SCN (numF t le e lo hi) (tkS t le e) tk le (tkK t le e) (tkS t le e) (tkE t le e)))) noX := by
  have hB := tk_B t hee
  refine mSem_of (own := RX6) (name := "takeNumber") pn_X6 rfl rfl (Nat.le_of_ble_eq_true rfl) ?_
  refine r_aload_n dX6_takeNumber_0 rfl rfl ?_
  refine r_iload_n dX6_takeNumber_1 rfl rfl ?_
  refine r_iload_n dX6_takeNumber_2 rfl rfl ?_
  refine r_callV 3 [_, _] (s_X6_holdsNumber c1 ht (by first | rfl | exact c3) hle (by omega) (by omega) (by omega)) dX6_takeNumber_3 cs_X6_81 im_X6_holdsNumber (by decide) c3 rfl (by decide) (by decide) (by decide) rfl rfl (Nat.le_of_ble_eq_true rfl) (fun _ _ _ q => q.elim) (fun v n2 h2 q => ?_)
  obtain ⟨rfl, q⟩ := q
  rcases q with ⟨z0, rfl, hh⟩ | ⟨z0, rfl, hh⟩
  · obtain rfl := hh.symm
    refine ⟨rfl, ?_⟩
    dsimp only [Option.toList, List.cons_append, List.nil_append]
    refine r_if_ne (tgt := 11) dX6_takeNumber_6 (by decide) ⟨by omega, by omega⟩ (fun g6 => ?_) (fun g6 => absurd g6 (by omega))
    refine r_aload_n dX6_takeNumber_11 rfl rfl ?_
    refine r_callV 3 [] (s_X6_advance (by exact c1) ht (by first | rfl | exact c3) hle (by omega)) dX6_takeNumber_12 cs_X6_46 im_X6_advance (by decide) rfl rfl (by decide) (by decide) (by decide) rfl rfl (Nat.le_of_ble_eq_true rfl) (fun _ _ _ q => q.elim) (fun v n2 h2 q => ?_)
    obtain ⟨rfl, rfl, hh⟩ := q
    obtain rfl := hh.symm
    refine ⟨rfl, ?_⟩
    dsimp only [Option.toList, List.cons_append, List.nil_append]
    refine r_iconst dX6_takeNumber_15 ?_
    refine r_zret dX6_takeNumber_16 (nar_z (by omega)) ?_
    exact ⟨rfl, Or.inl ⟨z0, rfl, by simp only [bx_uu]⟩⟩
  · obtain rfl := hh.symm
    refine ⟨rfl, ?_⟩
    dsimp only [Option.toList, List.cons_append, List.nil_append]
    refine r_if_ne (tgt := 11) dX6_takeNumber_6 (by decide) ⟨by omega, by omega⟩ (fun g6 => absurd g6 (by omega)) (fun g6 => ?_)
    refine r_iconst dX6_takeNumber_9 ?_
    refine r_zret dX6_takeNumber_10 (nar_z (by omega)) ?_
    exact ⟨rfl, Or.inr ⟨z0, rfl, rfl⟩⟩
