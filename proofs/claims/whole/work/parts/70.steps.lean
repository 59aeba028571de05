/-! ===== the reference's scan: tokens ===== -/
def bt (t : Nat → Int) (le k : Nat) : Int := if k < le then t k % 256 else 0
theorem bt_B (t : Nat → Int) (le k : Nat) : 0 ≤ bt t le k ∧ bt t le k ≤ 255 := by
  unfold bt
  split <;> omega
theorem bt_lt {t : Nat → Int} {le k : Nat} (h : k < le) : bt t le k = t k % 256 := if_pos h
theorem bt_ge {t : Nat → Int} {le k : Nat} (h : ¬ k < le) : bt t le k = 0 := if_neg h
theorem isLt_256 {b : Int} (h : -128 ≤ b ∧ b ≤ 127) : isLt (b % 256) = isLt b := by
  rw [Bool.eq_iff_iff]
  simp only [isLt, Bool.and_eq_true, decide_eq_true_eq]
  omega
theorem isDg_256 {b : Int} (h : -128 ≤ b ∧ b ≤ 127) : isDg (b % 256) = isDg b := by
  rw [Bool.eq_iff_iff]
  simp only [isDg, Bool.and_eq_true, decide_eq_true_eq]
  omega
def sgS (b : Int) : Bool := decide (b = 59 ∨ b = 45 ∨ b = 40 ∨ b = 41 ∨ b = 44)
def sortI (t : Nat → Int) (le e : Nat) : Int := if tkK t le e = 3 then (if sgS (t (tkS t le e)) = true then 3 else 4) else tkK t le e
/-- the reference's token at e -/
def RS (t : Nat → Int) (le e : Nat) (g : Nat → Int) (w : Int) : Prop := e ≤ le ∧ g 12 = (le : Int) ∧ g 13 = (tkE t le e : Int) ∧ g 14 = sortI t le e ∧ g 15 = (tkS t le e : Int) ∧ g 16 = (tkE t le e : Int) - (tkS t le e : Int) ∧ (tkK t le e = 2 → g 17 = numAt t le e) ∧ g 18 = bt t le (tkS t le e) ∧ (tkK t le e = 1 → w = pkF (fun j => t (tkS t le e + j)) (min (tkE t le e - tkS t le e) 7) ∧ ∀ j, j < tkE t le e - tkS t le e → 97 ≤ t (tkS t le e + j) ∧ t (tkS t le e + j) ≤ 122)
def StQ (t : Nat → Int) (le e : Nat) (h : aH) (g : Nat → Int) : Option Value → Nat → aH → Prop := fun v n' h' => v = none ∧ n' = 97 ∧ ∃ g2 w2, h' = va_up h 68 (RG g2 w2) ∧ RS t le e g2 w2 ∧ ∀ k, ¬ (13 ≤ k ∧ k ≤ 18) → g2 k = g k
theorem digF_s (t : Nat → Int) : ∀ (k j : Nat) (acc : Int), digF t (k + 1) j acc = 10 * digF t k j acc + t (j + k) - 48 := by
  intro k
  induction k with
  | zero => intro j acc; rfl
  | succ k ih =>
    intro j acc
    show digF t (k + 1) (j + 1) (10 * acc + t j - 48) = 10 * digF t k (j + 1) (10 * acc + t j - 48) + t (j + (k + 1)) - 48
    rw [ih, show j + 1 + k = j + (k + 1) by omega]
theorem skp_all (p : Int → Bool) (t : Nat → Int) : ∀ (k i j : Nat), i ≤ j → j < skp p t k i → p (t j) = true := by
  intro k
  induction k with
  | zero => intro i j h1 h2; unfold skp at h2; omega
  | succ k ih =>
    intro i j h1 h2
    unfold skp at h2
    by_cases q : p (t i) = true
    · rw [if_pos q] at h2
      by_cases q2 : j = i
      · rw [q2]; exact q
      · exact ih (i + 1) j (by omega) h2
    · rw [if_neg q] at h2
      omega
theorem RS_sg {t : Nat → Int} (ht : ∀ j, -128 ≤ t j ∧ t j ≤ 127) {le e : Nat} {g : Nat → Int} {w : Int} (rs : RS t le e g w) {c : Int} (hc : c = 59 ∨ c = 45 ∨ c = 40 ∨ c = 41 ∨ c = 44) : (g 14 = 3 ∧ g 18 = c) ↔ signAt t le e c = true := by
  obtain ⟨r0, r1, r2, r3, r4, r5, r6, r7, r8⟩ := rs
  have hB := tk_B t r0
  have bt' := ht (tkS t le e)
  unfold signAt
  rw [Bool.and_eq_true, decide_eq_true_eq, decide_eq_true_eq, r3, r7]
  unfold sortI
  by_cases q : tkK t le e = 3
  · rw [if_pos q, bt_lt (hB.2.2.2.2.2 (by omega)).1]
    unfold sgS
    constructor
    · intro ⟨h1, h2⟩
      refine ⟨q, ?_⟩
      split at h1
      · omega
      · omega
    · intro ⟨h1, h2⟩
      rw [if_pos (by rw [decide_eq_true_eq, h2]; exact hc)]
      exact ⟨rfl, by omega⟩
  · rw [if_neg q]
    constructor
    · intro ⟨h1, _⟩; exact absurd h1 q
    · intro ⟨h1, _⟩; exact absurd h1 q
theorem RS_kp {t : Nat → Int} {le e : Nat} {g g2 : Nat → Int} {w : Int} (rs : RS t le e g w) (k : ∀ k, (12 ≤ k ∧ k ≤ 18) → g2 k = g k) : RS t le e g2 w := by
  unfold RS
  rw [k 12 (by decide), k 13 (by decide), k 14 (by decide), k 15 (by decide), k 16 (by decide), k 17 (by decide), k 18 (by decide)]
  exact rs

theorem s_X9_byteAt {h : aH} {g : Nat → Int} {w : Int} (c68 : h 68 = RG g w) {trr : Nat → Int} (c72 : h 72 = .inl (0, 700, trr)) {t : Nat → Int} (ht : ∀ j, -128 ≤ t j ∧ t j ≤ 127) {le : Nat} (hle : le ≤ 700) (htt : ∀ j, j < le → trr j = t j % 256) (e12 : g 12 = (le : Int)) {k : Nat} {z : Int} (hz : z = (k : Int)) (hk : k ≤ 700) : mSem yX9_byteAt cX9_byteAt 2 (some .int) 0 0 0 [.ref 68, iv z] 97 h (Ret (bt t le k) h) noX := by
  refine mSem_of (own := RX9) (name := "byteAt") pn_X9 rfl rfl (Nat.le_of_ble_eq_true rfl) ?_
  refine r_iload_n dX9_byteAt_0 rfl rfl ?_
  refine r_aload_n dX9_byteAt_1 rfl rfl ?_
  refine r_getR (z := (g 12)) dX9_byteAt_2 fl_X9_112 (by decide) c68 rfl ?_
  refine r_icmp_ge (tgt := 17) dX9_byteAt_5 (by decide) ⟨by omega, by omega⟩ ⟨by omega, by omega⟩ (fun g5 => ?_) (fun g5 => ?_)
  · refine r_iconst dX9_byteAt_17 ?_
    refine r_iret dX9_byteAt_18 ?_
    first
      | exact ⟨ivE (by rw [bt_lt (by omega), ← htt k (by omega), hz, Int.toNat_natCast]), rfl, rfl⟩
      | exact ⟨ivE (bt_ge (by omega)).symm, rfl, rfl⟩
  · refine r_aload_n dX9_byteAt_8 rfl rfl ?_
    refine r_get (fs := RGL _ _) dX9_byteAt_9 fl_X9_23 (by decide) c68 rfl ?_
    refine r_iload_n dX9_byteAt_12 rfl rfl ?_
    refine r_ald dX9_byteAt_13 (by decide) c72 (by omega) (by omega) (by decide) ?_
    refine r_goto (tgt := 18) dX9_byteAt_14 (by decide) ?_
    refine r_iret dX9_byteAt_18 ?_
    first
      | exact ⟨ivE (by rw [bt_lt (by omega), ← htt k (by omega), hz, Int.toNat_natCast]), rfl, rfl⟩
      | exact ⟨ivE (bt_ge (by omega)).symm, rfl, rfl⟩

theorem s_X9_isLetter {h : aH} {b : Int} (hb : 0 ≤ b ∧ b ≤ 255) : mSem yX9_isLetter cX9_isLetter 1 (some .boolean) 0 0 0 [iv b] 97 h (Ret (b2i (isLt b)) h) noX := by
  refine mSem_of (own := RX9) (name := "isLetter") pn_X9 rfl rfl (Nat.le_of_ble_eq_true rfl) ?_
  refine r_iload_n dX9_isLetter_0 rfl rfl ?_
  refine r_bipush dX9_isLetter_1 rfl ?_
  refine r_icmp_lt (tgt := 16) dX9_isLetter_3 (by decide) ⟨by omega, by omega⟩ ⟨by omega, by omega⟩ (fun g3 => ?_) (fun g3 => ?_)
  · refine r_iconst dX9_isLetter_16 ?_
    refine r_zret dX9_isLetter_17 (nar_z (by omega)) ?_
    exact ⟨ivE (by simp only [isLt, b2i]; simp; omega), rfl, rfl⟩
  · refine r_iload_n dX9_isLetter_6 rfl rfl ?_
    refine r_bipush dX9_isLetter_7 rfl ?_
    refine r_icmp_gt (tgt := 16) dX9_isLetter_9 (by decide) ⟨by omega, by omega⟩ ⟨by omega, by omega⟩ (fun g9 => ?_) (fun g9 => ?_)
    · refine r_iconst dX9_isLetter_16 ?_
      refine r_zret dX9_isLetter_17 (nar_z (by omega)) ?_
      exact ⟨ivE (by simp only [isLt, b2i]; simp; omega), rfl, rfl⟩
    · refine r_iconst dX9_isLetter_12 ?_
      refine r_goto (tgt := 17) dX9_isLetter_13 (by decide) ?_
      refine r_zret dX9_isLetter_17 (nar_z (by omega)) ?_
      exact ⟨ivE (by simp only [isLt, b2i]; simp; omega), rfl, rfl⟩

theorem s_X9_isDigit {h : aH} {b : Int} (hb : 0 ≤ b ∧ b ≤ 255) : mSem yX9_isDigit cX9_isDigit 1 (some .boolean) 0 0 0 [iv b] 97 h (Ret (b2i (isDg b)) h) noX := by
  refine mSem_of (own := RX9) (name := "isDigit") pn_X9 rfl rfl (Nat.le_of_ble_eq_true rfl) ?_
  refine r_iload_n dX9_isDigit_0 rfl rfl ?_
  refine r_bipush dX9_isDigit_1 rfl ?_
  refine r_icmp_lt (tgt := 16) dX9_isDigit_3 (by decide) ⟨by omega, by omega⟩ ⟨by omega, by omega⟩ (fun g3 => ?_) (fun g3 => ?_)
  · refine r_iconst dX9_isDigit_16 ?_
    refine r_zret dX9_isDigit_17 (nar_z (by omega)) ?_
    exact ⟨ivE (by simp only [isDg, b2i]; simp; omega), rfl, rfl⟩
  · refine r_iload_n dX9_isDigit_6 rfl rfl ?_
    refine r_bipush dX9_isDigit_7 rfl ?_
    refine r_icmp_gt (tgt := 16) dX9_isDigit_9 (by decide) ⟨by omega, by omega⟩ ⟨by omega, by omega⟩ (fun g9 => ?_) (fun g9 => ?_)
    · refine r_iconst dX9_isDigit_16 ?_
      refine r_zret dX9_isDigit_17 (nar_z (by omega)) ?_
      exact ⟨ivE (by simp only [isDg, b2i]; simp; omega), rfl, rfl⟩
    · refine r_iconst dX9_isDigit_12 ?_
      refine r_goto (tgt := 17) dX9_isDigit_13 (by decide) ?_
      refine r_zret dX9_isDigit_17 (nar_z (by omega)) ?_
      exact ⟨ivE (by simp only [isDg, b2i]; simp; omega), rfl, rfl⟩

theorem l_X9_st1 {h : aH} {g : Nat → Int} {w : Int} {trr : Nat → Int} (c72 : h 72 = .inl (0, 700, trr)) {t : Nat → Int} (ht : ∀ j, -128 ≤ t j ∧ t j ≤ 127) {le : Nat} (hle : le ≤ 700) (htt : ∀ j, j < le → trr j = t j % 256) {Q : Option Value → Nat → aH → Prop} {d : Nat} (hd1 : 1 ≤ d) (e12 : g 12 = (le : Int)) : ∀ (k s : Nat) (gg : Nat → Int), s + k = le → gg 13 = (s : Int) → (∀ j, j ≠ 13 → gg j = g j) → (∀ g2 : Nat → Int, g2 13 = (skp isBl t k s : Int) → (∀ j, j ≠ 13 → g2 j = g j) → Ev RX9 "steps" cX9_steps 2 none d 0 0 Q noX 97 (va_up h 68 (RG g2 w)) 50 [(0, .ref 68)] []) → Ev RX9 "steps" cX9_steps 2 none d 0 0 Q noX 97 (va_up h 68 (RG gg w)) 0 [(0, .ref 68)] [] := by
  intro k
  induction k with
  | zero =>
    intro s gg hs e13 kp kk
    have q12 := kp 12 (by decide)
    refine r_aload_n dX9_steps_0 rfl rfl ?_
    refine r_getR (z := (gg 13)) dX9_steps_1 fl_X9_115 (by decide) rfl rfl ?_
    refine r_aload_n dX9_steps_4 rfl rfl ?_
    refine r_getR (z := (gg 12)) dX9_steps_5 fl_X9_112 (by decide) rfl rfl ?_
    refine r_icmp_ge (tgt := 50) dX9_steps_8 (by decide) ⟨by omega, by omega⟩ ⟨by omega, by omega⟩ (fun g8 => ?_) (fun g8 => absurd g8 (by omega))
    exact kk gg e13 kp
  | succ k ih =>
    intro s gg hs e13 kp kk
    have q12 := kp 12 (by decide)
    have bts := ht s
    have b1 := bt_lt (t := t) (le := le) (k := s) (by omega)
    unfold skp at kk
    refine r_aload_n dX9_steps_0 rfl rfl ?_
    refine r_getR (z := (gg 13)) dX9_steps_1 fl_X9_115 (by decide) rfl rfl ?_
    refine r_aload_n dX9_steps_4 rfl rfl ?_
    refine r_getR (z := (gg 12)) dX9_steps_5 fl_X9_112 (by decide) rfl rfl ?_
    refine r_icmp_ge (tgt := 50) dX9_steps_8 (by decide) ⟨by omega, by omega⟩ ⟨by omega, by omega⟩ (fun g8 => absurd g8 (by omega)) (fun g8 => ?_)
    refine r_aload_n dX9_steps_11 rfl rfl ?_
    refine r_aload_n dX9_steps_12 rfl rfl ?_
    refine r_getR (z := (gg 13)) dX9_steps_13 fl_X9_115 (by decide) rfl rfl ?_
    refine r_callV 68 [_] (s_X9_byteAt (g := gg) (k := s) (by rfl) (by exact c72) ht hle htt (by first | exact e12 | (show (gg 12) = (le : Int); omega)) (by omega) (by omega)) dX9_steps_16 cs_X9_118 im_X9_byteAt (by decide) rfl rfl (by omega) (by decide) (by decide) rfl rfl (Nat.le_of_ble_eq_true rfl) (fun _ _ _ q => q.elim) (fun v n2 h2 q => ?_)
    obtain ⟨rfl, rfl, hh⟩ := q
    obtain rfl := hh.symm
    refine ⟨rfl, ?_⟩
    dsimp only [Option.toList, List.cons_append, List.nil_append]
    refine r_bipush dX9_steps_19 rfl ?_
    refine r_icmp_eq (tgt := 37) dX9_steps_21 (by decide) ⟨by omega, by omega⟩ ⟨by omega, by omega⟩ (fun g21 => ?_) (fun g21 => ?_)
    · refine r_aload_n dX9_steps_37 rfl rfl ?_
      refine r_dup dX9_steps_38 rfl ?_
      refine r_getR (z := (gg 13)) dX9_steps_39 fl_X9_115 (by decide) rfl rfl ?_
      refine r_iconst dX9_steps_42 ?_
      refine r_iadd dX9_steps_43 ?_
      refine r_putR dX9_steps_44 fp_X9_115 (by decide) rfl (nar_int _) (Nat.le_of_ble_eq_true rfl) setR_13 (fun z0 hz0 => ?_)
      refine r_goto (tgt := 0) dX9_steps_47 (by decide) ?_
      rw [if_pos (by simp only [isBl]; simp; omega)] at kk
      rw [bx_uu]
      exact ih (s + 1) (va_up gg 13 z0) (by omega) (by show z0 = _; omega) (fun j hj => by rw [va_up_ne _ _ hj]; exact kp j hj) kk
    · refine r_aload_n dX9_steps_24 rfl rfl ?_
      refine r_aload_n dX9_steps_25 rfl rfl ?_
      refine r_getR (z := (gg 13)) dX9_steps_26 fl_X9_115 (by decide) rfl rfl ?_
      refine r_callV 68 [_] (s_X9_byteAt (g := gg) (k := s) (by rfl) (by exact c72) ht hle htt (by first | exact e12 | (show (gg 12) = (le : Int); omega)) (by omega) (by omega)) dX9_steps_29 cs_X9_118 im_X9_byteAt (by decide) rfl rfl (by omega) (by decide) (by decide) rfl rfl (Nat.le_of_ble_eq_true rfl) (fun _ _ _ q => q.elim) (fun v n2 h2 q => ?_)
      obtain ⟨rfl, rfl, hh⟩ := q
      obtain rfl := hh.symm
      refine ⟨rfl, ?_⟩
      dsimp only [Option.toList, List.cons_append, List.nil_append]
      refine r_bipush dX9_steps_32 rfl ?_
      refine r_icmp_ne (tgt := 50) dX9_steps_34 (by decide) ⟨by omega, by omega⟩ ⟨by omega, by omega⟩ (fun g34 => ?_) (fun g34 => ?_)
      · rw [if_neg (by simp only [isBl]; simp; omega)] at kk
        exact kk gg e13 kp
      · refine r_aload_n dX9_steps_37 rfl rfl ?_
        refine r_dup dX9_steps_38 rfl ?_
        refine r_getR (z := (gg 13)) dX9_steps_39 fl_X9_115 (by decide) rfl rfl ?_
        refine r_iconst dX9_steps_42 ?_
        refine r_iadd dX9_steps_43 ?_
        refine r_putR dX9_steps_44 fp_X9_115 (by decide) rfl (nar_int _) (Nat.le_of_ble_eq_true rfl) setR_13 (fun z0 hz0 => ?_)
        refine r_goto (tgt := 0) dX9_steps_47 (by decide) ?_
        rw [if_pos (by simp only [isBl]; simp; omega)] at kk
        rw [bx_uu]
        exact ih (s + 1) (va_up gg 13 z0) (by omega) (by show z0 = _; omega) (fun j hj => by rw [va_up_ne _ _ hj]; exact kp j hj) kk

theorem l_X9_st2 {h : aH} {g : Nat → Int} {trr : Nat → Int} (c72 : h 72 = .inl (0, 700, trr)) {t : Nat → Int} (ht : ∀ j, -128 ≤ t j ∧ t j ≤ 127) {le : Nat} (hle : le ≤ 700) (htt : ∀ j, j < le → trr j = t j % 256) {Q : Option Value → Nat → aH → Prop} {d : Nat} (hd1 : 1 ≤ d) (e12 : g 12 = (le : Int)) {p : Nat} {c : Int} (e15 : g 15 = (p : Int)) : ∀ (k s : Nat) (gg : Nat → Int) (w : Int), s + k = le → p ≤ s → gg 13 = (s : Int) → (∀ j, j ≠ 13 → gg j = g j) → (∀ j, j < s - p → 97 ≤ t (p + j) ∧ t (p + j) ≤ 122) → w = pkF (fun j => t (p + j)) (min (s - p) 7) → (∀ (g2 : Nat → Int) (w2 : Int), g2 13 = (skp isLt t k s : Int) → (∀ j, j ≠ 13 → g2 j = g j) → w2 = pkF (fun j => t (p + j)) (min (skp isLt t k s - p) 7) → Ev RX9 "steps" cX9_steps 2 none d 0 0 Q noX 97 (va_up h 68 (RG g2 w2)) 172 [(0, .ref 68), (1, iv c)] []) → Ev RX9 "steps" cX9_steps 2 none d 0 0 Q noX 97 (va_up h 68 (RG gg w)) 108 [(0, .ref 68), (1, iv c)] [] := by
  intro k
  induction k with
  | zero =>
    intro s gg w hs hp e13 kp hl hw kk
    have q12 := kp 12 (by decide)
    have b1 := bt_ge (t := t) (le := le) (k := s) (by omega)
    refine r_aload_n dX9_steps_108 rfl rfl ?_
    refine r_aload_n dX9_steps_109 rfl rfl ?_
    refine r_getR (z := (gg 13)) dX9_steps_110 fl_X9_115 (by decide) rfl rfl ?_
    refine r_callV 68 [_] (s_X9_byteAt (g := gg) (k := s) (by rfl) (by exact c72) ht hle htt (by first | exact e12 | (show (gg 12) = (le : Int); omega)) (by omega) (by omega)) dX9_steps_113 cs_X9_118 im_X9_byteAt (by decide) rfl rfl (by omega) (by decide) (by decide) rfl rfl (Nat.le_of_ble_eq_true rfl) (fun _ _ _ q => q.elim) (fun v n2 h2 q => ?_)
    obtain ⟨rfl, rfl, hh⟩ := q
    obtain rfl := hh.symm
    refine ⟨rfl, ?_⟩
    dsimp only [Option.toList, List.cons_append, List.nil_append]
    refine r_callS [_] (s_X9_isLetter (by first | exact bt_B _ _ _ | omega)) dX9_steps_116 cs_X9_138 sm_X9_isLetter (by omega) (by decide) (by decide) rfl rfl (Nat.le_of_ble_eq_true rfl) (fun _ _ _ q => q.elim) (fun v n2 h2 q => ?_)
    obtain ⟨rfl, rfl, hh⟩ := q
    obtain rfl := hh.symm
    refine ⟨rfl, ?_⟩
    dsimp only [Option.toList, List.cons_append, List.nil_append]
    rw [b1, show b2i (isLt 0) = 0 from rfl]
    refine r_if_eq (tgt := 172) dX9_steps_119 (by decide) ⟨by omega, by omega⟩ (fun g119 => ?_) (fun g119 => absurd g119 (by omega))
    exact kk gg w e13 kp hw
  | succ k ih =>
    intro s gg w hs hp e13 kp hl hw kk
    have q12 := kp 12 (by decide)
    have q15 := kp 15 (by decide)
    have bts := ht s
    have b1 := bt_lt (t := t) (le := le) (k := s) (by omega)
    have b2 := isLt_256 bts
    have b3 := b2i_01 (isLt (t s))
    unfold skp at kk
    refine r_aload_n dX9_steps_108 rfl rfl ?_
    refine r_aload_n dX9_steps_109 rfl rfl ?_
    refine r_getR (z := (gg 13)) dX9_steps_110 fl_X9_115 (by decide) rfl rfl ?_
    refine r_callV 68 [_] (s_X9_byteAt (g := gg) (k := s) (by rfl) (by exact c72) ht hle htt (by first | exact e12 | (show (gg 12) = (le : Int); omega)) (by omega) (by omega)) dX9_steps_113 cs_X9_118 im_X9_byteAt (by decide) rfl rfl (by omega) (by decide) (by decide) rfl rfl (Nat.le_of_ble_eq_true rfl) (fun _ _ _ q => q.elim) (fun v n2 h2 q => ?_)
    obtain ⟨rfl, rfl, hh⟩ := q
    obtain rfl := hh.symm
    refine ⟨rfl, ?_⟩
    dsimp only [Option.toList, List.cons_append, List.nil_append]
    refine r_callS [_] (s_X9_isLetter (by first | exact bt_B _ _ _ | omega)) dX9_steps_116 cs_X9_138 sm_X9_isLetter (by omega) (by decide) (by decide) rfl rfl (Nat.le_of_ble_eq_true rfl) (fun _ _ _ q => q.elim) (fun v n2 h2 q => ?_)
    obtain ⟨rfl, rfl, hh⟩ := q
    obtain rfl := hh.symm
    refine ⟨rfl, ?_⟩
    dsimp only [Option.toList, List.cons_append, List.nil_append]
    rw [b1, b2]
    refine r_if_eq (tgt := 172) dX9_steps_119 (by decide) ⟨by omega, by omega⟩ (fun g119 => ?_) (fun g119 => ?_)
    · rw [b2i_0] at g119
      rw [if_neg (by rw [g119]; decide)] at kk
      exact kk gg w e13 kp hw
    · rw [b2i_0, Bool.not_eq_false] at g119
      rw [if_pos g119] at kk
      have hls : 97 ≤ t s ∧ t s ≤ 122 := by
        unfold isLt at g119
        simpa using g119
      have hl2 : ∀ j, j < s + 1 - p → 97 ≤ t (p + j) ∧ t (p + j) ≤ 122 := fun j hj => by
        by_cases q : j = s - p
        · rw [q, show p + (s - p) = s by omega]; exact hls
        · exact hl j (by omega)
      have bw : 0 ≤ w ∧ w < 34359738368 := by rw [hw]; exact pkF_L (fun j hj => hl j (by omega)) (by omega)
      have b4 : t s % 256 = t s := by omega
      refine r_aload_n dX9_steps_122 rfl rfl ?_
      refine r_getR (z := (gg 13)) dX9_steps_123 fl_X9_115 (by decide) rfl rfl ?_
      refine r_aload_n dX9_steps_126 rfl rfl ?_
      refine r_getR (z := (gg 15)) dX9_steps_127 fl_X9_122 (by decide) rfl rfl ?_
      refine r_isub dX9_steps_130 ?_
      refine r_bipush dX9_steps_131 rfl ?_
      refine r_icmp_ge (tgt := 159) dX9_steps_133 (by decide) ⟨by omega, by omega⟩ ⟨by omega, by omega⟩ (fun g133 => ?_) (fun g133 => ?_)
      · refine r_aload_n dX9_steps_159 rfl rfl ?_
        refine r_dup dX9_steps_160 rfl ?_
        refine r_getR (z := (gg 13)) dX9_steps_161 fl_X9_115 (by decide) rfl rfl ?_
        refine r_iconst dX9_steps_164 ?_
        refine r_iadd dX9_steps_165 ?_
        refine r_putR dX9_steps_166 fp_X9_115 (by decide) rfl (nar_int _) (Nat.le_of_ble_eq_true rfl) setR_13 (fun z0 hz0 => ?_)
        refine r_goto (tgt := 108) dX9_steps_169 (by decide) ?_
        simp only [bx_uu]
        refine ih (s + 1) (va_up gg 13 z0) _ (by omega) (by omega) (by show z0 = _; omega) (fun j hj => by rw [va_up_ne _ _ hj]; exact kp j hj) hl2 ?_ kk
        first
          | (rw [show min (s + 1 - p) 7 = min (s - p) 7 by omega]; exact hw)
          | (rw [hw, show min (s - p) 7 = s - p by omega, show min (s + 1 - p) 7 = (s - p) + 1 by omega]
             show _ = 32 * pkF (fun j => t (p + j)) (s - p) + (t (p + (s - p)) - 96)
             rw [show p + (s - p) = s by omega])
      · refine r_aload_n dX9_steps_136 rfl rfl ?_
        refine r_aload_n dX9_steps_137 rfl rfl ?_
        refine r_get (fs := RGL _ _) dX9_steps_138 fl_X9_125 (by decide) rfl rfl ?_
        refine r_iconst dX9_steps_141 ?_
        refine r_lshl (32 * w) dX9_steps_142 (ln_shl ⟨by omega, by omega⟩) ?_
        refine r_aload_n dX9_steps_143 rfl rfl ?_
        refine r_aload_n dX9_steps_144 rfl rfl ?_
        refine r_getR (z := (gg 13)) dX9_steps_145 fl_X9_115 (by decide) rfl rfl ?_
        refine r_callV 68 [_] (s_X9_byteAt (g := gg) (k := s) (by rfl) (by exact c72) ht hle htt (by first | exact e12 | (show (gg 12) = (le : Int); omega)) (by omega) (by omega)) dX9_steps_148 cs_X9_118 im_X9_byteAt (by decide) rfl rfl (by omega) (by decide) (by decide) rfl rfl (Nat.le_of_ble_eq_true rfl) (fun _ _ _ q => q.elim) (fun v n2 h2 q => ?_)
        obtain ⟨rfl, rfl, hh⟩ := q
        obtain rfl := hh.symm
        refine ⟨rfl, ?_⟩
        dsimp only [Option.toList, List.cons_append, List.nil_append]
        refine r_bipush dX9_steps_151 rfl ?_
        refine r_isub dX9_steps_153 ?_
        rw [b1, b4]
        refine r_i2l dX9_steps_154 ⟨by omega, by omega⟩ ?_
        refine r_lor (32 * w + (t s - 96)) dX9_steps_155 (ln_or ⟨by omega, by omega⟩ ⟨by omega, by omega⟩) ?_
        refine r_putJ dX9_steps_156 fp_X9_125 (by decide) rfl ?_
        refine r_aload_n dX9_steps_159 rfl rfl ?_
        refine r_dup dX9_steps_160 rfl ?_
        refine r_getR (z := (gg 13)) dX9_steps_161 fl_X9_115 (by decide) rfl rfl ?_
        refine r_iconst dX9_steps_164 ?_
        refine r_iadd dX9_steps_165 ?_
        refine r_putR dX9_steps_166 fp_X9_115 (by decide) rfl (nar_int _) (Nat.le_of_ble_eq_true rfl) setR_13 (fun z0 hz0 => ?_)
        refine r_goto (tgt := 108) dX9_steps_169 (by decide) ?_
        simp only [bx_uu]
        refine ih (s + 1) (va_up gg 13 z0) _ (by omega) (by omega) (by show z0 = _; omega) (fun j hj => by rw [va_up_ne _ _ hj]; exact kp j hj) hl2 ?_ kk
        first
          | (rw [show min (s + 1 - p) 7 = min (s - p) 7 by omega]; exact hw)
          | (rw [hw, show min (s - p) 7 = s - p by omega, show min (s + 1 - p) 7 = (s - p) + 1 by omega]
             show _ = 32 * pkF (fun j => t (p + j)) (s - p) + (t (p + (s - p)) - 96)
             rw [show p + (s - p) = s by omega])

theorem l_X9_st3 {h : aH} {g : Nat → Int} {w : Int} {trr : Nat → Int} (c72 : h 72 = .inl (0, 700, trr)) {t : Nat → Int} (ht : ∀ j, -128 ≤ t j ∧ t j ≤ 127) {le : Nat} (hle : le ≤ 700) (htt : ∀ j, j < le → trr j = t j % 256) {Q : Option Value → Nat → aH → Prop} {d : Nat} (hd1 : 1 ≤ d) (e12 : g 12 = (le : Int)) {p : Nat} {c : Int} (e15 : g 15 = (p : Int)) : ∀ (k s : Nat) (gg : Nat → Int), s + k = le → p ≤ s → gg 13 = (s : Int) → (∀ j, j ≠ 13 → j ≠ 17 → gg j = g j) → gg 17 = digF t (min (s - p) 4) p 0 → (∀ (g2 : Nat → Int), g2 13 = (skp isDg t k s : Int) → (∀ j, j ≠ 13 → j ≠ 17 → g2 j = g j) → g2 17 = digF t (min (skp isDg t k s - p) 4) p 0 → Ev RX9 "steps" cX9_steps 2 none d 0 0 Q noX 97 (va_up h 68 (RG g2 w)) 250 [(0, .ref 68), (1, iv c)] []) → Ev RX9 "steps" cX9_steps 2 none d 0 0 Q noX 97 (va_up h 68 (RG gg w)) 187 [(0, .ref 68), (1, iv c)] [] := by
  intro k
  induction k with
  | zero =>
    intro s gg hs hp e13 kp hw kk
    have q12 := kp 12 (by decide) (by decide)
    have b1 := bt_ge (t := t) (le := le) (k := s) (by omega)
    refine r_aload_n dX9_steps_187 rfl rfl ?_
    refine r_aload_n dX9_steps_188 rfl rfl ?_
    refine r_getR (z := (gg 13)) dX9_steps_189 fl_X9_115 (by decide) rfl rfl ?_
    refine r_callV 68 [_] (s_X9_byteAt (g := gg) (k := s) (by rfl) (by exact c72) ht hle htt (by first | exact e12 | (show (gg 12) = (le : Int); omega)) (by omega) (by omega)) dX9_steps_192 cs_X9_118 im_X9_byteAt (by decide) rfl rfl (by omega) (by decide) (by decide) rfl rfl (Nat.le_of_ble_eq_true rfl) (fun _ _ _ q => q.elim) (fun v n2 h2 q => ?_)
    obtain ⟨rfl, rfl, hh⟩ := q
    obtain rfl := hh.symm
    refine ⟨rfl, ?_⟩
    dsimp only [Option.toList, List.cons_append, List.nil_append]
    refine r_callS [_] (s_X9_isDigit (by first | exact bt_B _ _ _ | omega)) dX9_steps_195 cs_X9_142 sm_X9_isDigit (by omega) (by decide) (by decide) rfl rfl (Nat.le_of_ble_eq_true rfl) (fun _ _ _ q => q.elim) (fun v n2 h2 q => ?_)
    obtain ⟨rfl, rfl, hh⟩ := q
    obtain rfl := hh.symm
    refine ⟨rfl, ?_⟩
    dsimp only [Option.toList, List.cons_append, List.nil_append]
    rw [b1, show b2i (isDg 0) = 0 from rfl]
    refine r_if_eq (tgt := 250) dX9_steps_198 (by decide) ⟨by omega, by omega⟩ (fun g198 => ?_) (fun g198 => absurd g198 (by omega))
    exact kk gg e13 kp hw
  | succ k ih =>
    intro s gg hs hp e13 kp hw kk
    have q12 := kp 12 (by decide) (by decide)
    have q15 := kp 15 (by decide) (by decide)
    have bts := ht s
    have b1 := bt_lt (t := t) (le := le) (k := s) (by omega)
    have b2 := isDg_256 bts
    have b3 := b2i_01 (isDg (t s))
    unfold skp at kk
    refine r_aload_n dX9_steps_187 rfl rfl ?_
    refine r_aload_n dX9_steps_188 rfl rfl ?_
    refine r_getR (z := (gg 13)) dX9_steps_189 fl_X9_115 (by decide) rfl rfl ?_
    refine r_callV 68 [_] (s_X9_byteAt (g := gg) (k := s) (by rfl) (by exact c72) ht hle htt (by first | exact e12 | (show (gg 12) = (le : Int); omega)) (by omega) (by omega)) dX9_steps_192 cs_X9_118 im_X9_byteAt (by decide) rfl rfl (by omega) (by decide) (by decide) rfl rfl (Nat.le_of_ble_eq_true rfl) (fun _ _ _ q => q.elim) (fun v n2 h2 q => ?_)
    obtain ⟨rfl, rfl, hh⟩ := q
    obtain rfl := hh.symm
    refine ⟨rfl, ?_⟩
    dsimp only [Option.toList, List.cons_append, List.nil_append]
    refine r_callS [_] (s_X9_isDigit (by first | exact bt_B _ _ _ | omega)) dX9_steps_195 cs_X9_142 sm_X9_isDigit (by omega) (by decide) (by decide) rfl rfl (Nat.le_of_ble_eq_true rfl) (fun _ _ _ q => q.elim) (fun v n2 h2 q => ?_)
    obtain ⟨rfl, rfl, hh⟩ := q
    obtain rfl := hh.symm
    refine ⟨rfl, ?_⟩
    dsimp only [Option.toList, List.cons_append, List.nil_append]
    rw [b1, b2]
    refine r_if_eq (tgt := 250) dX9_steps_198 (by decide) ⟨by omega, by omega⟩ (fun g198 => ?_) (fun g198 => ?_)
    · rw [b2i_0] at g198
      rw [if_neg (by rw [g198]; decide)] at kk
      exact kk gg e13 kp hw
    · rw [b2i_0, Bool.not_eq_false] at g198
      rw [if_pos g198] at kk
      have hls : 48 ≤ t s ∧ t s ≤ 57 := by
        unfold isDg at g198
        simpa using g198
      have b4 : t s % 256 = t s := by omega
      refine r_aload_n dX9_steps_201 rfl rfl ?_
      refine r_getR (z := (gg 13)) dX9_steps_202 fl_X9_115 (by decide) rfl rfl ?_
      refine r_aload_n dX9_steps_205 rfl rfl ?_
      refine r_getR (z := (gg 15)) dX9_steps_206 fl_X9_122 (by decide) rfl rfl ?_
      refine r_isub dX9_steps_209 ?_
      refine r_iconst dX9_steps_210 ?_
      refine r_icmp_ge (tgt := 237) dX9_steps_211 (by decide) ⟨by omega, by omega⟩ ⟨by omega, by omega⟩ (fun g211 => ?_) (fun g211 => ?_)
      · refine r_aload_n dX9_steps_237 rfl rfl ?_
        refine r_dup dX9_steps_238 rfl ?_
        refine r_getR (z := (gg 13)) dX9_steps_239 fl_X9_115 (by decide) rfl rfl ?_
        refine r_iconst dX9_steps_242 ?_
        refine r_iadd dX9_steps_243 ?_
        refine r_putR dX9_steps_244 fp_X9_115 (by decide) rfl (nar_int _) (Nat.le_of_ble_eq_true rfl) setR_13 (fun z0 hz0 => ?_)
        refine r_goto (tgt := 187) dX9_steps_247 (by decide) ?_
        simp only [bx_uu]
        first
          | (refine ih (s + 1) (va_up gg 13 z0) (by omega) (by omega) (by show z0 = _; omega) (fun j hj hj2 => by rw [va_up_ne _ _ hj]; exact kp j hj hj2) ?_ kk
             show gg 17 = _
             rw [show min (s + 1 - p) 4 = min (s - p) 4 by omega]
             exact hw)
          | (refine ih (s + 1) (va_up (va_up gg 17 z0) 13 z1) (by omega) (by omega) (by show z1 = _; omega) (fun j hj hj2 => by rw [va_up_ne _ _ hj, va_up_ne _ _ hj2]; exact kp j hj hj2) ?_ kk
             show z0 = _
             rw [show min (s + 1 - p) 4 = (s - p) + 1 by omega, digF_s, show p + (s - p) = s by omega]
             rw [show min (s - p) 4 = s - p by omega] at hw
             omega)
      · refine r_aload_n dX9_steps_214 rfl rfl ?_
        refine r_bipush dX9_steps_215 rfl ?_
        refine r_aload_n dX9_steps_217 rfl rfl ?_
        refine r_getR (z := (gg 17)) dX9_steps_218 fl_X9_129 (by decide) rfl rfl ?_
        refine r_imul dX9_steps_221 ?_
        refine r_aload_n dX9_steps_222 rfl rfl ?_
        refine r_aload_n dX9_steps_223 rfl rfl ?_
        refine r_getR (z := (gg 13)) dX9_steps_224 fl_X9_115 (by decide) rfl rfl ?_
        refine r_callV 68 [_] (s_X9_byteAt (g := gg) (k := s) (by rfl) (by exact c72) ht hle htt (by first | exact e12 | (show (gg 12) = (le : Int); omega)) (by omega) (by omega)) dX9_steps_227 cs_X9_118 im_X9_byteAt (by decide) rfl rfl (by omega) (by decide) (by decide) rfl rfl (Nat.le_of_ble_eq_true rfl) (fun _ _ _ q => q.elim) (fun v n2 h2 q => ?_)
        obtain ⟨rfl, rfl, hh⟩ := q
        obtain rfl := hh.symm
        refine ⟨rfl, ?_⟩
        dsimp only [Option.toList, List.cons_append, List.nil_append]
        rw [b1, b4]
        refine r_iadd dX9_steps_230 ?_
        refine r_bipush dX9_steps_231 rfl ?_
        refine r_isub dX9_steps_233 ?_
        refine r_putR dX9_steps_234 fp_X9_129 (by decide) rfl (nar_int _) (Nat.le_of_ble_eq_true rfl) setR_17 (fun z0 hz0 => ?_)
        refine r_aload_n dX9_steps_237 rfl rfl ?_
        refine r_dup dX9_steps_238 rfl ?_
        refine r_getR (z := (gg 13)) dX9_steps_239 fl_X9_115 (by decide) rfl rfl ?_
        refine r_iconst dX9_steps_242 ?_
        refine r_iadd dX9_steps_243 ?_
        refine r_putR dX9_steps_244 fp_X9_115 (by decide) rfl (nar_int _) (Nat.le_of_ble_eq_true rfl) setR_13 (fun z1 hz1 => ?_)
        refine r_goto (tgt := 187) dX9_steps_247 (by decide) ?_
        simp only [bx_uu]
        first
          | (refine ih (s + 1) (va_up gg 13 z0) (by omega) (by omega) (by show z0 = _; omega) (fun j hj hj2 => by rw [va_up_ne _ _ hj]; exact kp j hj hj2) ?_ kk
             show gg 17 = _
             rw [show min (s + 1 - p) 4 = min (s - p) 4 by omega]
             exact hw)
          | (refine ih (s + 1) (va_up (va_up gg 17 z0) 13 z1) (by omega) (by omega) (by show z1 = _; omega) (fun j hj hj2 => by rw [va_up_ne _ _ hj, va_up_ne _ _ hj2]; exact kp j hj hj2) ?_ kk
             show z0 = _
             rw [show min (s + 1 - p) 4 = (s - p) + 1 by omega, digF_s, show p + (s - p) = s by omega]
             rw [show min (s - p) 4 = s - p by omega] at hw
             omega)

theorem s_X9_steps {h : aH} {g : Nat → Int} {w : Int} (c68 : h 68 = RG g w) {trr : Nat → Int} (c72 : h 72 = .inl (0, 700, trr)) {t : Nat → Int} (ht : ∀ j, -128 ≤ t j ∧ t j ≤ 127) {le : Nat} (hle : le ≤ 700) (htt : ∀ j, j < le → trr j = t j % 256) {e : Nat} (hee : e ≤ le) (e12 : g 12 = (le : Int)) (e13 : g 13 = (e : Int)) : mSem yX9_steps cX9_steps 2 none 1 0 0 [.ref 68] 97 h (StQ t le e h g) noX := by
  have hB := tk_B t hee
  have eS : tkS t le e = skp isBl t (le - e) e := rfl
  have hK : tkK t le e = if le ≤ tkS t le e then 0 else if isLt (t (tkS t le e)) then 1 else if isDg (t (tkS t le e)) then 2 else 3 := rfl
  have hE : tkE t le e = if le ≤ tkS t le e then tkS t le e else if isLt (t (tkS t le e)) then skp isLt t (le - tkS t le e) (tkS t le e) else if isDg (t (tkS t le e)) then skp isDg t (le - tkS t le e) (tkS t le e) else tkS t le e + 1 := rfl
  have hsI : sortI t le e = if tkK t le e = 3 then (if sgS (t (tkS t le e)) = true then 3 else 4) else tkK t le e := rfl
  have bts := ht (tkS t le e)
  have b8 := b2i_01 (isLt (t (tkS t le e)))
  have b9 := b2i_01 (isDg (t (tkS t le e)))
  have b4 := isLt_256 bts
  have b5 := isDg_256 bts
  refine mSem_of (own := RX9) (name := "steps") pn_X9 rfl rfl (Nat.le_of_ble_eq_true rfl) ?_
  refine ev_h (up_same c68) ?_
  refine l_X9_st1 c72 ht hle htt (by decide) e12 (le - e) e g (by omega) e13 (fun _ _ => rfl) (fun g3 q13 kp3 => ?_)
  rw [← eS] at q13
  have q12 := kp3 12 (by decide)
  refine r_aload_n dX9_steps_50 rfl rfl ?_
  refine r_aload_n dX9_steps_51 rfl rfl ?_
  refine r_getR (z := (g3 13)) dX9_steps_52 fl_X9_115 (by decide) rfl rfl ?_
  refine r_putR dX9_steps_55 fp_X9_122 (by decide) rfl (nar_int _) (Nat.le_of_ble_eq_true rfl) setR_15 (fun z0 hz0 => ?_)
  refine r_aload_n dX9_steps_58 rfl rfl ?_
  refine r_lconst (z := 0) dX9_steps_59 rfl rfl ?_
  refine r_putJ dX9_steps_60 fp_X9_125 (by decide) rfl ?_
  refine r_aload_n dX9_steps_63 rfl rfl ?_
  refine r_iconst dX9_steps_64 ?_
  refine r_putR dX9_steps_65 fp_X9_129 (by decide) rfl (nar_int _) (Nat.le_of_ble_eq_true rfl) setR_17 (fun z1 hz1 => ?_)
  refine r_aload_n dX9_steps_68 rfl rfl ?_
  refine r_aload_n dX9_steps_69 rfl rfl ?_
  refine r_getR (z := (g3 13)) dX9_steps_70 fl_X9_115 (by decide) rfl rfl ?_
  refine r_callV 68 [_] (s_X9_byteAt (g := (va_up (va_up g3 15 z0) 17 z1)) (k := (tkS t le e)) (by rfl) (by exact c72) ht hle htt (by first | exact e12 | (show (g3 12) = (le : Int); omega)) (by omega) (by omega)) dX9_steps_73 cs_X9_118 im_X9_byteAt (by decide) rfl rfl (by decide) (by decide) (by decide) rfl rfl (Nat.le_of_ble_eq_true rfl) (fun _ _ _ q => q.elim) (fun v n2 h2 q => ?_)
  obtain ⟨rfl, rfl, hh⟩ := q
  obtain rfl := hh.symm
  refine ⟨rfl, ?_⟩
  dsimp only [Option.toList, List.cons_append, List.nil_append]
  refine r_istore_n (lv2 := [(0, _), (1, _)]) dX9_steps_76 rfl (by decide) rfl rfl ?_
  refine r_aload_n dX9_steps_77 rfl rfl ?_
  refine r_iload_n dX9_steps_78 rfl rfl ?_
  refine r_putR dX9_steps_79 fp_X9_132 (by decide) rfl (nar_int _) (Nat.le_of_ble_eq_true rfl) setR_18 (fun z2 hz2 => ?_)
  refine r_aload_n dX9_steps_82 rfl rfl ?_
  refine r_getR (z := (g3 13)) dX9_steps_83 fl_X9_115 (by decide) rfl rfl ?_
  refine r_aload_n dX9_steps_86 rfl rfl ?_
  refine r_getR (z := (g3 12)) dX9_steps_87 fl_X9_112 (by decide) rfl rfl ?_
  refine r_icmp_lt (tgt := 101) dX9_steps_90 (by decide) ⟨by omega, by omega⟩ ⟨by omega, by omega⟩ (fun g90 => ?_) (fun g90 => ?_)
  · rw [if_neg (by omega)] at hK hE
    have b1 := bt_lt (t := t) (le := le) (k := tkS t le e) (by omega)
    refine r_iload_n dX9_steps_101 rfl rfl ?_
    refine r_callS [_] (s_X9_isLetter (by first | exact bt_B _ _ _ | omega)) dX9_steps_102 cs_X9_138 sm_X9_isLetter (by decide) (by decide) (by decide) rfl rfl (Nat.le_of_ble_eq_true rfl) (fun _ _ _ q => q.elim) (fun v n2 h2 q => ?_)
    obtain ⟨rfl, rfl, hh⟩ := q
    obtain rfl := hh.symm
    refine ⟨rfl, ?_⟩
    dsimp only [Option.toList, List.cons_append, List.nil_append]
    rw [b1, b4]
    refine r_if_eq (tgt := 180) dX9_steps_105 (by decide) ⟨by omega, by omega⟩ (fun g105 => ?_) (fun g105 => ?_)
    · rw [b2i_0] at g105
      rw [if_neg (by rw [g105]; decide)] at hK hE
      refine r_iload_n dX9_steps_180 rfl rfl ?_
      refine r_callS [_] (s_X9_isDigit (by first | exact bt_B _ _ _ | omega)) dX9_steps_181 cs_X9_142 sm_X9_isDigit (by decide) (by decide) (by decide) rfl rfl (Nat.le_of_ble_eq_true rfl) (fun _ _ _ q => q.elim) (fun v n2 h2 q => ?_)
      obtain ⟨rfl, rfl, hh⟩ := q
      obtain rfl := hh.symm
      refine ⟨rfl, ?_⟩
      dsimp only [Option.toList, List.cons_append, List.nil_append]
      first | rw [b1, b5] | rw [b5]
      refine r_if_eq (tgt := 258) dX9_steps_184 (by decide) ⟨by omega, by omega⟩ (fun g184 => ?_) (fun g184 => ?_)
      · rw [b2i_0] at g184
        rw [if_neg (by rw [g184]; decide)] at hK hE
        rw [if_pos hK] at hsI
        unfold sgS at hsI
        refine r_aload_n dX9_steps_258 rfl rfl ?_
        refine r_dup dX9_steps_259 rfl ?_
        refine r_getR (z := (g3 13)) dX9_steps_260 fl_X9_115 (by decide) rfl rfl ?_
        refine r_iconst dX9_steps_263 ?_
        refine r_iadd dX9_steps_264 ?_
        refine r_putR dX9_steps_265 fp_X9_115 (by decide) rfl (nar_int _) (Nat.le_of_ble_eq_true rfl) setR_13 (fun z3 hz3 => ?_)
        refine r_aload_n dX9_steps_268 rfl rfl ?_
        refine r_iload_n dX9_steps_269 rfl rfl ?_
        refine r_bipush dX9_steps_270 rfl ?_
        refine r_icmp_eq (tgt := 299) dX9_steps_272 (by decide) ⟨by omega, by omega⟩ ⟨by omega, by omega⟩ (fun g272 => ?_) (fun g272 => ?_)
        · rw [if_pos (by rw [decide_eq_true_eq]; omega)] at hsI
          refine r_iconst dX9_steps_299 ?_
          refine r_goto (tgt := 304) dX9_steps_300 (by decide) ?_
          refine r_putR dX9_steps_304 fp_X9_135 (by decide) rfl (nar_int _) (Nat.le_of_ble_eq_true rfl) setR_14 (fun z4 hz4 => ?_)
          refine r_aload_n dX9_steps_307 rfl rfl ?_
          refine r_aload_n dX9_steps_308 rfl rfl ?_
          refine r_getR (z := z3) dX9_steps_309 fl_X9_115 (by decide) rfl rfl ?_
          refine r_aload_n dX9_steps_312 rfl rfl ?_
          refine r_getR (z := z0) dX9_steps_313 fl_X9_122 (by decide) rfl rfl ?_
          refine r_isub dX9_steps_316 ?_
          refine r_putR dX9_steps_317 fp_X9_145 (by decide) rfl (nar_int _) (Nat.le_of_ble_eq_true rfl) setR_16 (fun z5 hz5 => ?_)
          refine r_vret dX9_steps_320 ?_
          first
            | (have hq1 : tkK t le e = 1 := hK
               have eG : RS t le e (va_up (va_up (va_up (va_up (va_up (va_up g3 15 z0) 17 z1) 18 z2) 13 z3) 14 z4) 16 z5) w4 := ⟨hee, by show (g3 12) = (le : Int); omega, by show z3 = (tkE t le e : Int); omega, by show z4 = sortI t le e; omega, by show z0 = (tkS t le e : Int); omega, by show z5 = (tkE t le e : Int) - (tkS t le e : Int); omega, fun q => absurd q (by omega), by show z2 = bt t le (tkS t le e); omega, (fun _ => ⟨hw4, hall⟩)⟩
               exact ⟨rfl, rfl, (va_up (va_up (va_up (va_up (va_up (va_up g3 15 z0) 17 z1) 18 z2) 13 z3) 14 z4) 16 z5), w4, by first | (simp only [bx_uu]; done) | (simp only [bx_uu]; rfl), eG, (fun k hk => by (repeat rw [va_up_ne _ _ (by omega)]); first | exact kp3 k (by omega) | exact (kp2 k (by omega)).trans (by (repeat rw [va_up_ne _ _ (by omega)]); exact kp3 k (by omega)) | exact (kp2 k (by omega) (by omega)).trans (by (repeat rw [va_up_ne _ _ (by omega)]); exact kp3 k (by omega)))⟩)
            | (have hq2 : tkK t le e = 2 := hK
               have eG : RS t le e (va_up (va_up (va_up (va_up (va_up (va_up g3 15 z0) 17 z1) 18 z2) 13 z3) 14 z4) 16 z5) 0 := ⟨hee, by show (g3 12) = (le : Int); omega, by show z3 = (tkE t le e : Int); omega, by show z4 = sortI t le e; omega, by show z0 = (tkS t le e : Int); omega, by show z5 = (tkE t le e : Int) - (tkS t le e : Int); omega, (fun _ => hw4), by show z2 = bt t le (tkS t le e); omega, fun q => absurd q (by omega)⟩
               exact ⟨rfl, rfl, (va_up (va_up (va_up (va_up (va_up (va_up g3 15 z0) 17 z1) 18 z2) 13 z3) 14 z4) 16 z5), 0, by first | (simp only [bx_uu]; done) | (simp only [bx_uu]; rfl), eG, (fun k hk => by (repeat rw [va_up_ne _ _ (by omega)]); first | exact kp3 k (by omega) | exact (kp2 k (by omega)).trans (by (repeat rw [va_up_ne _ _ (by omega)]); exact kp3 k (by omega)) | exact (kp2 k (by omega) (by omega)).trans (by (repeat rw [va_up_ne _ _ (by omega)]); exact kp3 k (by omega)))⟩)
            | (have eG : RS t le e (va_up (va_up (va_up (va_up (va_up (va_up g3 15 z0) 17 z1) 18 z2) 13 z3) 14 z4) 16 z5) 0 := ⟨hee, by show (g3 12) = (le : Int); omega, by show z3 = (tkE t le e : Int); omega, by show z4 = sortI t le e; omega, by show z0 = (tkS t le e : Int); omega, by show z5 = (tkE t le e : Int) - (tkS t le e : Int); omega, fun q => absurd q (by omega), by show z2 = bt t le (tkS t le e); omega, fun q => absurd q (by omega)⟩
               exact ⟨rfl, rfl, (va_up (va_up (va_up (va_up (va_up (va_up g3 15 z0) 17 z1) 18 z2) 13 z3) 14 z4) 16 z5), 0, by first | (simp only [bx_uu]; done) | (simp only [bx_uu]; rfl), eG, (fun k hk => by (repeat rw [va_up_ne _ _ (by omega)]); first | exact kp3 k (by omega) | exact (kp2 k (by omega)).trans (by (repeat rw [va_up_ne _ _ (by omega)]); exact kp3 k (by omega)) | exact (kp2 k (by omega) (by omega)).trans (by (repeat rw [va_up_ne _ _ (by omega)]); exact kp3 k (by omega)))⟩)
        · refine r_iload_n dX9_steps_275 rfl rfl ?_
          refine r_bipush dX9_steps_276 rfl ?_
          refine r_icmp_eq (tgt := 299) dX9_steps_278 (by decide) ⟨by omega, by omega⟩ ⟨by omega, by omega⟩ (fun g278 => ?_) (fun g278 => ?_)
          · rw [if_pos (by rw [decide_eq_true_eq]; omega)] at hsI
            refine r_iconst dX9_steps_299 ?_
            refine r_goto (tgt := 304) dX9_steps_300 (by decide) ?_
            refine r_putR dX9_steps_304 fp_X9_135 (by decide) rfl (nar_int _) (Nat.le_of_ble_eq_true rfl) setR_14 (fun z4 hz4 => ?_)
            refine r_aload_n dX9_steps_307 rfl rfl ?_
            refine r_aload_n dX9_steps_308 rfl rfl ?_
            refine r_getR (z := z3) dX9_steps_309 fl_X9_115 (by decide) rfl rfl ?_
            refine r_aload_n dX9_steps_312 rfl rfl ?_
            refine r_getR (z := z0) dX9_steps_313 fl_X9_122 (by decide) rfl rfl ?_
            refine r_isub dX9_steps_316 ?_
            refine r_putR dX9_steps_317 fp_X9_145 (by decide) rfl (nar_int _) (Nat.le_of_ble_eq_true rfl) setR_16 (fun z5 hz5 => ?_)
            refine r_vret dX9_steps_320 ?_
            first
              | (have hq1 : tkK t le e = 1 := hK
                 have eG : RS t le e (va_up (va_up (va_up (va_up (va_up (va_up g3 15 z0) 17 z1) 18 z2) 13 z3) 14 z4) 16 z5) w4 := ⟨hee, by show (g3 12) = (le : Int); omega, by show z3 = (tkE t le e : Int); omega, by show z4 = sortI t le e; omega, by show z0 = (tkS t le e : Int); omega, by show z5 = (tkE t le e : Int) - (tkS t le e : Int); omega, fun q => absurd q (by omega), by show z2 = bt t le (tkS t le e); omega, (fun _ => ⟨hw4, hall⟩)⟩
                 exact ⟨rfl, rfl, (va_up (va_up (va_up (va_up (va_up (va_up g3 15 z0) 17 z1) 18 z2) 13 z3) 14 z4) 16 z5), w4, by first | (simp only [bx_uu]; done) | (simp only [bx_uu]; rfl), eG, (fun k hk => by (repeat rw [va_up_ne _ _ (by omega)]); first | exact kp3 k (by omega) | exact (kp2 k (by omega)).trans (by (repeat rw [va_up_ne _ _ (by omega)]); exact kp3 k (by omega)) | exact (kp2 k (by omega) (by omega)).trans (by (repeat rw [va_up_ne _ _ (by omega)]); exact kp3 k (by omega)))⟩)
              | (have hq2 : tkK t le e = 2 := hK
                 have eG : RS t le e (va_up (va_up (va_up (va_up (va_up (va_up g3 15 z0) 17 z1) 18 z2) 13 z3) 14 z4) 16 z5) 0 := ⟨hee, by show (g3 12) = (le : Int); omega, by show z3 = (tkE t le e : Int); omega, by show z4 = sortI t le e; omega, by show z0 = (tkS t le e : Int); omega, by show z5 = (tkE t le e : Int) - (tkS t le e : Int); omega, (fun _ => hw4), by show z2 = bt t le (tkS t le e); omega, fun q => absurd q (by omega)⟩
                 exact ⟨rfl, rfl, (va_up (va_up (va_up (va_up (va_up (va_up g3 15 z0) 17 z1) 18 z2) 13 z3) 14 z4) 16 z5), 0, by first | (simp only [bx_uu]; done) | (simp only [bx_uu]; rfl), eG, (fun k hk => by (repeat rw [va_up_ne _ _ (by omega)]); first | exact kp3 k (by omega) | exact (kp2 k (by omega)).trans (by (repeat rw [va_up_ne _ _ (by omega)]); exact kp3 k (by omega)) | exact (kp2 k (by omega) (by omega)).trans (by (repeat rw [va_up_ne _ _ (by omega)]); exact kp3 k (by omega)))⟩)
              | (have eG : RS t le e (va_up (va_up (va_up (va_up (va_up (va_up g3 15 z0) 17 z1) 18 z2) 13 z3) 14 z4) 16 z5) 0 := ⟨hee, by show (g3 12) = (le : Int); omega, by show z3 = (tkE t le e : Int); omega, by show z4 = sortI t le e; omega, by show z0 = (tkS t le e : Int); omega, by show z5 = (tkE t le e : Int) - (tkS t le e : Int); omega, fun q => absurd q (by omega), by show z2 = bt t le (tkS t le e); omega, fun q => absurd q (by omega)⟩
                 exact ⟨rfl, rfl, (va_up (va_up (va_up (va_up (va_up (va_up g3 15 z0) 17 z1) 18 z2) 13 z3) 14 z4) 16 z5), 0, by first | (simp only [bx_uu]; done) | (simp only [bx_uu]; rfl), eG, (fun k hk => by (repeat rw [va_up_ne _ _ (by omega)]); first | exact kp3 k (by omega) | exact (kp2 k (by omega)).trans (by (repeat rw [va_up_ne _ _ (by omega)]); exact kp3 k (by omega)) | exact (kp2 k (by omega) (by omega)).trans (by (repeat rw [va_up_ne _ _ (by omega)]); exact kp3 k (by omega)))⟩)
          · refine r_iload_n dX9_steps_281 rfl rfl ?_
            refine r_bipush dX9_steps_282 rfl ?_
            refine r_icmp_eq (tgt := 299) dX9_steps_284 (by decide) ⟨by omega, by omega⟩ ⟨by omega, by omega⟩ (fun g284 => ?_) (fun g284 => ?_)
            · rw [if_pos (by rw [decide_eq_true_eq]; omega)] at hsI
              refine r_iconst dX9_steps_299 ?_
              refine r_goto (tgt := 304) dX9_steps_300 (by decide) ?_
              refine r_putR dX9_steps_304 fp_X9_135 (by decide) rfl (nar_int _) (Nat.le_of_ble_eq_true rfl) setR_14 (fun z4 hz4 => ?_)
              refine r_aload_n dX9_steps_307 rfl rfl ?_
              refine r_aload_n dX9_steps_308 rfl rfl ?_
              refine r_getR (z := z3) dX9_steps_309 fl_X9_115 (by decide) rfl rfl ?_
              refine r_aload_n dX9_steps_312 rfl rfl ?_
              refine r_getR (z := z0) dX9_steps_313 fl_X9_122 (by decide) rfl rfl ?_
              refine r_isub dX9_steps_316 ?_
              refine r_putR dX9_steps_317 fp_X9_145 (by decide) rfl (nar_int _) (Nat.le_of_ble_eq_true rfl) setR_16 (fun z5 hz5 => ?_)
              refine r_vret dX9_steps_320 ?_
              first
                | (have hq1 : tkK t le e = 1 := hK
                   have eG : RS t le e (va_up (va_up (va_up (va_up (va_up (va_up g3 15 z0) 17 z1) 18 z2) 13 z3) 14 z4) 16 z5) w4 := ⟨hee, by show (g3 12) = (le : Int); omega, by show z3 = (tkE t le e : Int); omega, by show z4 = sortI t le e; omega, by show z0 = (tkS t le e : Int); omega, by show z5 = (tkE t le e : Int) - (tkS t le e : Int); omega, fun q => absurd q (by omega), by show z2 = bt t le (tkS t le e); omega, (fun _ => ⟨hw4, hall⟩)⟩
                   exact ⟨rfl, rfl, (va_up (va_up (va_up (va_up (va_up (va_up g3 15 z0) 17 z1) 18 z2) 13 z3) 14 z4) 16 z5), w4, by first | (simp only [bx_uu]; done) | (simp only [bx_uu]; rfl), eG, (fun k hk => by (repeat rw [va_up_ne _ _ (by omega)]); first | exact kp3 k (by omega) | exact (kp2 k (by omega)).trans (by (repeat rw [va_up_ne _ _ (by omega)]); exact kp3 k (by omega)) | exact (kp2 k (by omega) (by omega)).trans (by (repeat rw [va_up_ne _ _ (by omega)]); exact kp3 k (by omega)))⟩)
                | (have hq2 : tkK t le e = 2 := hK
                   have eG : RS t le e (va_up (va_up (va_up (va_up (va_up (va_up g3 15 z0) 17 z1) 18 z2) 13 z3) 14 z4) 16 z5) 0 := ⟨hee, by show (g3 12) = (le : Int); omega, by show z3 = (tkE t le e : Int); omega, by show z4 = sortI t le e; omega, by show z0 = (tkS t le e : Int); omega, by show z5 = (tkE t le e : Int) - (tkS t le e : Int); omega, (fun _ => hw4), by show z2 = bt t le (tkS t le e); omega, fun q => absurd q (by omega)⟩
                   exact ⟨rfl, rfl, (va_up (va_up (va_up (va_up (va_up (va_up g3 15 z0) 17 z1) 18 z2) 13 z3) 14 z4) 16 z5), 0, by first | (simp only [bx_uu]; done) | (simp only [bx_uu]; rfl), eG, (fun k hk => by (repeat rw [va_up_ne _ _ (by omega)]); first | exact kp3 k (by omega) | exact (kp2 k (by omega)).trans (by (repeat rw [va_up_ne _ _ (by omega)]); exact kp3 k (by omega)) | exact (kp2 k (by omega) (by omega)).trans (by (repeat rw [va_up_ne _ _ (by omega)]); exact kp3 k (by omega)))⟩)
                | (have eG : RS t le e (va_up (va_up (va_up (va_up (va_up (va_up g3 15 z0) 17 z1) 18 z2) 13 z3) 14 z4) 16 z5) 0 := ⟨hee, by show (g3 12) = (le : Int); omega, by show z3 = (tkE t le e : Int); omega, by show z4 = sortI t le e; omega, by show z0 = (tkS t le e : Int); omega, by show z5 = (tkE t le e : Int) - (tkS t le e : Int); omega, fun q => absurd q (by omega), by show z2 = bt t le (tkS t le e); omega, fun q => absurd q (by omega)⟩
                   exact ⟨rfl, rfl, (va_up (va_up (va_up (va_up (va_up (va_up g3 15 z0) 17 z1) 18 z2) 13 z3) 14 z4) 16 z5), 0, by first | (simp only [bx_uu]; done) | (simp only [bx_uu]; rfl), eG, (fun k hk => by (repeat rw [va_up_ne _ _ (by omega)]); first | exact kp3 k (by omega) | exact (kp2 k (by omega)).trans (by (repeat rw [va_up_ne _ _ (by omega)]); exact kp3 k (by omega)) | exact (kp2 k (by omega) (by omega)).trans (by (repeat rw [va_up_ne _ _ (by omega)]); exact kp3 k (by omega)))⟩)
            · refine r_iload_n dX9_steps_287 rfl rfl ?_
              refine r_bipush dX9_steps_288 rfl ?_
              refine r_icmp_eq (tgt := 299) dX9_steps_290 (by decide) ⟨by omega, by omega⟩ ⟨by omega, by omega⟩ (fun g290 => ?_) (fun g290 => ?_)
              · rw [if_pos (by rw [decide_eq_true_eq]; omega)] at hsI
                refine r_iconst dX9_steps_299 ?_
                refine r_goto (tgt := 304) dX9_steps_300 (by decide) ?_
                refine r_putR dX9_steps_304 fp_X9_135 (by decide) rfl (nar_int _) (Nat.le_of_ble_eq_true rfl) setR_14 (fun z4 hz4 => ?_)
                refine r_aload_n dX9_steps_307 rfl rfl ?_
                refine r_aload_n dX9_steps_308 rfl rfl ?_
                refine r_getR (z := z3) dX9_steps_309 fl_X9_115 (by decide) rfl rfl ?_
                refine r_aload_n dX9_steps_312 rfl rfl ?_
                refine r_getR (z := z0) dX9_steps_313 fl_X9_122 (by decide) rfl rfl ?_
                refine r_isub dX9_steps_316 ?_
                refine r_putR dX9_steps_317 fp_X9_145 (by decide) rfl (nar_int _) (Nat.le_of_ble_eq_true rfl) setR_16 (fun z5 hz5 => ?_)
                refine r_vret dX9_steps_320 ?_
                first
                  | (have hq1 : tkK t le e = 1 := hK
                     have eG : RS t le e (va_up (va_up (va_up (va_up (va_up (va_up g3 15 z0) 17 z1) 18 z2) 13 z3) 14 z4) 16 z5) w4 := ⟨hee, by show (g3 12) = (le : Int); omega, by show z3 = (tkE t le e : Int); omega, by show z4 = sortI t le e; omega, by show z0 = (tkS t le e : Int); omega, by show z5 = (tkE t le e : Int) - (tkS t le e : Int); omega, fun q => absurd q (by omega), by show z2 = bt t le (tkS t le e); omega, (fun _ => ⟨hw4, hall⟩)⟩
                     exact ⟨rfl, rfl, (va_up (va_up (va_up (va_up (va_up (va_up g3 15 z0) 17 z1) 18 z2) 13 z3) 14 z4) 16 z5), w4, by first | (simp only [bx_uu]; done) | (simp only [bx_uu]; rfl), eG, (fun k hk => by (repeat rw [va_up_ne _ _ (by omega)]); first | exact kp3 k (by omega) | exact (kp2 k (by omega)).trans (by (repeat rw [va_up_ne _ _ (by omega)]); exact kp3 k (by omega)) | exact (kp2 k (by omega) (by omega)).trans (by (repeat rw [va_up_ne _ _ (by omega)]); exact kp3 k (by omega)))⟩)
                  | (have hq2 : tkK t le e = 2 := hK
                     have eG : RS t le e (va_up (va_up (va_up (va_up (va_up (va_up g3 15 z0) 17 z1) 18 z2) 13 z3) 14 z4) 16 z5) 0 := ⟨hee, by show (g3 12) = (le : Int); omega, by show z3 = (tkE t le e : Int); omega, by show z4 = sortI t le e; omega, by show z0 = (tkS t le e : Int); omega, by show z5 = (tkE t le e : Int) - (tkS t le e : Int); omega, (fun _ => hw4), by show z2 = bt t le (tkS t le e); omega, fun q => absurd q (by omega)⟩
                     exact ⟨rfl, rfl, (va_up (va_up (va_up (va_up (va_up (va_up g3 15 z0) 17 z1) 18 z2) 13 z3) 14 z4) 16 z5), 0, by first | (simp only [bx_uu]; done) | (simp only [bx_uu]; rfl), eG, (fun k hk => by (repeat rw [va_up_ne _ _ (by omega)]); first | exact kp3 k (by omega) | exact (kp2 k (by omega)).trans (by (repeat rw [va_up_ne _ _ (by omega)]); exact kp3 k (by omega)) | exact (kp2 k (by omega) (by omega)).trans (by (repeat rw [va_up_ne _ _ (by omega)]); exact kp3 k (by omega)))⟩)
                  | (have eG : RS t le e (va_up (va_up (va_up (va_up (va_up (va_up g3 15 z0) 17 z1) 18 z2) 13 z3) 14 z4) 16 z5) 0 := ⟨hee, by show (g3 12) = (le : Int); omega, by show z3 = (tkE t le e : Int); omega, by show z4 = sortI t le e; omega, by show z0 = (tkS t le e : Int); omega, by show z5 = (tkE t le e : Int) - (tkS t le e : Int); omega, fun q => absurd q (by omega), by show z2 = bt t le (tkS t le e); omega, fun q => absurd q (by omega)⟩
                     exact ⟨rfl, rfl, (va_up (va_up (va_up (va_up (va_up (va_up g3 15 z0) 17 z1) 18 z2) 13 z3) 14 z4) 16 z5), 0, by first | (simp only [bx_uu]; done) | (simp only [bx_uu]; rfl), eG, (fun k hk => by (repeat rw [va_up_ne _ _ (by omega)]); first | exact kp3 k (by omega) | exact (kp2 k (by omega)).trans (by (repeat rw [va_up_ne _ _ (by omega)]); exact kp3 k (by omega)) | exact (kp2 k (by omega) (by omega)).trans (by (repeat rw [va_up_ne _ _ (by omega)]); exact kp3 k (by omega)))⟩)
              · refine r_iload_n dX9_steps_293 rfl rfl ?_
                refine r_bipush dX9_steps_294 rfl ?_
                refine r_icmp_ne (tgt := 303) dX9_steps_296 (by decide) ⟨by omega, by omega⟩ ⟨by omega, by omega⟩ (fun g296 => ?_) (fun g296 => ?_)
                · rw [if_neg (by rw [decide_eq_true_eq]; omega)] at hsI
                  refine r_iconst dX9_steps_303 ?_
                  refine r_putR dX9_steps_304 fp_X9_135 (by decide) rfl (nar_int _) (Nat.le_of_ble_eq_true rfl) setR_14 (fun z4 hz4 => ?_)
                  refine r_aload_n dX9_steps_307 rfl rfl ?_
                  refine r_aload_n dX9_steps_308 rfl rfl ?_
                  refine r_getR (z := z3) dX9_steps_309 fl_X9_115 (by decide) rfl rfl ?_
                  refine r_aload_n dX9_steps_312 rfl rfl ?_
                  refine r_getR (z := z0) dX9_steps_313 fl_X9_122 (by decide) rfl rfl ?_
                  refine r_isub dX9_steps_316 ?_
                  refine r_putR dX9_steps_317 fp_X9_145 (by decide) rfl (nar_int _) (Nat.le_of_ble_eq_true rfl) setR_16 (fun z5 hz5 => ?_)
                  refine r_vret dX9_steps_320 ?_
                  first
                    | (have hq1 : tkK t le e = 1 := hK
                       have eG : RS t le e (va_up (va_up (va_up (va_up (va_up (va_up g3 15 z0) 17 z1) 18 z2) 13 z3) 14 z4) 16 z5) w4 := ⟨hee, by show (g3 12) = (le : Int); omega, by show z3 = (tkE t le e : Int); omega, by show z4 = sortI t le e; omega, by show z0 = (tkS t le e : Int); omega, by show z5 = (tkE t le e : Int) - (tkS t le e : Int); omega, fun q => absurd q (by omega), by show z2 = bt t le (tkS t le e); omega, (fun _ => ⟨hw4, hall⟩)⟩
                       exact ⟨rfl, rfl, (va_up (va_up (va_up (va_up (va_up (va_up g3 15 z0) 17 z1) 18 z2) 13 z3) 14 z4) 16 z5), w4, by first | (simp only [bx_uu]; done) | (simp only [bx_uu]; rfl), eG, (fun k hk => by (repeat rw [va_up_ne _ _ (by omega)]); first | exact kp3 k (by omega) | exact (kp2 k (by omega)).trans (by (repeat rw [va_up_ne _ _ (by omega)]); exact kp3 k (by omega)) | exact (kp2 k (by omega) (by omega)).trans (by (repeat rw [va_up_ne _ _ (by omega)]); exact kp3 k (by omega)))⟩)
                    | (have hq2 : tkK t le e = 2 := hK
                       have eG : RS t le e (va_up (va_up (va_up (va_up (va_up (va_up g3 15 z0) 17 z1) 18 z2) 13 z3) 14 z4) 16 z5) 0 := ⟨hee, by show (g3 12) = (le : Int); omega, by show z3 = (tkE t le e : Int); omega, by show z4 = sortI t le e; omega, by show z0 = (tkS t le e : Int); omega, by show z5 = (tkE t le e : Int) - (tkS t le e : Int); omega, (fun _ => hw4), by show z2 = bt t le (tkS t le e); omega, fun q => absurd q (by omega)⟩
                       exact ⟨rfl, rfl, (va_up (va_up (va_up (va_up (va_up (va_up g3 15 z0) 17 z1) 18 z2) 13 z3) 14 z4) 16 z5), 0, by first | (simp only [bx_uu]; done) | (simp only [bx_uu]; rfl), eG, (fun k hk => by (repeat rw [va_up_ne _ _ (by omega)]); first | exact kp3 k (by omega) | exact (kp2 k (by omega)).trans (by (repeat rw [va_up_ne _ _ (by omega)]); exact kp3 k (by omega)) | exact (kp2 k (by omega) (by omega)).trans (by (repeat rw [va_up_ne _ _ (by omega)]); exact kp3 k (by omega)))⟩)
                    | (have eG : RS t le e (va_up (va_up (va_up (va_up (va_up (va_up g3 15 z0) 17 z1) 18 z2) 13 z3) 14 z4) 16 z5) 0 := ⟨hee, by show (g3 12) = (le : Int); omega, by show z3 = (tkE t le e : Int); omega, by show z4 = sortI t le e; omega, by show z0 = (tkS t le e : Int); omega, by show z5 = (tkE t le e : Int) - (tkS t le e : Int); omega, fun q => absurd q (by omega), by show z2 = bt t le (tkS t le e); omega, fun q => absurd q (by omega)⟩
                       exact ⟨rfl, rfl, (va_up (va_up (va_up (va_up (va_up (va_up g3 15 z0) 17 z1) 18 z2) 13 z3) 14 z4) 16 z5), 0, by first | (simp only [bx_uu]; done) | (simp only [bx_uu]; rfl), eG, (fun k hk => by (repeat rw [va_up_ne _ _ (by omega)]); first | exact kp3 k (by omega) | exact (kp2 k (by omega)).trans (by (repeat rw [va_up_ne _ _ (by omega)]); exact kp3 k (by omega)) | exact (kp2 k (by omega) (by omega)).trans (by (repeat rw [va_up_ne _ _ (by omega)]); exact kp3 k (by omega)))⟩)
                · rw [if_pos (by rw [decide_eq_true_eq]; omega)] at hsI
                  refine r_iconst dX9_steps_299 ?_
                  refine r_goto (tgt := 304) dX9_steps_300 (by decide) ?_
                  refine r_putR dX9_steps_304 fp_X9_135 (by decide) rfl (nar_int _) (Nat.le_of_ble_eq_true rfl) setR_14 (fun z4 hz4 => ?_)
                  refine r_aload_n dX9_steps_307 rfl rfl ?_
                  refine r_aload_n dX9_steps_308 rfl rfl ?_
                  refine r_getR (z := z3) dX9_steps_309 fl_X9_115 (by decide) rfl rfl ?_
                  refine r_aload_n dX9_steps_312 rfl rfl ?_
                  refine r_getR (z := z0) dX9_steps_313 fl_X9_122 (by decide) rfl rfl ?_
                  refine r_isub dX9_steps_316 ?_
                  refine r_putR dX9_steps_317 fp_X9_145 (by decide) rfl (nar_int _) (Nat.le_of_ble_eq_true rfl) setR_16 (fun z5 hz5 => ?_)
                  refine r_vret dX9_steps_320 ?_
                  first
                    | (have hq1 : tkK t le e = 1 := hK
                       have eG : RS t le e (va_up (va_up (va_up (va_up (va_up (va_up g3 15 z0) 17 z1) 18 z2) 13 z3) 14 z4) 16 z5) w4 := ⟨hee, by show (g3 12) = (le : Int); omega, by show z3 = (tkE t le e : Int); omega, by show z4 = sortI t le e; omega, by show z0 = (tkS t le e : Int); omega, by show z5 = (tkE t le e : Int) - (tkS t le e : Int); omega, fun q => absurd q (by omega), by show z2 = bt t le (tkS t le e); omega, (fun _ => ⟨hw4, hall⟩)⟩
                       exact ⟨rfl, rfl, (va_up (va_up (va_up (va_up (va_up (va_up g3 15 z0) 17 z1) 18 z2) 13 z3) 14 z4) 16 z5), w4, by first | (simp only [bx_uu]; done) | (simp only [bx_uu]; rfl), eG, (fun k hk => by (repeat rw [va_up_ne _ _ (by omega)]); first | exact kp3 k (by omega) | exact (kp2 k (by omega)).trans (by (repeat rw [va_up_ne _ _ (by omega)]); exact kp3 k (by omega)) | exact (kp2 k (by omega) (by omega)).trans (by (repeat rw [va_up_ne _ _ (by omega)]); exact kp3 k (by omega)))⟩)
                    | (have hq2 : tkK t le e = 2 := hK
                       have eG : RS t le e (va_up (va_up (va_up (va_up (va_up (va_up g3 15 z0) 17 z1) 18 z2) 13 z3) 14 z4) 16 z5) 0 := ⟨hee, by show (g3 12) = (le : Int); omega, by show z3 = (tkE t le e : Int); omega, by show z4 = sortI t le e; omega, by show z0 = (tkS t le e : Int); omega, by show z5 = (tkE t le e : Int) - (tkS t le e : Int); omega, (fun _ => hw4), by show z2 = bt t le (tkS t le e); omega, fun q => absurd q (by omega)⟩
                       exact ⟨rfl, rfl, (va_up (va_up (va_up (va_up (va_up (va_up g3 15 z0) 17 z1) 18 z2) 13 z3) 14 z4) 16 z5), 0, by first | (simp only [bx_uu]; done) | (simp only [bx_uu]; rfl), eG, (fun k hk => by (repeat rw [va_up_ne _ _ (by omega)]); first | exact kp3 k (by omega) | exact (kp2 k (by omega)).trans (by (repeat rw [va_up_ne _ _ (by omega)]); exact kp3 k (by omega)) | exact (kp2 k (by omega) (by omega)).trans (by (repeat rw [va_up_ne _ _ (by omega)]); exact kp3 k (by omega)))⟩)
                    | (have eG : RS t le e (va_up (va_up (va_up (va_up (va_up (va_up g3 15 z0) 17 z1) 18 z2) 13 z3) 14 z4) 16 z5) 0 := ⟨hee, by show (g3 12) = (le : Int); omega, by show z3 = (tkE t le e : Int); omega, by show z4 = sortI t le e; omega, by show z0 = (tkS t le e : Int); omega, by show z5 = (tkE t le e : Int) - (tkS t le e : Int); omega, fun q => absurd q (by omega), by show z2 = bt t le (tkS t le e); omega, fun q => absurd q (by omega)⟩
                       exact ⟨rfl, rfl, (va_up (va_up (va_up (va_up (va_up (va_up g3 15 z0) 17 z1) 18 z2) 13 z3) 14 z4) 16 z5), 0, by first | (simp only [bx_uu]; done) | (simp only [bx_uu]; rfl), eG, (fun k hk => by (repeat rw [va_up_ne _ _ (by omega)]); first | exact kp3 k (by omega) | exact (kp2 k (by omega)).trans (by (repeat rw [va_up_ne _ _ (by omega)]); exact kp3 k (by omega)) | exact (kp2 k (by omega) (by omega)).trans (by (repeat rw [va_up_ne _ _ (by omega)]); exact kp3 k (by omega)))⟩)
      · rw [b2i_0, Bool.not_eq_false] at g184
        rw [if_pos g184] at hK hE
        rw [if_neg (by omega)] at hsI
        simp only [bx_uu]
        refine l_X9_st3 c72 ht hle htt (by decide) (g := (va_up (va_up (va_up g3 15 z0) 17 z1) 18 z2)) (by show (g3 12) = (le : Int); omega) (p := tkS t le e) (by show z0 = (tkS t le e : Int); omega) (le - tkS t le e) (tkS t le e) (va_up (va_up (va_up g3 15 z0) 17 z1) 18 z2) (by omega) (Nat.le_refl _) (by show (g3 13) = (tkS t le e : Int); omega) (fun _ _ _ => rfl) (by rw [Nat.sub_self]; show z1 = (0 : Int); omega) (fun g4 r13 kp2 hw4 => ?_)
        rw [← hE] at r13 hw4
        have r12 : g4 12 = (le : Int) := (kp2 12 (by decide) (by decide)).trans (by show (g3 12) = (le : Int); omega)
        have r15 : g4 15 = (tkS t le e : Int) := (kp2 15 (by decide) (by decide)).trans (by show z0 = (tkS t le e : Int); omega)
        have r18 : g4 18 = bt t le (tkS t le e) := (kp2 18 (by decide) (by decide)).trans (by show z2 = bt t le (tkS t le e); omega)
        refine r_aload_n dX9_steps_250 rfl rfl ?_
        refine r_iconst dX9_steps_251 ?_
        refine r_putR dX9_steps_252 fp_X9_135 (by decide) rfl (nar_int _) (Nat.le_of_ble_eq_true rfl) setR_14 (fun z3 hz3 => ?_)
        refine r_goto (tgt := 307) dX9_steps_255 (by decide) ?_
        refine r_aload_n dX9_steps_307 rfl rfl ?_
        refine r_aload_n dX9_steps_308 rfl rfl ?_
        refine r_getR (z := (g4 13)) dX9_steps_309 fl_X9_115 (by decide) rfl rfl ?_
        refine r_aload_n dX9_steps_312 rfl rfl ?_
        refine r_getR (z := (g4 15)) dX9_steps_313 fl_X9_122 (by decide) rfl rfl ?_
        refine r_isub dX9_steps_316 ?_
        refine r_putR dX9_steps_317 fp_X9_145 (by decide) rfl (nar_int _) (Nat.le_of_ble_eq_true rfl) setR_16 (fun z4 hz4 => ?_)
        refine r_vret dX9_steps_320 ?_
        first
          | (have hq1 : tkK t le e = 1 := hK
             have eG : RS t le e (va_up (va_up g4 14 z3) 16 z4) w4 := ⟨hee, by show (g4 12) = (le : Int); omega, by show (g4 13) = (tkE t le e : Int); omega, by show z3 = sortI t le e; omega, by show (g4 15) = (tkS t le e : Int); omega, by show z4 = (tkE t le e : Int) - (tkS t le e : Int); omega, fun q => absurd q (by omega), by show (g4 18) = bt t le (tkS t le e); omega, (fun _ => ⟨hw4, hall⟩)⟩
             exact ⟨rfl, rfl, (va_up (va_up g4 14 z3) 16 z4), w4, by first | (simp only [bx_uu]; done) | (simp only [bx_uu]; rfl), eG, (fun k hk => by (repeat rw [va_up_ne _ _ (by omega)]); first | exact kp3 k (by omega) | exact (kp2 k (by omega)).trans (by (repeat rw [va_up_ne _ _ (by omega)]); exact kp3 k (by omega)) | exact (kp2 k (by omega) (by omega)).trans (by (repeat rw [va_up_ne _ _ (by omega)]); exact kp3 k (by omega)))⟩)
          | (have hq2 : tkK t le e = 2 := hK
             have eG : RS t le e (va_up (va_up g4 14 z3) 16 z4) 0 := ⟨hee, by show (g4 12) = (le : Int); omega, by show (g4 13) = (tkE t le e : Int); omega, by show z3 = sortI t le e; omega, by show (g4 15) = (tkS t le e : Int); omega, by show z4 = (tkE t le e : Int) - (tkS t le e : Int); omega, (fun _ => hw4), by show (g4 18) = bt t le (tkS t le e); omega, fun q => absurd q (by omega)⟩
             exact ⟨rfl, rfl, (va_up (va_up g4 14 z3) 16 z4), 0, by first | (simp only [bx_uu]; done) | (simp only [bx_uu]; rfl), eG, (fun k hk => by (repeat rw [va_up_ne _ _ (by omega)]); first | exact kp3 k (by omega) | exact (kp2 k (by omega)).trans (by (repeat rw [va_up_ne _ _ (by omega)]); exact kp3 k (by omega)) | exact (kp2 k (by omega) (by omega)).trans (by (repeat rw [va_up_ne _ _ (by omega)]); exact kp3 k (by omega)))⟩)
          | (have eG : RS t le e (va_up (va_up g4 14 z3) 16 z4) 0 := ⟨hee, by show (g4 12) = (le : Int); omega, by show (g4 13) = (tkE t le e : Int); omega, by show z3 = sortI t le e; omega, by show (g4 15) = (tkS t le e : Int); omega, by show z4 = (tkE t le e : Int) - (tkS t le e : Int); omega, fun q => absurd q (by omega), by show (g4 18) = bt t le (tkS t le e); omega, fun q => absurd q (by omega)⟩
             exact ⟨rfl, rfl, (va_up (va_up g4 14 z3) 16 z4), 0, by first | (simp only [bx_uu]; done) | (simp only [bx_uu]; rfl), eG, (fun k hk => by (repeat rw [va_up_ne _ _ (by omega)]); first | exact kp3 k (by omega) | exact (kp2 k (by omega)).trans (by (repeat rw [va_up_ne _ _ (by omega)]); exact kp3 k (by omega)) | exact (kp2 k (by omega) (by omega)).trans (by (repeat rw [va_up_ne _ _ (by omega)]); exact kp3 k (by omega)))⟩)
    · rw [b2i_0, Bool.not_eq_false] at g105
      rw [if_pos g105] at hK hE
      rw [if_neg (by omega)] at hsI
      simp only [bx_uu]
      refine l_X9_st2 c72 ht hle htt (by decide) (g := (va_up (va_up (va_up g3 15 z0) 17 z1) 18 z2)) (by show (g3 12) = (le : Int); omega) (p := tkS t le e) (by show z0 = (tkS t le e : Int); omega) (le - tkS t le e) (tkS t le e) (va_up (va_up (va_up g3 15 z0) 17 z1) 18 z2) 0 (by omega) (Nat.le_refl _) (by show (g3 13) = (tkS t le e : Int); omega) (fun _ _ => rfl) (fun j hj => absurd hj (by omega)) (by rw [Nat.sub_self]; rfl) (fun g4 w4 r13 kp2 hw4 => ?_)
      rw [← hE] at r13 hw4
      have hall : ∀ j, j < tkE t le e - tkS t le e → 97 ≤ t (tkS t le e + j) ∧ t (tkS t le e + j) ≤ 122 := fun j hj => by
        have q := skp_all isLt t (le - tkS t le e) (tkS t le e) (tkS t le e + j) (by omega) (by omega)
        unfold isLt at q
        simpa using q
      have r12 : g4 12 = (le : Int) := (kp2 12 (by decide)).trans (by show (g3 12) = (le : Int); omega)
      have r15 : g4 15 = (tkS t le e : Int) := (kp2 15 (by decide)).trans (by show z0 = (tkS t le e : Int); omega)
      have r18 : g4 18 = bt t le (tkS t le e) := (kp2 18 (by decide)).trans (by show z2 = bt t le (tkS t le e); omega)
      refine r_aload_n dX9_steps_172 rfl rfl ?_
      refine r_iconst dX9_steps_173 ?_
      refine r_putR dX9_steps_174 fp_X9_135 (by decide) rfl (nar_int _) (Nat.le_of_ble_eq_true rfl) setR_14 (fun z3 hz3 => ?_)
      refine r_goto (tgt := 307) dX9_steps_177 (by decide) ?_
      refine r_aload_n dX9_steps_307 rfl rfl ?_
      refine r_aload_n dX9_steps_308 rfl rfl ?_
      refine r_getR (z := (g4 13)) dX9_steps_309 fl_X9_115 (by decide) rfl rfl ?_
      refine r_aload_n dX9_steps_312 rfl rfl ?_
      refine r_getR (z := (g4 15)) dX9_steps_313 fl_X9_122 (by decide) rfl rfl ?_
      refine r_isub dX9_steps_316 ?_
      refine r_putR dX9_steps_317 fp_X9_145 (by decide) rfl (nar_int _) (Nat.le_of_ble_eq_true rfl) setR_16 (fun z4 hz4 => ?_)
      refine r_vret dX9_steps_320 ?_
      first
        | (have hq1 : tkK t le e = 1 := hK
           have eG : RS t le e (va_up (va_up g4 14 z3) 16 z4) w4 := ⟨hee, by show (g4 12) = (le : Int); omega, by show (g4 13) = (tkE t le e : Int); omega, by show z3 = sortI t le e; omega, by show (g4 15) = (tkS t le e : Int); omega, by show z4 = (tkE t le e : Int) - (tkS t le e : Int); omega, fun q => absurd q (by omega), by show (g4 18) = bt t le (tkS t le e); omega, (fun _ => ⟨hw4, hall⟩)⟩
           exact ⟨rfl, rfl, (va_up (va_up g4 14 z3) 16 z4), w4, by first | (simp only [bx_uu]; done) | (simp only [bx_uu]; rfl), eG, (fun k hk => by (repeat rw [va_up_ne _ _ (by omega)]); first | exact kp3 k (by omega) | exact (kp2 k (by omega)).trans (by (repeat rw [va_up_ne _ _ (by omega)]); exact kp3 k (by omega)) | exact (kp2 k (by omega) (by omega)).trans (by (repeat rw [va_up_ne _ _ (by omega)]); exact kp3 k (by omega)))⟩)
        | (have hq2 : tkK t le e = 2 := hK
           have eG : RS t le e (va_up (va_up g4 14 z3) 16 z4) 0 := ⟨hee, by show (g4 12) = (le : Int); omega, by show (g4 13) = (tkE t le e : Int); omega, by show z3 = sortI t le e; omega, by show (g4 15) = (tkS t le e : Int); omega, by show z4 = (tkE t le e : Int) - (tkS t le e : Int); omega, (fun _ => hw4), by show (g4 18) = bt t le (tkS t le e); omega, fun q => absurd q (by omega)⟩
           exact ⟨rfl, rfl, (va_up (va_up g4 14 z3) 16 z4), 0, by first | (simp only [bx_uu]; done) | (simp only [bx_uu]; rfl), eG, (fun k hk => by (repeat rw [va_up_ne _ _ (by omega)]); first | exact kp3 k (by omega) | exact (kp2 k (by omega)).trans (by (repeat rw [va_up_ne _ _ (by omega)]); exact kp3 k (by omega)) | exact (kp2 k (by omega) (by omega)).trans (by (repeat rw [va_up_ne _ _ (by omega)]); exact kp3 k (by omega)))⟩)
        | (have eG : RS t le e (va_up (va_up g4 14 z3) 16 z4) 0 := ⟨hee, by show (g4 12) = (le : Int); omega, by show (g4 13) = (tkE t le e : Int); omega, by show z3 = sortI t le e; omega, by show (g4 15) = (tkS t le e : Int); omega, by show z4 = (tkE t le e : Int) - (tkS t le e : Int); omega, fun q => absurd q (by omega), by show (g4 18) = bt t le (tkS t le e); omega, fun q => absurd q (by omega)⟩
           exact ⟨rfl, rfl, (va_up (va_up g4 14 z3) 16 z4), 0, by first | (simp only [bx_uu]; done) | (simp only [bx_uu]; rfl), eG, (fun k hk => by (repeat rw [va_up_ne _ _ (by omega)]); first | exact kp3 k (by omega) | exact (kp2 k (by omega)).trans (by (repeat rw [va_up_ne _ _ (by omega)]); exact kp3 k (by omega)) | exact (kp2 k (by omega) (by omega)).trans (by (repeat rw [va_up_ne _ _ (by omega)]); exact kp3 k (by omega)))⟩)
  · rw [if_pos (by omega)] at hK hE
    rw [if_neg (by omega)] at hsI
    have b1 := bt_ge (t := t) (le := le) (k := tkS t le e) (by omega)
    refine r_aload_n dX9_steps_93 rfl rfl ?_
    refine r_iconst dX9_steps_94 ?_
    refine r_putR dX9_steps_95 fp_X9_135 (by decide) rfl (nar_int _) (Nat.le_of_ble_eq_true rfl) setR_14 (fun z3 hz3 => ?_)
    refine r_goto (tgt := 307) dX9_steps_98 (by decide) ?_
    refine r_aload_n dX9_steps_307 rfl rfl ?_
    refine r_aload_n dX9_steps_308 rfl rfl ?_
    refine r_getR (z := (g3 13)) dX9_steps_309 fl_X9_115 (by decide) rfl rfl ?_
    refine r_aload_n dX9_steps_312 rfl rfl ?_
    refine r_getR (z := z0) dX9_steps_313 fl_X9_122 (by decide) rfl rfl ?_
    refine r_isub dX9_steps_316 ?_
    refine r_putR dX9_steps_317 fp_X9_145 (by decide) rfl (nar_int _) (Nat.le_of_ble_eq_true rfl) setR_16 (fun z4 hz4 => ?_)
    refine r_vret dX9_steps_320 ?_
    first
      | (have hq1 : tkK t le e = 1 := hK
         have eG : RS t le e (va_up (va_up (va_up (va_up (va_up g3 15 z0) 17 z1) 18 z2) 14 z3) 16 z4) w4 := ⟨hee, by show (g3 12) = (le : Int); omega, by show (g3 13) = (tkE t le e : Int); omega, by show z3 = sortI t le e; omega, by show z0 = (tkS t le e : Int); omega, by show z4 = (tkE t le e : Int) - (tkS t le e : Int); omega, fun q => absurd q (by omega), by show z2 = bt t le (tkS t le e); omega, (fun _ => ⟨hw4, hall⟩)⟩
         exact ⟨rfl, rfl, (va_up (va_up (va_up (va_up (va_up g3 15 z0) 17 z1) 18 z2) 14 z3) 16 z4), w4, by first | (simp only [bx_uu]; done) | (simp only [bx_uu]; rfl), eG, (fun k hk => by (repeat rw [va_up_ne _ _ (by omega)]); first | exact kp3 k (by omega) | exact (kp2 k (by omega)).trans (by (repeat rw [va_up_ne _ _ (by omega)]); exact kp3 k (by omega)) | exact (kp2 k (by omega) (by omega)).trans (by (repeat rw [va_up_ne _ _ (by omega)]); exact kp3 k (by omega)))⟩)
      | (have hq2 : tkK t le e = 2 := hK
         have eG : RS t le e (va_up (va_up (va_up (va_up (va_up g3 15 z0) 17 z1) 18 z2) 14 z3) 16 z4) 0 := ⟨hee, by show (g3 12) = (le : Int); omega, by show (g3 13) = (tkE t le e : Int); omega, by show z3 = sortI t le e; omega, by show z0 = (tkS t le e : Int); omega, by show z4 = (tkE t le e : Int) - (tkS t le e : Int); omega, (fun _ => hw4), by show z2 = bt t le (tkS t le e); omega, fun q => absurd q (by omega)⟩
         exact ⟨rfl, rfl, (va_up (va_up (va_up (va_up (va_up g3 15 z0) 17 z1) 18 z2) 14 z3) 16 z4), 0, by first | (simp only [bx_uu]; done) | (simp only [bx_uu]; rfl), eG, (fun k hk => by (repeat rw [va_up_ne _ _ (by omega)]); first | exact kp3 k (by omega) | exact (kp2 k (by omega)).trans (by (repeat rw [va_up_ne _ _ (by omega)]); exact kp3 k (by omega)) | exact (kp2 k (by omega) (by omega)).trans (by (repeat rw [va_up_ne _ _ (by omega)]); exact kp3 k (by omega)))⟩)
      | (have eG : RS t le e (va_up (va_up (va_up (va_up (va_up g3 15 z0) 17 z1) 18 z2) 14 z3) 16 z4) 0 := ⟨hee, by show (g3 12) = (le : Int); omega, by show (g3 13) = (tkE t le e : Int); omega, by show z3 = sortI t le e; omega, by show z0 = (tkS t le e : Int); omega, by show z4 = (tkE t le e : Int) - (tkS t le e : Int); omega, fun q => absurd q (by omega), by show z2 = bt t le (tkS t le e); omega, fun q => absurd q (by omega)⟩
         exact ⟨rfl, rfl, (va_up (va_up (va_up (va_up (va_up g3 15 z0) 17 z1) 18 z2) 14 z3) 16 z4), 0, by first | (simp only [bx_uu]; done) | (simp only [bx_uu]; rfl), eG, (fun k hk => by (repeat rw [va_up_ne _ _ (by omega)]); first | exact kp3 k (by omega) | exact (kp2 k (by omega)).trans (by (repeat rw [va_up_ne _ _ (by omega)]); exact kp3 k (by omega)) | exact (kp2 k (by omega) (by omega)).trans (by (repeat rw [va_up_ne _ _ (by omega)]); exact kp3 k (by omega)))⟩)

