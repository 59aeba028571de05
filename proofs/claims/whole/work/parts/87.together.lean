/-! ===== pure: together ===== -/
theorem cnt_snoc (p : Int → Bool) : ∀ (k : Nat) (a : Int), cntR p a (k + 1) = cntR p a k + b2i (p (a + k)) := by
  intro k
  induction k with
  | zero =>
    intro a
    show b2i (p a) + 0 = 0 + b2i (p (a + ((0 : Nat) : Int)))
    rw [show a + ((0 : Nat) : Int) = a by omega]
    omega
  | succ k ih =>
    intro a
    have h := ih (a + 1)
    show b2i (p a) + cntR p (a + 1) (k + 1) = b2i (p a) + cntR p (a + 1) k + _
    rw [h, show a + 1 + (k : Int) = a + ((k + 1 : Nat) : Int) by omega]
    omega
theorem both_cnt (f g : Int → Int) : ∀ (k : Nat) (m a : Int), bothR f g k m a = a + cntR (fun z => decide (¬ (f z = -1 ∨ g z = -1))) m k := by
  intro k
  induction k with
  | zero => intro m a; show a = a + 0; omega
  | succ k ih =>
    intro m a
    unfold bothR cntR
    rw [ih, b2i_d]
    by_cases q : f m = -1 ∨ g m = -1
    · rw [if_pos q, if_neg (fun z => z q)]
      omega
    · rw [if_neg q, if_pos q]
      omega
theorem gSum_u2 (g : Nat → Int) (q p : Nat) : ∀ N, gSum (va_up g p (g p + 1)) q N = gSum g q N + (if p < N ∧ p &&& q = q then 1 else 0) := by
  intro N
  induction N with
  | zero => rw [if_neg (by omega)]; rfl
  | succ N ih =>
    show gSum (va_up g p (g p + 1)) q N + (if N &&& q = q then va_up g p (g p + 1) N else 0) = gSum g q N + (if N &&& q = q then g N else 0) + _
    rw [ih]
    by_cases e : N = p
    · subst e
      rw [if_neg (by omega), va_up_self]
      by_cases z : N &&& q = q
      · rw [if_pos z, if_pos z, if_pos ⟨by omega, z⟩]
        omega
      · rw [if_neg z, if_neg z, if_neg (fun y => z y.2)]
    · rw [va_up_ne _ _ e]
      by_cases z : p < N ∧ p &&& q = q
      · rw [if_pos z, if_pos (show p < N + 1 ∧ p &&& q = q from ⟨by omega, z.2⟩)]
        omega
      · rw [if_neg z, if_neg (show ¬ (p < N + 1 ∧ p &&& q = q) from fun y => z ⟨by omega, y.2⟩)]
        omega
theorem gSum_0 (q : Nat) : ∀ N, gSum (fun _ => 0) q N = 0 := by
  intro N
  induction N with
  | zero => rfl
  | succ N ih =>
    show gSum (fun _ => 0) q N + (if N &&& q = q then 0 else 0) = 0
    rw [ih]
    split <;> rfl
theorem lb_bit (lit : Nat → Bool) (j : Nat) : ∀ k, (lbI lit k).testBit j = (decide (j < k) && lit j) := by
  intro k
  induction k with
  | zero => exact Nat.zero_testBit j
  | succ k ih =>
    unfold lbI
    by_cases q : lit k = true
    · rw [if_pos q, Nat.testBit_or, ih, Nat.testBit_two_pow]
      by_cases e : k = j
      · subst e
        rw [q, decide_eq_true rfl, decide_eq_true (Nat.lt_succ_self k)]
        simp
      · rw [decide_eq_false e, Bool.or_false]
        congr 1
        exact decide_eq_decide.mpr (by omega)
    · rw [if_neg q, ih]
      by_cases e : j = k
      · subst e
        rw [Bool.eq_false_iff.mpr q]
        simp
      · congr 1
        exact decide_eq_decide.mpr (by omega)
theorem lb_lt9 (lit : Nat → Bool) : ∀ k, k ≤ 9 → lbI lit k < 2 ^ 9 := by
  intro k
  induction k with
  | zero => intro _; exact Nat.two_pow_pos 9
  | succ k ih =>
    intro hk
    unfold lbI
    split
    · exact Nat.or_lt_two_pow (ih (by omega)) (Nat.pow_lt_pow_right (by decide) (by omega))
    · exact ih (by omega)
theorem pair_bit (b x y : Nat) : b &&& (2 ^ x ||| 2 ^ y) = 2 ^ x ||| 2 ^ y ↔ b.testBit x = true ∧ b.testBit y = true := by
  constructor
  · intro h
    constructor
    · have h1 : (b &&& (2 ^ x ||| 2 ^ y)).testBit x = (2 ^ x ||| 2 ^ y).testBit x := by rw [h]
      rw [Nat.testBit_and, Nat.testBit_or, Nat.testBit_two_pow_self, Bool.true_or, Bool.and_true] at h1
      exact h1
    · have h1 : (b &&& (2 ^ x ||| 2 ^ y)).testBit y = (2 ^ x ||| 2 ^ y).testBit y := by rw [h]
      rw [Nat.testBit_and, Nat.testBit_or, Nat.testBit_two_pow_self, Bool.or_true, Bool.and_true] at h1
      exact h1
  · rintro ⟨h1, h2⟩
    apply Nat.eq_of_testBit_eq
    intro i
    rw [Nat.testBit_and, Nat.testBit_or, Nat.testBit_two_pow, Nat.testBit_two_pow]
    by_cases e1 : x = i
    · subst e1
      rw [h1, decide_eq_true rfl]
      rfl
    · by_cases e2 : y = i
      · subst e2
        rw [h2, decide_eq_true rfl, Bool.or_true]
        rfl
      · rw [decide_eq_false e1, decide_eq_false e2]
        simp
theorem gr_both {n : Nat} (hn : n ≤ 9) (now : Nat → Int → Int) {x y : Nat} (hx : x < n) (hy : y < n) : ∀ k : Nat, gSum (grS (fun q => lbI (fun j => decide (now j (q : Nat) ≠ -1)) n) k) (2 ^ x ||| 2 ^ y) 512 = cntR (fun z => decide (¬ (now x z = -1 ∨ now y z = -1))) 0 k := by
  intro k
  induction k with
  | zero => exact gSum_0 _ 512
  | succ k ih =>
    rw [cnt_snoc, ← ih]
    show gSum (va_up (grS _ k) (lbI (fun j => decide (now j (k : Nat) ≠ -1)) n) (grS _ k (lbI (fun j => decide (now j (k : Nat) ≠ -1)) n) + 1)) _ 512 = _
    rw [gSum_u2, b2i_d, show (0 : Int) + (k : Int) = (k : Int) by omega]
    have hl := lb_lt9 (fun j => decide (now j (k : Nat) ≠ -1)) n hn
    have e1 : (lbI (fun j => decide (now j (k : Nat) ≠ -1)) n < 512 ∧ lbI (fun j => decide (now j (k : Nat) ≠ -1)) n &&& (2 ^ x ||| 2 ^ y) = 2 ^ x ||| 2 ^ y) ↔ ¬ (now x (k : Nat) = -1 ∨ now y (k : Nat) = -1) := by
      rw [pair_bit, lb_bit, lb_bit, decide_eq_true hx, decide_eq_true hy, Bool.true_and, Bool.true_and, decide_eq_true_eq, decide_eq_true_eq]
      constructor
      · rintro ⟨_, h1, h2⟩ (h3 | h3)
        · exact h1 h3
        · exact h2 h3
      · intro h
        exact ⟨hl, fun z => h (Or.inl z), fun z => h (Or.inr z)⟩
    by_cases z : ¬ (now x (k : Nat) = -1 ∨ now y (k : Nat) = -1)
    · rw [if_pos z, if_pos (e1.mpr z)]
    · rw [if_neg z, if_neg (fun w => z (e1.mp w))]
theorem tgI_congr {b1 b2 : Nat → Nat → Int} {n i : Nat} (h : ∀ x y, x < n → y < n → b1 x y = b2 x y) (hi : i < n) : ∀ (k j : Nat) (s : Int × Int), j + k ≤ n → tgI b1 i k j s = tgI b2 i k j s := by
  intro k
  induction k with
  | zero => intro j s _; rfl
  | succ k ih =>
    intro j s hj
    unfold tgI
    rw [h i j hi (by omega)]
    exact ih _ _ (by omega)
theorem tgO_congr {b1 b2 : Nat → Nat → Int} {n : Nat} (h : ∀ x y, x < n → y < n → b1 x y = b2 x y) : ∀ (k i : Nat) (s : Int × Int), i + k ≤ n → tgO b1 n k i s = tgO b2 n k i s := by
  intro k
  induction k with
  | zero => intro i s _; rfl
  | succ k ih =>
    intro i s hi
    unfold tgO
    rw [tgI_congr h (by omega) _ _ _ (by omega)]
    exact ih _ _ (by omega)
theorem tog_eq {nd sw nc nm : Int} {K U I O G L cf ct cd md my mt : Nat → Int} (hnd : 0 ≤ nd ∧ nd ≤ 9) {day : Int} : tgO (fun x y => gSum (grS (fun q => lbI (fun j => decide (nowI sw nc nm K U I O G L cf ct cd md my mt (j : Nat) day (q : Nat) ≠ -1)) nd.toNat) 1440) (2 ^ x ||| 2 ^ y) 512) nd.toNat nd.toNat 0 (-1, 0) = tgO (fun x y => bothR (fun m => nowI sw nc nm K U I O G L cf ct cd md my mt ((x : Nat) : Int) day m) (fun m => nowI sw nc nm K U I O G L cf ct cd md my mt ((y : Nat) : Int) day m) 1440 0 0) nd.toNat nd.toNat 0 (-1, 0) := by
  refine tgO_congr (fun x y hx hy => ?_) _ _ _ (by omega)
  rw [both_cnt, Int.zero_add]
  exact gr_both (by omega) (fun j z => nowI sw nc nm K U I O G L cf ct cd md my mt (j : Nat) day z) hx hy 1440

