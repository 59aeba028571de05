/-! ===== the reference reads a law: its small methods ===== -/
theorem digF_nn {t : Nat → Int} : ∀ (k j : Nat) (acc : Int), 0 ≤ acc → (∀ x, j ≤ x → x < j + k → 48 ≤ t x) → 0 ≤ digF t k j acc := by
  intro k
  induction k with
  | zero => intro j acc h _; exact h
  | succ k ih =>
    intro j acc h hx
    have h1 := hx j (Nat.le_refl _) (by omega)
    exact ih (j + 1) _ (by omega) (fun x a b => hx x (by omega) (by omega))
theorem num_nn {t : Nat → Int} {le e : Nat} (hK : tkK t le e = 2) : 0 ≤ numAt t le e := by
  unfold numAt
  refine digF_nn _ _ _ (Int.le_refl _) (fun x h1 h2 => ?_)
  have hE : tkE t le e = if le ≤ tkS t le e then tkS t le e else if isLt (t (tkS t le e)) then skp isLt t (le - tkS t le e) (tkS t le e) else if isDg (t (tkS t le e)) then skp isDg t (le - tkS t le e) (tkS t le e) else tkS t le e + 1 := rfl
  unfold tkK at hK
  split at hK
  · exact absurd hK (by decide)
  · next q1 =>
    split at hK
    · exact absurd hK (by decide)
    · next q2 =>
      split at hK
      · next q3 =>
        rw [if_neg q1, if_neg q2, if_pos q3] at hE
        have q := skp_all isDg t (le - tkS t le e) (tkS t le e) x h1 (by omega)
        unfold isDg at q
        have q4 : 48 ≤ t x ∧ t x ≤ 57 := by simpa using q
        exact q4.1
      · exact absurd hK (by decide)
def pOs (t : Nat → Int) (le : Nat) (nd : Int) (w b e : Nat) : (Int × Nat) ⊕ (Nat × Nat) := match pOt t le nd b e with
  | .inl x => .inl x
  | .inr (b2, e2) => pMs t le nd w b2 e2
def pMdi (t : Nat → Int) (le : Nat) (nd : Int) (e : Nat) : (Int × Nat) ⊕ (Nat × Nat) := if signAt t le e 40 = true then pOs t le nd 9 0 (tkE t le e) else .inl (1, tkS t le e)
theorem pMs_s {t : Nat → Int} {le : Nat} {nd : Int} {w b e : Nat} : pMs t le nd (w + 1) b e = if signAt t le e 44 = true then pOs t le nd w b (tkE t le e) else pCl t le b e := by
  show (if signAt t le e 44 = true then _ else _) = _
  unfold pOs
  cases pOt t le nd b (tkE t le e) <;> rfl
theorem pMs_n {t : Nat → Int} {le : Nat} {nd : Int} {w b e : Nat} (h : ¬ signAt t le e 44 = true) : pMs t le nd w b e = pCl t le b e := by
  cases w with
  | zero => rfl
  | succ w => rw [pMs_s, if_neg h]
theorem pMd_i {t : Nat → Int} {le : Nat} {nd : Int} {e : Nat} : pMd t le nd e = (match pMdi t le nd (tkE t le e) with | .inl x => .inl x | .inr (b3, e3) => .inr (fun tf _ => midI (midL tf b3 9), e3)) := by
  unfold pMd pMdi pOs
  split
  · cases pOt t le nd 0 (tkE t le (tkE t le e)) <;> rfl
  · rfl
/-- how many of nine are free -/
def fre (b : Nat) : Nat := ((List.range 9).filter (fun j => !b.testBit j)).length
theorem fre_all : ∀ b : Fin 512, ∀ v : Fin 9, b.val.testBit v.val = false → fre (b.val ||| 2 ^ v.val) + 1 = fre b.val := by decide +kernel
theorem fre_s {b v : Nat} (hb : b < 512) (hv : v < 9) (h : b.testBit v = false) : fre (b ||| 2 ^ v) + 1 = fre b := fre_all ⟨b, hb⟩ ⟨v, hv⟩ h
theorem and_0 (b v : Nat) : b &&& 2 ^ v = 0 ↔ b.testBit v = false := by
  constructor
  · intro h
    have h1 : (b &&& 2 ^ v).testBit v = false := by rw [h]; exact Nat.zero_testBit v
    rw [Nat.testBit_and, Nat.testBit_two_pow_self, Bool.and_true] at h1
    exact h1
  · intro h
    apply Nat.eq_of_testBit_eq
    intro i
    rw [Nat.testBit_and, Nat.testBit_two_pow, Nat.zero_testBit]
    by_cases q : v = i
    · subst q; rw [h]; rfl
    · rw [decide_eq_false q, Bool.and_false]

theorem s_X9_puts {h : aH} {g : Nat → Int} {w : Int} (c68 : h 68 = RG g w) {NC : Nat → Int} (c87 : h 87 = .inl (0, 1500, NC)) {tp : Nat} (e51 : g 51 = (tp : Int)) (htp : tp < 1500) {v : Int} : mSem yX9_puts cX9_puts 2 none 0 0 0 [.ref 68, iv v] 97 h (RetV (va_up (va_up h 87 (.inl (0, 1500, va_up NC tp v))) 68 (RG (va_up g 51 ((tp : Int) + 1)) w))) noX := by
  refine mSem_of (own := RX9) (name := "puts") pn_X9 rfl rfl (Nat.le_of_ble_eq_true rfl) ?_
  refine r_aload_n dX9_puts_0 rfl rfl ?_
  refine r_get (fs := RGL _ _) dX9_puts_1 fl_X9_75 (by decide) c68 rfl ?_
  refine r_aload_n dX9_puts_4 rfl rfl ?_
  refine r_getR (z := (g 51)) dX9_puts_5 fl_X9_323 (by decide) c68 rfl ?_
  refine r_iload_n dX9_puts_8 rfl rfl ?_
  rw [e51]
  refine r_ast dX9_puts_9 (by decide) c87 (by omega) (by omega) (by decide) ?_
  rw [Int.toNat_natCast]
  refine r_aload_n dX9_puts_10 rfl rfl ?_
  refine r_dup dX9_puts_11 rfl ?_
  refine r_getR (z := (g 51)) dX9_puts_12 fl_X9_323 (by decide) c68 rfl ?_
  refine r_iconst dX9_puts_15 ?_
  refine r_iadd dX9_puts_16 ?_
  refine r_putR dX9_puts_17 fp_X9_323 (by decide) c68 (nar_int _) (Nat.le_of_ble_eq_true rfl) setR_51 (fun z0 hz0 => ?_)
  refine r_vret dX9_puts_20 ?_
  rw [e51] at hz0
  subst hz0
  exact ⟨rfl, rfl, rfl⟩

theorem s_X9_isSign {h : aH} {g : Nat → Int} {w : Int} (c68 : h 68 = RG g w) {trr : Nat → Int} (c72 : h 72 = .inl (0, 700, trr)) {t : Nat → Int} (ht : ∀ j, -128 ≤ t j ∧ t j ≤ 127) {le : Nat} (hle : le ≤ 700) (htt : ∀ j, j < le → trr j = t j % 256) {e : Nat} (rs : RS t le e g w) {c : Int} (hc : c = 59 ∨ c = 45 ∨ c = 40 ∨ c = 41 ∨ c = 44) : mSem yX9_isSign cX9_isSign 2 (some .boolean) 0 0 0 [.ref 68, iv c] 97 h (Ret (b2i (signAt t le e c)) h) noX := by
  have hsb := sort_B rs
  have hsg := RS_sg ht rs hc
  refine mSem_of (own := RX9) (name := "isSign") pn_X9 rfl rfl (Nat.le_of_ble_eq_true rfl) ?_
  refine r_aload_n dX9_isSign_0 rfl rfl ?_
  refine r_getR (z := (g 14)) dX9_isSign_1 fl_X9_135 (by decide) c68 rfl ?_
  refine r_iconst dX9_isSign_4 ?_
  refine r_icmp_ne (tgt := 20) dX9_isSign_5 (by decide) ⟨by omega, by omega⟩ ⟨by omega, by omega⟩ (fun g5 => ?_) (fun g5 => ?_)
  · refine r_iconst dX9_isSign_20 ?_
    refine r_zret dX9_isSign_21 (nar_z (by omega)) ?_
    first
      | exact ⟨ivE (by rw [hsg.mp ⟨by omega, by omega⟩]; rfl), rfl, rfl⟩
      | exact ⟨ivE (by rw [Bool.eq_false_iff.mpr (fun q => absurd (hsg.mpr q) (by omega))]; rfl), rfl, rfl⟩
  · refine r_aload_n dX9_isSign_8 rfl rfl ?_
    refine r_getR (z := (g 18)) dX9_isSign_9 fl_X9_132 (by decide) c68 rfl ?_
    refine r_iload_n dX9_isSign_12 rfl rfl ?_
    refine r_icmp_ne (tgt := 20) dX9_isSign_13 (by decide) ⟨by omega, by omega⟩ ⟨by omega, by omega⟩ (fun g13 => ?_) (fun g13 => ?_)
    · refine r_iconst dX9_isSign_20 ?_
      refine r_zret dX9_isSign_21 (nar_z (by omega)) ?_
      first
        | exact ⟨ivE (by rw [hsg.mp ⟨by omega, by omega⟩]; rfl), rfl, rfl⟩
        | exact ⟨ivE (by rw [Bool.eq_false_iff.mpr (fun q => absurd (hsg.mpr q) (by omega))]; rfl), rfl, rfl⟩
    · refine r_iconst dX9_isSign_16 ?_
      refine r_goto (tgt := 21) dX9_isSign_17 (by decide) ?_
      refine r_zret dX9_isSign_21 (nar_z (by omega)) ?_
      first
        | exact ⟨ivE (by rw [hsg.mp ⟨by omega, by omega⟩]; rfl), rfl, rfl⟩
        | exact ⟨ivE (by rw [Bool.eq_false_iff.mpr (fun q => absurd (hsg.mpr q) (by omega))]; rfl), rfl, rfl⟩

theorem s_X9_isSignA {h : aH} {g : Nat → Int} {w : Int} (c68 : h 68 = RG g w) {c : Int} : mSem yX9_isSign cX9_isSign 2 (some .boolean) 0 0 0 [.ref 68, iv c] 97 h (fun v n' h' => (∃ z : Int, (z = 0 ∨ z = 1) ∧ v = some (iv z)) ∧ n' = 97 ∧ h' = h) noX := by
  refine mSem_of (own := RX9) (name := "isSign") pn_X9 rfl rfl (Nat.le_of_ble_eq_true rfl) ?_
  refine r_aload_n dX9_isSign_0 rfl rfl ?_
  refine r_getR (z := (g 14)) dX9_isSign_1 fl_X9_135 (by decide) c68 rfl ?_
  refine r_iconst dX9_isSign_4 ?_
  refine r_icmpA_ne (tgt := 20) dX9_isSign_5 (by decide) ?_ ?_
  · refine r_iconst dX9_isSign_20 ?_
    refine r_zret dX9_isSign_21 (nar_z (by omega)) ?_
    exact ⟨⟨_, by omega, rfl⟩, rfl, rfl⟩
  · refine r_aload_n dX9_isSign_8 rfl rfl ?_
    refine r_getR (z := (g 18)) dX9_isSign_9 fl_X9_132 (by decide) c68 rfl ?_
    refine r_iload_n dX9_isSign_12 rfl rfl ?_
    refine r_icmpA_ne (tgt := 20) dX9_isSign_13 (by decide) ?_ ?_
    · refine r_iconst dX9_isSign_20 ?_
      refine r_zret dX9_isSign_21 (nar_z (by omega)) ?_
      exact ⟨⟨_, by omega, rfl⟩, rfl, rfl⟩
    · refine r_iconst dX9_isSign_16 ?_
      refine r_goto (tgt := 21) dX9_isSign_17 (by decide) ?_
      refine r_zret dX9_isSign_21 (nar_z (by omega)) ?_
      exact ⟨⟨_, by omega, rfl⟩, rfl, rfl⟩

theorem s_X9_opens {h : aH} {g : Nat → Int} {w : Int} (c68 : h 68 = RG g w) {OP SG BS : Nat → Int} (c89 : h 89 = .inl (0, 13, OP)) (c90 : h 90 = .inl (0, 13, SG)) (c91 : h 91 = .inl (0, 13, BS)) {o : Nat} (e52 : g 52 = (o : Int)) (ho : o < 13) {a b : Int} : mSem yX9_opens cX9_opens 3 none 0 0 0 [.ref 68, iv a, iv b] 97 h (RetV (va_up (va_up (va_up (va_up h 89 (.inl (0, 13, va_up OP o a))) 90 (.inl (0, 13, va_up SG o 0))) 91 (.inl (0, 13, va_up BS o b))) 68 (RG (va_up g 52 ((o : Int) + 1)) w))) noX := by
  refine mSem_of (own := RX9) (name := "opens") pn_X9 rfl rfl (Nat.le_of_ble_eq_true rfl) ?_
  refine r_aload_n dX9_opens_0 rfl rfl ?_
  refine r_get (fs := RGL _ _) dX9_opens_1 fl_X9_81 (by decide) c68 rfl ?_
  refine r_aload_n dX9_opens_4 rfl rfl ?_
  refine r_getR (z := (g 52)) dX9_opens_5 fl_X9_326 (by decide) c68 rfl ?_
  rw [e52]
  refine r_iload_n dX9_opens_8 rfl rfl ?_
  refine r_ast dX9_opens_9 (by decide) c89 (by omega) (by omega) (by decide) ?_
  refine r_aload_n dX9_opens_10 rfl rfl ?_
  refine r_get (fs := RGL _ _) dX9_opens_11 fl_X9_84 (by decide) c68 rfl ?_
  refine r_aload_n dX9_opens_14 rfl rfl ?_
  refine r_getR (z := (g 52)) dX9_opens_15 fl_X9_326 (by decide) c68 rfl ?_
  rw [e52]
  refine r_iconst dX9_opens_18 ?_
  refine r_ast dX9_opens_19 (by decide) c90 (by omega) (by omega) (by decide) ?_
  refine r_aload_n dX9_opens_20 rfl rfl ?_
  refine r_get (fs := RGL _ _) dX9_opens_21 fl_X9_87 (by decide) c68 rfl ?_
  refine r_aload_n dX9_opens_24 rfl rfl ?_
  refine r_getR (z := (g 52)) dX9_opens_25 fl_X9_326 (by decide) c68 rfl ?_
  rw [e52]
  refine r_iload_n dX9_opens_28 rfl rfl ?_
  refine r_ast dX9_opens_29 (by decide) c91 (by omega) (by omega) (by decide) ?_
  refine r_aload_n dX9_opens_30 rfl rfl ?_
  refine r_dup dX9_opens_31 rfl ?_
  refine r_getR (z := (g 52)) dX9_opens_32 fl_X9_326 (by decide) c68 rfl ?_
  refine r_iconst dX9_opens_35 ?_
  refine r_iadd dX9_opens_36 ?_
  refine r_putR dX9_opens_37 fp_X9_326 (by decide) c68 (nar_int _) (Nat.le_of_ble_eq_true rfl) setR_52 (fun z0 hz0 => ?_)
  refine r_vret dX9_opens_40 ?_
  rw [e52] at hz0
  subst hz0
  simp only [Int.toNat_natCast]
  exact ⟨rfl, rfl, rfl⟩

theorem s_X9_wantsTest {h : aH} {g : Nat → Int} {w : Int} (c68 : h 68 = RG g w) {OP SG BS : Nat → Int} (c89 : h 89 = .inl (0, 13, OP)) (c90 : h 90 = .inl (0, 13, SG)) (c91 : h 91 = .inl (0, 13, BS)) {o : Nat} (e52 : g 52 = (o : Int)) (ho : 1 ≤ o ∧ o < 13) (bOP : 0 ≤ OP (o - 1) ∧ OP (o - 1) ≤ 30) (bSG : 0 ≤ SG (o - 1) ∧ SG (o - 1) ≤ 1000) : mSem yX9_wantsTest cX9_wantsTest 2 (some .boolean) 0 0 0 [.ref 68] 97 h (Ret (b2i (decide (OP (o - 1) = 19 ∨ (OP (o - 1) = 15 ∧ SG (o - 1) = 0)))) h) noX := by
  have n1 : (g 52 - 1).toNat = o - 1 := by omega
  refine mSem_of (own := RX9) (name := "wantsTest") pn_X9 rfl rfl (Nat.le_of_ble_eq_true rfl) ?_
  refine r_aload_n dX9_wantsTest_0 rfl rfl ?_
  refine r_get (fs := RGL _ _) dX9_wantsTest_1 fl_X9_81 (by decide) c68 rfl ?_
  refine r_aload_n dX9_wantsTest_4 rfl rfl ?_
  refine r_getR (z := (g 52)) dX9_wantsTest_5 fl_X9_326 (by decide) c68 rfl ?_
  refine r_iconst dX9_wantsTest_8 ?_
  refine r_isub dX9_wantsTest_9 ?_
  refine r_ald dX9_wantsTest_10 (by decide) c89 (by omega) (by omega) (by decide) ?_
  rw [n1]
  refine r_istore_n (lv2 := [(0, _), (1, _)]) dX9_wantsTest_11 rfl (by decide) rfl rfl ?_
  refine r_iload_n dX9_wantsTest_12 rfl rfl ?_
  refine r_bipush dX9_wantsTest_13 rfl ?_
  refine r_icmp_eq (tgt := 38) dX9_wantsTest_15 (by decide) ⟨by omega, by omega⟩ ⟨by omega, by omega⟩ (fun g15 => ?_) (fun g15 => ?_)
  · refine r_iconst dX9_wantsTest_38 ?_
    refine r_goto (tgt := 43) dX9_wantsTest_39 (by decide) ?_
    refine r_zret dX9_wantsTest_43 (nar_z (by omega)) ?_
    exact ⟨ivE (by unfold b2i; first | rw [if_pos (decide_eq_true (by omega))] | rw [if_neg (by rw [decide_eq_true_eq]; omega)]), rfl, rfl⟩
  · refine r_iload_n dX9_wantsTest_18 rfl rfl ?_
    refine r_bipush dX9_wantsTest_19 rfl ?_
    refine r_icmp_ne (tgt := 42) dX9_wantsTest_21 (by decide) ⟨by omega, by omega⟩ ⟨by omega, by omega⟩ (fun g21 => ?_) (fun g21 => ?_)
    · refine r_iconst dX9_wantsTest_42 ?_
      refine r_zret dX9_wantsTest_43 (nar_z (by omega)) ?_
      exact ⟨ivE (by unfold b2i; first | rw [if_pos (decide_eq_true (by omega))] | rw [if_neg (by rw [decide_eq_true_eq]; omega)]), rfl, rfl⟩
    · refine r_aload_n dX9_wantsTest_24 rfl rfl ?_
      refine r_get (fs := RGL _ _) dX9_wantsTest_25 fl_X9_84 (by decide) c68 rfl ?_
      refine r_aload_n dX9_wantsTest_28 rfl rfl ?_
      refine r_getR (z := (g 52)) dX9_wantsTest_29 fl_X9_326 (by decide) c68 rfl ?_
      refine r_iconst dX9_wantsTest_32 ?_
      refine r_isub dX9_wantsTest_33 ?_
      refine r_ald dX9_wantsTest_34 (by decide) c90 (by omega) (by omega) (by decide) ?_
      rw [n1]
      refine r_if_ne (tgt := 42) dX9_wantsTest_35 (by decide) ⟨by omega, by omega⟩ (fun g35 => ?_) (fun g35 => ?_)
      · refine r_iconst dX9_wantsTest_42 ?_
        refine r_zret dX9_wantsTest_43 (nar_z (by omega)) ?_
        exact ⟨ivE (by unfold b2i; first | rw [if_pos (decide_eq_true (by omega))] | rw [if_neg (by rw [decide_eq_true_eq]; omega)]), rfl, rfl⟩
      · refine r_iconst dX9_wantsTest_38 ?_
        refine r_goto (tgt := 43) dX9_wantsTest_39 (by decide) ?_
        refine r_zret dX9_wantsTest_43 (nar_z (by omega)) ?_
        exact ⟨ivE (by unfold b2i; first | rw [if_pos (decide_eq_true (by omega))] | rw [if_neg (by rw [decide_eq_true_eq]; omega)]), rfl, rfl⟩

theorem wk_1 (h : aH) (g : Nat → Int) (w : Int) (NC : Nat → Int) (tp : Nat) (a o : Int) : va_up (va_up (va_up h 87 (.inl (0, 1500, va_up NC tp a))) 68 (RG (va_up g 51 ((tp : Int) + 1)) w)) 68 (RG (va_up (va_up g 51 ((tp : Int) + 1)) 52 o) w) = va_up (va_up h 68 (RG (va_up (va_up g 51 ((tp : Int) + 1)) 52 o) w)) 87 (.inl (0, 1500, va_up NC tp a)) := by
  funext j
  unfold va_up
  by_cases q1 : j = 87
  · simp [q1]
  · by_cases q2 : j = 68
    · simp [q2]
    · simp [q1, q2]
theorem wk_2 (h : aH) (g : Nat → Int) (w : Int) (NC : Nat → Int) (tp : Nat) (a b o : Int) : va_up (va_up (va_up (va_up (va_up h 87 (.inl (0, 1500, va_up NC tp a))) 68 (RG (va_up g 51 ((tp : Int) + 1)) w)) 87 (.inl (0, 1500, va_up (va_up NC tp a) (tp + 1) b))) 68 (RG (va_up (va_up g 51 ((tp : Int) + 1)) 51 (((tp + 1 : Nat) : Int) + 1)) w)) 68 (RG (va_up (va_up (va_up g 51 ((tp : Int) + 1)) 51 (((tp + 1 : Nat) : Int) + 1)) 52 o) w) = va_up (va_up h 68 (RG (va_up (va_up g 51 ((tp : Int) + 2)) 52 o) w)) 87 (.inl (0, 1500, va_up (va_up NC tp a) (tp + 1) b)) := by
  rw [bx_uu g, show (((tp + 1 : Nat) : Int) + 1) = (tp : Int) + 2 by omega]
  funext j
  unfold va_up
  by_cases q1 : j = 87
  · simp [q1]
  · by_cases q2 : j = 68
    · simp [q2]
    · simp [q1, q2]

theorem s_X9_works {h : aH} {g : Nat → Int} {w : Int} (c68 : h 68 = RG g w) {NC : Nat → Int} (c87 : h 87 = .inl (0, 1500, NC)) {tp : Nat} (e51 : g 51 = (tp : Int)) (htp : tp + 2 ≤ 1500) {o : Nat} (e52 : g 52 = (o : Int)) (ho : 1 ≤ o ∧ o < 13) {a b : Int} (ha : 0 ≤ a ∧ a ≤ 20) : mSem yX9_works cX9_works 3 none 1 0 0 [.ref 68, iv a, iv b] 97 h (RetV (if a = 3 ∨ a = 5 then va_up (va_up h 68 (RG (va_up (va_up g 51 ((tp : Int) + 2)) 52 ((o : Int) - 1)) w)) 87 (.inl (0, 1500, va_up (va_up NC tp a) (tp + 1) b)) else va_up (va_up h 68 (RG (va_up (va_up g 51 ((tp : Int) + 1)) 52 ((o : Int) - 1)) w)) 87 (.inl (0, 1500, va_up NC tp a)))) noX := by
  refine mSem_of (own := RX9) (name := "works") pn_X9 rfl rfl (Nat.le_of_ble_eq_true rfl) ?_
  refine r_aload_n dX9_works_0 rfl rfl ?_
  refine r_iload_n dX9_works_1 rfl rfl ?_
  refine r_callV 68 [_] (s_X9_puts (g := g) (tp := tp) c68 c87 e51 (by omega)) dX9_works_2 cs_X9_332 im_X9_puts (by decide) c68 rfl (by decide) (by decide) (by decide) rfl rfl (Nat.le_of_ble_eq_true rfl) (fun _ _ _ q => q.elim) (fun v n2 h2 q => ?_)
  obtain ⟨rfl, rfl, hh⟩ := q
  obtain rfl := hh.symm
  refine ⟨rfl, ?_⟩
  dsimp only [Option.toList, List.cons_append, List.nil_append]
  refine r_iload_n dX9_works_5 rfl rfl ?_
  refine r_iconst dX9_works_6 ?_
  refine r_icmp_eq (tgt := 15) dX9_works_7 (by decide) ⟨by omega, by omega⟩ ⟨by omega, by omega⟩ (fun g7 => ?_) (fun g7 => ?_)
  · refine r_aload_n dX9_works_15 rfl rfl ?_
    refine r_iload_n dX9_works_16 rfl rfl ?_
    refine r_callV 68 [_] (s_X9_puts (g := (va_up g 51 ((tp : Int) + 1))) (tp := tp + 1) (by rfl) (by rfl) (by show (tp : Int) + 1 = ((tp + 1 : Nat) : Int); omega) (by omega)) dX9_works_17 cs_X9_332 im_X9_puts (by decide) rfl rfl (by decide) (by decide) (by decide) rfl rfl (Nat.le_of_ble_eq_true rfl) (fun _ _ _ q => q.elim) (fun v n2 h2 q => ?_)
    obtain ⟨rfl, rfl, hh⟩ := q
    obtain rfl := hh.symm
    refine ⟨rfl, ?_⟩
    dsimp only [Option.toList, List.cons_append, List.nil_append]
    refine r_aload_n dX9_works_20 rfl rfl ?_
    refine r_dup dX9_works_21 rfl ?_
    refine r_getR (z := (g 52)) dX9_works_22 fl_X9_326 (by decide) rfl rfl ?_
    refine r_iconst dX9_works_25 ?_
    refine r_isub dX9_works_26 ?_
    refine r_putR dX9_works_27 fp_X9_326 (by decide) rfl (nar_int _) (Nat.le_of_ble_eq_true rfl) setR_52 (fun z0 hz0 => ?_)
    refine r_vret dX9_works_30 ?_
    rw [e52] at hz0
    subst hz0
    rw [if_pos (by omega)]
    exact ⟨rfl, rfl, by rw [wk_2]⟩
  · refine r_iload_n dX9_works_10 rfl rfl ?_
    refine r_iconst dX9_works_11 ?_
    refine r_icmp_ne (tgt := 20) dX9_works_12 (by decide) ⟨by omega, by omega⟩ ⟨by omega, by omega⟩ (fun g12 => ?_) (fun g12 => ?_)
    · refine r_aload_n dX9_works_20 rfl rfl ?_
      refine r_dup dX9_works_21 rfl ?_
      refine r_getR (z := (g 52)) dX9_works_22 fl_X9_326 (by decide) rfl rfl ?_
      refine r_iconst dX9_works_25 ?_
      refine r_isub dX9_works_26 ?_
      refine r_putR dX9_works_27 fp_X9_326 (by decide) rfl (nar_int _) (Nat.le_of_ble_eq_true rfl) setR_52 (fun z0 hz0 => ?_)
      refine r_vret dX9_works_30 ?_
      rw [e52] at hz0
      subst hz0
      rw [if_neg (by omega)]
      exact ⟨rfl, rfl, by rw [wk_1]⟩
    · refine r_aload_n dX9_works_15 rfl rfl ?_
      refine r_iload_n dX9_works_16 rfl rfl ?_
      refine r_callV 68 [_] (s_X9_puts (g := (va_up g 51 ((tp : Int) + 1))) (tp := tp + 1) (by rfl) (by rfl) (by show (tp : Int) + 1 = ((tp + 1 : Nat) : Int); omega) (by omega)) dX9_works_17 cs_X9_332 im_X9_puts (by decide) rfl rfl (by decide) (by decide) (by decide) rfl rfl (Nat.le_of_ble_eq_true rfl) (fun _ _ _ q => q.elim) (fun v n2 h2 q => ?_)
      obtain ⟨rfl, rfl, hh⟩ := q
      obtain rfl := hh.symm
      refine ⟨rfl, ?_⟩
      dsimp only [Option.toList, List.cons_append, List.nil_append]
      refine r_aload_n dX9_works_20 rfl rfl ?_
      refine r_dup dX9_works_21 rfl ?_
      refine r_getR (z := (g 52)) dX9_works_22 fl_X9_326 (by decide) rfl rfl ?_
      refine r_iconst dX9_works_25 ?_
      refine r_isub dX9_works_26 ?_
      refine r_putR dX9_works_27 fp_X9_326 (by decide) rfl (nar_int _) (Nat.le_of_ble_eq_true rfl) setR_52 (fun z0 hz0 => ?_)
      refine r_vret dX9_works_30 ?_
      rw [e52] at hz0
      subst hz0
      rw [if_pos (by omega)]
      exact ⟨rfl, rfl, by rw [wk_2]⟩

theorem l_X9_some {h : aH} {trr : Nat → Int} (c72 : h 72 = .inl (0, 700, trr)) {t : Nat → Int} (ht : ∀ j, -128 ≤ t j ∧ t j ≤ 127) {le : Nat} (hle : le ≤ 700) (htt : ∀ j, j < le → trr j = t j % 256) {g : Nat → Int} (h9 : g 9 = 0) {nd : Int} (e1 : g 1 = nd) (hnd : 0 ≤ nd ∧ nd ≤ 9) {Q : Option Value → Nat → aH → Prop} {d : Nat} (hd3 : 3 ≤ d) {r : (Int × Nat) ⊕ (Nat × Nat)} (kg : ∀ (gg : Nat → Int) (ww : Int) (b e2 : Nat), r = pCl t le b e2 → b < 2 ^ nd.toNat → RS t le e2 gg ww → (∀ k, ¬ (13 ≤ k ∧ k ≤ 18) → gg k = g k) → Ev RX9 "some" cX9_some 4 none d 0 0 Q noX 97 (va_up h 68 (RG gg ww)) 141 [(0, .ref 68), (1, iv (b : Nat))] []) (kf : ∀ (gg : Nat → Int) (ww : Int) (z : Int) (f : Int) (p : Nat), r = .inl (f, p) → (1 ≤ f ∧ f ≤ 3) → gg 9 = f → gg 10 = (p : Int) → (∀ k, ¬ (9 ≤ k ∧ k ≤ 10) → ¬ (13 ≤ k ∧ k ≤ 18) → gg k = g k) → Ev RX9 "some" cX9_some 4 none d 0 0 Q noX 97 (va_up h 68 (RG gg ww)) 141 [(0, .ref 68), (1, iv z)] []) : ∀ (w b e : Nat) (gg : Nat → Int) (ww : Int), pOs t le nd w b e = r → fre b ≤ w → b < 2 ^ nd.toNat → RS t le e gg ww → (∀ k, ¬ (13 ≤ k ∧ k ≤ 18) → gg k = g k) → Ev RX9 "some" cX9_some 4 none d 0 0 Q noX 97 (va_up h 68 (RG gg ww)) 14 [(0, .ref 68), (1, iv (b : Nat)), (2, iv 1)] [] := by
  have hpw : (2 : Nat) ^ nd.toNat ≤ 2 ^ 9 := Nat.pow_le_pow_right (by decide) (by omega)
  intro w
  induction w using Nat.strongRecOn with
  | _ w ih =>
    intro b e gg ww hR hw hb rs kq
    have hsb := sort_B rs
    have q16 := rs.2.2.2.2.2.1
    have q1 : gg 1 = nd := (kq 1 (by decide)).trans e1
    have n9 : gg 9 = 0 := (kq 9 (by decide)).trans h9
    have hB := tk_B t rs.1
    have hb5 : b < 512 := by omega
    refine r_iload_n dX9_some_14 rfl rfl ?_
    refine r_if_eq (tgt := 141) dX9_some_15 (by decide) ⟨by omega, by omega⟩ (fun g15 => absurd g15 (by omega)) (fun g15 => ?_)
    refine r_aload_n dX9_some_18 rfl rfl ?_
    refine r_callV 68 [] (s_X9_good1 (g := gg) (by rfl) n9) dX9_some_19 cs_X9_161 im_X9_isGood (by decide) rfl rfl (by omega) (by decide) (by decide) rfl rfl (Nat.le_of_ble_eq_true rfl) (fun _ _ _ q => q.elim) (fun v n2 h2 q => ?_)
    obtain ⟨rfl, rfl, hh⟩ := q
    obtain rfl := hh.symm
    refine ⟨rfl, ?_⟩
    dsimp only [Option.toList, List.cons_append, List.nil_append]
    refine r_if_eq (tgt := 141) dX9_some_22 (by decide) ⟨by omega, by omega⟩ (fun g22 => absurd g22 (by omega)) (fun g22 => ?_)
    refine r_aload_n dX9_some_25 rfl rfl ?_
    refine r_getR (z := (gg 14)) dX9_some_26 fl_X9_135 (by decide) rfl rfl ?_
    refine r_iconst dX9_some_29 ?_
    refine r_icmp_ne (tgt := 56) dX9_some_30 (by decide) ⟨by omega, by omega⟩ ⟨by omega, by omega⟩ (fun g30 => ?_) (fun g30 => ?_)
    · have hF : ¬ numF t le e 0 (nd - 1) = 0 := by unfold numF; rw [if_pos (by omega)]; decide
      refine r_iconst dX9_some_56 ?_
      refine r_istore_n (lv2 := [(0, _), (1, _), (2, _), (3, _)]) dX9_some_57 rfl (by decide) rfl rfl ?_
      refine r_iload_n dX9_some_58 rfl rfl ?_
      refine r_if_eq (tgt := 79) dX9_some_59 (by decide) ⟨by omega, by omega⟩ (fun g59 => ?_) (fun g59 => absurd g59 (by omega))
      refine r_iload_n dX9_some_79 rfl rfl ?_
      refine r_iload_n dX9_some_80 rfl rfl ?_
      refine r_if_eq (tgt := 93) dX9_some_81 (by decide) ⟨by omega, by omega⟩ (fun g81 => ?_) (fun g81 => absurd g81 (by omega))
      refine r_iconst dX9_some_93 ?_
      refine r_ior _ dX9_some_94 (by first | exact orI b (2 ^ u) | exact orI b 0) ?_
      refine r_istore_n (lv2 := [(0, _), (1, _), (2, _), (3, _)]) dX9_some_95 rfl (by decide) rfl rfl ?_
      refine r_aload_n dX9_some_96 rfl rfl ?_
      refine r_iconst dX9_some_97 ?_
      refine r_aload_n dX9_some_98 rfl rfl ?_
      refine r_getR (z := (gg 1)) dX9_some_99 fl_X9_214 (by decide) rfl rfl ?_
      rw [q1]
      refine r_iconst dX9_some_102 ?_
      refine r_isub dX9_some_103 ?_
      refine r_callV 68 [_, _] (s_X9_number (g := gg) (by rfl) (by exact c72) ht hle htt rs n9 ⟨by decide, by decide⟩ ⟨by omega, by omega⟩) dX9_some_104 cs_X9_171 im_X9_number (by decide) rfl rfl (by omega) (by decide) (by decide) rfl rfl (Nat.le_of_ble_eq_true rfl) (fun _ _ _ q => q.elim) (fun v n2 h2 q => ?_)
      obtain ⟨rfl, z4, g4, w4, rfl, rfl, hr4⟩ := q
      rcases hr4 with ⟨e4, hr4, rs4, kp4⟩ | ⟨f4, p4, hr4, hf4, nf4, np4, kp4⟩
      · exact absurd hr4 (by unfold pNum; rw [if_neg hF]; simp)
      · have hp4 : pNum t le 0 (nd - 1) e = .inl (numF t le e 0 (nd - 1), tkS t le e) := by unfold pNum; rw [if_neg hF]
        rw [hp4] at hr4
        have hx4 : numF t le e 0 (nd - 1) = f4 ∧ tkS t le e = p4 := by simpa using hr4
        have b9 : 1 ≤ g4 9 ∧ g4 9 ≤ 9 := by omega
        have kb : ∀ k, ¬ (9 ≤ k ∧ k ≤ 10) → ¬ (13 ≤ k ∧ k ≤ 18) → g4 k = g k := fun k h1 h2 => (kp4 k h1 h2).trans (kq k h2)
        refine ⟨rfl, ?_⟩
        dsimp only [Option.toList, List.cons_append, List.nil_append]
        refine r_pop dX9_some_107 rfl ?_
        refine r_aload_n dX9_some_108 rfl rfl ?_
        refine r_callV 68 [] (s_X9_good0 (g := g4) (by rfl) b9) dX9_some_109 cs_X9_161 im_X9_isGood (by decide) rfl rfl (by omega) (by decide) (by decide) rfl rfl (Nat.le_of_ble_eq_true rfl) (fun _ _ _ q => q.elim) (fun v n2 h2 q => ?_)
        obtain ⟨rfl, rfl, hh⟩ := q
        obtain rfl := hh.symm
        refine ⟨rfl, ?_⟩
        dsimp only [Option.toList, List.cons_append, List.nil_append]
        refine r_if_eq (tgt := 128) dX9_some_112 (by decide) ⟨by omega, by omega⟩ (fun g112 => ?_) (fun g112 => absurd g112 (by omega))
        refine r_iconst dX9_some_128 ?_
        refine r_istore_n (lv2 := [(0, _), (1, _), (2, _), (3, _)]) dX9_some_129 rfl (by decide) rfl rfl ?_
        refine r_iload_n dX9_some_130 rfl rfl ?_
        refine r_if_eq (tgt := 138) dX9_some_131 (by decide) ⟨by omega, by omega⟩ (fun g131 => ?_) (fun g131 => absurd g131 (by omega))
        refine r_goto (tgt := 14) dX9_some_138 (by decide) ?_
        skip
        refine r_iload_n dX9_some_14 rfl rfl ?_
        refine r_if_eq (tgt := 141) dX9_some_15 (by decide) ⟨by omega, by omega⟩ (fun g15 => ?_) (fun g15 => absurd g15 (by omega))
        refine r_lv (lv2 := [(0, _), (1, _)]) rfl ?_
        simp only [bx_uu]
        refine kf g4 w4 _ f4 p4 ?_ (by omega) nf4 np4 kb
        rw [← hR]
        unfold pOs pOt
        rw [if_neg hF, hx4.1, hx4.2]
    · have hk2 : tkK t le e = 2 := by omega
      have q17 := rs.2.2.2.2.2.2.1 hk2
      have nn := num_nn hk2
      have nB := num_B t ht (min (tkE t le e - tkS t le e) 4) (tkS t le e) (Nat.min_le_right _ _)
      have nE : numAt t le e = digF t (min (tkE t le e - tkS t le e) 4) (tkS t le e) 0 := rfl
      refine r_aload_n dX9_some_33 rfl rfl ?_
      refine r_getR (z := (gg 16)) dX9_some_34 fl_X9_145 (by decide) rfl rfl ?_
      refine r_iconst dX9_some_37 ?_
      refine r_icmp_gt (tgt := 56) dX9_some_38 (by decide) ⟨by omega, by omega⟩ ⟨by omega, by omega⟩ (fun g38 => ?_) (fun g38 => ?_)
      · have hF : ¬ numF t le e 0 (nd - 1) = 0 := by unfold numF; rw [if_neg (by omega), if_pos (by omega)]; decide
        refine r_iconst dX9_some_56 ?_
        refine r_istore_n (lv2 := [(0, _), (1, _), (2, _), (3, _)]) dX9_some_57 rfl (by decide) rfl rfl ?_
        refine r_iload_n dX9_some_58 rfl rfl ?_
        refine r_if_eq (tgt := 79) dX9_some_59 (by decide) ⟨by omega, by omega⟩ (fun g59 => ?_) (fun g59 => absurd g59 (by omega))
        refine r_iload_n dX9_some_79 rfl rfl ?_
        refine r_iload_n dX9_some_80 rfl rfl ?_
        refine r_if_eq (tgt := 93) dX9_some_81 (by decide) ⟨by omega, by omega⟩ (fun g81 => ?_) (fun g81 => absurd g81 (by omega))
        refine r_iconst dX9_some_93 ?_
        refine r_ior _ dX9_some_94 (by first | exact orI b (2 ^ u) | exact orI b 0) ?_
        refine r_istore_n (lv2 := [(0, _), (1, _), (2, _), (3, _)]) dX9_some_95 rfl (by decide) rfl rfl ?_
        refine r_aload_n dX9_some_96 rfl rfl ?_
        refine r_iconst dX9_some_97 ?_
        refine r_aload_n dX9_some_98 rfl rfl ?_
        refine r_getR (z := (gg 1)) dX9_some_99 fl_X9_214 (by decide) rfl rfl ?_
        rw [q1]
        refine r_iconst dX9_some_102 ?_
        refine r_isub dX9_some_103 ?_
        refine r_callV 68 [_, _] (s_X9_number (g := gg) (by rfl) (by exact c72) ht hle htt rs n9 ⟨by decide, by decide⟩ ⟨by omega, by omega⟩) dX9_some_104 cs_X9_171 im_X9_number (by decide) rfl rfl (by omega) (by decide) (by decide) rfl rfl (Nat.le_of_ble_eq_true rfl) (fun _ _ _ q => q.elim) (fun v n2 h2 q => ?_)
        obtain ⟨rfl, z4, g4, w4, rfl, rfl, hr4⟩ := q
        rcases hr4 with ⟨e4, hr4, rs4, kp4⟩ | ⟨f4, p4, hr4, hf4, nf4, np4, kp4⟩
        · exact absurd hr4 (by unfold pNum; rw [if_neg hF]; simp)
        · have hp4 : pNum t le 0 (nd - 1) e = .inl (numF t le e 0 (nd - 1), tkS t le e) := by unfold pNum; rw [if_neg hF]
          rw [hp4] at hr4
          have hx4 : numF t le e 0 (nd - 1) = f4 ∧ tkS t le e = p4 := by simpa using hr4
          have b9 : 1 ≤ g4 9 ∧ g4 9 ≤ 9 := by omega
          have kb : ∀ k, ¬ (9 ≤ k ∧ k ≤ 10) → ¬ (13 ≤ k ∧ k ≤ 18) → g4 k = g k := fun k h1 h2 => (kp4 k h1 h2).trans (kq k h2)
          refine ⟨rfl, ?_⟩
          dsimp only [Option.toList, List.cons_append, List.nil_append]
          refine r_pop dX9_some_107 rfl ?_
          refine r_aload_n dX9_some_108 rfl rfl ?_
          refine r_callV 68 [] (s_X9_good0 (g := g4) (by rfl) b9) dX9_some_109 cs_X9_161 im_X9_isGood (by decide) rfl rfl (by omega) (by decide) (by decide) rfl rfl (Nat.le_of_ble_eq_true rfl) (fun _ _ _ q => q.elim) (fun v n2 h2 q => ?_)
          obtain ⟨rfl, rfl, hh⟩ := q
          obtain rfl := hh.symm
          refine ⟨rfl, ?_⟩
          dsimp only [Option.toList, List.cons_append, List.nil_append]
          refine r_if_eq (tgt := 128) dX9_some_112 (by decide) ⟨by omega, by omega⟩ (fun g112 => ?_) (fun g112 => absurd g112 (by omega))
          refine r_iconst dX9_some_128 ?_
          refine r_istore_n (lv2 := [(0, _), (1, _), (2, _), (3, _)]) dX9_some_129 rfl (by decide) rfl rfl ?_
          refine r_iload_n dX9_some_130 rfl rfl ?_
          refine r_if_eq (tgt := 138) dX9_some_131 (by decide) ⟨by omega, by omega⟩ (fun g131 => ?_) (fun g131 => absurd g131 (by omega))
          refine r_goto (tgt := 14) dX9_some_138 (by decide) ?_
          skip
          refine r_iload_n dX9_some_14 rfl rfl ?_
          refine r_if_eq (tgt := 141) dX9_some_15 (by decide) ⟨by omega, by omega⟩ (fun g15 => ?_) (fun g15 => absurd g15 (by omega))
          refine r_lv (lv2 := [(0, _), (1, _)]) rfl ?_
          simp only [bx_uu]
          refine kf g4 w4 _ f4 p4 ?_ (by omega) nf4 np4 kb
          rw [← hR]
          unfold pOs pOt
          rw [if_neg hF, hx4.1, hx4.2]
      · refine r_aload_n dX9_some_41 rfl rfl ?_
        refine r_getR (z := (gg 17)) dX9_some_42 fl_X9_129 (by decide) rfl rfl ?_
        refine r_aload_n dX9_some_45 rfl rfl ?_
        refine r_getR (z := (gg 1)) dX9_some_46 fl_X9_214 (by decide) rfl rfl ?_
        refine r_icmp_ge (tgt := 56) dX9_some_49 (by decide) ⟨by omega, by omega⟩ ⟨by omega, by omega⟩ (fun g49 => ?_) (fun g49 => ?_)
        · have hF : ¬ numF t le e 0 (nd - 1) = 0 := by unfold numF; rw [if_neg (by omega), if_pos (by omega)]; decide
          refine r_iconst dX9_some_56 ?_
          refine r_istore_n (lv2 := [(0, _), (1, _), (2, _), (3, _)]) dX9_some_57 rfl (by decide) rfl rfl ?_
          refine r_iload_n dX9_some_58 rfl rfl ?_
          refine r_if_eq (tgt := 79) dX9_some_59 (by decide) ⟨by omega, by omega⟩ (fun g59 => ?_) (fun g59 => absurd g59 (by omega))
          refine r_iload_n dX9_some_79 rfl rfl ?_
          refine r_iload_n dX9_some_80 rfl rfl ?_
          refine r_if_eq (tgt := 93) dX9_some_81 (by decide) ⟨by omega, by omega⟩ (fun g81 => ?_) (fun g81 => absurd g81 (by omega))
          refine r_iconst dX9_some_93 ?_
          refine r_ior _ dX9_some_94 (by first | exact orI b (2 ^ u) | exact orI b 0) ?_
          refine r_istore_n (lv2 := [(0, _), (1, _), (2, _), (3, _)]) dX9_some_95 rfl (by decide) rfl rfl ?_
          refine r_aload_n dX9_some_96 rfl rfl ?_
          refine r_iconst dX9_some_97 ?_
          refine r_aload_n dX9_some_98 rfl rfl ?_
          refine r_getR (z := (gg 1)) dX9_some_99 fl_X9_214 (by decide) rfl rfl ?_
          rw [q1]
          refine r_iconst dX9_some_102 ?_
          refine r_isub dX9_some_103 ?_
          refine r_callV 68 [_, _] (s_X9_number (g := gg) (by rfl) (by exact c72) ht hle htt rs n9 ⟨by decide, by decide⟩ ⟨by omega, by omega⟩) dX9_some_104 cs_X9_171 im_X9_number (by decide) rfl rfl (by omega) (by decide) (by decide) rfl rfl (Nat.le_of_ble_eq_true rfl) (fun _ _ _ q => q.elim) (fun v n2 h2 q => ?_)
          obtain ⟨rfl, z4, g4, w4, rfl, rfl, hr4⟩ := q
          rcases hr4 with ⟨e4, hr4, rs4, kp4⟩ | ⟨f4, p4, hr4, hf4, nf4, np4, kp4⟩
          · exact absurd hr4 (by unfold pNum; rw [if_neg hF]; simp)
          · have hp4 : pNum t le 0 (nd - 1) e = .inl (numF t le e 0 (nd - 1), tkS t le e) := by unfold pNum; rw [if_neg hF]
            rw [hp4] at hr4
            have hx4 : numF t le e 0 (nd - 1) = f4 ∧ tkS t le e = p4 := by simpa using hr4
            have b9 : 1 ≤ g4 9 ∧ g4 9 ≤ 9 := by omega
            have kb : ∀ k, ¬ (9 ≤ k ∧ k ≤ 10) → ¬ (13 ≤ k ∧ k ≤ 18) → g4 k = g k := fun k h1 h2 => (kp4 k h1 h2).trans (kq k h2)
            refine ⟨rfl, ?_⟩
            dsimp only [Option.toList, List.cons_append, List.nil_append]
            refine r_pop dX9_some_107 rfl ?_
            refine r_aload_n dX9_some_108 rfl rfl ?_
            refine r_callV 68 [] (s_X9_good0 (g := g4) (by rfl) b9) dX9_some_109 cs_X9_161 im_X9_isGood (by decide) rfl rfl (by omega) (by decide) (by decide) rfl rfl (Nat.le_of_ble_eq_true rfl) (fun _ _ _ q => q.elim) (fun v n2 h2 q => ?_)
            obtain ⟨rfl, rfl, hh⟩ := q
            obtain rfl := hh.symm
            refine ⟨rfl, ?_⟩
            dsimp only [Option.toList, List.cons_append, List.nil_append]
            refine r_if_eq (tgt := 128) dX9_some_112 (by decide) ⟨by omega, by omega⟩ (fun g112 => ?_) (fun g112 => absurd g112 (by omega))
            refine r_iconst dX9_some_128 ?_
            refine r_istore_n (lv2 := [(0, _), (1, _), (2, _), (3, _)]) dX9_some_129 rfl (by decide) rfl rfl ?_
            refine r_iload_n dX9_some_130 rfl rfl ?_
            refine r_if_eq (tgt := 138) dX9_some_131 (by decide) ⟨by omega, by omega⟩ (fun g131 => ?_) (fun g131 => absurd g131 (by omega))
            refine r_goto (tgt := 14) dX9_some_138 (by decide) ?_
            skip
            refine r_iload_n dX9_some_14 rfl rfl ?_
            refine r_if_eq (tgt := 141) dX9_some_15 (by decide) ⟨by omega, by omega⟩ (fun g15 => ?_) (fun g15 => absurd g15 (by omega))
            refine r_lv (lv2 := [(0, _), (1, _)]) rfl ?_
            simp only [bx_uu]
            refine kf g4 w4 _ f4 p4 ?_ (by omega) nf4 np4 kb
            rw [← hR]
            unfold pOs pOt
            rw [if_neg hF, hx4.1, hx4.2]
        · have hF : numF t le e 0 (nd - 1) = 0 := by unfold numF; rw [if_neg (by omega), if_neg (by omega)]
          obtain ⟨u, hu⟩ : ∃ q : Nat, numAt t le e = q := ⟨(numAt t le e).toNat, by omega⟩
          have bb := bit_B b u
          have hone := one_1 b u
          have hu2 : (2 : Nat) ^ u < 2 ^ nd.toNat := Nat.pow_lt_pow_right (by decide) (by omega)
          have hb2 : b ||| 2 ^ u < 2 ^ nd.toNat := Nat.or_lt_two_pow hb hu2
          refine r_iconst dX9_some_52 ?_
          refine r_goto (tgt := 57) dX9_some_53 (by decide) ?_
          refine r_istore_n (lv2 := [(0, _), (1, _), (2, _), (3, _)]) dX9_some_57 rfl (by decide) rfl rfl ?_
          refine r_iload_n dX9_some_58 rfl rfl ?_
          refine r_if_eq (tgt := 79) dX9_some_59 (by decide) ⟨by omega, by omega⟩ (fun g59 => absurd g59 (by omega)) (fun g59 => ?_)
          refine r_iload_n dX9_some_62 rfl rfl ?_
          refine r_aload_n dX9_some_63 rfl rfl ?_
          refine r_getR (z := (gg 17)) dX9_some_64 fl_X9_129 (by decide) rfl rfl ?_
          rw [q17, hu]
          refine r_ishr _ dX9_some_67 (shrI hb5 (by omega)) ?_
          refine r_iconst dX9_some_68 ?_
          refine r_iand _ dX9_some_69 (andI _ 1) ?_
          refine r_iconst dX9_some_70 ?_
          refine r_icmp_ne (tgt := 79) dX9_some_71 (by decide) ⟨by omega, by omega⟩ ⟨by omega, by omega⟩ (fun g71 => ?_) (fun g71 => ?_)
          · have hbit : b.testBit u = false := Bool.eq_false_iff.mpr (fun q => absurd (hone.mpr q) (by omega))
            have hRR : pOs t le nd w b e = pMs t le nd w (b ||| 2 ^ u) (tkE t le e) := by unfold pOs pOt; rw [if_pos hF, hu, Int.toNat_natCast, if_pos ((and_0 b u).mpr hbit)]
            refine r_iload_n dX9_some_79 rfl rfl ?_
            refine r_iload_n dX9_some_80 rfl rfl ?_
            refine r_if_eq (tgt := 93) dX9_some_81 (by decide) ⟨by omega, by omega⟩ (fun g81 => absurd g81 (by omega)) (fun g81 => ?_)
            refine r_iconst dX9_some_84 ?_
            refine r_aload_n dX9_some_85 rfl rfl ?_
            refine r_getR (z := (gg 17)) dX9_some_86 fl_X9_129 (by decide) rfl rfl ?_
            rw [q17, hu]
            refine r_ishl _ dX9_some_89 (shl1 u (by omega)) ?_
            refine r_goto (tgt := 94) dX9_some_90 (by decide) ?_
            refine r_ior _ dX9_some_94 (by first | exact orI b (2 ^ u) | exact orI b 0) ?_
            refine r_istore_n (lv2 := [(0, _), (1, _), (2, _), (3, _)]) dX9_some_95 rfl (by decide) rfl rfl ?_
            refine r_aload_n dX9_some_96 rfl rfl ?_
            refine r_iconst dX9_some_97 ?_
            refine r_aload_n dX9_some_98 rfl rfl ?_
            refine r_getR (z := (gg 1)) dX9_some_99 fl_X9_214 (by decide) rfl rfl ?_
            rw [q1]
            refine r_iconst dX9_some_102 ?_
            refine r_isub dX9_some_103 ?_
            refine r_callV 68 [_, _] (s_X9_number (g := gg) (by rfl) (by exact c72) ht hle htt rs n9 ⟨by decide, by decide⟩ ⟨by omega, by omega⟩) dX9_some_104 cs_X9_171 im_X9_number (by decide) rfl rfl (by omega) (by decide) (by decide) rfl rfl (Nat.le_of_ble_eq_true rfl) (fun _ _ _ q => q.elim) (fun v n2 h2 q => ?_)
            obtain ⟨rfl, z4, g4, w4, rfl, rfl, hr4⟩ := q
            rcases hr4 with ⟨e4, hr4, rs4, kp4⟩ | ⟨f4, p4, hr4, hf4, nf4, np4, kp4⟩
            · have hp4 : pNum t le 0 (nd - 1) e = .inr (numAt t le e, tkE t le e) := by unfold pNum; rw [if_pos hF]
              rw [hp4] at hr4
              obtain rfl : tkE t le e = e4 := by simp only [Sum.inr.injEq, Prod.mk.injEq] at hr4; exact hr4.2
              have kq4 := fun k hk => (kp4 k hk).trans (kq k hk)
              refine ⟨rfl, ?_⟩
              dsimp only [Option.toList, List.cons_append, List.nil_append]
              refine r_pop dX9_some_107 rfl ?_
              refine r_aload_n dX9_some_108 rfl rfl ?_
              refine r_callV 68 [] (s_X9_good1 (g := g4) (by rfl) ((kq4 9 (by decide)).trans h9)) dX9_some_109 cs_X9_161 im_X9_isGood (by decide) rfl rfl (by omega) (by decide) (by decide) rfl rfl (Nat.le_of_ble_eq_true rfl) (fun _ _ _ q => q.elim) (fun v n2 h2 q => ?_)
              obtain ⟨rfl, rfl, hh⟩ := q
              obtain rfl := hh.symm
              refine ⟨rfl, ?_⟩
              dsimp only [Option.toList, List.cons_append, List.nil_append]
              refine r_if_eq (tgt := 128) dX9_some_112 (by decide) ⟨by omega, by omega⟩ (fun g112 => absurd g112 (by omega)) (fun g112 => ?_)
              refine r_aload_n dX9_some_115 rfl rfl ?_
              refine r_bipush dX9_some_116 rfl ?_
              refine r_callV 68 [_] (s_X9_isSign (g := g4) (by rfl) (by exact c72) ht hle htt rs4 (by decide)) dX9_some_118 cs_X9_329 im_X9_isSign (by decide) rfl rfl (by omega) (by decide) (by decide) rfl rfl (Nat.le_of_ble_eq_true rfl) (fun _ _ _ q => q.elim) (fun v n2 h2 q => ?_)
              obtain ⟨rfl, rfl, hh⟩ := q
              obtain rfl := hh.symm
              have b44 := b2i_01 (signAt t le (tkE t le e) 44)
              refine ⟨rfl, ?_⟩
              dsimp only [Option.toList, List.cons_append, List.nil_append]
              refine r_if_eq (tgt := 128) dX9_some_121 (by decide) ⟨by omega, by omega⟩ (fun g121 => ?_) (fun g121 => ?_)
              · refine r_iconst dX9_some_128 ?_
                refine r_istore_n (lv2 := [(0, _), (1, _), (2, _), (3, _)]) dX9_some_129 rfl (by decide) rfl rfl ?_
                refine r_iload_n dX9_some_130 rfl rfl ?_
                refine r_if_eq (tgt := 138) dX9_some_131 (by decide) ⟨by omega, by omega⟩ (fun g131 => ?_) (fun g131 => absurd g131 (by omega))
                refine r_goto (tgt := 14) dX9_some_138 (by decide) ?_
                skip
                refine r_iload_n dX9_some_14 rfl rfl ?_
                refine r_if_eq (tgt := 141) dX9_some_15 (by decide) ⟨by omega, by omega⟩ (fun g15 => ?_) (fun g15 => absurd g15 (by omega))
                have hc : ¬ signAt t le (tkE t le e) 44 = true := by rw [b2i_0] at g121; rw [g121]; decide
                refine r_lv (lv2 := [(0, _), (1, _)]) rfl ?_
                simp only [bx_uu]
                refine kg g4 w4 (b ||| 2 ^ u) (tkE t le e) ?_ hb2 rs4 kq4
                rw [← hR, hRR, pMs_n hc]
              · refine r_iconst dX9_some_124 ?_
                refine r_goto (tgt := 129) dX9_some_125 (by decide) ?_
                refine r_istore_n (lv2 := [(0, _), (1, _), (2, _), (3, _)]) dX9_some_129 rfl (by decide) rfl rfl ?_
                refine r_iload_n dX9_some_130 rfl rfl ?_
                refine r_if_eq (tgt := 138) dX9_some_131 (by decide) ⟨by omega, by omega⟩ (fun g131 => absurd g131 (by omega)) (fun g131 => ?_)
                refine r_aload_n dX9_some_134 rfl rfl ?_
                refine r_callV 68 [] (s_X9_steps (g := g4) (e := tkE t le (tkE t le e)) (by rfl) (by exact c72) ht hle htt (tk_B t rs4.1).2.2.2.1 rs4.2.1 rs4.2.2.1) dX9_some_135 cs_X9_165 im_X9_steps (by decide) rfl rfl (by omega) (by decide) (by decide) rfl rfl (Nat.le_of_ble_eq_true rfl) (fun _ _ _ q => q.elim) (fun v n2 h2 q => ?_)
                obtain ⟨rfl, rfl, g6, w6, rfl, rs6, kp6⟩ := q
                refine ⟨rfl, ?_⟩
                dsimp only [Option.toList, List.cons_append, List.nil_append]
                refine r_goto (tgt := 14) dX9_some_138 (by decide) ?_
                have hc : signAt t le (tkE t le e) 44 = true := by rw [b2i_0, Bool.not_eq_false] at g121; exact g121
                have hfr := fre_s hb5 (v := u) (by omega) hbit
                obtain ⟨w', rfl⟩ : ∃ w', w = w' + 1 := ⟨w - 1, by omega⟩
                rw [hRR, pMs_s, if_pos hc] at hR
                refine r_lv (lv2 := [(0, _), (1, _), (2, _)]) rfl ?_
                simp only [bx_uu]
                exact ih w' (by omega) (b ||| 2 ^ u) (tkE t le (tkE t le e)) g6 w6 hR (by omega) hb2 rs6 (fun k hk => (kp6 k hk).trans (kq4 k hk))
            · exact absurd hr4 (by unfold pNum; rw [if_pos hF]; simp)
          · have hbit : b.testBit u = true := hone.mp (by omega)
            refine r_aload_n dX9_some_74 rfl rfl ?_
            refine r_iconst dX9_some_75 ?_
            refine r_callV 68 [_] (s_X9_wrong1 (g := gg) (by rfl) n9) dX9_some_76 cs_X9_168 im_X9_wrong (by decide) rfl rfl (by omega) (by decide) (by decide) rfl rfl (Nat.le_of_ble_eq_true rfl) (fun _ _ _ q => q.elim) (fun v n2 h2 q => ?_)
            obtain ⟨rfl, rfl, hh⟩ := q
            obtain rfl := hh.symm
            have b9 : 1 ≤ (va_up (va_up gg 9 3) 10 (gg 15)) 9 ∧ (va_up (va_up gg 9 3) 10 (gg 15)) 9 ≤ 9 := ⟨by show (1 : Int) ≤ 3; decide, by show (3 : Int) ≤ 9; decide⟩
            refine ⟨rfl, ?_⟩
            dsimp only [Option.toList, List.cons_append, List.nil_append]
            refine r_iload_n dX9_some_79 rfl rfl ?_
            refine r_iload_n dX9_some_80 rfl rfl ?_
            refine r_if_eq (tgt := 93) dX9_some_81 (by decide) ⟨by omega, by omega⟩ (fun g81 => absurd g81 (by omega)) (fun g81 => ?_)
            refine r_iconst dX9_some_84 ?_
            refine r_aload_n dX9_some_85 rfl rfl ?_
            refine r_getR (z := (gg 17)) dX9_some_86 fl_X9_129 (by decide) rfl rfl ?_
            rw [q17, hu]
            refine r_ishl _ dX9_some_89 (shl1 u (by omega)) ?_
            refine r_goto (tgt := 94) dX9_some_90 (by decide) ?_
            refine r_ior _ dX9_some_94 (by first | exact orI b (2 ^ u) | exact orI b 0) ?_
            refine r_istore_n (lv2 := [(0, _), (1, _), (2, _), (3, _)]) dX9_some_95 rfl (by decide) rfl rfl ?_
            refine r_aload_n dX9_some_96 rfl rfl ?_
            refine r_iconst dX9_some_97 ?_
            refine r_aload_n dX9_some_98 rfl rfl ?_
            refine r_getR (z := (gg 1)) dX9_some_99 fl_X9_214 (by decide) rfl rfl ?_
            rw [q1]
            refine r_iconst dX9_some_102 ?_
            refine r_isub dX9_some_103 ?_
            refine r_callV 68 [_, _] (s_X9_number0 (g := (va_up (va_up gg 9 3) 10 (gg 15))) (by rfl) b9) dX9_some_104 cs_X9_171 im_X9_number (by decide) rfl rfl (by omega) (by decide) (by decide) rfl rfl (Nat.le_of_ble_eq_true rfl) (fun _ _ _ q => q.elim) (fun v n2 h2 q => ?_)
            obtain ⟨rfl, rfl, hh⟩ := q
            obtain rfl := hh.symm
            refine ⟨rfl, ?_⟩
            dsimp only [Option.toList, List.cons_append, List.nil_append]
            refine r_pop dX9_some_107 rfl ?_
            refine r_aload_n dX9_some_108 rfl rfl ?_
            refine r_callV 68 [] (s_X9_good0 (g := (va_up (va_up gg 9 3) 10 (gg 15))) (by rfl) b9) dX9_some_109 cs_X9_161 im_X9_isGood (by decide) rfl rfl (by omega) (by decide) (by decide) rfl rfl (Nat.le_of_ble_eq_true rfl) (fun _ _ _ q => q.elim) (fun v n2 h2 q => ?_)
            obtain ⟨rfl, rfl, hh⟩ := q
            obtain rfl := hh.symm
            refine ⟨rfl, ?_⟩
            dsimp only [Option.toList, List.cons_append, List.nil_append]
            refine r_if_eq (tgt := 128) dX9_some_112 (by decide) ⟨by omega, by omega⟩ (fun g112 => ?_) (fun g112 => absurd g112 (by omega))
            refine r_iconst dX9_some_128 ?_
            refine r_istore_n (lv2 := [(0, _), (1, _), (2, _), (3, _)]) dX9_some_129 rfl (by decide) rfl rfl ?_
            refine r_iload_n dX9_some_130 rfl rfl ?_
            refine r_if_eq (tgt := 138) dX9_some_131 (by decide) ⟨by omega, by omega⟩ (fun g131 => ?_) (fun g131 => absurd g131 (by omega))
            refine r_goto (tgt := 14) dX9_some_138 (by decide) ?_
            skip
            refine r_iload_n dX9_some_14 rfl rfl ?_
            refine r_if_eq (tgt := 141) dX9_some_15 (by decide) ⟨by omega, by omega⟩ (fun g15 => ?_) (fun g15 => absurd g15 (by omega))
            refine r_lv (lv2 := [(0, _), (1, _)]) rfl ?_
            simp only [bx_uu]
            refine kf (va_up (va_up gg 9 3) 10 (gg 15)) ww _ 3 (tkS t le e) ?_ (by decide) rfl rs.2.2.2.2.1 (fun k h1 h2 => by rw [va_up_ne _ _ (by omega), va_up_ne _ _ (by omega)]; exact kq k h2)
            rw [← hR]
            unfold pOs pOt
            rw [if_pos hF, hu, Int.toNat_natCast, if_neg (by rw [and_0, hbit]; decide)]

def SmQ (t : Nat → Int) (le : Nat) (nd : Int) (e : Nat) (h : aH) (g NC : Nat → Int) (tp : Nat) : Option Value → Nat → aH → Prop := fun v n' h' => v = none ∧ n' = 97 ∧ ∃ (g2 : Nat → Int) (w2 : Int) (NC2 : Nat → Int), h' = va_up (va_up h 68 (RG g2 w2)) 87 (.inl (0, 1500, NC2)) ∧ ((∃ b e2, pMdi t le nd e = .inr (b, e2) ∧ RS t le e2 g2 w2 ∧ g2 9 = 0 ∧ g2 10 = g 10 ∧ g2 51 = (tp : Int) + 2 ∧ NC2 = va_up (va_up NC tp 2) (tp + 1) (b : Int) ∧ b < 2 ^ nd.toNat) ∨ (∃ f p, pMdi t le nd e = .inl (f, p) ∧ (1 ≤ f ∧ f ≤ 4) ∧ g2 9 = f ∧ g2 10 = ((p : Nat) : Int))) ∧ ∀ k, ¬ (9 ≤ k ∧ k ≤ 10) → ¬ (13 ≤ k ∧ k ≤ 18) → ¬ k = 51 → g2 k = g k
theorem sm_mk {h h' : aH} {g : Nat → Int} {w : Int} {NC : Nat → Int} (c68 : h' 68 = RG g w) (c87 : h' 87 = .inl (0, 1500, NC)) (fr : ∀ j, ¬ j = 68 → ¬ j = 87 → h' j = h j) : h' = va_up (va_up h 68 (RG g w)) 87 (.inl (0, 1500, NC)) := by
  funext j
  unfold va_up
  by_cases q1 : j = 87
  · rw [if_pos q1, q1, c87]
  rw [if_neg q1]
  by_cases q2 : j = 68
  · rw [if_pos q2, q2, c68]
  rw [if_neg q2]
  exact fr j q2 q1

theorem s_X9_some {h : aH} {g : Nat → Int} {w : Int} (c68 : h 68 = RG g w) {trr : Nat → Int} (c72 : h 72 = .inl (0, 700, trr)) {NC : Nat → Int} (c87 : h 87 = .inl (0, 1500, NC)) {t : Nat → Int} (ht : ∀ j, -128 ≤ t j ∧ t j ≤ 127) {le : Nat} (hle : le ≤ 700) (htt : ∀ j, j < le → trr j = t j % 256) {e : Nat} (rs : RS t le e g w) (h9 : g 9 = 0) {nd : Int} (e1 : g 1 = nd) (hnd : 0 ≤ nd ∧ nd ≤ 9) {tp : Nat} (e51 : g 51 = (tp : Int)) (htp : tp + 2 ≤ 1500)  : mSem yX9_some cX9_some 4 none 4 0 0 [.ref 68] 97 h (SmQ t le nd e h g NC tp) noX := by
  refine mSem_of (own := RX9) (name := "some") pn_X9 rfl rfl (Nat.le_of_ble_eq_true rfl) ?_
  refine r_aload_n dX9_some_0 rfl rfl ?_
  refine r_aload_n dX9_some_1 rfl rfl ?_
  refine r_bipush dX9_some_2 rfl ?_
  refine r_callV 68 [_] (s_X9_isSign (g := g) c68 c72 ht hle htt rs (by decide)) dX9_some_4 cs_X9_329 im_X9_isSign (by decide) c68 rfl (by decide) (by decide) (by decide) rfl rfl (Nat.le_of_ble_eq_true rfl) (fun _ _ _ q => q.elim) (fun v n2 h2 q => ?_)
  obtain ⟨rfl, rfl, hh⟩ := q
  obtain rfl := hh.symm
  refine ⟨rfl, ?_⟩
  dsimp only [Option.toList, List.cons_append, List.nil_append]
  refine r_callV 68 [_] (s_X9_need (g := g) (b := signAt t le e 40) c68 c72 ht hle htt rs h9) dX9_some_7 cs_X9_181 im_X9_need (by decide) c68 rfl (by decide) (by decide) (by decide) rfl rfl (Nat.le_of_ble_eq_true rfl) (fun _ _ _ q => q.elim) (fun v n2 h2 q => ?_)
  obtain ⟨rfl, rfl, hq⟩ := q
  rcases hq with ⟨hb, g3, w3, rfl, rs3, kp3⟩ | ⟨hb, rfl⟩
  · skip
    refine ⟨rfl, ?_⟩
    dsimp only [Option.toList, List.cons_append, List.nil_append]
    refine r_iconst dX9_some_10 ?_
    refine r_istore_n (lv2 := [(0, _), (1, _)]) dX9_some_11 rfl (by decide) rfl rfl ?_
    refine r_iconst dX9_some_12 ?_
    refine r_istore_n (lv2 := [(0, _), (1, _), (2, _)]) dX9_some_13 rfl (by decide) rfl rfl ?_
    have hp : pMdi t le nd e = pOs t le nd 9 0 (tkE t le e) := by unfold pMdi; rw [if_pos hb]
    refine l_X9_some c72 ht hle htt (g := g) h9 e1 hnd (by decide) (r := pOs t le nd 9 0 (tkE t le e)) (fun g5 w5 b5 e5 hr5 hb5 rs5 kp5 => ?_) (fun g5 w5 z5 f5 p5 hr5 hf5 nf5 np5 kb => ?_) 9 0 (tkE t le e) g3 w3 rfl (by decide) (Nat.two_pow_pos _) rs3 kp3
    · have hp5 := hp.trans hr5
      refine r_aload_n dX9_some_141 rfl rfl ?_
      refine r_aload_n dX9_some_142 rfl rfl ?_
      refine r_bipush dX9_some_143 rfl ?_
      refine r_callV 68 [_] (s_X9_isSign (g := g5) (by rfl) (by exact c72) ht hle htt rs5 (by decide)) dX9_some_145 cs_X9_329 im_X9_isSign (by decide) rfl rfl (by decide) (by decide) (by decide) rfl rfl (Nat.le_of_ble_eq_true rfl) (fun _ _ _ q => q.elim) (fun v n2 h2 q => ?_)
      obtain ⟨rfl, rfl, hh⟩ := q
      obtain rfl := hh.symm
      refine ⟨rfl, ?_⟩
      dsimp only [Option.toList, List.cons_append, List.nil_append]
      refine r_callV 68 [_] (s_X9_need (g := g5) (b := signAt t le e5 41) (by rfl) (by exact c72) ht hle htt rs5 ((kp5 9 (by decide)).trans h9)) dX9_some_148 cs_X9_181 im_X9_need (by decide) rfl rfl (by decide) (by decide) (by decide) rfl rfl (Nat.le_of_ble_eq_true rfl) (fun _ _ _ q => q.elim) (fun v n2 h2 q => ?_)
      obtain ⟨rfl, rfl, hq⟩ := q
      rcases hq with ⟨hb, g7, w7, rfl, rs7, kp7⟩ | ⟨hb, rfl⟩
      · skip
        refine ⟨rfl, ?_⟩
        dsimp only [Option.toList, List.cons_append, List.nil_append]
        have p51 : g7 51 = (tp : Int) := ((kp7 51 (by decide)).trans ((kp5 51 (by decide)).trans e51))
        refine r_aload_n dX9_some_151 rfl rfl ?_
        refine r_iconst dX9_some_152 ?_
        refine r_callV 68 [_] (s_X9_puts (g := g7) (tp := tp) (by rfl) (by exact c87) p51 (by omega)) dX9_some_153 cs_X9_332 im_X9_puts (by decide) rfl rfl (by decide) (by decide) (by decide) rfl rfl (Nat.le_of_ble_eq_true rfl) (fun _ _ _ q => q.elim) (fun v n2 h2 q => ?_)
        obtain ⟨rfl, rfl, hh⟩ := q
        obtain rfl := hh.symm
        refine ⟨rfl, ?_⟩
        dsimp only [Option.toList, List.cons_append, List.nil_append]
        refine r_aload_n dX9_some_156 rfl rfl ?_
        refine r_iload_n dX9_some_157 rfl rfl ?_
        refine r_callV 68 [_] (s_X9_puts (g := (va_up g7 51 ((tp : Int) + 1))) (tp := tp + 1) (by rfl) (by rfl) (by show (tp : Int) + 1 = ((tp + 1 : Nat) : Int); omega) (by omega)) dX9_some_158 cs_X9_332 im_X9_puts (by decide) rfl rfl (by decide) (by decide) (by decide) rfl rfl (Nat.le_of_ble_eq_true rfl) (fun _ _ _ q => q.elim) (fun v n2 h2 q => ?_)
        obtain ⟨rfl, rfl, hh⟩ := q
        obtain rfl := hh.symm
        refine ⟨rfl, ?_⟩
        dsimp only [Option.toList, List.cons_append, List.nil_append]
        refine r_vret dX9_some_161 ?_
        exact ⟨rfl, rfl, _, _, _, (sm_mk rfl rfl (fun j a b => by simp only [va_up, a, b, if_false])), Or.inl ⟨b5, tkE t le e5, by rw [hp5]; unfold pCl; rw [if_pos hb], RS_kp rs7 (fun k hk => by rw [va_up_ne _ _ (by omega), va_up_ne _ _ (by omega)]), (kp7 9 (by decide)).trans ((kp5 9 (by decide)).trans h9), (kp7 10 (by decide)).trans (kp5 10 (by decide)), by show ((tp + 1 : Nat) : Int) + 1 = _; omega, rfl, hb5⟩, fun k h1 h2 h3 => by rw [va_up_ne _ _ h3, va_up_ne _ _ h3]; exact (kp7 k h2).trans (kp5 k h2)⟩
      · skip
        refine ⟨rfl, ?_⟩
        dsimp only [Option.toList, List.cons_append, List.nil_append]
        have p51 : (va_up (va_up g5 9 1) 10 (tkS t le e5 : Int)) 51 = (tp : Int) := ((kp5 51 (by decide)).trans e51)
        refine r_aload_n dX9_some_151 rfl rfl ?_
        refine r_iconst dX9_some_152 ?_
        refine r_callV 68 [_] (s_X9_puts (g := (va_up (va_up g5 9 1) 10 (tkS t le e5 : Int))) (tp := tp) (by rfl) (by exact c87) p51 (by omega)) dX9_some_153 cs_X9_332 im_X9_puts (by decide) rfl rfl (by decide) (by decide) (by decide) rfl rfl (Nat.le_of_ble_eq_true rfl) (fun _ _ _ q => q.elim) (fun v n2 h2 q => ?_)
        obtain ⟨rfl, rfl, hh⟩ := q
        obtain rfl := hh.symm
        refine ⟨rfl, ?_⟩
        dsimp only [Option.toList, List.cons_append, List.nil_append]
        refine r_aload_n dX9_some_156 rfl rfl ?_
        refine r_iload_n dX9_some_157 rfl rfl ?_
        refine r_callV 68 [_] (s_X9_puts (g := (va_up (va_up (va_up g5 9 1) 10 (tkS t le e5 : Int)) 51 ((tp : Int) + 1))) (tp := tp + 1) (by rfl) (by rfl) (by show (tp : Int) + 1 = ((tp + 1 : Nat) : Int); omega) (by omega)) dX9_some_158 cs_X9_332 im_X9_puts (by decide) rfl rfl (by decide) (by decide) (by decide) rfl rfl (Nat.le_of_ble_eq_true rfl) (fun _ _ _ q => q.elim) (fun v n2 h2 q => ?_)
        obtain ⟨rfl, rfl, hh⟩ := q
        obtain rfl := hh.symm
        refine ⟨rfl, ?_⟩
        dsimp only [Option.toList, List.cons_append, List.nil_append]
        refine r_vret dX9_some_161 ?_
        exact ⟨rfl, rfl, _, _, _, (sm_mk rfl rfl (fun j a b => by simp only [va_up, a, b, if_false])), Or.inr ⟨1, tkS t le e5, by rw [hp5]; unfold pCl; rw [if_neg (by rw [hb]; decide)], by decide, rfl, rfl⟩, fun k h1 h2 h3 => by rw [va_up_ne _ _ h3, va_up_ne _ _ h3, va_up_ne _ _ (by omega), va_up_ne _ _ (by omega)]; exact kp5 k h2⟩
    · have hp5 := hp.trans hr5
      have b9 : 1 ≤ g5 9 ∧ g5 9 ≤ 9 := by omega
      refine r_aload_n dX9_some_141 rfl rfl ?_
      refine r_aload_n dX9_some_142 rfl rfl ?_
      refine r_bipush dX9_some_143 rfl ?_
      refine r_callV 68 [_] (s_X9_isSignA (g := g5) (by rfl)) dX9_some_145 cs_X9_329 im_X9_isSign (by decide) rfl rfl (by decide) (by decide) (by decide) rfl rfl (Nat.le_of_ble_eq_true rfl) (fun _ _ _ q => q.elim) (fun v n2 h2 q => ?_)
      obtain ⟨⟨zz, hzz, rfl⟩, rfl, hh⟩ := q
      obtain rfl := hh.symm
      refine ⟨rfl, ?_⟩
      dsimp only [Option.toList, List.cons_append, List.nil_append]
      refine r_callV 68 [_] (s_X9_need0 (g := g5) (by rfl) b9) dX9_some_148 cs_X9_181 im_X9_need (by decide) rfl rfl (by decide) (by decide) (by decide) rfl rfl (Nat.le_of_ble_eq_true rfl) (fun _ _ _ q => q.elim) (fun v n2 h2 q => ?_)
      obtain ⟨rfl, rfl, hh⟩ := q
      obtain rfl := hh.symm
      refine ⟨rfl, ?_⟩
      dsimp only [Option.toList, List.cons_append, List.nil_append]
      have p51 : g5 51 = (tp : Int) := (kb 51 (by decide) (by decide)).trans e51
      refine r_aload_n dX9_some_151 rfl rfl ?_
      refine r_iconst dX9_some_152 ?_
      refine r_callV 68 [_] (s_X9_puts (g := g5) (tp := tp) (by rfl) (by exact c87) p51 (by omega)) dX9_some_153 cs_X9_332 im_X9_puts (by decide) rfl rfl (by decide) (by decide) (by decide) rfl rfl (Nat.le_of_ble_eq_true rfl) (fun _ _ _ q => q.elim) (fun v n2 h2 q => ?_)
      obtain ⟨rfl, rfl, hh⟩ := q
      obtain rfl := hh.symm
      refine ⟨rfl, ?_⟩
      dsimp only [Option.toList, List.cons_append, List.nil_append]
      refine r_aload_n dX9_some_156 rfl rfl ?_
      refine r_iload_n dX9_some_157 rfl rfl ?_
      refine r_callV 68 [_] (s_X9_puts (g := (va_up g5 51 ((tp : Int) + 1))) (tp := tp + 1) (by rfl) (by rfl) (by show (tp : Int) + 1 = ((tp + 1 : Nat) : Int); omega) (by omega)) dX9_some_158 cs_X9_332 im_X9_puts (by decide) rfl rfl (by decide) (by decide) (by decide) rfl rfl (Nat.le_of_ble_eq_true rfl) (fun _ _ _ q => q.elim) (fun v n2 h2 q => ?_)
      obtain ⟨rfl, rfl, hh⟩ := q
      obtain rfl := hh.symm
      refine ⟨rfl, ?_⟩
      dsimp only [Option.toList, List.cons_append, List.nil_append]
      refine r_vret dX9_some_161 ?_
      exact ⟨rfl, rfl, _, _, _, (sm_mk rfl rfl (fun j a b => by simp only [va_up, a, b, if_false])), Or.inr ⟨f5, p5, hp5, by omega, nf5, np5⟩, fun k h1 h2 h3 => by rw [va_up_ne _ _ h3, va_up_ne _ _ h3]; exact kb k h1 h2⟩
  · have b9 : 1 ≤ (va_up (va_up g 9 1) 10 (tkS t le e : Int)) 9 ∧ (va_up (va_up g 9 1) 10 (tkS t le e : Int)) 9 ≤ 9 := ⟨by show (1 : Int) ≤ 1; decide, by show (1 : Int) ≤ 9; decide⟩
    refine ⟨rfl, ?_⟩
    dsimp only [Option.toList, List.cons_append, List.nil_append]
    refine r_iconst dX9_some_10 ?_
    refine r_istore_n (lv2 := [(0, _), (1, _)]) dX9_some_11 rfl (by decide) rfl rfl ?_
    refine r_iconst dX9_some_12 ?_
    refine r_istore_n (lv2 := [(0, _), (1, _), (2, _)]) dX9_some_13 rfl (by decide) rfl rfl ?_
    skip
    refine r_iload_n dX9_some_14 rfl rfl ?_
    refine r_if_eq (tgt := 141) dX9_some_15 (by decide) ⟨by omega, by omega⟩ (fun g15 => absurd g15 (by omega)) (fun g15 => ?_)
    refine r_aload_n dX9_some_18 rfl rfl ?_
    refine r_callV 68 [] (s_X9_good0 (g := (va_up (va_up g 9 1) 10 (tkS t le e : Int))) (by rfl) b9) dX9_some_19 cs_X9_161 im_X9_isGood (by decide) rfl rfl (by decide) (by decide) (by decide) rfl rfl (Nat.le_of_ble_eq_true rfl) (fun _ _ _ q => q.elim) (fun v n2 h2 q => ?_)
    obtain ⟨rfl, rfl, hh⟩ := q
    obtain rfl := hh.symm
    refine ⟨rfl, ?_⟩
    dsimp only [Option.toList, List.cons_append, List.nil_append]
    refine r_if_eq (tgt := 141) dX9_some_22 (by decide) ⟨by omega, by omega⟩ (fun g22 => ?_) (fun g22 => absurd g22 (by omega))
    refine r_aload_n dX9_some_141 rfl rfl ?_
    refine r_aload_n dX9_some_142 rfl rfl ?_
    refine r_bipush dX9_some_143 rfl ?_
    refine r_callV 68 [_] (s_X9_isSignA (g := (va_up (va_up g 9 1) 10 (tkS t le e : Int))) (by rfl)) dX9_some_145 cs_X9_329 im_X9_isSign (by decide) rfl rfl (by decide) (by decide) (by decide) rfl rfl (Nat.le_of_ble_eq_true rfl) (fun _ _ _ q => q.elim) (fun v n2 h2 q => ?_)
    obtain ⟨⟨zz, hzz, rfl⟩, rfl, hh⟩ := q
    obtain rfl := hh.symm
    refine ⟨rfl, ?_⟩
    dsimp only [Option.toList, List.cons_append, List.nil_append]
    refine r_callV 68 [_] (s_X9_need0 (g := (va_up (va_up g 9 1) 10 (tkS t le e : Int))) (by rfl) b9) dX9_some_148 cs_X9_181 im_X9_need (by decide) rfl rfl (by decide) (by decide) (by decide) rfl rfl (Nat.le_of_ble_eq_true rfl) (fun _ _ _ q => q.elim) (fun v n2 h2 q => ?_)
    obtain ⟨rfl, rfl, hh⟩ := q
    obtain rfl := hh.symm
    refine ⟨rfl, ?_⟩
    dsimp only [Option.toList, List.cons_append, List.nil_append]
    refine r_aload_n dX9_some_151 rfl rfl ?_
    refine r_iconst dX9_some_152 ?_
    refine r_callV 68 [_] (s_X9_puts (g := (va_up (va_up g 9 1) 10 (tkS t le e : Int))) (tp := tp) (by rfl) (by exact c87) (by exact e51) (by omega)) dX9_some_153 cs_X9_332 im_X9_puts (by decide) rfl rfl (by decide) (by decide) (by decide) rfl rfl (Nat.le_of_ble_eq_true rfl) (fun _ _ _ q => q.elim) (fun v n2 h2 q => ?_)
    obtain ⟨rfl, rfl, hh⟩ := q
    obtain rfl := hh.symm
    refine ⟨rfl, ?_⟩
    dsimp only [Option.toList, List.cons_append, List.nil_append]
    refine r_aload_n dX9_some_156 rfl rfl ?_
    refine r_iload_n dX9_some_157 rfl rfl ?_
    refine r_callV 68 [_] (s_X9_puts (g := (va_up (va_up (va_up g 9 1) 10 (tkS t le e : Int)) 51 ((tp : Int) + 1))) (tp := tp + 1) (by rfl) (by rfl) (by show (tp : Int) + 1 = ((tp + 1 : Nat) : Int); omega) (by omega)) dX9_some_158 cs_X9_332 im_X9_puts (by decide) rfl rfl (by decide) (by decide) (by decide) rfl rfl (Nat.le_of_ble_eq_true rfl) (fun _ _ _ q => q.elim) (fun v n2 h2 q => ?_)
    obtain ⟨rfl, rfl, hh⟩ := q
    obtain rfl := hh.symm
    refine ⟨rfl, ?_⟩
    dsimp only [Option.toList, List.cons_append, List.nil_append]
    refine r_vret dX9_some_161 ?_
    exact ⟨rfl, rfl, _, _, _, (sm_mk rfl rfl (fun j a b => by simp only [va_up, a, b, if_false])), Or.inr ⟨1, tkS t le e, by unfold pMdi; rw [if_neg (by rw [hb]; decide)], by decide, rfl, rfl⟩, fun k h1 h2 h3 => by rw [va_up_ne _ _ h3, va_up_ne _ _ h3, va_up_ne _ _ (by omega), va_up_ne _ _ (by omega)]⟩

